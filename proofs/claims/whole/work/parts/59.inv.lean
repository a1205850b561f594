/-! THE INVARIANT between two calls: the class and the reference hold one and the same ST -/
def ok (A : ST) : Prop := okS A ∧ jdo A ∧ jrl A ∧ (∀ c, c < x_nc A → x_yr A c < x_ny A ∧ x_th A c < x_nt A) ∧ (∀ m, x_pn A = some m → m < 2 ^ x_nc A) ∧ x_od A < 2 ^ x_nc A ∧ (∀ y, x_bu A y ≤ 100000000) ∧ ∀ i, x_nt A ≤ i → x_di A i = 0
def kq (A : ST) (q : QS) : Prop := rst q ∧ (q_bk q = true → q_ba q = bestP A (x_mu A) (x_bu A) 16384) ∧ (q_ck q = true → q_cl q = cla A)
def INV (A : ST) (q : QS) : Prop := ok A ∧ kq A q
theorem ok.H {A : ST} (k : ok A) : okH A := ⟨k.1.1, k.2.2.1, fun c hc => (k.2.2.2.1 c hc).1, k.1.2.2.2.1⟩
theorem ok.M {A : ST} (k : ok A) : okM A := ⟨k.1.1, k.2.1, k.1.2.2.2.1⟩
theorem ok.p {A : ST} (k : ok A) : pn14 A := fun m h => by
  have := k.2.2.2.2.1 m h
  have := p14 k.1.1.2.2.1
  omega
theorem ok.o {A : ST} (k : ok A) : x_od A < 16384 := by
  have := k.2.2.2.2.2.1
  have := p14 k.1.1.2.2.1
  omega
theorem kq_fg {q : QS} (r : rst q) (B : ST) : kq B (fgq q) := ⟨r, (fun (h : false = true) => (by cases h)), (fun (h : false = true) => (by cases h))⟩
theorem kq_al {A B : ST} {q q' : QS} (h : coA B = coA A) (k : kq A q) (r : rst q') (s : sq q q') : kq B q' := by
  have e1 : x_mu B = x_mu A := by rw [← co_mu B, ← co_mu A, h]
  have e2 : x_bu B = x_bu A := by rw [← co_bu B, ← co_bu A, h]
  refine ⟨r, fun hb => ?_, fun hc => ?_⟩
  · rw [s.1] at hb
    rw [s.2.1, e1, e2, bestP_al h]
    exact k.2.1 hb
  · rw [s.2.2.1] at hc
    rw [s.2.2.2, cla_al h]
    exact k.2.2 hc
theorem jex_al {A B : ST} (h1 : x_ja B = x_ja A) (h2 : x_jb B = x_jb A) (u v : Nat) : ∀ n, jex B u v n = jex A u v n
  | 0 => rfl
  | n + 1 => by simp only [jex, jex_al h1 h2 u v n, h1, h2]
theorem jpr_al {A B : ST} {k u v : Nat} (h1 : x_ja B k = x_ja A k) (h2 : x_jb B k = x_jb A k) : jpr B k u v ↔ jpr A k u v := by
  unfold jpr
  rw [h1, h2]
theorem jrl_al {A B : ST} (hc : x_nc A ≤ x_nc B) (hy : ∀ c, c < x_nc A → x_yr B c = x_yr A c) (hj : x_nj B = x_nj A) (ha : x_ja B = x_ja A) (hb : x_jb B = x_jb A) (hs : x_js B = x_js A) (ht : x_jt B = x_jt A) (hv : x_sv B = x_sv A) (j : jrl A) : jrl B := by
  refine ⟨fun k hk => ?_, fun u v => ?_, fun u v => ?_⟩
  · rw [hj] at hk
    obtain ⟨h1, h2, h3, h4⟩ := j.1 k hk
    unfold jin
    rw [ha, hb, hy _ h1, hy _ h2]
    exact ⟨by omega, by omega, h3, h4⟩
  · rw [ht, hj, jex_al ha hb]
    exact j.2.1 u v
  · rw [ht, hv, hj, j.2.2 u v]
    refine sm_congr (fun k _ => ?_)
    rw [hs]
    exact ite_iff (jpr_al (by rw [ha]) (by rw [hb])).symm _ _
theorem ok_pn {A : ST} (k : ok A) {o : Option Nat} (h : ∀ m, o = some m → m < 2 ^ x_nc A) : ok (x_s_pn A o) := ⟨k.1, k.2.1, jrl_al (A := A) (Nat.le_refl _) (fun _ _ => rfl) rfl rfl rfl rfl rfl rfl k.2.2.1, k.2.2.2.1, h, k.2.2.2.2.2⟩
theorem ok_pr {A : ST} (k : ok A) (o : Bool) : ok (x_s_pr A o) := ⟨k.1, k.2.1, jrl_al (A := A) (Nat.le_refl _) (fun _ _ => rfl) rfl rfl rfl rfl rfl rfl k.2.2.1, k.2.2.2⟩
theorem ok_od {A : ST} (k : ok A) {o : Nat} (h : o < 2 ^ x_nc A) : ok (x_s_od A o) := ⟨k.1, k.2.1, jrl_al (A := A) (Nat.le_refl _) (fun _ _ => rfl) rfl rfl rfl rfl rfl rfl k.2.2.1, k.2.2.2.1, k.2.2.2.2.1, h, k.2.2.2.2.2.2⟩
theorem ok_fg {A : ST} (k : ok A) : ok (fgA A) := ok_pr (ok_pn k (fun m h => by cases h)) false
theorem lt_p1 {a n : Nat} (h : a < 2 ^ n) : a < 2 ^ (n + 1) := Nat.lt_trans h (Nat.pow_lt_pow_right (by decide) (by omega))
theorem ok_th {A : ST} (k : ok A) {p : Nat} (hp : p ≤ 999) (hn : x_nt A < 12) : ok (thA A p) := by
  obtain ⟨⟨b1, b2, b3, b4, b5, b6, b7, b8, b9, b10, b11, b12, b13, b14⟩, s2, s3, s4, s5⟩ := k.1
  refine ⟨⟨⟨b1, (show x_nt A + 1 ≤ 12 by omega), b3, b4, b5, b6, b7, b8, b9, b10, b11, fun i => ?_, b13, b14⟩, s2, s3, s4, s5⟩, k.2.1, jrl_al (A := A) (Nat.le_refl _) (fun _ _ => rfl) rfl rfl rfl rfl rfl rfl k.2.2.1, fun c hc => ?_, k.2.2.2.2.1, k.2.2.2.2.2.1, k.2.2.2.2.2.2.1, fun i hi => ?_⟩
  · show va_up (x_pl A) (x_nt A) p i ≤ 999
    unfold va_up
    split
    · exact hp
    · exact b12 i
  · have := k.2.2.2.1 c hc
    exact ⟨this.1, (show x_th A c < x_nt A + 1 by omega)⟩
  · exact k.2.2.2.2.2.2.2 i (by have : x_nt A + 1 ≤ i := hi; omega)
theorem ok_ch {A : ST} (k : ok A) {u y : Nat} {v w : Int} (hu : u < x_nt A) (hy : y < x_ny A) (hn : x_nc A < 14) (hv : 0 ≤ v ∧ v ≤ 1000000) (hw : 0 ≤ w ∧ w ≤ 1000000) : ok (chA A u y v w) := by
  obtain ⟨⟨b1, b2, b3, b4, b5, b6, b7, b8, b9, b10, b11, b12, b13, b14⟩, s2, s3, s4, s5⟩ := k.1
  have j' : jrl (chA A u y v w) := jrl_al (A := A) (show x_nc A ≤ x_nc A + 1 by omega) (fun c hc => by
    show va_up (x_yr A) (x_nc A) y c = x_yr A c
    unfold va_up
    rw [if_neg (by omega)]) rfl rfl rfl rfl rfl rfl k.2.2.1
  refine ⟨⟨⟨b1, b2, (show x_nc A + 1 ≤ 14 by omega), fun c => ?_, fun c => ?_, b6, b7, fun c => ?_, fun c => ?_, b10, b11, b12, b13, b14⟩, jrl_jy j', s3, s4, lt_p1 s5⟩, k.2.1, j', fun c hc => ?_, fun m hm => lt_p1 (k.2.2.2.2.1 m hm), lt_p1 k.2.2.2.2.2.1, k.2.2.2.2.2.2⟩
  · show va_up (x_th A) (x_nc A) u c < 12
    have := b4 c
    unfold va_up
    split <;> omega
  · show va_up (x_yr A) (x_nc A) y c < 6
    have := b5 c
    unfold va_up
    split <;> omega
  · show 0 ≤ va_up (x_co A) (x_nc A) v c ∧ va_up (x_co A) (x_nc A) v c ≤ 1000000
    have := b8 c
    unfold va_up
    split <;> omega
  · show 0 ≤ va_up (x_wo A) (x_nc A) w c ∧ va_up (x_wo A) (x_nc A) w c ≤ 1000000
    have := b9 c
    unfold va_up
    split <;> omega
  · show va_up (x_yr A) (x_nc A) y c < x_ny A ∧ va_up (x_th A) (x_nc A) u c < x_nt A
    have h2 : c < x_nc A + 1 := hc
    unfold va_up
    by_cases e : c = x_nc A
    · rw [if_pos e, if_pos e]; exact ⟨hy, hu⟩
    · rw [if_neg e, if_neg e]; exact k.2.2.2.1 c (by omega)
theorem ok_mu {A : ST} (k : ok A) {c : Nat} (hc : c < x_nc A) : ok (muA A c) := by
  obtain ⟨⟨b1, b2, b3, b4, b5, b6, b7, b8, b9, b10, b11, b12, b13, b14⟩, s2, s3, s4, s5⟩ := k.1
  have h : x_mu A ||| 2 ^ c < 2 ^ x_nc A := or_lt s5 (Nat.pow_lt_pow_right (by decide) hc)
  have h14 := p14 b3
  exact ⟨⟨⟨b1, b2, b3, b4, b5, b6, b7, b8, b9, b10, b11, b12, (show x_mu A ||| 2 ^ c < 16384 by omega), b14⟩, s2, s3, s4, h⟩, k.2.1, jrl_al (A := A) (Nat.le_refl _) (fun _ _ => rfl) rfl rfl rfl rfl rfl rfl k.2.2.1, k.2.2.2⟩
theorem ok_bu {A : ST} (k : ok A) {y : Nat} {v : Int} (hy : y < x_ny A) (hv : 0 ≤ v ∧ v ≤ 100000000) : ok (buA A y v) := by
  obtain ⟨⟨b1, b2, b3, b4, b5, b6, b7, b8, b9, b10, b11, b12, b13, b14⟩, s2, s3, s4, s5⟩ := k.1
  have hb := k.2.2.2.2.2.2.1
  refine ⟨⟨⟨b1, b2, b3, b4, b5, b6, b7, b8, b9, b10, fun i => ?_, b12, b13, b14⟩, s2, fun i hi => ?_, s4, s5⟩, k.2.1, jrl_al (A := A) (Nat.le_refl _) (fun _ _ => rfl) rfl rfl rfl rfl rfl rfl k.2.2.1, k.2.2.2.1, k.2.2.2.2.1, k.2.2.2.2.2.1, fun i => ?_, k.2.2.2.2.2.2.2⟩
  · show 0 ≤ va_up (x_bu A) y v i ∧ va_up (x_bu A) y v i ≤ 200000000
    have := b11 i
    unfold va_up
    split <;> omega
  · show va_up (x_bu A) y v i = 0
    unfold va_up
    rw [if_neg (by omega)]
    exact s3 i hi
  · show va_up (x_bu A) y v i ≤ 100000000
    have := hb i
    unfold va_up
    split <;> omega
theorem ok_di {A : ST} (k : ok A) {u d : Nat} (hu : u < x_nt A) (hd : d < 4) : ok (diA A u d) := by
  obtain ⟨⟨b1, b2, b3, b4, b5, b6, b7, b8, b9, b10, b11, b12, b13, b14⟩, s2, s3, s4, s5⟩ := k.1
  refine ⟨⟨⟨b1, b2, b3, b4, b5, fun i => ?_, b7, b8, b9, b10, b11, b12, b13, b14⟩, s2, s3, s4, s5⟩, k.2.1, jrl_al (A := A) (Nat.le_refl _) (fun _ _ => rfl) rfl rfl rfl rfl rfl rfl k.2.2.1, k.2.2.2.1, k.2.2.2.2.1, k.2.2.2.2.2.1, k.2.2.2.2.2.2.1, fun i hi => ?_⟩
  · show va_up (x_di A) u d i < 4
    have := b6 i
    unfold va_up
    split <;> omega
  · show va_up (x_di A) u d i = 0
    have hi2 : x_nt A ≤ i := hi
    unfold va_up
    rw [if_neg (by omega)]
    exact k.2.2.2.2.2.2.2 i hi
theorem ok_fa {A : ST} (k : ok A) {v : Int} (hv : v ≤ 10000000) : ok (faA A v) := by
  obtain ⟨b, s2, s3, s4, s5⟩ := k.1
  refine ⟨⟨b, s2, s3, ?_, s5⟩, k.2.1, jrl_al (A := A) (Nat.le_refl _) (fun _ _ => rfl) rfl rfl rfl rfl rfl rfl k.2.2.1, k.2.2.2⟩
  show -1 ≤ (if v < 0 then -1 else v) ∧ (if v < 0 then -1 else v) ≤ 10000000
  split <;> omega
/-- a join, by pairs and by savings -/
def jnP (A : ST) (u v : Nat) (s : Int) : ST := x_s_js (x_s_jb (x_s_ja A (va_up (x_ja A) (x_nj A) u)) (va_up (x_jb A) (x_nj A) v)) (va_up (x_js A) (x_nj A) s)
theorem jex_sy (A : ST) (u v : Nat) : ∀ n, jex A u v n = jex A v u n
  | 0 => rfl
  | n + 1 => by
    simp only [jex, jex_sy A u v n]
    rw [Bool.or_comm (decide (x_ja A n = u) && decide (x_jb A n = v))]
theorem ok_jnB {A B : ST} (k : ok A) {u v : Nat} {s : Int} (hu : u < x_nc A) (hv : v < x_nc A) (hs : 0 ≤ s ∧ s ≤ 1000000) (hth : ¬ x_th A u = x_th A v) (hyr : x_yr A u = x_yr A v) (hj : jex A u v (x_nj A) = false) (hn : x_nj A < 20) (e_ny : x_ny B = x_ny A) (e_nt : x_nt B = x_nt A) (e_nc : x_nc B = x_nc A) (e_mu : x_mu B = x_mu A) (e_fa : x_fa B = x_fa A) (e_bu : x_bu B = x_bu A) (e_pl : x_pl B = x_pl A) (e_di : x_di B = x_di A) (e_th : x_th B = x_th A) (e_yr : x_yr B = x_yr A) (e_co : x_co B = x_co A) (e_wo : x_wo B = x_wo A) (e_pn : x_pn B = x_pn A) (e_od : x_od B = x_od A) (e_nj : x_nj B = x_nj A + 1) (e_ja : x_ja B = va_up (x_ja A) (x_nj A) u) (e_jb : x_jb B = va_up (x_jb A) (x_nj A) v) (e_js : x_js B = va_up (x_js A) (x_nj A) s) (e_jt : x_jt B = va_up (va_up (x_jt A) u (x_jt A u ||| 2 ^ v)) v (va_up (x_jt A) u (x_jt A u ||| 2 ^ v) v ||| 2 ^ u)) (e_sv : x_sv B = up2 (up2 (x_sv A) u v s) v u s) : ok B := by
  obtain ⟨⟨b1, b2, b3, b4, b5, b6, b7, b8, b9, b10, b11, b12, b13, b14⟩, s2, s3, s4, s5⟩ := k.1
  have huv : u ≠ v := fun e => hth (by rw [e])
  have j := k.2.2.1
  have jt' : ∀ a, x_jt B a = if a = v then x_jt A v ||| 2 ^ u else if a = u then x_jt A u ||| 2 ^ v else x_jt A a := by
    intro a
    rw [e_jt]
    unfold va_up
    rw [if_neg (show ¬ v = u from fun e => huv e.symm)]
  have sv' : ∀ a c, x_sv B a c = if (a = v ∧ c = u) ∨ (a = u ∧ c = v) then s else x_sv A a c := by
    intro a c
    rw [e_sv]
    unfold up2 va_up
    by_cases h1 : a = v
    · rw [if_pos h1]
      by_cases h2 : c = u
      · rw [if_pos h2, if_pos (Or.inl ⟨h1, h2⟩)]
      · rw [if_neg h2, if_neg (show ¬ v = u from fun e => huv e.symm), if_neg, h1]
        rintro (h | h)
        · exact h2 h.2
        · exact huv (h.1.symm.trans h1)
    · rw [if_neg h1]
      by_cases h3 : a = u
      · rw [if_pos h3]
        by_cases h4 : c = v
        · rw [if_pos h4, if_pos (Or.inr ⟨h3, h4⟩)]
        · rw [if_neg h4, if_neg, h3]
          rintro (h | h)
          · exact h1 h.1
          · exact h4 h.2
      · rw [if_neg h3, if_neg]
        rintro (h | h)
        · exact h1 h.1
        · exact h3 h.1
  have bit' : ∀ a c, (x_jt B a).testBit c = ((x_jt A a).testBit c || decide ((a = v ∧ c = u) ∨ (a = u ∧ c = v))) := by
    intro a c
    rw [jt']
    by_cases h1 : a = v
    · subst h1
      rw [if_pos rfl, tb_or]
      congr 1
      refine decide_eq_decide.mpr ⟨fun e => Or.inl ⟨rfl, e.symm⟩, ?_⟩
      rintro (⟨_, e⟩ | ⟨e, _⟩)
      · exact e.symm
      · exact absurd e.symm huv
    · rw [if_neg h1]
      by_cases h2 : a = u
      · subst h2
        rw [if_pos rfl, tb_or]
        congr 1
        refine decide_eq_decide.mpr ⟨fun e => Or.inr ⟨rfl, e.symm⟩, ?_⟩
        rintro (⟨e, _⟩ | ⟨_, e⟩)
        · exact absurd e huv
        · exact e.symm
      · rw [if_neg h2, decide_eq_false, Bool.or_false]
        rintro (⟨e, _⟩ | ⟨e, _⟩)
        · exact h1 e
        · exact h2 e
  have jex' : ∀ a c n, n ≤ x_nj A → jex B a c n = jex A a c n := by
    intro a c n
    induction n with
    | zero => intro _; rfl
    | succ n ih =>
      intro hle
      simp only [jex, ih (by omega)]
      have e1 : x_ja B n = x_ja A n := by
        rw [e_ja]
        unfold va_up
        rw [if_neg (by omega)]
      have e2 : x_jb B n = x_jb A n := by
        rw [e_jb]
        unfold va_up
        rw [if_neg (by omega)]
      rw [e1, e2]
  have ja1 : x_ja B (x_nj A) = u := by
    rw [e_ja]
    unfold va_up
    rw [if_pos rfl]
  have jb1 : x_jb B (x_nj A) = v := by
    rw [e_jb]
    unfold va_up
    rw [if_pos rfl]
  have js1 : x_js B (x_nj A) = s := by
    rw [e_js]
    unfold va_up
    rw [if_pos rfl]
  have j' : jrl B := by
    refine ⟨fun i hi => ?_, fun a c => ?_, fun a c => ?_⟩
    · have hi2 : i < x_nj A + 1 := by rw [e_nj] at hi; exact hi
      by_cases e : i = x_nj A
      · subst e
        unfold jin
        rw [ja1, jb1, e_nc, e_yr]
        exact ⟨hu, hv, huv, hyr⟩
      · have h := j.1 i (by omega)
        have e1 : x_ja B i = x_ja A i := by
          rw [e_ja]
          unfold va_up
          rw [if_neg e]
        have e2 : x_jb B i = x_jb A i := by
          rw [e_jb]
          unfold va_up
          rw [if_neg e]
        unfold jin
        rw [e1, e2, e_nc, e_yr]
        exact h
    · rw [bit', j.2.1]
      rw [e_nj]
      simp only [jex, jex' a c _ (Nat.le_refl _), ja1, jb1]
      congr 1
      rw [Bool.eq_iff_iff]
      simp only [Bool.or_eq_true, Bool.and_eq_true, decide_eq_true_eq]
      constructor
      · rintro (⟨e1, e2⟩ | ⟨e1, e2⟩)
        · exact Or.inr ⟨e2.symm, e1.symm⟩
        · exact Or.inl ⟨e1.symm, e2.symm⟩
      · rintro (⟨e1, e2⟩ | ⟨e1, e2⟩)
        · exact Or.inr ⟨e1.symm, e2.symm⟩
        · exact Or.inl ⟨e2.symm, e1.symm⟩
    · rw [e_nj]
      simp only [sm, ja1, jb1, js1]
      have e3 : sm (x_nj A) (fun k => if jpr B k a c then x_js B k else 0) = sm (x_nj A) (fun k => if jpr A k a c then x_js A k else 0) := by
        refine sm_congr (fun i hi => ?_)
        have e1 : x_ja B i = x_ja A i := by
          rw [e_ja]
          unfold va_up
          rw [if_neg (by omega)]
        have e2 : x_jb B i = x_jb A i := by
          rw [e_jb]
          unfold va_up
          rw [if_neg (by omega)]
        have e4 : x_js B i = x_js A i := by
          rw [e_js]
          unfold va_up
          rw [if_neg (by omega)]
        rw [e4]
        exact ite_iff (jpr_al e1 e2) _ _
      rw [e3, ← j.2.2 a c, bit', sv']
      by_cases hp : (a = v ∧ c = u) ∨ (a = u ∧ c = v)
      · have hb : (x_jt A a).testBit c = false := by
          rw [j.2.1]
          rcases hp with ⟨e1, e2⟩ | ⟨e1, e2⟩
          · rw [e1, e2, jex_sy]; exact hj
          · rw [e1, e2]; exact hj
        rw [hb, decide_eq_true hp, if_pos (by rfl), if_pos hp, if_neg (by decide), if_pos]
        · omega
        · rcases hp with ⟨e1, e2⟩ | ⟨e1, e2⟩
          · exact Or.inr ⟨ja1.trans e2.symm, jb1.trans e1.symm⟩
          · exact Or.inl ⟨ja1.trans e1.symm, jb1.trans e2.symm⟩
      · rw [decide_eq_false hp, Bool.or_false, if_neg hp, if_neg (c := jpr B (x_nj A) a c)]
        · omega
        · rintro (⟨e1, e2⟩ | ⟨e1, e2⟩)
          · exact hp (Or.inr ⟨e1.symm.trans ja1, e2.symm.trans jb1⟩)
          · exact hp (Or.inl ⟨e2.symm.trans jb1, e1.symm.trans ja1⟩)
  refine ⟨⟨⟨?_, ?_, ?_, ?_, ?_, ?_, fun a => ?_, ?_, ?_, fun a c => ?_, ?_, ?_, ?_, ?_⟩, jrl_jy j', ?_, ?_, ?_⟩, ?_, j', ?_, ?_, ?_, ?_, ?_⟩
  · rw [e_ny]; exact b1
  · rw [e_nt]; exact b2
  · rw [e_nc]; exact b3
  · rw [e_th]; exact b4
  · rw [e_yr]; exact b5
  · rw [e_di]; exact b6
  · rw [jt']
    split
    · exact or14 (b7 v) (by omega)
    · split
      · exact or14 (b7 u) (by omega)
      · exact b7 a
  · rw [e_co]; exact b8
  · rw [e_wo]; exact b9
  · rw [sv']
    have := b10 a c
    split <;> omega
  · rw [e_bu]; exact b11
  · rw [e_pl]; exact b12
  · rw [e_mu]; exact b13
  · rw [e_ny]; exact b14
  · unfold bu0; rw [e_bu]; exact s3
  · rw [e_fa]; exact s4
  · rw [e_mu, e_nc]; exact s5
  · refine ⟨by rw [e_nj]; omega, fun i => ?_, fun i => ?_, fun i => ?_⟩
    · rw [e_ja]
      have := k.2.1.2.1 i
      unfold va_up
      split <;> omega
    · rw [e_jb]
      have := k.2.1.2.2.1 i
      unfold va_up
      split <;> omega
    · rw [e_js]
      have := k.2.1.2.2.2 i
      unfold va_up
      split <;> omega
  · rw [e_nc, e_yr, e_ny, e_th, e_nt]; exact k.2.2.2.1
  · rw [e_pn, e_nc]; exact k.2.2.2.2.1
  · rw [e_od, e_nc]; exact k.2.2.2.2.2.1
  · rw [e_bu]; exact k.2.2.2.2.2.2.1
  · rw [e_nt, e_di]; exact k.2.2.2.2.2.2.2
theorem ok_jn {A : ST} (k : ok A) {u v : Nat} {s : Int} (hu : u < x_nc A) (hv : v < x_nc A) (hs : 0 ≤ s ∧ s ≤ 1000000) (hth : ¬ x_th A u = x_th A v) (hyr : x_yr A u = x_yr A v) (hj : jex A u v (x_nj A) = false) (hn : x_nj A < 20) : ok (ajn (jnP A u v s) u v s) :=
  ok_jnB k hu hv hs hth hyr hj hn (by simp only [ajn, jnP, xg_ny_nj, xg_ny_sv, xg_ny_jt, xg_ny_js, xg_ny_jb, xg_ny_ja, xg_nj_js, xg_nj_jb, xg_nj_ja, xg_nj_jt, xg_nj_sv]) (by simp only [ajn, jnP, xg_nt_nj, xg_nt_sv, xg_nt_jt, xg_nt_js, xg_nt_jb, xg_nt_ja, xg_nj_js, xg_nj_jb, xg_nj_ja, xg_nj_jt, xg_nj_sv]) (by simp only [ajn, jnP, xg_nc_nj, xg_nc_sv, xg_nc_jt, xg_nc_js, xg_nc_jb, xg_nc_ja, xg_nj_js, xg_nj_jb, xg_nj_ja, xg_nj_jt, xg_nj_sv]) (by simp only [ajn, jnP, xg_mu_nj, xg_mu_sv, xg_mu_jt, xg_mu_js, xg_mu_jb, xg_mu_ja, xg_nj_js, xg_nj_jb, xg_nj_ja, xg_nj_jt, xg_nj_sv]) (by simp only [ajn, jnP, xg_fa_nj, xg_fa_sv, xg_fa_jt, xg_fa_js, xg_fa_jb, xg_fa_ja, xg_nj_js, xg_nj_jb, xg_nj_ja, xg_nj_jt, xg_nj_sv]) (by simp only [ajn, jnP, xg_bu_nj, xg_bu_sv, xg_bu_jt, xg_bu_js, xg_bu_jb, xg_bu_ja, xg_nj_js, xg_nj_jb, xg_nj_ja, xg_nj_jt, xg_nj_sv]) (by simp only [ajn, jnP, xg_pl_nj, xg_pl_sv, xg_pl_jt, xg_pl_js, xg_pl_jb, xg_pl_ja, xg_nj_js, xg_nj_jb, xg_nj_ja, xg_nj_jt, xg_nj_sv]) (by simp only [ajn, jnP, xg_di_nj, xg_di_sv, xg_di_jt, xg_di_js, xg_di_jb, xg_di_ja, xg_nj_js, xg_nj_jb, xg_nj_ja, xg_nj_jt, xg_nj_sv]) (by simp only [ajn, jnP, xg_th_nj, xg_th_sv, xg_th_jt, xg_th_js, xg_th_jb, xg_th_ja, xg_nj_js, xg_nj_jb, xg_nj_ja, xg_nj_jt, xg_nj_sv]) (by simp only [ajn, jnP, xg_yr_nj, xg_yr_sv, xg_yr_jt, xg_yr_js, xg_yr_jb, xg_yr_ja, xg_nj_js, xg_nj_jb, xg_nj_ja, xg_nj_jt, xg_nj_sv]) (by simp only [ajn, jnP, xg_co_nj, xg_co_sv, xg_co_jt, xg_co_js, xg_co_jb, xg_co_ja, xg_nj_js, xg_nj_jb, xg_nj_ja, xg_nj_jt, xg_nj_sv]) (by simp only [ajn, jnP, xg_wo_nj, xg_wo_sv, xg_wo_jt, xg_wo_js, xg_wo_jb, xg_wo_ja, xg_nj_js, xg_nj_jb, xg_nj_ja, xg_nj_jt, xg_nj_sv]) (by simp only [ajn, jnP, xg_pn_nj, xg_pn_sv, xg_pn_jt, xg_pn_js, xg_pn_jb, xg_pn_ja, xg_nj_js, xg_nj_jb, xg_nj_ja, xg_nj_jt, xg_nj_sv]) (by simp only [ajn, jnP, xg_od_nj, xg_od_sv, xg_od_jt, xg_od_js, xg_od_jb, xg_od_ja, xg_nj_js, xg_nj_jb, xg_nj_ja, xg_nj_jt, xg_nj_sv])
    (by simp only [ajn, xg_nj_nj]; simp only [jnP, xg_nj_js, xg_nj_jb, xg_nj_ja]) (by simp only [ajn, jnP, xg_ja_nj, xg_ja_sv, xg_ja_jt, xg_ja_js, xg_ja_jb, xg_ja_ja]) (by simp only [ajn, jnP, xg_jb_nj, xg_jb_sv, xg_jb_jt, xg_jb_js, xg_jb_jb, xg_nj_ja, xg_jb_ja]) (by simp only [ajn, jnP, xg_js_nj, xg_js_sv, xg_js_jt, xg_js_js, xg_nj_jb, xg_nj_ja, xg_js_jb, xg_js_ja]) (by simp only [ajn, jnP, xg_jt_nj, xg_jt_sv, xg_jt_jt, xg_jt_js, xg_jt_jb, xg_jt_ja]) (by simp only [ajn, jnP, xg_sv_nj, xg_sv_sv, xg_sv_jt, xg_sv_js, xg_sv_jb, xg_sv_ja])
