/-! PURE 3: joins as pairs; what a set spends by pairs is what it spends by savings -/
theorem sm_add (n : Nat) (f g : Nat → Int) : sm n (fun i => f i + g i) = sm n f + sm n g := by
  induction n with
  | zero => rfl
  | succ n ih => simp only [sm, ih]; omega
theorem sm_sub (n : Nat) (f g : Nat → Int) : sm n (fun i => f i - g i) = sm n f - sm n g := by
  induction n with
  | zero => rfl
  | succ n ih => simp only [sm, ih]; omega
theorem sm_swap (n k : Nat) (f : Nat → Nat → Int) : sm n (fun i => sm k (fun j => f i j)) = sm k (fun j => sm n (fun i => f i j)) := by
  induction n with
  | zero => simp only [sm]; exact (sm_0 k).symm
  | succ n ih =>
    simp only [sm]
    rw [ih, ← sm_add]
theorem sm_mulr (n : Nat) (f : Nat → Int) (p : Int) : sm n (fun i => f i * p) = sm n f * p := by
  induction n with
  | zero => simp [sm]
  | succ n ih => simp only [sm, ih, Int.add_mul]
theorem sm_ind (n a : Nat) (x : Int) : sm n (fun o => if o = a then x else 0) = if a < n then x else 0 := by
  induction n with
  | zero => simp [sm]
  | succ n ih =>
    simp only [sm, ih]
    by_cases h : n = a
    · subst h; simp
    · rw [if_neg h]
      by_cases h2 : a < n
      · rw [if_pos h2, if_pos (by omega)]; omega
      · rw [if_neg h2, if_neg (by omega)]; omega
theorem ite_iff {p q : Prop} [Decidable p] [Decidable q] (h : p ↔ q) (x y : Int) : (if p then x else y) = if q then x else y := by
  by_cases hp : p
  · rw [if_pos hp, if_pos (h.mp hp)]
  · rw [if_neg hp, if_neg (fun z => hp (h.mpr z))]
/-- the k-th join is of u and v -/
abbrev jpr (A : ST) (k u v : Nat) : Prop := (x_ja A k = u ∧ x_jb A k = v) ∨ (x_ja A k = v ∧ x_jb A k = u)
def jin (A : ST) (k : Nat) : Prop := x_ja A k < x_nc A ∧ x_jb A k < x_nc A ∧ x_ja A k ≠ x_jb A k ∧ x_yr A (x_ja A k) = x_yr A (x_jb A k)
/-- the joins by pairs and by savings are the same -/
def jrl (A : ST) : Prop := (∀ k, k < x_nj A → jin A k) ∧ (∀ u v, (x_jt A u).testBit v = jex A u v (x_nj A)) ∧ ∀ u v, (if (x_jt A u).testBit v = true then x_sv A u v else 0) = sm (x_nj A) (fun k => if jpr A k u v then x_js A k else 0)
theorem jex_ex {A : ST} {u v : Nat} : ∀ {n : Nat}, jex A u v n = true → ∃ k, k < n ∧ jpr A k u v
  | 0, h => by simp [jex] at h
  | n + 1, h => by
    simp only [jex, Bool.or_eq_true, Bool.and_eq_true, decide_eq_true_eq] at h
    rcases h with h | h
    · obtain ⟨k, h1, h2⟩ := jex_ex h
      exact ⟨k, by omega, h2⟩
    · exact ⟨n, by omega, h⟩
theorem jt_in {A : ST} (j : jrl A) {u v : Nat} (h : (x_jt A u).testBit v = true) : u < x_nc A ∧ v < x_nc A ∧ u ≠ v ∧ x_yr A v = x_yr A u := by
  rw [j.2.1] at h
  obtain ⟨k, h1, h2⟩ := jex_ex h
  obtain ⟨h3, h4, h5, h6⟩ := j.1 k h1
  rcases h2 with ⟨e1, e2⟩ | ⟨e1, e2⟩
  · rw [e1, e2] at h5 h6; rw [e1] at h3; rw [e2] at h4
    exact ⟨h3, h4, h5, h6.symm⟩
  · rw [e1, e2] at h5 h6; rw [e1] at h3; rw [e2] at h4
    exact ⟨h4, h3, h5.symm, h6⟩
theorem jrl_jy {A : ST} (j : jrl A) : jy A := fun c o h => ⟨(jt_in j h).2.2.2, (jt_in j h).2.2.1.symm⟩
theorem sw_eq {A : ST} (j : jrl A) (c s : Nat) : sw A c s = sm (x_nj A) (fun k => if (x_ja A k = c ∧ s.testBit (x_jb A k) = true) ∨ (x_jb A k = c ∧ s.testBit (x_ja A k) = true) then x_js A k else 0) := by
  unfold sw
  have e1 : sm (x_nc A) (swf A c s) = sm (x_nc A) (fun o => sm (x_nj A) (fun k => if s.testBit o = true ∧ jpr A k c o then x_js A k else 0)) := by
    refine sm_congr (fun o _ => ?_)
    unfold swf
    rw [Nat.testBit_and]
    by_cases hs : s.testBit o = true
    · rw [hs, Bool.and_true, j.2.2 c o]
      refine sm_congr (fun k _ => ?_)
      simp
    · have hs2 : s.testBit o = false := by simpa using hs
      rw [hs2, Bool.and_false]
      rw [if_neg (by decide)]
      refine (Eq.trans (sm_congr (fun k _ => ?_)) (sm_0 (x_nj A))).symm
      simp
  rw [e1, sm_swap]
  refine sm_congr (fun k hk => ?_)
  obtain ⟨h3, h4, h5, h6⟩ := j.1 k hk
  by_cases ha : x_ja A k = c
  · have hb : ¬ x_jb A k = c := fun e => h5 (ha.trans e.symm)
    have e2 : ∀ o, o < x_nc A → (if s.testBit o = true ∧ jpr A k c o then x_js A k else 0) = if o = x_jb A k then (if s.testBit (x_jb A k) = true then x_js A k else 0) else 0 := by
      intro o _
      by_cases ho : o = x_jb A k
      · subst ho
        have hj : jpr A k c (x_jb A k) := Or.inl ⟨ha, rfl⟩
        simp [hj]
      · have hj : ¬ jpr A k c o := by
          rintro (⟨_, e⟩ | ⟨_, e⟩)
          · exact ho e.symm
          · exact hb e
        simp [hj, ho]
    rw [sm_congr e2, sm_ind, if_pos h4]
    by_cases hs : s.testBit (x_jb A k) = true
    · rw [if_pos hs, if_pos (Or.inl ⟨ha, hs⟩)]
    · rw [if_neg hs, if_neg]
      rintro (⟨_, e⟩ | ⟨e, _⟩)
      · exact hs e
      · exact hb e
  · by_cases hb : x_jb A k = c
    · have e2 : ∀ o, o < x_nc A → (if s.testBit o = true ∧ jpr A k c o then x_js A k else 0) = if o = x_ja A k then (if s.testBit (x_ja A k) = true then x_js A k else 0) else 0 := by
        intro o _
        by_cases ho : o = x_ja A k
        · subst ho
          have hj : jpr A k c (x_ja A k) := Or.inr ⟨rfl, hb⟩
          simp [hj]
        · have hj : ¬ jpr A k c o := by
            rintro (⟨e, _⟩ | ⟨e, _⟩)
            · exact ha e
            · exact ho e.symm
          simp [hj, ho]
      rw [sm_congr e2, sm_ind, if_pos h3]
      by_cases hs : s.testBit (x_ja A k) = true
      · rw [if_pos hs, if_pos (Or.inr ⟨hb, hs⟩)]
      · rw [if_neg hs, if_neg]
        rintro (⟨e, _⟩ | ⟨_, e⟩)
        · exact ha e
        · exact hs e
    · have e2 : ∀ o, o < x_nc A → (if s.testBit o = true ∧ jpr A k c o then x_js A k else 0) = 0 := by
        intro o _
        have hj : ¬ jpr A k c o := by
          rintro (⟨e, _⟩ | ⟨_, e⟩)
          · exact ha e
          · exact hb e
        simp [hj]
      rw [sm_congr e2, sm_0, if_neg]
      rintro (⟨e, _⟩ | ⟨e, _⟩)
      · exact ha e
      · exact hb e
theorem sw_all {A : ST} (j : jrl A) (c : Nat) : sw A c (x_jt A c) = sm (x_nj A) (svb A c) := by
  rw [sw_eq j]
  refine sm_congr (fun k hk => ?_)
  unfold svb
  by_cases ha : x_ja A k = c
  · have h1 : (x_jt A c).testBit (x_jb A k) = true := by
      rw [j.2.1]
      refine jex_t (k := k) ?_ hk
      simp [ha]
    rw [if_pos (Or.inl ⟨ha, h1⟩), if_pos (Or.inl ha)]
  · by_cases hb : x_jb A k = c
    · have h1 : (x_jt A c).testBit (x_ja A k) = true := by
        rw [j.2.1]
        refine jex_t (k := k) ?_ hk
        simp [hb]
      rw [if_pos (Or.inr ⟨hb, h1⟩), if_pos (Or.inr hb)]
    · rw [if_neg, if_neg]
      · rintro (e | e)
        · exact ha e
        · exact hb e
      · rintro (⟨e, _⟩ | ⟨e, _⟩)
        · exact ha e
        · exact hb e
theorem sps_smM {A : ST} (j : jrl A) (m y : Nat) : sps A m y = smM A m y := by
  unfold sps smM
  have e1 : sm (x_nc A) (spf A m y) = sm (x_nc A) (fun c => cof A m y c - sm (x_nj A) (fun k => if (m.testBit c = true ∧ x_yr A c = y) ∧ ((x_ja A k = c ∧ (cmk A m y c).testBit (x_jb A k) = true) ∨ (x_jb A k = c ∧ (cmk A m y c).testBit (x_ja A k) = true)) then x_js A k else 0)) := by
    refine sm_congr (fun c _ => ?_)
    unfold spf cof
    by_cases h : m.testBit c = true ∧ x_yr A c = y
    · rw [if_pos h, if_pos h, sw_eq j]
      congr 1
      refine sm_congr (fun k _ => ?_)
      simp only [h, true_and, and_self]
    · rw [if_neg h, if_neg h]
      have : sm (x_nj A) (fun k => if (m.testBit c = true ∧ x_yr A c = y) ∧ ((x_ja A k = c ∧ (cmk A m y c).testBit (x_jb A k) = true) ∨ (x_jb A k = c ∧ (cmk A m y c).testBit (x_ja A k) = true)) then x_js A k else 0) = 0 := by
        refine Eq.trans (sm_congr (fun k _ => ?_)) (sm_0 (x_nj A))
        rw [if_neg (fun z => h z.1)]
      rw [this]
      rfl
  rw [e1, sm_sub, sm_swap]
  congr 1
  refine sm_congr (fun k hk => ?_)
  obtain ⟨h3, h4, h5, h6⟩ := j.1 k hk
  unfold jnf
  -- the later one of the two sees the other
  have key : ∀ a b, a < x_nc A → b < x_nc A → x_yr A a = x_yr A b → a < b → ((x_ja A k = a ∧ x_jb A k = b) ∨ (x_ja A k = b ∧ x_jb A k = a)) → sm (x_nc A) (fun c => if (m.testBit c = true ∧ x_yr A c = y) ∧ ((x_ja A k = c ∧ (cmk A m y c).testBit (x_jb A k) = true) ∨ (x_jb A k = c ∧ (cmk A m y c).testBit (x_ja A k) = true)) then x_js A k else 0) = if (m.testBit a = true ∧ m.testBit b = true) ∧ x_yr A a = y then x_js A k else 0 := by
    intro a b ha hb hy hab hp
    have e2 : ∀ c, c < x_nc A → (if (m.testBit c = true ∧ x_yr A c = y) ∧ ((x_ja A k = c ∧ (cmk A m y c).testBit (x_jb A k) = true) ∨ (x_jb A k = c ∧ (cmk A m y c).testBit (x_ja A k) = true)) then x_js A k else 0) = if c = b then (if (m.testBit a = true ∧ m.testBit b = true) ∧ x_yr A a = y then x_js A k else 0) else 0 := by
      intro c _
      by_cases hc : c = b
      · subst hc
        rw [if_pos rfl]
        refine ite_iff ?_ _ _
        have hcm : ∀ o, (cmk A m y c).testBit o = (decide (o < c) && m.testBit o && decide (x_yr A o = y)) := cmk_bit A m y c
        rcases hp with ⟨p1, p2⟩ | ⟨p1, p2⟩
        · rw [p1, p2, hcm, hcm]
          simp only [Bool.and_eq_true, decide_eq_true_eq]
          constructor
          · rintro ⟨⟨q1, q2⟩, (⟨q3, q4⟩ | ⟨q3, q4⟩)⟩
            · omega
            · exact ⟨⟨q4.1.2, q1⟩, q4.2⟩
          · rintro ⟨⟨q1, q2⟩, q3⟩
            exact ⟨⟨q2, hy ▸ q3⟩, Or.inr ⟨trivial, ⟨hab, q1⟩, q3⟩⟩
        · rw [p1, p2, hcm, hcm]
          simp only [Bool.and_eq_true, decide_eq_true_eq]
          constructor
          · rintro ⟨⟨q1, q2⟩, (⟨q3, q4⟩ | ⟨q3, q4⟩)⟩
            · exact ⟨⟨q4.1.2, q1⟩, q4.2⟩
            · omega
          · rintro ⟨⟨q1, q2⟩, q3⟩
            exact ⟨⟨q2, hy ▸ q3⟩, Or.inl ⟨trivial, ⟨hab, q1⟩, q3⟩⟩
      · rw [if_neg hc, if_neg]
        have hcm : ∀ o, (cmk A m y c).testBit o = (decide (o < c) && m.testBit o && decide (x_yr A o = y)) := cmk_bit A m y c
        rcases hp with ⟨p1, p2⟩ | ⟨p1, p2⟩
        · rw [p1, p2, hcm, hcm]
          simp only [Bool.and_eq_true, decide_eq_true_eq]
          rintro ⟨_, (⟨q3, q4⟩ | ⟨q3, q4⟩)⟩
          · omega
          · omega
        · rw [p1, p2, hcm, hcm]
          simp only [Bool.and_eq_true, decide_eq_true_eq]
          rintro ⟨_, (⟨q3, q4⟩ | ⟨q3, q4⟩)⟩
          · omega
          · omega
    rw [sm_congr e2, sm_ind, if_pos hb]
  by_cases hlt : x_ja A k < x_jb A k
  · rw [key _ _ h3 h4 h6 hlt (Or.inl ⟨rfl, rfl⟩)]
  · rw [key _ _ h4 h3 h6.symm (by omega) (Or.inr ⟨rfl, rfl⟩)]
    refine ite_iff ?_ _ _
    rw [h6]
    constructor
    · rintro ⟨⟨q1, q2⟩, q3⟩; exact ⟨⟨q2, q1⟩, q3⟩
    · rintro ⟨⟨q1, q2⟩, q3⟩; exact ⟨⟨q2, q1⟩, q3⟩
theorem spI_spM {A : ST} (j : jrl A) (m y : Nat) : spI A m y = spM A m y := by
  unfold spI spM
  rw [sps_smM j]
