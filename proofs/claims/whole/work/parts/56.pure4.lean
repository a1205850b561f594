/-! PURE 4: what holds for the class holds for the reference -/
theorem fri_iff {fa : Int} {ud : Nat} {g : Nat → Int} {a : Nat} : ∀ {n : Nat}, fri fa ud g a n = true ↔ ∀ j, j < n → ud.testBit a = true → ud.testBit j = true → g a - g j ≤ fa
  | 0 => by simp [fri]
  | n + 1 => by
    have ih := fri_iff (fa := fa) (ud := ud) (g := g) (a := a) (n := n)
    unfold fri
    rw [Bool.and_eq_true, ih]
    constructor
    · rintro ⟨h1, h2⟩ j hj ha hb
      by_cases e : j = n
      · subst e
        rw [ha, hb] at h2
        simp at h2
        omega
      · exact h1 j (by omega) ha hb
    · intro h
      refine ⟨fun j hj => h j (by omega), ?_⟩
      cases ha : ud.testBit a with
      | false => rfl
      | true =>
        cases hb : ud.testBit n with
        | false => rfl
        | true =>
          have := h n (by omega) ha hb
          simp
          omega
theorem fro_iff {fa : Int} {ud : Nat} {g : Nat → Int} : ∀ {n : Nat}, fro fa ud g n = true ↔ ∀ a, a < n → ∀ j, j < 4 → ud.testBit a = true → ud.testBit j = true → g a - g j ≤ fa
  | 0 => by simp [fro]
  | n + 1 => by
    have ih := fro_iff (fa := fa) (ud := ud) (g := g) (n := n)
    unfold fro
    rw [Bool.and_eq_true, ih, fri_iff]
    constructor
    · rintro ⟨h1, h2⟩ a ha
      by_cases e : a = n
      · subst e; exact h2
      · exact h1 a (by omega)
    · intro h
      exact ⟨fun a ha => h a (by omega), h n (by omega)⟩
theorem lmf_sp {g : Nat → Int} {ud : Nat} (hg : ∀ d, 0 ≤ g d) : ∀ i, (∀ d, d < i → ud.testBit d = true → 0 ≤ (lmf g ud i).1 ∧ (lmf g ud i).1 ≤ g d ∧ g d ≤ (lmf g ud i).2) ∧ (0 ≤ (lmf g ud i).1 → ∃ d, d < i ∧ ud.testBit d = true ∧ g d = (lmf g ud i).1) ∧ ((lmf g ud i).2 = 0 ∨ ∃ d, d < i ∧ ud.testBit d = true ∧ g d = (lmf g ud i).2)
  | 0 => by simp [lmf]
  | i + 1 => by
    obtain ⟨h1, h2, h3⟩ := lmf_sp (ud := ud) hg i
    have hgi := hg i
    cases hu : ud.testBit i with
    | false =>
      rw [lmf_s0 hu]
      refine ⟨fun d hd hb => ?_, fun h => ?_, ?_⟩
      · by_cases e : d = i
        · subst e; rw [hu] at hb; cases hb
        · exact h1 d (by omega) hb
      · obtain ⟨d, k1, k2⟩ := h2 h
        exact ⟨d, by omega, k2⟩
      · rcases h3 with h3 | ⟨d, k1, k2⟩
        · exact Or.inl h3
        · exact Or.inr ⟨d, by omega, k2⟩
    | true =>
      obtain ⟨e1, e2⟩ := lmf_s1 (g := g) (ud := ud) (i := i) hu rfl rfl
      rw [e1, e2]
      refine ⟨fun d hd hb => ?_, fun h => ?_, ?_⟩
      · by_cases e : d = i
        · subst e
          refine ⟨?_, ?_, ?_⟩
          · split
            · omega
            · rename_i h4; omega
          · split
            · omega
            · rename_i h4; omega
          · split
            · omega
            · omega
        · obtain ⟨k1, k2, k3⟩ := h1 d (by omega) hb
          refine ⟨?_, ?_, ?_⟩
          · split <;> omega
          · split
            · rename_i h4; omega
            · omega
          · split <;> omega
      · by_cases h4 : (lmf g ud i).1 < 0 ∨ g i < (lmf g ud i).1
        · rw [if_pos h4]
          exact ⟨i, by omega, hu, rfl⟩
        · rw [if_neg h4]
          obtain ⟨d, k1, k2⟩ := h2 (by omega)
          exact ⟨d, by omega, k2⟩
      · by_cases h4 : (lmf g ud i).2 < g i
        · rw [if_pos h4]
          exact Or.inr ⟨i, by omega, hu, rfl⟩
        · rw [if_neg h4]
          rcases h3 with h3 | ⟨d, k1, k2⟩
          · exact Or.inl h3
          · exact Or.inr ⟨d, by omega, k2⟩
theorem fai_fiM {A : ST} (b : bd A) (hfa : -1 ≤ x_fa A ∧ x_fa A ≤ 10000000) (m : Nat) : fai (x_fa A) (udm A (x_nt A)) (fun d => dsum A m d) = fiM A m := by
  obtain ⟨h1, h2, h3⟩ := lmf_sp (g := dsum A m) (ud := udm A (x_nt A)) (fun d => (dsum_bd b m d).1) 4
  have hl := lmf_bd b m (udm A (x_nt A)) 4
  by_cases hf : x_fa A < 0
  · unfold fai fiM
    rw [decide_eq_true (show x_fa A = -1 by omega), decide_eq_true hf]
    rfl
  · unfold fai fiM lmv
    rw [decide_eq_false (show ¬ x_fa A = -1 by omega), decide_eq_false hf, Bool.false_or, Bool.false_or]
    rw [Bool.eq_iff_iff, fro_iff]
    simp only [Bool.or_eq_true, decide_eq_true_eq]
    constructor
    · intro h
      by_cases hn : (lmf (dsum A m) (udm A (x_nt A)) 4).1 < 0
      · exact Or.inl hn
      · refine Or.inr ?_
        obtain ⟨d, k1, k2, k3⟩ := h2 (by omega)
        rcases h3 with h3 | ⟨a, k4, k5, k6⟩
        · omega
        · have := h a k4 d k1 k5 k2
          omega
    · intro h a ha j hj ua uj
      have p1 := h1 a ha ua
      have p2 := h1 j hj uj
      omega
/-- what is asked of what was told, for the two to be alike -/
def okH (A : ST) : Prop := bd A ∧ jrl A ∧ (∀ c, c < x_nc A → x_yr A c < x_ny A) ∧ (-1 ≤ x_fa A ∧ x_fa A ≤ 10000000)
theorem wam_iff {A : ST} {m : Nat} : ∀ {n : Nat}, wam A m n = true ↔ ∀ y, y < n → spM A m y ≤ x_bu A y
  | 0 => by simp [wam]
  | n + 1 => by
    have ih := wam_iff (A := A) (m := m) (n := n)
    unfold wam
    rw [Bool.and_eq_true, ih, decide_eq_true_eq]
    constructor
    · rintro ⟨h1, h2⟩ y hy
      by_cases e : y = n
      · subst e; exact h2
      · exact h1 y (by omega)
    · intro h
      exact ⟨fun y hy => h y (by omega), h n (by omega)⟩
theorem sps_no {A : ST} (k : okH A) (m : Nat) {y : Nat} (hy : x_ny A ≤ y) : sps A m y = 0 := by
  unfold sps
  refine Eq.trans (sm_congr (fun c hc => ?_)) (sm_0 (x_nc A))
  have := k.2.2.1 c hc
  unfold spf
  rw [if_neg]
  rintro ⟨_, e⟩
  omega
theorem waL_wam {A : ST} (k : okH A) (m : Nat) : waL A (x_bu A) m 6 = wam A m (x_ny A) := by
  rw [Bool.eq_iff_iff, waL_iff, wam_iff]
  have b1 := k.1.1
  constructor
  · intro h y hy
    have h2 := h y (by omega)
    have h3 := (bu_b k.1 y).1
    rw [sps_smM k.2.1] at h2
    unfold spM
    split <;> omega
  · intro h y hy
    have h3 := (bu_b k.1 y).1
    by_cases e : y < x_ny A
    · have h2 := h y e
      rw [sps_smM k.2.1]
      unfold spM at h2
      split at h2 <;> omega
    · rw [sps_no k m (by omega)]
      exact h3
theorem hw_hwM {A : ST} (k : okH A) (mu m : Nat) : hw A mu (x_bu A) m = hwM A mu m := by
  unfold hw hwM gd ftm
  rw [waL_wam k, fai_fiM k.1 k.2.2.2]
  cases decide (m &&& mu = mu) <;> cases pln A m (x_nc A) <;> cases fiM A m <;> cases wam A m (x_ny A) <;> rfl
theorem wal_wam {A : ST} (k : okH A) (m : Nat) : ∀ n, wal A m n = wam A m n
  | 0 => rfl
  | n + 1 => by simp only [wal, wam, wal_wam k m n, spI_spM k.2.1]
theorem psb_ftm {A : ST} (k : okH A) (m : Nat) : psb A m = ftm A m (x_ny A) := by
  unfold psb ftm
  rw [wal_wam k]
theorem btr_btc (A : ST) (m : Nat) (o : Option Nat) : btc A 0 0 m o = btr A m o := by
  cases o with
  | none => rfl
  | some n =>
    have e : ∀ m, chm 0 0 m = chm 0 0 0 := fun m => by unfold chm; simp
    show (if chm 0 0 m = chm 0 0 n then (if wsum A m = wsum A n then decide (ysum A m < ysum A n) else decide (wsum A n < wsum A m)) else decide (chm 0 0 m < chm 0 0 n)) = (decide (wsum A n < wsum A m) || (decide (wsum A m = wsum A n) && decide (ysum A m < ysum A n)))
    rw [e m, e n]
    rw [if_pos rfl]
    by_cases h : wsum A m = wsum A n
    · rw [if_pos h]
      simp [h]
    · rw [if_neg h]
      simp [h]
theorem cnp_pw {x n k : Nat} (hx : x < 2 ^ n) (hk : n ≤ k) : cnp (fun c => x.testBit c) k = cnp (fun c => x.testBit c) n := by
  induction k with
  | zero => rw [show n = 0 by omega]
  | succ k ih =>
    by_cases e : n = k + 1
    · rw [e]
    · have h1 : x.testBit k = false := Nat.testBit_lt_two_pow (Nat.lt_of_lt_of_le hx (Nat.pow_le_pow_right (by decide) (by omega)))
      rw [← ih (by omega)]
      simp only [cnp, h1]
      rfl
theorem chm_dfM {A : ST} (b : bd A) {m : Nat} (hm : m < 2 ^ x_nc A) (ho : x_od A < 2 ^ x_nc A) : chm (x_od A) (2 ^ x_nc A - 1) m = dfM A m := by
  have hx := Nat.xor_lt_two_pow hm ho
  unfold chm dfM
  rw [pcr_cnp, Nat.and_assoc, Nat.and_self, Nat.and_two_pow_sub_one_eq_mod, Nat.mod_eq_of_lt hx]
  exact cnp_pw hx b.2.2.1
theorem bdM_btc {A : ST} (b : bd A) {m : Nat} (hm : m < 2 ^ x_nc A) (ho : x_od A < 2 ^ x_nc A) (o : Option Nat) (hn : ∀ n, o = some n → n < 2 ^ x_nc A) : btc A (x_od A) (2 ^ x_nc A - 1) m o = bdM A m o := by
  cases o with
  | none => rfl
  | some n =>
    show (if chm (x_od A) (2 ^ x_nc A - 1) m = chm (x_od A) (2 ^ x_nc A - 1) n then (if wsum A m = wsum A n then decide (ysum A m < ysum A n) else decide (wsum A n < wsum A m)) else decide (chm (x_od A) (2 ^ x_nc A - 1) m < chm (x_od A) (2 ^ x_nc A - 1) n)) = (decide (dfM A m < dfM A n) || (decide (dfM A m = dfM A n) && (decide (wsum A n < wsum A m) || (decide (wsum A m = wsum A n) && decide (ysum A m < ysum A n)))))
    rw [chm_dfM b hm ho, chm_dfM b (hn n rfl) ho]
    by_cases h0 : dfM A m = dfM A n
    · rw [if_pos h0]
      by_cases h : wsum A m = wsum A n
      · rw [if_pos h]
        simp [h, h0]
      · rw [if_neg h]
        simp [h, h0]
    · rw [if_neg h0]
      simp [h0]
theorem bst_congr {hw1 hw2 : Nat → Bool} {bt1 bt2 : Nat → Option Nat → Bool} {f : Nat → Nat} {S : Nat} (hf : ∀ i, f i < S) (h1 : ∀ m, m < S → hw1 m = hw2 m) (h2 : ∀ m o, m < S → (∀ n, o = some n → n < S) → bt1 m o = bt2 m o) : ∀ n, bst hw1 bt1 f n = bst hw2 bt2 f n
  | 0 => rfl
  | n + 1 => by
    have ih := bst_congr hf h1 h2 n
    unfold bst
    rw [ih, h1 _ (hf n), h2 _ _ (hf n) (fun k hk => bst_lt hf hk)]
theorem bestP_bsM {A : ST} (k : okH A) (N : Nat) : bestP A (x_mu A) (x_bu A) N = bsM A (min N (2 ^ x_nc A)) :=
  bst_congr (sn_lt A) (fun m _ => hw_hwM k _ m) (fun m o _ _ => btr_btc A m o) _
theorem nearP_nrM {A : ST} (k : okH A) (ho : x_od A < 2 ^ x_nc A) (N : Nat) : nearP A (x_mu A) (x_bu A) (x_od A) N = nrM A (min N (2 ^ x_nc A)) :=
  bst_congr (sn_lt A) (fun m _ => hw_hwM k _ m) (fun m o hm hn => bdM_btc k.1 hm ho o hn) _
theorem anb_congr {p q : Nat → Bool} (h : ∀ i, p i = q i) : ∀ n, anb p n = anb q n
  | 0 => rfl
  | n + 1 => by simp only [anb, anb_congr h n, h n]
theorem someP_smM {A : ST} (k : okH A) (w : Nat) : someP A w (x_bu A) = smM' A w := anb_congr (fun i => hw_hwM k w _) _
theorem clw_cwM {A : ST} (k : okH A) : ∀ i, clw A i = cwM A i
  | 0 => rfl
  | i + 1 => by simp only [clw, cwM, clw_cwM k i, someP_smM k]
theorem fnd_congr {p q : Nat → Bool} : ∀ {n : Nat}, (∀ i, i < n → p i = q i) → fnd p n = fnd q n
  | 0, _ => rfl
  | n + 1, h => by
    have ih := fnd_congr (p := p) (q := q) (n := n) (fun i hi => h i (by omega))
    unfold fnd
    rw [ih, h n (by omega)]
theorem fnd_tail {p : Nat → Bool} {k : Nat} : ∀ {n : Nat}, k ≤ n → (∀ i, k ≤ i → i < n → p i = false) → fnd p n = fnd p k
  | 0, h, _ => by rw [show k = 0 by omega]
  | n + 1, h, h0 => by
    by_cases e : k = n + 1
    · rw [e]
    · have ih := fnd_tail (p := p) (k := k) (n := n) (by omega) (fun i h1 h2 => h0 i h1 (by omega))
      rw [← ih]
      rw [fnd, h0 n (by omega) (by omega)]
      cases fnd p n <;> rfl
theorem mbo_nc {m n : Nat} (hm : m < 2 ^ n) (hn : n ≤ 14) (x : Int32) : mbo m x = fnd (mbp m x) n := by
  unfold mbo
  refine fnd_tail hn (fun i h1 _ => ?_)
  have : m.testBit i = false := Nat.testBit_lt_two_pow (Nat.lt_of_lt_of_le hm (Nat.pow_le_pow_right (by decide) h1))
  simp only [mbp, this]
  rfl
theorem mbo_0 (x : Int32) : mbo 0 x = none := by
  unfold mbo
  rw [fnd_tail (k := 0) (by omega) (fun i _ _ => by simp [mbp])]
  rfl
theorem cla_clM {A : ST} (k : okH A) (k2 : okS A) (x : Int32) : mbo (cla A) x = clM A x := by
  unfold cla clM
  rw [someP_smM k]
  by_cases h : smM' A (x_mu A) = true
  · rw [if_pos h, if_pos h, mbo_0]
  · rw [if_neg h, if_neg h, mbo_nc (clw_lt k2 _) k.1.2.2.1, clw_cwM k]
theorem chn_chM {A : ST} (k : okH A) (ho : x_od A < 2 ^ x_nc A) (N : Nat) : chn A N = chM A N := by
  unfold chn chM
  rw [nearP_nrM k ho]
  cases e : nrM A (min N (2 ^ x_nc A)) with
  | none => rfl
  | some m =>
    have hm : m < 2 ^ x_nc A := bst_lt (sn_lt A) e
    show nI _ = nI _
    rw [cnp_pw (Nat.xor_lt_two_pow hm ho) k.1.2.2.1]
    rfl
/-! more money in a year -/
theorem D1_H {A : ST} (k : okH A) (hb : ∀ y, x_bu A y ≤ 100000000) (y : Nat) : okH (D1 A y) := by
  refine ⟨D1_bd k.1 hb y, ?_, k.2.2.1, k.2.2.2⟩
  have j := k.2.1
  refine ⟨j.1, fun u v => ?_, j.2.2⟩
  have e : ∀ n, jex (D1 A y) u v n = jex A u v n := by
    intro n
    induction n with
    | zero => rfl
    | succ n ih => simp only [jex, ih]; rfl
  show (x_jt A u).testBit v = jex (D1 A y) u v (x_nj A)
  rw [e]
  exact j.2.1 u v
theorem cmk_bu (D : ST) (f : Nat → Int) (m y : Nat) : ∀ i, cmk (x_s_bu D f) m y i = cmk D m y i
  | 0 => rfl
  | i + 1 => by simp only [cmk, cmk_bu D f m y i, xg_yr_bu]
theorem sps_bu (D : ST) (f : Nat → Int) (m y : Nat) : sps (x_s_bu D f) m y = sps D m y := by
  unfold sps
  rw [xg_nc_bu]
  refine sm_congr (fun c _ => ?_)
  unfold spf
  rw [cmk_bu, xg_yr_bu, xg_co_bu]
  rfl
theorem waL_bu (D : ST) (f : Nat → Int) (li : Nat → Int) (m : Nat) : ∀ i, waL (x_s_bu D f) li m i = waL D li m i
  | 0 => rfl
  | i + 1 => by simp only [waL, waL_bu D f li m i, sps_bu]
theorem hw_bu (D : ST) (f : Nat → Int) (mu : Nat) (li : Nat → Int) (m : Nat) : hw (x_s_bu D f) mu li m = hw D mu li m := by
  unfold hw gd
  rw [waL_bu, xg_nc_bu, pln_bu, xg_fa_bu, xg_nt_bu, udm_bu]
  rfl
theorem btr_bu (D : ST) (f : Nat → Int) (m : Nat) (o : Option Nat) : btr (x_s_bu D f) m o = btr D m o := rfl
theorem bestP_more_eq {A : ST} (k : okH A) (hb : ∀ y, x_bu A y ≤ 100000000) (y N : Nat) : bestP A (x_mu A) (buM A y) N = bsM (D1 A y) (min N (2 ^ x_nc A)) := by
  have h := bestP_bsM (D1_H k hb y) N
  rw [show x_nc (D1 A y) = x_nc A from rfl] at h
  rw [← h]
  show bst _ _ _ _ = bst _ _ _ _
  have e : sn (D1 A y) = sn A := by funext i; exact sn_bu _ _ _
  rw [e, show x_nc (D1 A y) = x_nc A from rfl, show x_mu (D1 A y) = x_mu A from rfl, show x_bu (D1 A y) = buM A y from rfl]
  exact (bst_congr (sn_lt A) (fun m _ => hw_bu _ _ _ _ m) (fun m o _ _ => by rw [btr_btc, btr_btc]; rfl) _).symm
theorem gnb_gnM {A : ST} (k : okH A) (hb : ∀ y, x_bu A y ≤ 100000000) (y : Nat) : gnb A y = gnM A y := by
  have h14 := p14 k.1.2.2.1
  have e1 : min 16384 (2 ^ x_nc A) = nAll A := by unfold nAll; omega
  unfold gnb gnM
  rw [bestP_bsM k, bestP_more_eq k hb, e1]
  rfl
