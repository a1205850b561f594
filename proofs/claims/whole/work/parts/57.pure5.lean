/-! PURE 5: strict orders: places by counting and by insertion -/
def sto (p : Nat → Nat → Bool) (n : Nat) : Prop := (∀ u, p u u = false) ∧ (∀ u v w, u < n → v < n → w < n → p u v = true → p v w = true → p u w = true) ∧ ∀ u v, u < n → v < n → u ≠ v → p u v = true ∨ p v u = true
def plc (p : Nat → Nat → Bool) (n v : Nat) : Nat := cnp (fun o => p o v) n
theorem cnp_slt {p p' : Nat → Bool} {j : Nat} (hj1 : p j = false) (hj2 : p' j = true) : ∀ {n : Nat}, j < n → (∀ i, i < n → p i = true → p' i = true) → cnp p n < cnp p' n
  | 0, hn, _ => by omega
  | n + 1, hn, h => by
    by_cases e : j = n
    · subst e
      have := cnp_mono (p := p) (p' := p') (n := j) (fun i hi => h i (by omega))
      simp only [cnp, hj1, hj2]
      simp
      omega
    · have ih := cnp_slt hj1 hj2 (n := n) (by omega) (fun i hi => h i (by omega))
      have h2 := h n (by omega)
      unfold cnp
      by_cases h3 : p n = true
      · rw [if_pos h3, if_pos (h2 h3)]
        omega
      · rw [if_neg h3]
        split <;> omega
theorem plc_lt {p : Nat → Nat → Bool} {n : Nat} (s : sto p n) {u v : Nat} (hu : u < n) (hv : v < n) (h : p u v = true) : plc p n u < plc p n v :=
  cnp_slt (p := fun o => p o u) (p' := fun o => p o v) (j := u) (s.1 u) h hu (fun i hi hp => s.2.1 i u v hi hu hv hp h)
theorem plc_inj {p : Nat → Nat → Bool} {n : Nat} (s : sto p n) {u v : Nat} (hu : u < n) (hv : v < n) (h : plc p n u = plc p n v) : u = v := by
  by_cases e : u = v
  · exact e
  · rcases s.2.2 u v hu hv e with h1 | h1
    · have := plc_lt s hu hv h1; omega
    · have := plc_lt s hv hu h1; omega
theorem plc_n {p : Nat → Nat → Bool} {n : Nat} (s : sto p n) {v : Nat} (hv : v < n) : plc p n v < n := cnp_lt (p := fun o => p o v) (v := v) (s.1 v) hv
/-- the row that is filled by places -/
def plf (r : Nat → Nat) (f : Nat → Nat) : Nat → Nat → Nat
  | 0 => f
  | i + 1 => va_up (plf r f i) (r i) i
theorem plf_at {r : Nat → Nat} {f : Nat → Nat} {n v : Nat} (hr : ∀ u, u < n → r u = r v → u = v) : ∀ {i : Nat}, v < i → i ≤ n → plf r f i (r v) = v
  | 0, h, _ => by omega
  | i + 1, h, hn => by
    unfold plf va_up
    by_cases e : r v = r i
    · rw [if_pos e]
      exact hr i (by omega) e.symm
    · rw [if_neg e]
      exact plf_at hr (by
        by_cases e2 : v = i
        · exact absurd (congrArg r e2) e
        · omega) (by omega)
/-- insertion -/
def inI (p : Nat → Nat → Bool) (n : Nat) : (Nat → Nat) → Nat → (Nat → Nat)
  | f, 0 => va_up f 0 n
  | f, a + 1 => if p n (f a) = true then inI p n (va_up f (a + 1) (f a)) a else va_up f (a + 1) n
def inO (p : Nat → Nat → Bool) (f : Nat → Nat) : Nat → (Nat → Nat)
  | 0 => f
  | n + 1 => inI p n (inO p f n) n
def srt (p : Nat → Nat → Bool) (n : Nat) (f : Nat → Nat) : Prop := (∀ i, i < n → f i < n) ∧ ∀ i j, i < j → j < n → p (f i) (f j) = true
theorem inI_srt {p : Nat → Nat → Bool} {N n : Nat} (s : sto p N) (hn : n < N) : ∀ (a : Nat) (f : Nat → Nat), a ≤ n → (∀ i, i < n + 1 → i ≠ a → f i < n) → (∀ i j, i < j → j < n + 1 → i ≠ a → j ≠ a → p (f i) (f j) = true) → (∀ j, a < j → j < n + 1 → p n (f j) = true) → srt p (n + 1) (inI p n f a)
  | 0, f, ha, h1, h2, h3 => by
    unfold inI
    refine ⟨fun i hi => ?_, fun i j hij hj => ?_⟩
    · unfold va_up
      split
      · omega
      · rename_i e; have := h1 i hi e; omega
    · unfold va_up
      rw [if_neg (show ¬ j = 0 by omega)]
      split
      · exact h3 j (by omega) hj
      · rename_i e; exact h2 i j hij hj e (by omega)
  | a + 1, f, ha, h1, h2, h3 => by
    have hfa := h1 a (by omega) (by omega)
    unfold inI
    split
    · rename_i hp
      refine inI_srt s hn a _ (by omega) (fun i hi hia => ?_) (fun i j hij hj hia hja => ?_) (fun j hj hjn => ?_)
      · unfold va_up
        split
        · exact hfa
        · rename_i e; exact h1 i hi e
      · unfold va_up
        by_cases ei : i = a + 1
        · rw [if_pos ei, if_neg (show ¬ j = a + 1 by omega)]
          exact h2 a j (by omega) hj (by omega) (by omega)
        · rw [if_neg ei]
          by_cases ej : j = a + 1
          · rw [if_pos ej]
            exact h2 i a (by omega) (by omega) ei (by omega)
          · rw [if_neg ej]
            exact h2 i j hij hj ei ej
      · unfold va_up
        split
        · exact hp
        · rename_i e; exact h3 j (by omega) hjn
    · rename_i hp
      have hp2 : p (f a) n = true := by
        rcases s.2.2 n (f a) hn (by omega) (by omega) with h | h
        · exact absurd h hp
        · exact h
      refine ⟨fun i hi => ?_, fun i j hij hj => ?_⟩
      · unfold va_up
        split
        · omega
        · rename_i e; have := h1 i hi e; omega
      · unfold va_up
        by_cases ei : i = a + 1
        · rw [if_pos ei, if_neg (show ¬ j = a + 1 by omega)]
          exact h3 j (by omega) hj
        · rw [if_neg ei]
          by_cases ej : j = a + 1
          · rw [if_pos ej]
            by_cases e2 : i = a
            · rw [e2]; exact hp2
            · have hfi := h1 i (by omega) ei
              exact s.2.1 (f i) (f a) n (by omega) (by omega) hn (h2 i a (by omega) (by omega) ei (by omega)) hp2
          · rw [if_neg ej]
            exact h2 i j hij hj ei ej
theorem inO_srt {p : Nat → Nat → Bool} {N : Nat} (s : sto p N) (f : Nat → Nat) : ∀ n, n ≤ N → srt p n (inO p f n)
  | 0, _ => ⟨fun i hi => by omega, fun i j _ hj => by omega⟩
  | n + 1, hn => by
    obtain ⟨h1, h2⟩ := inO_srt s f n (by omega)
    exact inI_srt s (by omega) n _ (Nat.le_refl _) (fun i hi hia => h1 i (by omega)) (fun i j hij hj hia hja => h2 i j hij (by omega)) (fun j hj hjn => by omega)
theorem inc_id {n : Nat} {g : Nat → Nat} (h : ∀ i j, i < j → j < n → g i < g j) (hn : ∀ i, i < n → g i < n) : ∀ i, i < n → g i = i := by
  have lo : ∀ i, i < n → i ≤ g i := by
    intro i
    induction i with
    | zero => intro _; omega
    | succ i ih =>
      intro hi
      have h1 := ih (by omega)
      have h2 := h i (i + 1) (by omega) hi
      omega
  have hi : ∀ k i, i < n → n - 1 - i = k → g i ≤ i := by
    intro k
    induction k with
    | zero =>
      intro i hi hk
      have := hn i hi
      omega
    | succ k ih =>
      intro i hi hk
      have h1 := ih (i + 1) (by omega) (by omega)
      have h2 := h i (i + 1) (by omega) (by omega)
      omega
  intro i h1
  have := lo i h1
  have := hi _ i h1 rfl
  omega
theorem srt_plc {p : Nat → Nat → Bool} {n : Nat} (s : sto p n) {f : Nat → Nat} (h : srt p n f) : ∀ i, i < n → plc p n (f i) = i :=
  inc_id (g := fun i => plc p n (f i)) (fun i j hij hj => plc_lt s (h.1 i (by omega)) (h.1 j hj) (h.2 i j hij hj)) (fun i hi => plc_n s (h.1 i hi))
/-- the row by places is the row by insertion -/
theorem plf_inO {p : Nat → Nat → Bool} {n : Nat} (s : sto p n) (f f' : Nat → Nat) {i : Nat} (hi : i < n) : plf (plc p n) f n i = inO p f' n i := by
  have h := inO_srt s f' n (Nat.le_refl _)
  have e := srt_plc s h i hi
  have hv := h.1 i hi
  have := plf_at (r := plc p n) (f := f) (n := n) (v := inO p f' n i) (fun u hu => plc_inj s hu hv) hv (Nat.le_refl _)
  rw [e] at this
  exact this
theorem insI_inI (D : ST) (k n : Nat) : ∀ (a : Nat) (f : Nat → Nat), insI D k n f a = inI (gb D k) n f a
  | 0, f => rfl
  | a + 1, f => by
    unfold insI inI
    rw [insI_inI D k n a]
theorem insO_inO (D : ST) (k : Nat) (f : Nat → Nat) : ∀ n, insO D k f n = inO (gb D k) f n
  | 0 => rfl
  | n + 1 => by
    unfold insO inO
    rw [insO_inO D k f n, insI_inI]
theorem cb_plc (A : ST) (k c : Nat) : ∀ n, cb A k c n = cnp (fun o => gb A k o c) n
  | 0 => rfl
  | n + 1 => by simp only [cb, cnp, cb_plc A k c n]
theorem orf_plf (A : ST) (k : Nat) (f : Nat → Nat) : ∀ n, orf A k f n = plf (plc (gb A k) (x_nc A)) f n
  | 0 => rfl
  | n + 1 => by
    unfold orf plf
    rw [orf_plf A k f n, cb_plc]
    rfl
theorem rkf_plf (A : ST) (f : Nat → Nat) : ∀ n, rkf A f n = plf (plc (rkM A) (x_nt A)) f n
  | 0 => rfl
  | n + 1 => by
    unfold rkf plf
    rw [rkf_plf A f n]
    rfl
/-! the orders are strict -/
theorem gb_tot (A : ST) (k : Nat) {u v : Nat} (h : u ≠ v) : gb A k u v = true ∨ gb A k v u = true := by
  have e : gbl A k v u = - gbl A k u v := by
    unfold gbl ldw
    by_cases h1 : k = 1
    · rw [if_pos h1, if_pos h1]
      by_cases h2 : x_co A u = 0 ∨ x_co A v = 0
      · rw [if_pos h2, if_pos (by omega)]
        by_cases h3 : x_co A u = x_co A v
        · simp [h3]
        · by_cases h4 : x_co A u ≤ x_co A v
          · rw [if_neg (by omega), if_pos h4, if_neg (fun e => h3 e.symm)]
          · rw [if_pos (by omega), if_neg h3, if_neg h4]
            omega
      · rw [if_neg h2, if_neg (by omega)]
        omega
    · rw [if_neg h1, if_neg h1]
      by_cases h2 : k = 2 ∧ ¬ x_yr A u = x_yr A v
      · rw [if_pos h2, if_pos ⟨h2.1, fun e => h2.2 e.symm⟩]
        omega
      · rw [if_neg h2, if_neg (fun z => h2 ⟨z.1, fun e => z.2 e.symm⟩)]
        omega
  unfold gb
  rw [e]
  by_cases h0 : gbl A k u v = 0
  · rw [if_pos h0, if_pos (by omega)]
    simp only [decide_eq_true_eq]
    omega
  · rw [if_neg h0, if_neg (by omega)]
    simp only [decide_eq_true_eq]
    omega
theorem rat_tr {a b c x y z : Int} (hx : 0 < x) (hy : 0 < y) (hz : 0 < z) (h1 : b * x ≤ a * y) (h2 : c * y ≤ b * z) : c * x ≤ a * z ∧ (b * x < a * y ∨ c * y < b * z → c * x < a * z) := by
  have e1 : (a * z) * y = (a * y) * z := by rw [Int.mul_assoc, Int.mul_comm z y, ← Int.mul_assoc]
  have e2 : (b * x) * z = (b * z) * x := by rw [Int.mul_assoc, Int.mul_comm x z, ← Int.mul_assoc]
  have e3 : (c * y) * x = (c * x) * y := by rw [Int.mul_assoc, Int.mul_comm y x, ← Int.mul_assoc]
  have m1 : (b * x) * z ≤ (a * y) * z := Int.mul_le_mul_of_nonneg_right h1 (by omega)
  have m2 : (c * y) * x ≤ (b * z) * x := Int.mul_le_mul_of_nonneg_right h2 (by omega)
  refine ⟨?_, ?_⟩
  · refine Int.le_of_mul_le_mul_right (a := y) ?_ hy
    omega
  · intro h
    refine Int.lt_of_mul_lt_mul_right (a := y) ?_ (by omega)
    rcases h with h | h
    · have m3 : (b * x) * z < (a * y) * z := Int.mul_lt_mul_of_pos_right h hz
      omega
    · have m3 : (c * y) * x < (b * z) * x := Int.mul_lt_mul_of_pos_right h hx
      omega
theorem gb_tr {A : ST} (b : bd A) {k : Nat} (hk : k < 3) {u v w : Nat} (h1 : gb A k u v = true) (h2 : gb A k v w = true) : gb A k u w = true := by
  have cu := b.2.2.2.2.2.2.2.1 u
  have cv := b.2.2.2.2.2.2.2.1 v
  have cw := b.2.2.2.2.2.2.2.1 w
  by_cases k1 : k = 1
  · subst k1
    by_cases zu : x_co A u = 0
    · by_cases zw : x_co A w = 0
      · by_cases zv : x_co A v = 0
        · rw [gb_z b (Or.inl zu), if_pos (by omega), decide_eq_true_eq] at h1
          rw [gb_z b (Or.inl zv), if_pos (by omega), decide_eq_true_eq] at h2
          rw [gb_z b (Or.inl zu), if_pos (by omega), decide_eq_true_eq]
          omega
        · rw [gb_z b (Or.inr zw), if_neg (by omega), decide_eq_true_eq] at h2
          exact absurd h2 zv
      · rw [gb_z b (Or.inl zu), if_neg (by omega), decide_eq_true_eq]
        exact zu
    · by_cases zv : x_co A v = 0
      · rw [gb_z b (Or.inr zv), if_neg (by omega), decide_eq_true_eq] at h1
        exact absurd h1 zu
      · by_cases zw : x_co A w = 0
        · rw [gb_z b (Or.inr zw), if_neg (by omega), decide_eq_true_eq] at h2
          exact absurd h2 zv
        · rw [gb_r (by omega)] at h1 h2 ⊢
          have p1 : x_wo A v * x_co A u ≤ x_wo A u * x_co A v ∧ (¬ x_wo A v * x_co A u < x_wo A u * x_co A v → u < v) := by
            split at h1
            · rename_i e; simp only [decide_eq_true_eq] at h1; omega
            · simp only [decide_eq_true_eq] at h1; omega
          have p2 : x_wo A w * x_co A v ≤ x_wo A v * x_co A w ∧ (¬ x_wo A w * x_co A v < x_wo A v * x_co A w → v < w) := by
            split at h2
            · rename_i e; simp only [decide_eq_true_eq] at h2; omega
            · simp only [decide_eq_true_eq] at h2; omega
          have t := rat_tr (a := x_wo A u) (b := x_wo A v) (c := x_wo A w) (x := x_co A u) (y := x_co A v) (z := x_co A w) (by omega) (by omega) (by omega) p1.1 p2.1
          split
          · rename_i e
            simp only [decide_eq_true_eq]
            have q1 : ¬ (x_wo A v * x_co A u < x_wo A u * x_co A v ∨ x_wo A w * x_co A v < x_wo A v * x_co A w) := fun z => by have := t.2 z; omega
            have := p1.2 (fun z => q1 (Or.inl z))
            have := p2.2 (fun z => q1 (Or.inr z))
            omega
          · rename_i e
            simp only [decide_eq_true_eq]
            have := t.1
            omega
  · by_cases yuv : k = 2 ∧ ¬ x_yr A u = x_yr A v
    · obtain ⟨k2, yuv⟩ := yuv
      subst k2
      rw [gb_y yuv, decide_eq_true_eq] at h1
      by_cases yvw : x_yr A v = x_yr A w
      · rw [gb_y (by omega), decide_eq_true_eq]
        omega
      · rw [gb_y yvw, decide_eq_true_eq] at h2
        rw [gb_y (by omega), decide_eq_true_eq]
        omega
    · by_cases yvw : k = 2 ∧ ¬ x_yr A v = x_yr A w
      · obtain ⟨k2, yvw⟩ := yvw
        subst k2
        rw [gb_y yvw, decide_eq_true_eq] at h2
        have e1 : x_yr A u = x_yr A v := Classical.not_not.mp (fun z => yuv ⟨rfl, z⟩)
        rw [gb_y (by omega), decide_eq_true_eq]
        omega
      · rw [gb_w k1 yuv] at h1
        rw [gb_w k1 yvw] at h2
        rw [gb_w k1 (by
          rintro ⟨k2, z⟩
          have e1 : x_yr A u = x_yr A v := Classical.not_not.mp (fun z => yuv ⟨k2, z⟩)
          have e2 : x_yr A v = x_yr A w := Classical.not_not.mp (fun z => yvw ⟨k2, z⟩)
          omega)]
        split at h1 <;> split at h2 <;> simp only [decide_eq_true_eq] at h1 h2 <;> split <;> simp only [decide_eq_true_eq] <;> omega
theorem gb_sto {A : ST} (b : bd A) {k : Nat} (hk : k < 3) (n : Nat) : sto (gb A k) n := ⟨gb_self A k, fun _ _ _ _ _ _ h1 h2 => gb_tr b hk h1 h2, fun _ _ _ _ h => gb_tot A k h⟩
theorem rkM_sto (A : ST) (n : Nat) : sto (rkM A) n := by
  refine ⟨rkM_self A, fun u v w _ _ _ h1 h2 => ?_, fun u v _ _ h => ?_⟩
  · unfold rkM at h1 h2 ⊢
    simp only [Bool.or_eq_true, Bool.and_eq_true, decide_eq_true_eq] at h1 h2 ⊢
    omega
  · unfold rkM
    simp only [Bool.or_eq_true, Bool.and_eq_true, decide_eq_true_eq]
    omega
/-! the policies -/
theorem pbm_pM {A : ST} (k : okH A) {f g : Nat → Nat} {N : Nat} (h : ∀ i, i < N → f i = g i) : ∀ n, n ≤ N → pbm A f n = pM A g n
  | 0, _ => rfl
  | n + 1, hn => by
    unfold pbm pM
    rw [pbm_pM k h n (by omega), h n (by omega), psb_ftm k]
theorem pbo_plM {A : ST} (k : okH A) (q : QS) (t : TS) {l : Nat} (hl : l < 3) : pbo A q (nI l) = plM A t l := by
  unfold pbo plM
  rw [nI_clamp (by omega), psb_ftm k]
  have hr : ¬ nI l < 0 ∧ ¬ 3 ≤ nI l := ⟨fun e => by have := (nI_ltI (b := 0) (by omega) (by omega)).mp e; omega, fun e => by have := (nI_leI (a := 3) (by omega) (by omega)).mp e; omega⟩
  by_cases h : ftm A (x_mu A) (x_ny A) = true
  · rw [if_pos ⟨hr, h⟩, if_pos h]
    rw [pbm_pM k (f := orf A l (q_or q) (x_nc A)) (g := insO A l (t_or t) (x_nc A)) (N := x_nc A) (fun i hi => by rw [orf_plf, insO_inO]; exact plf_inO (gb_sto k.1 hl _) _ _ hi) _ (Nat.le_refl _)]
  · rw [if_neg (fun z => h z.2), if_neg h]
theorem pbo_bad {A : ST} (q : QS) {x : Int32} (h : ¬ (¬ x < 0 ∧ ¬ 3 ≤ x)) : pbo A q x = none := by
  unfold pbo
  rw [if_neg (fun z => h z.1)]
/-! rank -/
theorem mwb_yr {A : ST} (k : okH A) (tt : Nat) : ∀ i, i ≤ x_nc A → mwb A tt (x_ny A - 1) i = mwb A tt 5 i
  | 0, _ => rfl
  | i + 1, hi => by
    have h1 := k.2.2.1 i (by omega)
    have h2 := k.1.1
    simp only [mwb]
    rw [mwb_yr k tt i (by omega)]
    by_cases e : x_th A i = tt
    · have g1 : x_th A i = tt ∧ x_yr A i ≤ x_ny A - 1 := ⟨e, by omega⟩
      have g2 : x_th A i = tt ∧ x_yr A i ≤ 5 := ⟨e, by omega⟩
      rw [if_pos g1, if_pos g2]
    · rw [if_neg (fun z => e z.1), if_neg (fun z => e z.1)]
theorem mw_mw5 {A : ST} (k : okH A) (tt : Nat) : mw A tt = mw5 A tt := mwb_yr k tt _ (Nat.le_refl _)
theorem rkb_rkM {A : ST} (k : okH A) (u v : Nat) : rkb A u v = rkM A u v := by
  unfold rkb rkM
  rw [mw_mw5 k, mw_mw5 k]
  by_cases h1 : mw5 A u = mw5 A v
  · rw [if_pos h1]
    by_cases h2 : x_pl A u = x_pl A v
    · rw [if_pos h2]; simp [h1, h2]
    · rw [if_neg h2]; simp [h1, h2]
  · rw [if_neg h1]; simp [h1]
theorem fnd_some {p : Nat → Bool} {i : Nat} : ∀ {n : Nat}, fnd p n = some i → p i = true ∧ i < n
  | 0, h => by simp [fnd] at h
  | n + 1, h => by
    unfold fnd at h
    cases e : fnd p n with
    | some j =>
      rw [e] at h
      cases h
      have := fnd_some e
      exact ⟨this.1, by omega⟩
    | none =>
      rw [e] at h
      simp only at h
      split at h
      · cases h
        rename_i h2
        exact ⟨h2, by omega⟩
      · cases h
theorem fnd_no {p : Nat → Bool} : ∀ {n : Nat}, fnd p n = none → ∀ i, i < n → p i = false
  | 0, _, i, hi => by omega
  | n + 1, h, i, hi => by
    unfold fnd at h
    cases e : fnd p n with
    | some j => rw [e] at h; cases h
    | none =>
      rw [e] at h
      simp only at h
      split at h
      · cases h
      · rename_i h2
        by_cases e2 : i = n
        · subst e2; simpa using h2
        · exact fnd_no e i (by omega)
theorem rkp_plc {A : ST} (k : okH A) (x : Int32) (v : Nat) : rkp A x v = decide (nI (plc (rkM A) (x_nt A) v) = x) := by
  unfold rkp plc
  rw [show (fun o => rkb A o v) = fun o => rkM A o v from funext (fun o => rkb_rkM k o v)]
theorem rank_eq {A : ST} (k : okH A) (f : Nat → Nat) {l : Nat} (hl : l < x_nt A) : fnd (rkp A (nI l)) (x_nt A) = some (rkf A f (x_nt A) l) := by
  have b2 := k.1.2.1
  have s := rkM_sto A (x_nt A)
  have h := inO_srt s f (x_nt A) (Nat.le_refl _)
  have e1 := plf_inO s f f hl
  have e2 := srt_plc s h l hl
  have hv := h.1 l hl
  rw [rkf_plf, e1]
  cases e : fnd (rkp A (nI l)) (x_nt A) with
  | none =>
    have := fnd_no e _ hv
    rw [rkp_plc k, e2] at this
    simp at this
  | some v =>
    obtain ⟨g1, g2⟩ := fnd_some e
    rw [rkp_plc k, decide_eq_true_eq] at g1
    have g3 := plc_n s g2
    have g4 := nI_eq' (by omega) (by omega) g1
    rw [plc_inj s g2 hv (g4.trans e2.symm)]
theorem rank_no {A : ST} (k : okH A) {x : Int32} (hx : ¬ (¬ x < 0 ∧ x < nI (x_nt A))) : fnd (rkp A x) (x_nt A) = none := by
  have b2 := k.1.2.1
  cases e : fnd (rkp A x) (x_nt A) with
  | none => rfl
  | some v =>
    exfalso
    obtain ⟨g1, g2⟩ := fnd_some e
    rw [rkp_plc k, decide_eq_true_eq] at g1
    have g3 := plc_n (rkM_sto A (x_nt A)) g2
    apply hx
    rw [← g1]
    exact ⟨fun e => by have := (nI_ltI (b := 0) (by omega) (by omega)).mp e; omega, (nI_ltI (by omega) (by omega)).mpr g3⟩
