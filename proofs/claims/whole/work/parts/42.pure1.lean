/-! PURE 1: the class's search is a search over all sets -/
theorem sr_step {β : Type} {n N : Nat} {hop : Nat → Nat → β → Bool} {badW badO : Nat → Nat → Bool} {step step' : β → Nat → β} (I : Nat → Nat → Prop)
    (iW : ∀ k P, I (k + 1) P → badW (k + 1) P = false → I k (P ||| 2 ^ (n - (k + 1)))) (iO : ∀ k P, I (k + 1) P → badO (k + 1) P = false → I k P)
    (hS : ∀ P z, I 0 P → hop 0 P z = false → step z P = step' z P) :
    ∀ k b P z, I k P → sr n N hop badW badO step k b P z = sr n N hop badW badO step' k b P z := by
  intro k
  induction k with
  | zero =>
    intro b P z hI
    unfold sr
    by_cases h : N ≤ b ∨ hop 0 P z = true
    · rw [if_pos h, if_pos h]
    · rw [if_neg h, if_neg h, hS P z hI (by simpa using fun x => h (Or.inr x))]
  | succ k ih =>
    intro b P z hI
    unfold sr
    by_cases h : N ≤ b ∨ hop (k + 1) P z = true
    · rw [if_pos h, if_pos h]
    · rw [if_neg h, if_neg h]
      have eW : (if badW (k + 1) P = true then z else sr n N hop badW badO step k b (P ||| 2 ^ (n - (k + 1))) z) = (if badW (k + 1) P = true then z else sr n N hop badW badO step' k b (P ||| 2 ^ (n - (k + 1))) z) := by
        by_cases hw : badW (k + 1) P = true
        · rw [if_pos hw, if_pos hw]
        · rw [if_neg hw, if_neg hw, ih b _ z (iW k P hI (by simpa using hw))]
      rw [eW]
      by_cases ho : badO (k + 1) P = true
      · rw [if_pos ho, if_pos ho]
      · rw [if_neg ho, if_neg ho, ih _ P _ (iO k P hI (by simpa using ho))]
theorem sm_mono {n : Nat} {f g : Nat → Int} (h : ∀ i, i < n → f i ≤ g i) : sm n f ≤ sm n g := by
  induction n with
  | zero => exact Int.le_refl _
  | succ n ih =>
    have h1 := ih (fun i hi => h i (by omega))
    have h2 := h n (by omega)
    simp only [sm]
    omega
theorem SF_step (A : ST) (c y : Nat) : SF A c y = SF A (c + 1) y + sfg A y c := by
  unfold SF
  simp only [sm]
  omega
theorem WF_step (A : ST) (c : Nat) : WF A c = WF A (c + 1) + x_wo A c := by
  unfold WF
  simp only [sm]
  omega
theorem SF_end (A : ST) (y : Nat) : SF A (x_nc A) y = 0 := by unfold SF; omega
theorem WF_end (A : ST) : WF A (x_nc A) = 0 := by unfold WF; omega
theorem sw_mono {A : ST} (b : bd A) {c s s' : Nat} (h : ∀ o, s.testBit o = true → s'.testBit o = true) : sw A c s ≤ sw A c s' := by
  refine sm_mono (fun o _ => ?_)
  have h0 := b.2.2.2.2.2.2.2.2.2.1 c o
  unfold swf
  by_cases h1 : (x_jt A c &&& s).testBit o = true
  · have h2 : (x_jt A c &&& s').testBit o = true := by
      rw [Nat.testBit_and, Bool.and_eq_true] at h1 ⊢
      exact ⟨h1.1, h o h1.2⟩
    rw [if_pos h1, if_pos h2]
    exact Int.le_refl _
  · rw [if_neg h1]
    split <;> omega
theorem sw_full {A : ST} (b : bd A) {P c : Nat} (hP : P < 2 ^ c) : sw A c P ≤ sw A c (2 ^ c - 1) := by
  refine sw_mono b (fun o ho => ?_)
  rw [Nat.testBit_two_pow_sub_one]
  by_cases h : o < c
  · simp [h]
  · rw [tb_ge hP (by omega)] at ho
    cases ho
theorem lt_pw {P c : Nat} (h : P < 2 ^ c) : P < 2 ^ (c + 1) := Nat.lt_trans h (Nat.pow_lt_pow_right (by decide) (by omega))
theorem lf_bits {n : Nat} : ∀ k P c m, c + k = n → P < 2 ^ c → m ∈ lf n k P → m < 2 ^ n ∧ ∀ o, o < c → m.testBit o = P.testBit o
  | 0, P, c, m, hc, hP, hm => by
    rw [lf, List.mem_singleton] at hm
    subst hm
    rw [show n = c by omega]
    exact ⟨hP, fun _ _ => rfl⟩
  | k + 1, P, c, m, hc, hP, hm => by
    rw [lf, List.mem_append, show n - (k + 1) = c by omega] at hm
    rcases hm with hm | hm
    · have h := lf_bits k _ (c + 1) m (by omega) (or_lt' hP) hm
      refine ⟨h.1, fun o ho => ?_⟩
      rw [h.2 o (by omega), tb_or]
      simp [show ¬ c = o by omega]
    · have h := lf_bits k _ (c + 1) m (by omega) (lt_pw hP) hm
      exact ⟨h.1, fun o ho => h.2 o (by omega)⟩
theorem lf_sps {A : ST} (b : bd A) (j : jy A) (y : Nat) : ∀ k P c m, c + k = x_nc A → P < 2 ^ c → m ∈ lf (x_nc A) k P → sps A P y - SF A c y ≤ sps A m y
  | 0, P, c, m, hc, hP, hm => by
    rw [lf, List.mem_singleton] at hm
    subst hm
    rw [show c = x_nc A by omega, SF_end]
    omega
  | k + 1, P, c, m, hc, hP, hm => by
    rw [lf, List.mem_append, show x_nc A - (k + 1) = c by omega] at hm
    have e := SF_step A c y
    have w := sw_full b hP
    have w0 := sw_bd b c P
    have w1 := sw_bd b c (2 ^ c - 1)
    have co := b.2.2.2.2.2.2.2.1 c
    unfold sfg at e
    rcases hm with hm | hm
    · have h := lf_sps b j y k _ (c + 1) m (by omega) (or_lt' hP) hm
      rw [sps_or j hP (by omega)] at h
      by_cases hy : x_yr A c = y
      · rw [if_pos hy] at e h
        omega
      · rw [if_neg hy] at e h
        omega
    · have h := lf_sps b j y k _ (c + 1) m (by omega) (lt_pw hP) hm
      by_cases hy : x_yr A c = y
      · rw [if_pos hy] at e
        omega
      · rw [if_neg hy] at e
        omega
theorem lf_wsum {A : ST} (b : bd A) : ∀ k P c m, c + k = x_nc A → P < 2 ^ c → m ∈ lf (x_nc A) k P → wsum A m ≤ wsum A P + WF A c
  | 0, P, c, m, hc, hP, hm => by
    rw [lf, List.mem_singleton] at hm
    subst hm
    rw [show c = x_nc A by omega, WF_end]
    omega
  | k + 1, P, c, m, hc, hP, hm => by
    rw [lf, List.mem_append, show x_nc A - (k + 1) = c by omega] at hm
    have e := WF_step A c
    have wo := b.2.2.2.2.2.2.2.2.1 c
    rcases hm with hm | hm
    · have h := lf_wsum b k _ (c + 1) m (by omega) (or_lt' hP) hm
      rw [wsum_or hP (by omega)] at h
      omega
    · have h := lf_wsum b k _ (c + 1) m (by omega) (lt_pw hP) hm
      omega
theorem pln_ext {A : ST} {m P : Nat} : ∀ {i : Nat}, (∀ o, o < i → m.testBit o = P.testBit o) → tkm A m i = tkm A P i ∧ pln A m i = pln A P i
  | 0, _ => ⟨rfl, rfl⟩
  | i + 1, h => by
    have h0 := pln_ext (A := A) (i := i) (fun o ho => h o (by omega))
    have h1 := h i (by omega)
    simp only [tkm, pln, h0.1, h0.2, h1, and_self]
theorem tkm_tail {A : ST} {P c : Nat} (hP : P < 2 ^ c) : ∀ {i : Nat}, c ≤ i → tkm A P i = tkm A P c
  | 0, h => by rw [show c = 0 by omega]
  | i + 1, h => by
    by_cases e : c = i + 1
    · rw [e]
    · have h0 := tkm_tail (A := A) hP (i := i) (by omega)
      simp only [tkm, tb_ge hP (show c ≤ i by omega)]
      exact h0
theorem pln_tail {A : ST} {P c : Nat} (hP : P < 2 ^ c) : ∀ {i : Nat}, c ≤ i → pln A P i = pln A P c
  | 0, h => by rw [show c = 0 by omega]
  | i + 1, h => by
    by_cases e : c = i + 1
    · rw [e]
    · have h0 := pln_tail (A := A) hP (i := i) (by omega)
      simp only [pln, tb_ge hP (show c ≤ i by omega), Bool.false_and, Bool.not_false, Bool.and_true]
      exact h0
theorem cnp_sh (p : Nat → Bool) : ∀ k, cnp p (k + 1) = (if p 0 = true then 1 else 0) + cnp (fun i => p (i + 1)) k
  | 0 => by simp only [cnp]; split <;> rfl
  | k + 1 => by
    rw [cnp, cnp_sh p k]
    simp only [cnp]
    split <;> split <;> omega
theorem pcr_cnp : ∀ k m, pcr k m = cnp (fun c => m.testBit c) k
  | 0, _ => rfl
  | k + 1, m => by
    rw [cnp_sh, pcr, pcr_cnp k (m / 2)]
    have e : (fun i => m.testBit (i + 1)) = fun c => (m / 2).testBit c := by
      funext i
      rw [Nat.testBit_succ]
    rw [e, Nat.testBit_zero]
    by_cases h : m % 2 = 1
    · simp [h]
    · simp [show m % 2 = 0 by omega]
theorem cnp_mono {p p' : Nat → Bool} : ∀ {n : Nat}, (∀ i, i < n → p i = true → p' i = true) → cnp p n ≤ cnp p' n
  | 0, _ => Nat.le_refl _
  | n + 1, h => by
    have h0 := cnp_mono (n := n) (fun i hi => h i (by omega))
    have h1 := h n (by omega)
    unfold cnp
    split
    · rw [if_pos (h1 (by assumption))]
      omega
    · split <;> omega
theorem cnp_congr {p p' : Nat → Bool} : ∀ {n : Nat}, (∀ i, i < n → p i = p' i) → cnp p n = cnp p' n
  | 0, _ => rfl
  | n + 1, h => by
    unfold cnp
    rw [cnp_congr (n := n) (fun i hi => h i (by omega)), h n (by omega)]
/-- all years within limits -/
def waL (A : ST) (li : Nat → Int) (m : Nat) : Nat → Bool
  | 0 => true
  | y + 1 => waL A li m y && decide (sps A m y ≤ li y)
theorem waL_iff {A : ST} {li : Nat → Int} {m : Nat} : ∀ {n : Nat}, waL A li m n = true ↔ ∀ y, y < n → sps A m y ≤ li y
  | 0 => by simp [waL]
  | n + 1 => by
    rw [waL, Bool.and_eq_true, waL_iff (n := n), decide_eq_true_iff]
    constructor
    · rintro ⟨h1, h2⟩ y hy
      by_cases e : y = n
      · rw [e]; exact h2
      · exact h1 y (by omega)
    · intro h
      exact ⟨fun y hy => h y (by omega), h n (by omega)⟩
def gd (A : ST) (mu : Nat) (li : Nat → Int) (m : Nat) : Bool := decide (m &&& mu = mu) && pln A m (x_nc A) && waL A li m 6
def stq (A : ST) (q : QS) (z : Z4) (m : Nat) : Z4 := if (q_oe q && z.1.isSome) = true then z else if gd A (q_mu q) (q_li q) m = true then stp A q z m else z
theorem mu_iff {m mu : Nat} : m &&& mu = mu ↔ ∀ o, mu.testBit o = true → m.testBit o = true := by
  constructor
  · intro h o ho
    rw [← h, Nat.testBit_and, Bool.and_eq_true] at ho
    exact ho.1
  · intro h
    apply Nat.eq_of_testBit_eq
    intro o
    rw [Nat.testBit_and]
    cases e : mu.testBit o with
    | false => simp
    | true => simp [h o e]
/-- the path of the search is still good -/
def IP (A : ST) (mu : Nat) (li : Nat → Int) (k P : Nat) : Prop := k ≤ x_nc A ∧ P < 2 ^ (x_nc A - k) ∧ pln A P (x_nc A - k) = true ∧ (∀ o, o < x_nc A - k → mu.testBit o = true → P.testBit o = true) ∧ ∀ y, y < 6 → sps A P y - SF A (x_nc A - k) y ≤ li y
theorem ovs_eq (A : ST) (q : QS) (P c : Nat) : ovs A (pst A q P) c = decide (q_li q (x_yr A c) < sps A P (x_yr A c) - q_sf q (c + 1) (x_yr A c)) := by simp only [ovs, ps_li, ps_sp, ps_sf]
theorem SR_pure {A : ST} (b : bd A) (j : jy A) {q : QS} (hsf : ∀ a y, a ≤ x_nc A → y < 6 → q_sf q a y = SF A a y) (hwf : ∀ c, c ≤ x_nc A → q_wf q c = WF A c) (hmu : q_mu q < 2 ^ x_nc A) (hli : ∀ y, 0 ≤ q_li q y) (N : Nat) (z : Z4) :
    SR A q N (x_nc A) 0 0 z = ((lf (x_nc A) (x_nc A) 0).take N).foldl (stq A q) z := by
  have h6 := b.2.2.2.2.1
  have iW : ∀ k P, IP A (q_mu q) (q_li q) (k + 1) P → bdW A q (k + 1) P = false → IP A (q_mu q) (q_li q) k (P ||| 2 ^ (x_nc A - (k + 1))) := by
    intro k P hI hb
    obtain ⟨c, hc⟩ : ∃ c, x_nc A - (k + 1) = c := ⟨_, rfl⟩
    have hk : x_nc A - k = c + 1 := by have := hI.1; omega
    unfold bdW at hb
    unfold IP at hI ⊢
    rw [hc] at hb hI ⊢
    rw [hk]
    rw [Bool.or_eq_false_iff, ovs_eq, decide_eq_false_iff_not] at hb
    obtain ⟨k1, hP, hp, hm, hs⟩ := hI
    have hsf1 := hsf (c + 1) (x_yr A c) (by omega) (h6 c)
    refine ⟨by omega, or_lt' hP, ?_, ?_, ?_⟩
    · have e := pln_ext (A := A) (m := P ||| 2 ^ c) (P := P) (i := c) (fun o ho => by rw [tb_or]; simp [show ¬ c = o by omega])
      rw [tkm_tail hP (by omega)] at hb
      simp only [pln, e.1, e.2, hp, hb.1, Bool.and_false, Bool.not_false, Bool.and_true]
    · intro o ho ht
      rw [tb_or]
      by_cases e : c = o
      · simp [e]
      · rw [hm o (by omega) ht]; rfl
    · intro y hy
      by_cases e : x_yr A c = y
      · subst e
        rw [hsf1] at hb
        omega
      · rw [sps_or j hP (by omega), if_neg e]
        have h1 := hs y hy
        rw [SF_step] at h1
        unfold sfg at h1
        rw [if_neg e] at h1
        omega
  have iO : ∀ k P, IP A (q_mu q) (q_li q) (k + 1) P → bdO A q (k + 1) P = false → IP A (q_mu q) (q_li q) k P := by
    intro k P hI hb
    obtain ⟨c, hc⟩ : ∃ c, x_nc A - (k + 1) = c := ⟨_, rfl⟩
    have hk : x_nc A - k = c + 1 := by have := hI.1; omega
    unfold bdO at hb
    unfold IP at hI ⊢
    rw [hc] at hb hI
    rw [hk]
    rw [Bool.or_eq_false_iff, ovs_eq, decide_eq_false_iff_not] at hb
    obtain ⟨k1, hP, hp, hm, hs⟩ := hI
    have hsf1 := hsf (c + 1) (x_yr A c) (by omega) (h6 c)
    refine ⟨by omega, lt_pw hP, ?_, ?_, ?_⟩
    · rw [pln_tail hP (by omega)]; exact hp
    · intro o ho ht
      by_cases e : c = o
      · rw [← e, hb.1] at ht; cases ht
      · exact hm o (by omega) ht
    · intro y hy
      by_cases e : x_yr A c = y
      · subst e
        rw [hsf1] at hb
        omega
      · have h1 := hs y hy
        rw [SF_step] at h1
        unfold sfg at h1
        rw [if_neg e] at h1
        omega
  have bad : ∀ m z, gd A (q_mu q) (q_li q) m = false → stq A q z m = z := by
    intro m z h
    unfold stq
    split
    · rfl
    · rw [if_neg (by rw [h]; decide)]
  have notL : ∀ m y, y < 6 → ¬ sps A m y ≤ q_li q y → gd A (q_mu q) (q_li q) m = false := by
    intro m y hy h
    have : waL A (q_li q) m 6 = false := by
      rw [← Bool.not_eq_true, waL_iff]
      exact fun e => h (e y hy)
    simp [gd, this]
  have hW : ∀ k P, IP A (q_mu q) (q_li q) (k + 1) P → bdW A q (k + 1) P = true → ∀ m ∈ lf (x_nc A) k (P ||| 2 ^ (x_nc A - (k + 1))), ∀ z, stq A q z m = z := by
    intro k P hI hb m hm z
    apply bad
    obtain ⟨c, hc⟩ : ∃ c, x_nc A - (k + 1) = c := ⟨_, rfl⟩
    have hk : c + 1 + k = x_nc A := by have := hI.1; omega
    unfold bdW at hb
    unfold IP at hI
    rw [hc] at hb hI hm
    rw [Bool.or_eq_true, ovs_eq, decide_eq_true_iff] at hb
    obtain ⟨k1, hP, hp, hmm, hs⟩ := hI
    have hbits := lf_bits k _ (c + 1) m hk (or_lt' hP) hm
    rcases hb with hb | hb
    · have e1 : pln A m (c + 1) = false := by
        have e := pln_ext (A := A) (m := m) (P := P) (i := c) (fun o ho => by rw [hbits.2 o (by omega), tb_or]; simp [show ¬ c = o by omega])
        have e3 := hbits.2 c (by omega)
        rw [tb_or] at e3
        rw [tkm_tail hP (by omega)] at hb
        simp only [pln, e.1, hb, e3]
        simp
      have e2 := pln_mono (n := x_nc A) (by omega) e1
      simp [gd, e2]
    · have h := lf_sps b j (x_yr A c) k _ (c + 1) m hk (or_lt' hP) hm
      rw [hsf (c + 1) (x_yr A c) (by omega) (h6 c)] at hb
      exact notL m _ (h6 c) (by omega)
  have hO : ∀ k P, IP A (q_mu q) (q_li q) (k + 1) P → bdO A q (k + 1) P = true → ∀ m ∈ lf (x_nc A) k P, ∀ z, stq A q z m = z := by
    intro k P hI hb m hm z
    apply bad
    obtain ⟨c, hc⟩ : ∃ c, x_nc A - (k + 1) = c := ⟨_, rfl⟩
    have hk : c + 1 + k = x_nc A := by have := hI.1; omega
    unfold bdO at hb
    unfold IP at hI
    rw [hc] at hb hI
    rw [Bool.or_eq_true, ovs_eq, decide_eq_true_iff] at hb
    obtain ⟨k1, hP, hp, hmm, hs⟩ := hI
    have hbits := lf_bits k _ (c + 1) m hk (lt_pw hP) hm
    rcases hb with hb | hb
    · have e1 : m.testBit c = false := by rw [hbits.2 c (by omega), tb_ge hP (Nat.le_refl _)]
      have e2 : ¬ m &&& q_mu q = q_mu q := fun e => by
        have := mu_iff.mp e c hb
        rw [e1] at this; cases this
      simp [gd, e2]
    · have h := lf_sps b j (x_yr A c) k _ (c + 1) m hk (lt_pw hP) hm
      rw [hsf (c + 1) (x_yr A c) (by omega) (h6 c)] at hb
      exact notL m _ (h6 c) (by omega)
  have hH : ∀ k P z, IP A (q_mu q) (q_li q) k P → True → hopf A q k P z = true → ∀ m ∈ lf (x_nc A) k P, stq A q z m = z := by
    intro k P z hI _ hb m hm
    obtain ⟨c, hc⟩ : ∃ c, x_nc A - k = c := ⟨_, rfl⟩
    have hk : c + k = x_nc A := by have := hI.1; omega
    unfold hopf at hb
    unfold IP at hI
    rw [hc] at hb hI
    obtain ⟨k1, hP, hp, hmm, hs⟩ := hI
    have hbits := lf_bits k _ c m hk hP hm
    unfold hpl chg at hb
    simp only [ps_be, ps_oe, ps_bc, ps_pk, ps_od, ps_cm, ps_ga, ps_wf, ps_bw, zq_be, zq_oe, zq_bc, zq_od, zq_cm, zq_wf, zq_bw] at hb
    rw [hwf c (by omega)] at hb
    have hw := lf_wsum b k _ c m hk hP hm
    rw [Bool.and_eq_true] at hb
    have hn : z.1.isNone = false := by
      cases e : z.1 with
      | none => rw [e] at hb; cases hb.1
      | some v => rfl
    unfold stq
    by_cases h1 : (q_oe q && z.1.isSome) = true
    · rw [if_pos h1]
    · rw [if_neg h1]
      have hoe : q_oe q = false := by
        cases e : q_oe q with
        | false => rfl
        | true => exact absurd (by rw [e, hb.1]; rfl) h1
      split
      · unfold stp
        have hle : pcr 14 (((P ^^^ q_od q) &&& q_cm q) &&& (2 ^ c - 1)) ≤ pcr 14 (((m ^^^ q_od q) &&& q_cm q) &&& q_cm q) := by
          rw [pcr_cnp, pcr_cnp]
          refine cnp_mono (fun o _ ho => ?_)
          simp only [Nat.testBit_and, Nat.testBit_xor, Nat.testBit_two_pow_sub_one, Bool.and_eq_true, decide_eq_true_iff] at ho ⊢
          rw [hbits.2 o ho.2]
          exact ⟨ho.1, ho.1.2⟩
        have hf : isb (pst A (zq q z) m) (chg (pst A (zq q z) m) (q_cm q)) = false := by
          unfold isb chg
          simp only [ps_bc, ps_pk, ps_od, ps_cm, ps_ga, ps_bw, ps_sy, ps_bs, zq_bc, zq_od, zq_cm, zq_bw, zq_bs]
          rw [hoe, Bool.false_or, Bool.or_eq_true, Bool.and_eq_true, decide_eq_true_iff, decide_eq_true_iff, decide_eq_true_iff] at hb
          rcases hb.2 with h2 | h2
          · rw [if_neg (by omega), decide_eq_false_iff_not]
            omega
          · by_cases h3 : pcr 14 (((m ^^^ q_od q) &&& q_cm q) &&& q_cm q) = z.2.1
            · rw [if_pos h3, if_neg (by omega), decide_eq_false_iff_not]
              omega
            · rw [if_neg h3, decide_eq_false_iff_not]
              omega
        rw [hn, hf]
        simp
      · rfl
  have hI0 : IP A (q_mu q) (q_li q) (x_nc A) 0 := by
    refine ⟨Nat.le_refl _, Nat.two_pow_pos _, by rw [Nat.sub_self]; rfl, fun o ho => by omega, fun y hy => ?_⟩
    rw [sps_0, Nat.sub_self]
    have h1 := hli y
    have h2 : 0 ≤ SF A 0 y := by
      have h0 := sm_le (n := x_nc A) (f := sfg A y) (a := 0) (b := 14000000) (fun i _ => by
        have := sw_bd b i (2 ^ i - 1)
        unfold sfg
        split <;> omega)
      unfold SF
      simp only [sm]
      omega
    omega
  unfold SR
  rw [sr_step (IP A (q_mu q) (q_li q)) iW iO (step' := stq A q) ?_ _ _ _ _ hI0, sr_fold (IP A (q_mu q) (q_li q)) (fun _ => True) (fun _ _ _ => trivial) hW iW hO iO hH _ _ _ _ hI0 trivial, Nat.sub_zero]
  intro P z hI hh
  unfold IP at hI
  rw [Nat.sub_zero] at hI
  obtain ⟨k1, hP, hp, hmm, hs⟩ := hI
  have e1 : gd A (q_mu q) (q_li q) P = true := by
    have e2 : P &&& q_mu q = q_mu q := mu_iff.mpr (fun o ho => by
      by_cases h : o < x_nc A
      · exact hmm o h ho
      · rw [tb_ge hmu (by omega)] at ho; cases ho)
    have e3 : waL A (q_li q) P 6 = true := waL_iff.mpr (fun y hy => by
      have := hs y hy
      rw [SF_end] at this
      omega)
    simp [gd, e2, hp, e3]
  have e2 : (q_oe q && z.1.isSome) = false := by
    unfold hopf hpl at hh
    simp only [ps_be, ps_oe, zq_be, zq_oe] at hh
    cases ho : q_oe q with
    | false => rfl
    | true =>
      rw [ho] at hh
      simpa using hh
  unfold stq
  rw [if_neg (by rw [e2]; decide), if_pos e1]
