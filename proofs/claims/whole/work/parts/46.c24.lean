/-! CONTRACTS 24: share, policy, compare, list of the class -/
theorem lZ_rem {a c : Nat} (ha : a < 4611686018427387904) (hc : 0 < c) (hc2 : c < 4611686018427387904) : lZ (a : Int) - lZ (a : Int) / lZ (c : Int) * lZ (c : Int) = lZ ((a % c : Nat) : Int) := by
  rw [lZ_div (by omega) (by omega) (by omega) (by omega), lZ_mul, lZ_sub]
  congr 1
  have h := Nat.div_add_mod a c
  have h2 : ((a / c : Nat) : Int) * (c : Int) + ((a % c : Nat) : Int) = (a : Int) := by
    rw [← Int.natCast_mul, ← Int.natCast_add, Nat.mul_comm]
    exact congrArg _ h
  have h3 : ((a : Int) / (c : Int)) = ((a / c : Nat) : Int) := rfl
  rw [h3]
  omega
theorem gcd_step {g l : Nat} : Nat.gcd g l = Nat.gcd l (g % l) := by rw [Nat.gcd_comm g l, Nat.gcd_rec l g, Nat.gcd_comm]
theorem euc_half {g l : Nat} (h : l ≤ g) (hl : 0 < l) : 2 * (l * (g % l)) ≤ g * l := by
  have h1 : g % l < l := Nat.mod_lt _ hl
  have h2 : g % l + l ≤ g := by
    have h3 := Nat.div_add_mod g l
    have h4 : 1 ≤ g / l := (Nat.one_le_div_iff hl).mpr h
    have h5 : l * 1 ≤ l * (g / l) := Nat.mul_le_mul_left l h4
    omega
  have h6 : 2 * (g % l) ≤ g := by omega
  calc 2 * (l * (g % l)) = l * (2 * (g % l)) := by rw [Nat.mul_left_comm]
    _ ≤ l * g := Nat.mul_le_mul_left l h6
    _ = g * l := Nat.mul_comm _ _
theorem euc_0 {g l : Nat} (h : l ≤ g) (h2 : g * l < 2 ^ 0) : l = 0 := by
  cases l with
  | zero => rfl
  | succ l =>
    exfalso
    have h3 : 1 * 1 ≤ g * (l + 1) := Nat.mul_le_mul (by omega) (by omega)
    simp at h2 h3
    omega
theorem l_B_greatestDivisor (sc : am_S) (h : List am_C) (v w : Int64) : ∀ (n i : Nat), 100 - i = n → i ≤ 100 → ∀ (g l : Nat), l ≤ g → g < 4611686018427387904 → g * l < 2 ^ n → ∀ u : Option Value, AW sc m_B_greatestDivisor 0 9 [some (.long v), none, some (.long w), none, some (.long (lZ (g : Int))), none, some (.long (lZ (l : Int))), none, some (.int (nI i)), none, none] [] h (some (.long (lZ ((Nat.gcd g l : Nat) : Int)))) h := by
  intro n
  induction n with
  | zero =>
    intro i hn hi g l hl hg hp u
    have e0 := euc_0 hl hp
    subst e0
    refine aw_iload q_B_greatestDivisor_9 rfl ?_
    refine aw_bipush 100 q_B_greatestDivisor_11 rfl ?_
    refine aw_icmp_ge 44 q_B_greatestDivisor_13 rfl (fun c13 => ?_) (fun c13 => ?_)
    · skip
      refine aw_lload q_B_greatestDivisor_44 rfl ?_
      exact aw_lret q_B_greatestDivisor_46 rfl (by rw [Nat.gcd_zero_right]) rfl
    · skip
      exact absurd (show (100 : Int32) ≤ nI i by rw [show i = 100 by omega]; decide) c13
  | succ n ih =>
    intro i hn hi g l hl hg hp u
    have hi2 : i < 100 := by omega
    refine aw_iload q_B_greatestDivisor_9 rfl ?_
    refine aw_bipush 100 q_B_greatestDivisor_11 rfl ?_
    refine aw_icmp_ge 44 q_B_greatestDivisor_13 rfl (fun c13 => ?_) (fun c13 => ?_)
    · skip
      refine aw_lload q_B_greatestDivisor_44 rfl ?_
      exact absurd ((nI_leI (by omega) (by omega)).mp (show nI 100 ≤ nI i from c13)) (by omega)
    · skip
      have e16 : i < 100 := hi2
      refine aw_lload q_B_greatestDivisor_16 rfl ?_
      refine aw_lconst (lZ 0) q_B_greatestDivisor_18 rfl ?_
      refine aw_lcmp_eq 44 q_B_greatestDivisor_19 q_B_greatestDivisor_20 rfl (fun c19 => ?_) (fun c19 => ?_)
      · skip
        refine aw_lload q_B_greatestDivisor_44 rfl ?_
        exact aw_lret q_B_greatestDivisor_46 rfl (by rw [show l = 0 from by have := (lZ_eq (a := (l : Int)) (b := 0) (by omega) (by omega)).mp c19; omega, Nat.gcd_zero_right]) rfl
      · skip
        have hl0 : ¬ l = 0 := fun e => c19 (by rw [e]; rfl)
        have hl1 : ¬ lZ (l : Int) = 0 := fun e => c19 (by rw [e]; rfl)
        refine aw_lload q_B_greatestDivisor_23 rfl ?_
        refine aw_lload q_B_greatestDivisor_25 rfl ?_
        refine aw_lrem q_B_greatestDivisor_27 (by assumption) ?_
        rw [lZ_rem hg (by omega) (by omega)]
        refine aw_lstore q_B_greatestDivisor_28 rfl rfl ?_
        refine aw_lload q_B_greatestDivisor_30 rfl ?_
        refine aw_lstore q_B_greatestDivisor_32 rfl rfl ?_
        refine aw_lload q_B_greatestDivisor_34 rfl ?_
        refine aw_lstore q_B_greatestDivisor_36 rfl rfl ?_
        first | refine aw_iinc _ q_B_greatestDivisor_38 rfl (am_inc _) rfl rfl ?_ | refine aw_iinc _ q_B_greatestDivisor_38 rfl rfl rfl rfl ?_
        refine aw_goto 9 q_B_greatestDivisor_41 rfl ?_
        refine aw_kill [9] ?_
        rw [gcd_step]
        have h8 := euc_half hl (by omega)
        exact ih (i + 1) (by omega) (by omega) l (g % l) (Nat.le_of_lt (Nat.mod_lt _ (by omega))) (by omega) (by rw [Nat.pow_succ] at hp; omega) none
theorem c_B_greatestDivisor (sc : am_S) (h : List am_C) (g l : Nat) (hl : l ≤ g) (hg : g ≤ 14000000) : AM sc m_B_greatestDivisor 0 [.long (lZ (g : Int)), .long (lZ (l : Int))] h (some (.long (lZ ((Nat.gcd g l : Nat) : Int)))) h := by
  refine AM.of (by decide) (Nat.le_of_ble_eq_true rfl) ?_
  show AW sc m_B_greatestDivisor 0 0 [some (.long (lZ (g : Int))), none, some (.long (lZ (l : Int))), none, none, none, none, none, none, none, none] [] _ _ _
  refine aw_lload_n 0 q_B_greatestDivisor_0 rfl rfl ?_
  refine aw_lstore q_B_greatestDivisor_1 rfl rfl ?_
  refine aw_lload_n 2 q_B_greatestDivisor_3 rfl rfl ?_
  refine aw_lstore q_B_greatestDivisor_4 rfl rfl ?_
  refine aw_iconst 0 q_B_greatestDivisor_6 rfl ?_
  refine aw_istore q_B_greatestDivisor_7 rfl rfl ?_
  exact l_B_greatestDivisor sc h _ _ 100 0 rfl (by omega) g l hl (by omega) (Nat.lt_of_le_of_lt (Nat.mul_le_mul hg (Nat.le_trans hl hg)) (by decide)) none
theorem dsum_le {A : ST} (b : bd A) (m d : Nat) : dsum A m d ≤ wsum A m := by
  unfold dsum wsum
  refine sm_mono (fun i _ => ?_)
  have := b.2.2.2.2.2.2.2.2.1 i
  by_cases h1 : m.testBit i = true
  · by_cases h2 : x_di A (x_th A i) = d
    · simp [h1, h2]
    · simp [h1, h2]; omega
  · simp [h1]
def shv (A : ST) (m d p : Nat) : Int := if Nat.gcd (wsum A m).toNat (dsum A m d).toNat = 0 then (p : Int) else if p = 0 then dsum A m d / (Nat.gcd (wsum A m).toNat (dsum A m d).toNat : Nat) else wsum A m / (Nat.gcd (wsum A m).toNat (dsum A m d).toNat : Nat)
theorem c_B_share_no (sc : am_S) (A : ST) (q : QS) (D : ST) (t : TS) (x z : Int32) (hp1 : pn14 A) (hx : ¬ ((¬ x < 0 ∧ ¬ 4 ≤ x) ∧ (¬ z < 0 ∧ ¬ 1 < z) ∧ x_pn A ≠ none)) : AM sc m_B_share 2 [.ref 1, .int x, .int z] (hp A q D t) (some (.long (lZ (-1)))) (hp A q D t) := by
  refine AM.of (by decide) (Nat.le_of_ble_eq_true rfl) ?_
  show AW sc m_B_share 2 0 [some (.ref 1), some (.int x), some (.int z), none, none, none, none, none, none] [] _ _ _
  refine aw_iload_n 1 q_B_share_0 rfl rfl ?_
  refine aw_S1 q_B_share_1 st_B_110 (by omega) (Nat.le_of_ble_eq_true rfl) (c_B_isDistrict _ _ _) ?_
  refine aw_if_eq 24 q_B_share_4 rfl (fun c4 => ?_) (fun c4 => ?_)
  · skip
    refine aw_ldc2 (lZ (-1)) q_B_share_24 (am_in2 (i := 67) rfl rfl) ?_
    exact aw_lret q_B_share_27 rfl rfl rfl
  · skip
    refine aw_iload_n 2 q_B_share_7 rfl rfl ?_
    refine aw_if_lt 24 q_B_share_8 rfl (fun c8 => ?_) (fun c8 => ?_)
    · skip
      refine aw_ldc2 (lZ (-1)) q_B_share_24 (am_in2 (i := 67) rfl rfl) ?_
      exact aw_lret q_B_share_27 rfl rfl rfl
    · skip
      refine aw_iload_n 2 q_B_share_11 rfl rfl ?_
      refine aw_iconst 1 q_B_share_12 rfl ?_
      refine aw_icmp_gt 24 q_B_share_13 rfl (fun c13 => ?_) (fun c13 => ?_)
      · skip
        refine aw_ldc2 (lZ (-1)) q_B_share_24 (am_in2 (i := 67) rfl rfl) ?_
        exact aw_lret q_B_share_27 rfl rfl rfl
      · skip
        refine aw_aload_n 0 q_B_share_16 rfl rfl ?_
        refine aw_get 4 q_B_share_17 fl_B_50 rfl rfl ?_
        refine aw_iconst (-1) q_B_share_20 rfl ?_
        refine aw_icmp_ne 28 q_B_share_21 rfl (fun c21 => ?_) (fun c21 => ?_)
        · skip
          exact (hx ⟨of_decide_eq_true (zI_n0.mp c4), ⟨c8, c13⟩, fun e => c21 ((pn_eq hp1).mpr e)⟩).elim
        · skip
          refine aw_ldc2 (lZ (-1)) q_B_share_24 (am_in2 (i := 67) rfl rfl) ?_
          exact aw_lret q_B_share_27 rfl rfl rfl
theorem c_B_share (sc : am_S) (A : ST) (q : QS) (D : ST) (t : TS) (dd p m : Nat) (b : bd A) (hd : dd < 4) (hp0 : p < 2) (hp1 : x_pn A = some m) (hm : m < 16384) : AM sc m_B_share 2 [.ref 1, .int (nI dd), .int (nI p)] (hp A q D t) (some (.long (lZ (shv A m dd p)))) (hp A q D t) := by
  refine AM.of (by decide) (Nat.le_of_ble_eq_true rfl) ?_
  show AW sc m_B_share 2 0 [some (.ref 1), some (.int (nI dd)), some (.int (nI p)), none, none, none, none, none, none] [] _ _ _
  have hw := wsum_bd b m
  have hv := dsum_bd b m dd
  have hle := dsum_le b m dd
  obtain ⟨g, hg⟩ : ∃ g : Nat, wsum A m = (g : Int) := Int.eq_ofNat_of_zero_le hw.1
  obtain ⟨l, hl⟩ : ∃ l : Nat, dsum A m dd = (l : Int) := Int.eq_ofNat_of_zero_le hv.1
  have e1 : shv A m dd p = if Nat.gcd g l = 0 then (p : Int) else if p = 0 then (l : Int) / (Nat.gcd g l : Nat) else (g : Int) / (Nat.gcd g l : Nat) := by
    unfold shv
    rw [hg, hl]
    rfl
  rw [e1]
  have hgl : Nat.gcd g l ≤ 28000000 := by
    by_cases h0 : g = 0
    · rw [h0, Nat.gcd_zero_left]; omega
    · have := Nat.gcd_le_left l (m := g) (by omega); omega
  refine aw_iload_n 1 q_B_share_0 rfl rfl ?_
  refine aw_S1 q_B_share_1 st_B_110 (by omega) (Nat.le_of_ble_eq_true rfl) (c_B_isDistrict _ _ _) ?_
  refine aw_if_eq 24 q_B_share_4 rfl (fun c4 => ?_) (fun c4 => ?_)
  · skip
    first
      | exact absurd (zI_0.mp c4) (by simp only [decide_eq_false_iff_not, Classical.not_not]; exact ⟨fun e => by have := (nI_ltI (b := 0) (by omega) (by omega)).mp e; omega, fun e => by have := (nI_leI (a := 4) (by omega) (by omega)).mp e; omega⟩)
      | exact absurd ((nI_ltI (b := 0) (by omega) (by omega)).mp c8) (by omega)
      | exact absurd ((nI_ltI (a := 1) (by omega) (by omega)).mp c13) (by omega)
      | exact absurd (((pn_eq (fun m' e => by rw [hp1] at e; cases e; exact hm)).mp c21).symm.trans hp1) (by simp)
  · skip
    refine aw_iload_n 2 q_B_share_7 rfl rfl ?_
    refine aw_if_lt 24 q_B_share_8 rfl (fun c8 => ?_) (fun c8 => ?_)
    · skip
      first
        | exact absurd (zI_0.mp c4) (by simp only [decide_eq_false_iff_not, Classical.not_not]; exact ⟨fun e => by have := (nI_ltI (b := 0) (by omega) (by omega)).mp e; omega, fun e => by have := (nI_leI (a := 4) (by omega) (by omega)).mp e; omega⟩)
        | exact absurd ((nI_ltI (b := 0) (by omega) (by omega)).mp c8) (by omega)
        | exact absurd ((nI_ltI (a := 1) (by omega) (by omega)).mp c13) (by omega)
        | exact absurd (((pn_eq (fun m' e => by rw [hp1] at e; cases e; exact hm)).mp c21).symm.trans hp1) (by simp)
    · skip
      refine aw_iload_n 2 q_B_share_11 rfl rfl ?_
      refine aw_iconst 1 q_B_share_12 rfl ?_
      refine aw_icmp_gt 24 q_B_share_13 rfl (fun c13 => ?_) (fun c13 => ?_)
      · skip
        first
          | exact absurd (zI_0.mp c4) (by simp only [decide_eq_false_iff_not, Classical.not_not]; exact ⟨fun e => by have := (nI_ltI (b := 0) (by omega) (by omega)).mp e; omega, fun e => by have := (nI_leI (a := 4) (by omega) (by omega)).mp e; omega⟩)
          | exact absurd ((nI_ltI (b := 0) (by omega) (by omega)).mp c8) (by omega)
          | exact absurd ((nI_ltI (a := 1) (by omega) (by omega)).mp c13) (by omega)
          | exact absurd (((pn_eq (fun m' e => by rw [hp1] at e; cases e; exact hm)).mp c21).symm.trans hp1) (by simp)
      · skip
        refine aw_aload_n 0 q_B_share_16 rfl rfl ?_
        refine aw_get 4 q_B_share_17 fl_B_50 rfl rfl ?_
        refine aw_iconst (-1) q_B_share_20 rfl ?_
        refine aw_icmp_ne 28 q_B_share_21 rfl (fun c21 => ?_) (fun c21 => ?_)
        · skip
          refine aw_aload_n 0 q_B_share_28 rfl rfl ?_
          refine aw_get 0 q_B_share_29 fl_B_23 rfl rfl ?_
          refine aw_aload_n 0 q_B_share_32 rfl rfl ?_
          refine aw_get 4 q_B_share_33 fl_B_50 rfl rfl ?_
          simp only [hp1]
          rw [show pI (some m) = nI m from rfl]
          refine aw_V1 q_B_share_36 st_B_144 rfl (by omega) (Nat.le_of_ble_eq_true rfl) (c_W_worthOfPlan _ _ _ _ _ _ b hm) ?_
          rw [hg]
          refine aw_lstore_n 3 q_B_share_39 rfl rfl rfl ?_
          refine aw_aload_n 0 q_B_share_40 rfl rfl ?_
          refine aw_get 0 q_B_share_41 fl_B_23 rfl rfl ?_
          refine aw_aload_n 0 q_B_share_44 rfl rfl ?_
          refine aw_get 4 q_B_share_45 fl_B_50 rfl rfl ?_
          simp only [hp1]
          rw [show pI (some m) = nI m from rfl]
          refine aw_iload_n 1 q_B_share_48 rfl rfl ?_
          refine aw_V2 q_B_share_49 st_B_199 rfl (by omega) (Nat.le_of_ble_eq_true rfl) (c_W_worthOfDistrict _ _ _ _ _ _ _ b hm hd) ?_
          rw [hl]
          refine aw_lstore q_B_share_52 rfl rfl ?_
          refine aw_lload_n 3 q_B_share_54 rfl rfl ?_
          refine aw_lload q_B_share_55 rfl ?_
          refine aw_S2 q_B_share_57 st_B_202 (by omega) (Nat.le_of_ble_eq_true rfl) (c_B_greatestDivisor _ _ g l (by omega) (by omega)) ?_
          refine aw_lstore q_B_share_60 rfl rfl ?_
          refine aw_lload q_B_share_62 rfl ?_
          refine aw_lconst (lZ 0) q_B_share_64 rfl ?_
          refine aw_lcmp_ne 72 q_B_share_65 q_B_share_66 rfl (fun c65 => ?_) (fun c65 => ?_)
          · skip
            have h0 : ¬ Nat.gcd g l = 0 := fun e => c65 (by rw [e]; rfl)
            have h1 : ¬ lZ ((Nat.gcd g l : Nat) : Int) = 0 := fun e => c65 (by rw [e]; rfl)
            refine aw_iload_n 2 q_B_share_72 rfl rfl ?_
            refine aw_if_ne 84 q_B_share_73 rfl (fun c73 => ?_) (fun c73 => ?_)
            · skip
              refine aw_lload_n 3 q_B_share_84 rfl rfl ?_
              refine aw_lload q_B_share_85 rfl ?_
              refine aw_ldiv q_B_share_87 (by assumption) ?_
              first
                | (rw [lZ_div (by omega) (by omega) (by omega) (by omega)]
                   have hp2 : ¬ p = 0 := nI_ne (b := 0) (by omega) (by omega) c73)
                | skip
              exact aw_lret q_B_share_88 rfl (by rw [if_neg h0, if_neg hp2]) rfl
            · skip
              refine aw_lload q_B_share_76 rfl ?_
              refine aw_lload q_B_share_78 rfl ?_
              refine aw_ldiv q_B_share_80 (by assumption) ?_
              rw [lZ_div (by omega) (by omega) (by omega) (by omega)]
              have hp2 : p = 0 := nI_eq' (b := 0) (by omega) (by omega) c73
              refine aw_goto 88 q_B_share_81 rfl ?_
              first
                | (rw [lZ_div (by omega) (by omega) (by omega) (by omega)]
                   have hp2 : ¬ p = 0 := nI_ne (b := 0) (by omega) (by omega) c73)
                | skip
              exact aw_lret q_B_share_88 rfl (by rw [if_neg h0, if_pos hp2]) rfl
          · skip
            have h0 : Nat.gcd g l = 0 := by have := (lZ_eq (a := (Nat.gcd g l : Nat)) (b := 0) (by omega) (by omega)).mp c65; omega
            refine aw_iload_n 2 q_B_share_69 rfl rfl ?_
            refine aw_i2l q_B_share_70 ?_
            exact aw_lret q_B_share_71 rfl (by rw [if_pos h0, nI_l (by omega)]; rfl) rfl
        · skip
          first
            | exact absurd (zI_0.mp c4) (by simp only [decide_eq_false_iff_not, Classical.not_not]; exact ⟨fun e => by have := (nI_ltI (b := 0) (by omega) (by omega)).mp e; omega, fun e => by have := (nI_leI (a := 4) (by omega) (by omega)).mp e; omega⟩)
            | exact absurd ((nI_ltI (b := 0) (by omega) (by omega)).mp c8) (by omega)
            | exact absurd ((nI_ltI (a := 1) (by omega) (by omega)).mp c13) (by omega)
            | exact absurd (((pn_eq (fun m' e => by rw [hp1] at e; cases e; exact hm)).mp c21).symm.trans hp1) (by simp)
/-- a plan by a policy -/
def pbo (A : ST) (q : QS) (x : Int32) : Option Nat := if (¬ x < 0 ∧ ¬ 3 ≤ x) ∧ psb A (x_mu A) = true then some (pbm A (orf A x.toNatClampNeg (q_or q) (x_nc A)) (x_nc A)) else none
def pbq (A : ST) (q : QS) (x : Int32) : QS := if (¬ x < 0 ∧ ¬ 3 ≤ x) ∧ psb A (x_mu A) = true then q_s_or q (orf A x.toNatClampNeg (q_or q) (x_nc A)) else q
theorem pbq_rst {A : ST} (b : bd A) {q : QS} (r : rst q) (x : Int32) : rst (pbq A q x) := by
  unfold pbq
  split
  · exact ⟨r.1, r.2.1, r.2.2.1, r.2.2.2.1, r.2.2.2.2.1, r.2.2.2.2.2.1, r.2.2.2.2.2.2.1, r.2.2.2.2.2.2.2.1, r.2.2.2.2.2.2.2.2.1, orf_lt b r.2.2.2.2.2.2.2.2.2 _ (Nat.le_refl _)⟩
  · exact r
theorem pbq_sq (A : ST) (q : QS) (x : Int32) : sq q (pbq A q x) := by
  unfold pbq
  split
  · exact ⟨rfl, rfl, rfl, rfl⟩
  · exact sq_rf q
theorem pbo_lt {A : ST} (b : bd A) {q : QS} (r : rst q) {x : Int32} {m : Nat} (h : pbo A q x = some m) : m < 16384 := by
  unfold pbo at h
  split at h
  · cases h
    exact pbm_lt b (orf_lt b r.2.2.2.2.2.2.2.2.2 _ (Nat.le_refl _)) _
  · cases h
theorem e_P_planBy (sc : am_S) (A : ST) (q : QS) (D : ST) (t : TS) (x : Int32) (b : bd A) (r : rst q) : AM sc m_P_planBy 5 [.ref 48, .int x] (hp A q D t) (some (.int (pI (pbo A q x)))) (hp A (pbq A q x) D t) := by
  by_cases h1 : ¬ x < 0 ∧ ¬ 3 ≤ x
  · obtain ⟨k, hk, rfl⟩ := nI_of (x := x) (by simpa using h1.1)
    have hk3 : k < 3 := by
      have := mt (nI_leI (a := 3) (b := k) (by omega) (by omega)).mpr h1.2
      omega
    cases h2 : psb A (x_mu A) with
    | true =>
      have g := c_P_planBy sc A q D t k b hk3 h2 r.2.2.2.2.2.2.2.2.2
      have e1 : pbo A q (nI k) = some (pbm A (orf A k (q_or q) (x_nc A)) (x_nc A)) := by
        unfold pbo
        rw [if_pos ⟨h1, h2⟩, nI_clamp (by omega)]
      have e2 : pbq A q (nI k) = q_s_or q (orf A k (q_or q) (x_nc A)) := by
        unfold pbq
        rw [if_pos ⟨h1, h2⟩, nI_clamp (by omega)]
      rw [e1, e2]
      exact g
    | false =>
      have g := c_P_planBy_no sc A q D t k b hk3 h2
      have e1 : pbo A q (nI k) = none := by
        unfold pbo
        rw [if_neg (by rw [h2]; simp)]
      have e2 : pbq A q (nI k) = q := by
        unfold pbq
        rw [if_neg (by rw [h2]; simp)]
      rw [e1, e2]
      exact g
  · have g := c_P_planBy_bad sc A q D t x (by
      by_cases h3 : x < 0
      · exact Or.inl h3
      · exact Or.inr (Classical.not_not.mp (fun h4 => h1 ⟨h3, h4⟩)))
    have e1 : pbo A q x = none := by
      unfold pbo
      rw [if_neg (fun h => h1 h.1)]
    have e2 : pbq A q x = q := by
      unfold pbq
      rw [if_neg (fun h => h1 h.1)]
    rw [e1, e2]
    exact g
def plv (A : ST) (o : Option Nat) : Int32 := match o with
  | none => -1
  | some m => (lZ (wsum A m)).toInt32
def cmv (A : ST) (o o' : Option Nat) : Int := match o, o' with
  | some m, some n => wsum A m - wsum A n
  | _, _ => -1
theorem wsum_pn (A : ST) (o : Option Nat) (m : Nat) : wsum (x_s_pn A o) m = wsum A m := rfl
theorem c_B_policy (sc : am_S) (A : ST) (q : QS) (D : ST) (t : TS) (x : Int32) (b : bd A) (r : rst q) : AM sc m_B_policy 6 [.ref 1, .int x] (hp A q D t) (some (.int (plv A (pbo A q x)))) (hp (x_s_pn A (pbo A q x)) (pbq A q x) D t) := by
  refine AM.of (by decide) (Nat.le_of_ble_eq_true rfl) ?_
  show AW sc m_B_policy 6 0 [some (.ref 1), some (.int x)] [] _ _ _
  have e0 := pI_eq (o := pbo A q x) (fun m h => by have := pbo_lt b r h; omega)
  refine aw_aload_n 0 q_B_policy_0 rfl rfl ?_
  refine aw_aload_n 0 q_B_policy_1 rfl rfl ?_
  refine aw_get 3 q_B_policy_2 fl_B_46 rfl rfl ?_
  refine aw_iload_n 1 q_B_policy_5 rfl rfl ?_
  refine aw_V1 q_B_policy_6 st_B_206 rfl (by omega) (Nat.le_of_ble_eq_true rfl) (e_P_planBy _ _ _ _ _ _ b r) ?_
  refine wp_B_4 _ q_B_policy_9 fl_B_50 ?_
  refine aw_aload_n 0 q_B_policy_12 rfl rfl ?_
  refine aw_get 4 q_B_policy_13 fl_B_50 rfl rfl ?_
  simp only [xg_pn_pn]
  refine aw_iconst (-1) q_B_policy_16 rfl ?_
  refine aw_icmp_ne 24 q_B_policy_17 rfl (fun c17 => ?_) (fun c17 => ?_)
  · skip
    obtain ⟨m, hm⟩ := Option.ne_none_iff_exists'.mp (mt e0.mpr c17)
    have hm2 := pbo_lt b r hm
    refine aw_aload_n 0 q_B_policy_24 rfl rfl ?_
    refine aw_get 0 q_B_policy_25 fl_B_23 rfl rfl ?_
    refine aw_aload_n 0 q_B_policy_28 rfl rfl ?_
    refine aw_get 4 q_B_policy_29 fl_B_50 rfl rfl ?_
    simp only [xg_pn_pn]
    rw [show pI (pbo A q x) = nI m from by rw [hm]; rfl]
    refine aw_V1 q_B_policy_32 st_B_144 rfl (by omega) (Nat.le_of_ble_eq_true rfl) (c_W_worthOfPlan _ (x_s_pn A (pbo A q x)) _ _ _ m b hm2) ?_
    refine aw_l2i q_B_policy_35 ?_
    exact aw_iret .int q_B_policy_36 rfl rfl (by rw [hm]; rfl) rfl
  · skip
    refine aw_iconst (-1) q_B_policy_20 rfl ?_
    refine aw_goto 36 q_B_policy_21 rfl ?_
    exact aw_iret .int q_B_policy_36 rfl rfl (by rw [e0.mp c17]; rfl) rfl
theorem c_B_compare (sc : am_S) (A : ST) (q : QS) (D : ST) (t : TS) (x z : Int32) (b : bd A) (r : rst q) : AM sc m_B_compare 6 [.ref 1, .int x, .int z] (hp A q D t) (some (.long (lZ (cmv A (pbo A q x) (pbo A (pbq A q x) z))))) (hp A (pbq A (pbq A q x) z) D t) := by
  refine AM.of (by decide) (Nat.le_of_ble_eq_true rfl) ?_
  show AW sc m_B_compare 6 0 [some (.ref 1), some (.int x), some (.int z), none, none] [] _ _ _
  have r1 := pbq_rst b r x
  have e0 := pI_eq (o := pbo A q x) (fun m h => by have := pbo_lt b r h; omega)
  have e1 := pI_eq (o := pbo A (pbq A q x) z) (fun m h => by have := pbo_lt b r1 h; omega)
  refine aw_aload_n 0 q_B_compare_0 rfl rfl ?_
  refine aw_get 3 q_B_compare_1 fl_B_46 rfl rfl ?_
  refine aw_iload_n 1 q_B_compare_4 rfl rfl ?_
  refine aw_V1 q_B_compare_5 st_B_206 rfl (by omega) (Nat.le_of_ble_eq_true rfl) (e_P_planBy _ _ _ _ _ _ b r) ?_
  refine aw_istore_n 3 q_B_compare_8 rfl rfl rfl ?_
  refine aw_aload_n 0 q_B_compare_9 rfl rfl ?_
  refine aw_get 3 q_B_compare_10 fl_B_46 rfl rfl ?_
  refine aw_iload_n 2 q_B_compare_13 rfl rfl ?_
  refine aw_V1 q_B_compare_14 st_B_206 rfl (by omega) (Nat.le_of_ble_eq_true rfl) (e_P_planBy _ _ _ _ _ _ b r1) ?_
  refine aw_istore q_B_compare_17 rfl rfl ?_
  refine aw_iload_n 3 q_B_compare_19 rfl rfl ?_
  refine aw_iconst (-1) q_B_compare_20 rfl ?_
  refine aw_icmp_eq 30 q_B_compare_21 rfl (fun c21 => ?_) (fun c21 => ?_)
  · skip
    refine aw_ldc2 (lZ (-1)) q_B_compare_30 (am_in2 (i := 67) rfl rfl) ?_
    exact aw_lret q_B_compare_33 rfl (by rw [e0.mp c21]; rfl) rfl
  · skip
    refine aw_iload q_B_compare_24 rfl ?_
    refine aw_iconst (-1) q_B_compare_26 rfl ?_
    refine aw_icmp_ne 34 q_B_compare_27 rfl (fun c27 => ?_) (fun c27 => ?_)
    · skip
      obtain ⟨m, hm⟩ := Option.ne_none_iff_exists'.mp (mt e0.mpr c21)
      obtain ⟨n, hn⟩ := Option.ne_none_iff_exists'.mp (mt e1.mpr c27)
      have hm2 := pbo_lt b r hm
      have hn2 := pbo_lt b r1 hn
      rw [hm, hn]
      refine aw_aload_n 0 q_B_compare_34 rfl rfl ?_
      refine aw_get 0 q_B_compare_35 fl_B_23 rfl rfl ?_
      refine aw_iload_n 3 q_B_compare_38 rfl rfl ?_
      rw [show pI (some m) = nI m from rfl]
      refine aw_V1 q_B_compare_39 st_B_144 rfl (by omega) (Nat.le_of_ble_eq_true rfl) (c_W_worthOfPlan _ _ _ _ _ _ b (by assumption)) ?_
      refine aw_aload_n 0 q_B_compare_42 rfl rfl ?_
      refine aw_get 0 q_B_compare_43 fl_B_23 rfl rfl ?_
      refine aw_iload q_B_compare_46 rfl ?_
      rw [show pI (some n) = nI n from rfl]
      refine aw_V1 q_B_compare_48 st_B_144 rfl (by omega) (Nat.le_of_ble_eq_true rfl) (c_W_worthOfPlan _ _ _ _ _ _ b (by assumption)) ?_
      refine aw_lsub q_B_compare_51 ?_
      rw [lZ_sub]
      exact aw_lret q_B_compare_52 rfl rfl rfl
    · skip
      refine aw_ldc2 (lZ (-1)) q_B_compare_30 (am_in2 (i := 67) rfl rfl) ?_
      exact aw_lret q_B_compare_33 rfl (by rw [e1.mp c27]; cases pbo A q x <;> rfl) rfl
def lcn (A : ST) (m d y : Nat) : Nat := cnp (fun c => (pom A m d y (x_nc A)).testBit c) 14
def lst (A : ST) (m d : Nat) : Nat → Nat → Nat → Option Nat
  | 0, _, _ => none
  | n + 1, y, k => if k < lcn A m d y then mbo (pom A m d y (x_nc A)) (nI k) else lst A m d n (y + 1) (k - lcn A m d y)
theorem pom14 {A : ST} (b : bd A) (m d y : Nat) : pom A m d y (x_nc A) < 16384 := by
  have := pom_lt A m d y (x_nc A)
  have := p14 b.2.2.1
  omega
theorem nI_sub {a c : Nat} (h : c ≤ a) : nI a - nI c = nI (a - c) := by
  have : nI a = nI (a - c) + nI c := by rw [nI_add]; congr 1; omega
  rw [this, Int32.add_sub_cancel]
theorem c_B_list_no (sc : am_S) (A : ST) (q : QS) (D : ST) (t : TS) (x z : Int32) (hx : ¬ ((¬ x < 0 ∧ ¬ 4 ≤ x) ∧ ¬ z < 0)) : AM sc m_B_list 2 [.ref 1, .int x, .int z] (hp A q D t) (some (.int (-1))) (hp A q D t) := by
  refine AM.of (by decide) (Nat.le_of_ble_eq_true rfl) ?_
  show AW sc m_B_list 2 0 [some (.ref 1), some (.int x), some (.int z), none, none, none, none] [] _ _ _
  refine aw_iload_n 1 q_B_list_0 rfl rfl ?_
  refine aw_S1 q_B_list_1 st_B_110 (by omega) (Nat.le_of_ble_eq_true rfl) (c_B_isDistrict _ _ _) ?_
  refine aw_if_eq 11 q_B_list_4 rfl (fun c4 => ?_) (fun c4 => ?_)
  · skip
    refine aw_iconst (-1) q_B_list_11 rfl ?_
    exact aw_iret .int q_B_list_12 rfl rfl rfl rfl
  · skip
    refine aw_iload_n 2 q_B_list_7 rfl rfl ?_
    refine aw_if_ge 13 q_B_list_8 rfl (fun c8 => ?_) (fun c8 => ?_)
    · skip
      exact (hx ⟨of_decide_eq_true (zI_n0.mp c4), (by first | exact c8 | simpa using c8)⟩).elim
    · skip
      refine aw_iconst (-1) q_B_list_11 rfl ?_
      exact aw_iret .int q_B_list_12 rfl rfl rfl rfl
theorem l_B_list (sc : am_S) (A : ST) (q : QS) (D : ST) (t : TS) (dd k0 : Nat) (b : bd A) (hp1 : pn14 A) (hd : dd < 4) : ∀ (n i : Nat), x_ny A - i = n → i ≤ x_ny A → ∀ (k : Nat), k < 2 ^ 31 → AW sc m_B_list 2 18 [some (.ref 1), some (.int (nI dd)), some (.int (nI k0)), some (.int (nI k)), some (.int (nI i)), none, none] [] (hp A q D t) (some (.int (pI (lst A (pon A) dd n i k)))) (hp A q D t) := by
  intro n
  induction n with
  | zero =>
    intro i hn hi k hk
    have b1 := b.1
    refine aw_iload q_B_list_18 rfl ?_
    refine aw_aload_n 0 q_B_list_20 rfl rfl ?_
    refine aw_get 0 q_B_list_21 fl_B_23 rfl rfl ?_
    refine aw_get 0 q_B_list_24 fl_B_209 rfl rfl ?_
    refine aw_icmp_ge 77 q_B_list_27 rfl (fun c27 => ?_) (fun c27 => ?_)
    · skip
      refine aw_iconst (-1) q_B_list_77 rfl ?_
      exact aw_iret .int q_B_list_78 rfl rfl rfl rfl
    · skip
      exact absurd ((nI_leI (by omega) (by omega)).mpr (by omega)) c27
  | succ n ih =>
    intro i hn hi k hk
    have b1 := b.1
    have hpl := pon_lt hp1
    have hlc : lcn A (pon A) dd i ≤ 14 := cnp_le _ _
    refine aw_iload q_B_list_18 rfl ?_
    refine aw_aload_n 0 q_B_list_20 rfl rfl ?_
    refine aw_get 0 q_B_list_21 fl_B_23 rfl rfl ?_
    refine aw_get 0 q_B_list_24 fl_B_209 rfl rfl ?_
    refine aw_icmp_ge 77 q_B_list_27 rfl (fun c27 => ?_) (fun c27 => ?_)
    · skip
      exact absurd ((nI_leI (by omega) (by omega)).mp c27) (by omega)
    · skip
      refine aw_aload_n 0 q_B_list_30 rfl rfl ?_
      refine aw_get 0 q_B_list_31 fl_B_23 rfl rfl ?_
      refine aw_aload_n 0 q_B_list_34 rfl rfl ?_
      refine aw_V0 q_B_list_35 st_B_141 rfl (by omega) (Nat.le_of_ble_eq_true rfl) (c_B_planOrNothing _ _ _ _ _ hp1) ?_
      refine aw_iload_n 1 q_B_list_38 rfl rfl ?_
      refine aw_iload q_B_list_39 rfl ?_
      refine aw_V3 q_B_list_41 st_B_212 rfl (by omega) (Nat.le_of_ble_eq_true rfl) (c_W_partOf _ _ _ _ _ _ _ _ b hpl hd (by omega)) ?_
      refine aw_istore q_B_list_44 rfl rfl ?_
      refine aw_iload q_B_list_46 rfl ?_
      refine aw_S1 q_B_list_48 st_B_183 (by omega) (Nat.le_of_ble_eq_true rfl) (c_JI_bitCount _ _ _) ?_
      rw [bc_pcr (pom14 b _ _ _), pcr_cnp, show cnp (fun c => (pom A (pon A) dd i (x_nc A)).testBit c) 14 = lcn A (pon A) dd i from rfl]
      refine aw_istore q_B_list_51 rfl rfl ?_
      refine aw_iload_n 3 q_B_list_53 rfl rfl ?_
      refine aw_iload q_B_list_54 rfl ?_
      refine aw_icmp_ge 66 q_B_list_56 rfl (fun c56 => ?_) (fun c56 => ?_)
      · skip
        have h9 : ¬ k < lcn A (pon A) dd i := fun e => by have := (nI_leI (by omega) (by omega)).mp c56; omega
        refine aw_iload_n 3 q_B_list_66 rfl rfl ?_
        refine aw_iload q_B_list_67 rfl ?_
        refine aw_isub q_B_list_69 ?_
        rw [nI_sub (by omega)]
        refine aw_istore_n 3 q_B_list_70 rfl rfl rfl ?_
        first | refine aw_iinc _ q_B_list_71 rfl (am_inc _) rfl rfl ?_ | refine aw_iinc _ q_B_list_71 rfl rfl rfl rfl ?_
        refine aw_goto 18 q_B_list_74 rfl ?_
        refine aw_kill [5, 6] ?_
        unfold lst
        rw [if_neg h9]
        exact ih (i + 1) (by omega) (by omega) _ (by omega)
      · skip
        refine aw_iload q_B_list_59 rfl ?_
        refine aw_iload_n 3 q_B_list_61 rfl rfl ?_
        refine aw_S2 q_B_list_62 st_B_168 (by omega) (Nat.le_of_ble_eq_true rfl) (c_B_memberOf _ _ _ _ (pom14 b _ _ _)) ?_
        exact aw_iret .int q_B_list_65 rfl rfl (by unfold lst; rw [if_pos (Nat.lt_of_not_le (fun e => c56 ((nI_leI (by omega) (by omega)).mpr e)))]) rfl
theorem c_B_list (sc : am_S) (A : ST) (q : QS) (D : ST) (t : TS) (dd k : Nat) (b : bd A) (hp1 : pn14 A) (hd : dd < 4) (hk : k < 2 ^ 31) : AM sc m_B_list 2 [.ref 1, .int (nI dd), .int (nI k)] (hp A q D t) (some (.int (pI (lst A (pon A) dd (x_ny A) 0 k)))) (hp A q D t) := by
  refine AM.of (by decide) (Nat.le_of_ble_eq_true rfl) ?_
  show AW sc m_B_list 2 0 [some (.ref 1), some (.int (nI dd)), some (.int (nI k)), none, none, none, none] [] _ _ _
  refine aw_iload_n 1 q_B_list_0 rfl rfl ?_
  refine aw_S1 q_B_list_1 st_B_110 (by omega) (Nat.le_of_ble_eq_true rfl) (c_B_isDistrict _ _ _) ?_
  refine aw_if_eq 11 q_B_list_4 rfl (fun c4 => ?_) (fun c4 => ?_)
  · skip
    first
      | exact absurd (zI_0.mp c4) (by simp only [decide_eq_false_iff_not, Classical.not_not]; exact ⟨fun e => by have := (nI_ltI (b := 0) (by omega) (by omega)).mp e; omega, fun e => by have := (nI_leI (a := 4) (by omega) (by omega)).mp e; omega⟩)
      | exact absurd ((nI_ltI (b := 0) (by omega) (by omega)).mp (show nI k < 0 from by simpa using c8)) (by omega)
  · skip
    refine aw_iload_n 2 q_B_list_7 rfl rfl ?_
    refine aw_if_ge 13 q_B_list_8 rfl (fun c8 => ?_) (fun c8 => ?_)
    · skip
      refine aw_iload_n 2 q_B_list_13 rfl rfl ?_
      refine aw_istore_n 3 q_B_list_14 rfl rfl rfl ?_
      refine aw_iconst 0 q_B_list_15 rfl ?_
      refine aw_istore q_B_list_16 rfl rfl ?_
      exact l_B_list sc A q D t dd k b hp1 hd _ 0 rfl (by omega) k hk
    · skip
      first
        | exact absurd (zI_0.mp c4) (by simp only [decide_eq_false_iff_not, Classical.not_not]; exact ⟨fun e => by have := (nI_ltI (b := 0) (by omega) (by omega)).mp e; omega, fun e => by have := (nI_leI (a := 4) (by omega) (by omega)).mp e; omega⟩)
        | exact absurd ((nI_ltI (b := 0) (by omega) (by omega)).mp (show nI k < 0 from by simpa using c8)) (by omega)
