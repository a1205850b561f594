/-! CONTRACTS 5: plain policies -/
def psb (A : ST) (m : Nat) : Bool := pln A m (x_nc A) && wal A m (x_ny A)
def ldw (A : ST) (u v : Nat) : Int := if x_co A u = 0 ∨ x_co A v = 0 then (if x_co A u ≤ x_co A v then (if x_co A v = x_co A u then 0 else 1) else -1) else x_wo A u * x_co A v - x_wo A v * x_co A u
theorem co_eq {A : ST} (b : bd A) {u v : Nat} : lZ (x_co A u) = lZ (x_co A v) ↔ x_co A u = x_co A v := by
  have h1 := b.2.2.2.2.2.2.2.1 u
  have h2 := b.2.2.2.2.2.2.2.1 v
  exact lZ_eq (by omega) (by omega)
theorem co_le {A : ST} (b : bd A) {u v : Nat} : lZ (x_co A u) ≤ lZ (x_co A v) ↔ x_co A u ≤ x_co A v := by
  have h1 := b.2.2.2.2.2.2.2.1 u
  have h2 := b.2.2.2.2.2.2.2.1 v
  exact lZ_le (by omega) (by omega)
theorem co_0 {A : ST} (b : bd A) {u : Nat} : lZ (x_co A u) = lZ 0 ↔ x_co A u = 0 := by
  have h1 := b.2.2.2.2.2.2.2.1 u
  exact lZ_eq (by omega) (by omega)
theorem ldw_1 {A : ST} (b : bd A) {u v : Nat} (h : x_co A u = 0 ∨ x_co A v = 0) : lZ (ldw A u v) = (if lZ (x_co A u) ≤ lZ (x_co A v) then (if lZ (x_co A v) = lZ (x_co A u) then (0 : Int32) else 1) else -1).toInt64 := by
  unfold ldw
  rw [if_pos h]
  simp only [co_le b, co_eq b]
  split
  · split <;> decide
  · decide
theorem ldw_2 {A : ST} {u v : Nat} (h : ¬ (x_co A u = 0 ∨ x_co A v = 0)) : lZ (x_wo A u) * lZ (x_co A v) - lZ (x_wo A v) * lZ (x_co A u) = lZ (ldw A u v) := by
  rw [lZ_mul, lZ_mul, lZ_sub]
  unfold ldw
  rw [if_neg h]
theorem mul_bd {x y : Int} (h1 : 0 ≤ x ∧ x ≤ 1000000) (h2 : 0 ≤ y ∧ y ≤ 1000000) : 0 ≤ x * y ∧ x * y ≤ 1000000000000 := by
  have e1 := Int.mul_nonneg h1.1 h2.1
  have e2 : x * y ≤ 1000000 * 1000000 := Int.mul_le_mul h1.2 h2.2 h2.1 (by omega)
  omega
theorem ldw_bd {A : ST} (b : bd A) (u v : Nat) : -1000000000000 ≤ ldw A u v ∧ ldw A u v ≤ 1000000000000 := by
  have h1 := mul_bd (b.2.2.2.2.2.2.2.2.1 u) (b.2.2.2.2.2.2.2.1 v)
  have h2 := mul_bd (b.2.2.2.2.2.2.2.2.1 v) (b.2.2.2.2.2.2.2.1 u)
  unfold ldw
  split
  · split
    · split <;> omega
    · omega
  · omega
def gbl (A : ST) (k u v : Nat) : Int := if k = 1 then ldw A u v else if k = 2 ∧ ¬ x_yr A u = x_yr A v then (x_yr A v : Int) - x_yr A u else x_wo A u - x_wo A v
def gb (A : ST) (k u v : Nat) : Bool := if gbl A k u v = 0 then decide (u < v) else decide (0 < gbl A k u v)
theorem gbl_bd {A : ST} (b : bd A) (k u v : Nat) : -1000000000000 ≤ gbl A k u v ∧ gbl A k u v ≤ 1000000000000 := by
  have h1 := ldw_bd b u v
  have h2 := b.2.2.2.2.2.2.2.2.1 u
  have h3 := b.2.2.2.2.2.2.2.2.1 v
  have h4 := b.2.2.2.2.1 u
  have h5 := b.2.2.2.2.1 v
  unfold gbl
  split
  · exact h1
  · split <;> omega
theorem gb_self (A : ST) (k c : Nat) : gb A k c c = false := by
  have h : gbl A k c c = 0 := by
    unfold gbl ldw
    split
    · split
      · simp
      · omega
    · simp
  simp [gb, h]
theorem c_P_isPossible (sc : am_S) (A : ST) (q : QS) (D : ST) (t : TS) (m : Nat) (b : bd A) (hm : m < 16384) : AM sc m_P_isPossible 4 [.ref 48, .int (nI m)] (hp A q D t) (some (.int (zI (psb A m)))) (hp A q D t) := by
  refine AM.of (by decide) (Nat.le_of_ble_eq_true rfl) ?_
  show AW sc m_P_isPossible 4 0 [some (.ref 48), some (.int (nI m))] [] _ _ _
  refine aw_aload_n 0 q_P_isPossible_0 rfl rfl ?_
  refine aw_get 0 q_P_isPossible_1 fl_P_15 rfl rfl ?_
  refine aw_iload_n 1 q_P_isPossible_4 rfl rfl ?_
  refine aw_V1 q_P_isPossible_5 st_P_36 rfl (by decide) (Nat.le_of_ble_eq_true rfl) (c_W_isPlan _ _ _ _ _ _ b hm) ?_
  refine aw_if_eq 26 q_P_isPossible_8 rfl (fun c8 => ?_) (fun c8 => ?_)
  · skip
    refine aw_iconst 0 q_P_isPossible_26 rfl ?_
    exact aw_iret .boolean q_P_isPossible_27 rfl rfl (aw_rz0 (by simp [psb, zI_0.mp c8])) rfl
  · skip
    refine aw_aload_n 0 q_P_isPossible_11 rfl rfl ?_
    refine aw_get 0 q_P_isPossible_12 fl_P_15 rfl rfl ?_
    refine aw_iload_n 1 q_P_isPossible_15 rfl rfl ?_
    refine aw_V1 q_P_isPossible_16 st_P_39 rfl (by decide) (Nat.le_of_ble_eq_true rfl) (c_W_isWithinAllBudgets _ _ _ _ _ _ b hm) ?_
    refine aw_if_eq 26 q_P_isPossible_19 rfl (fun c19 => ?_) (fun c19 => ?_)
    · skip
      refine aw_iconst 0 q_P_isPossible_26 rfl ?_
      exact aw_iret .boolean q_P_isPossible_27 rfl rfl (aw_rz0 (by simp [psb, zI_0.mp c19])) rfl
    · skip
      refine aw_iconst 1 q_P_isPossible_22 rfl ?_
      refine aw_goto 27 q_P_isPossible_23 rfl ?_
      exact aw_iret .boolean q_P_isPossible_27 rfl rfl (aw_rz1 (by simp [psb, zI_n0.mp c8, zI_n0.mp c19])) rfl
theorem c_P_leadByWorthByCost (sc : am_S) (A : ST) (q : QS) (D : ST) (t : TS) (u v : Nat) (b : bd A) (hu : u < 14) (hv : v < 14) : AM sc m_P_leadByWorthByCost 1 [.ref 48, .int (nI u), .int (nI v)] (hp A q D t) (some (.long (lZ (ldw A u v)))) (hp A q D t) := by
  refine AM.of (by decide) (Nat.le_of_ble_eq_true rfl) ?_
  show AW sc m_P_leadByWorthByCost 1 0 [some (.ref 48), some (.int (nI u)), some (.int (nI v)), none, none, none, none] [] _ _ _
  refine aw_aload_n 0 q_P_leadByWorthByCost_0 rfl rfl ?_
  refine aw_get 0 q_P_leadByWorthByCost_1 fl_P_15 rfl rfl ?_
  refine aw_get 8 q_P_leadByWorthByCost_4 fl_P_57 rfl rfl ?_
  refine aw_iload_n 1 q_P_leadByWorthByCost_7 rfl rfl ?_
  refine aw_laldN q_P_leadByWorthByCost_8 rfl (by omega) rfl ?_
  refine aw_lstore_n 3 q_P_leadByWorthByCost_9 rfl rfl rfl ?_
  refine aw_aload_n 0 q_P_leadByWorthByCost_10 rfl rfl ?_
  refine aw_get 0 q_P_leadByWorthByCost_11 fl_P_15 rfl rfl ?_
  refine aw_get 8 q_P_leadByWorthByCost_14 fl_P_57 rfl rfl ?_
  refine aw_iload_n 2 q_P_leadByWorthByCost_17 rfl rfl ?_
  refine aw_laldN q_P_leadByWorthByCost_18 rfl (by omega) rfl ?_
  refine aw_lstore q_P_leadByWorthByCost_19 rfl rfl ?_
  refine aw_lload_n 3 q_P_leadByWorthByCost_21 rfl rfl ?_
  refine aw_lconst (lZ 0) q_P_leadByWorthByCost_22 rfl ?_
  refine aw_lcmp_eq 34 q_P_leadByWorthByCost_23 q_P_leadByWorthByCost_24 rfl (fun c23 => ?_) (fun c23 => ?_)
  · skip
    refine aw_lload q_P_leadByWorthByCost_34 rfl ?_
    refine aw_lload_n 3 q_P_leadByWorthByCost_36 rfl rfl ?_
    refine aw_S2 q_P_leadByWorthByCost_37 st_P_60 (by decide) (Nat.le_of_ble_eq_true rfl) (c_JL_compare _ _ _ _) ?_
    refine aw_i2l q_P_leadByWorthByCost_40 ?_
    exact aw_lret q_P_leadByWorthByCost_41 rfl (by rw [ldw_1 b (Or.inl ((co_0 b).mp c23))]) rfl
  · skip
    refine aw_lload q_P_leadByWorthByCost_27 rfl ?_
    refine aw_lconst (lZ 0) q_P_leadByWorthByCost_29 rfl ?_
    refine aw_lcmp_ne 42 q_P_leadByWorthByCost_30 q_P_leadByWorthByCost_31 rfl (fun c30 => ?_) (fun c30 => ?_)
    · skip
      refine aw_aload_n 0 q_P_leadByWorthByCost_42 rfl rfl ?_
      refine aw_get 0 q_P_leadByWorthByCost_43 fl_P_15 rfl rfl ?_
      refine aw_get 9 q_P_leadByWorthByCost_46 fl_P_50 rfl rfl ?_
      refine aw_iload_n 1 q_P_leadByWorthByCost_49 rfl rfl ?_
      refine aw_laldN q_P_leadByWorthByCost_50 rfl (by omega) rfl ?_
      refine aw_lload q_P_leadByWorthByCost_51 rfl ?_
      refine aw_lmul q_P_leadByWorthByCost_53 ?_
      refine aw_aload_n 0 q_P_leadByWorthByCost_54 rfl rfl ?_
      refine aw_get 0 q_P_leadByWorthByCost_55 fl_P_15 rfl rfl ?_
      refine aw_get 9 q_P_leadByWorthByCost_58 fl_P_50 rfl rfl ?_
      refine aw_iload_n 2 q_P_leadByWorthByCost_61 rfl rfl ?_
      refine aw_laldN q_P_leadByWorthByCost_62 rfl (by omega) rfl ?_
      refine aw_lload_n 3 q_P_leadByWorthByCost_63 rfl rfl ?_
      refine aw_lmul q_P_leadByWorthByCost_64 ?_
      refine aw_lsub q_P_leadByWorthByCost_65 ?_
      exact aw_lret q_P_leadByWorthByCost_66 rfl (by rw [ldw_2 (by rintro (z | z); exact c23 ((co_0 b).mpr z); exact c30 ((co_0 b).mpr z))]) rfl
    · skip
      refine aw_lload q_P_leadByWorthByCost_34 rfl ?_
      refine aw_lload_n 3 q_P_leadByWorthByCost_36 rfl rfl ?_
      refine aw_S2 q_P_leadByWorthByCost_37 st_P_60 (by decide) (Nat.le_of_ble_eq_true rfl) (c_JL_compare _ _ _ _) ?_
      refine aw_i2l q_P_leadByWorthByCost_40 ?_
      exact aw_lret q_P_leadByWorthByCost_41 rfl (by rw [ldw_1 b (Or.inr ((co_0 b).mp c30))]) rfl
theorem l_P_goesBefore (sc : am_S) (A : ST) (q : QS) (D : ST) (t : TS) (k u v : Nat) (b : bd A) (hu : u < 14) (hv : v < 14) (z : Int) (hz : z = gbl A k u v) : AW sc m_P_goesBefore 2 83 [some (.ref 48), some (.int (nI k)), some (.int (nI u)), some (.int (nI v)), some (.long (lZ z)), none] [] (hp A q D t) (some (.int (zI (gb A k u v)))) (hp A q D t) := by
  have b1 := gbl_bd b k u v
  rw [← hz] at b1
  refine aw_lload q_P_goesBefore_83 rfl ?_
  refine aw_lconst (lZ 0) q_P_goesBefore_85 rfl ?_
  refine aw_lcmp_eq 105 q_P_goesBefore_86 q_P_goesBefore_87 rfl (fun c86 => ?_) (fun c86 => ?_)
  · skip
    have e1 : gbl A k u v = 0 := by rw [← hz]; exact (lZ_eq (by omega) (by omega)).mp c86
    refine aw_iload_n 2 q_P_goesBefore_105 rfl rfl ?_
    refine aw_iload_n 3 q_P_goesBefore_106 rfl rfl ?_
    refine aw_icmp_ge 114 q_P_goesBefore_107 rfl (fun c107 => ?_) (fun c107 => ?_)
    · skip
      refine aw_iconst 0 q_P_goesBefore_114 rfl ?_
      exact aw_iret .boolean q_P_goesBefore_115 rfl rfl (by have e2 := nge_ge c107 (by omega) (by omega); exact aw_rz0 (by simp [gb, e1]; omega)) rfl
    · skip
      refine aw_iconst 1 q_P_goesBefore_110 rfl ?_
      refine aw_goto 115 q_P_goesBefore_111 rfl ?_
      exact aw_iret .boolean q_P_goesBefore_115 rfl rfl (by have e2 := nge_lt c107 (by omega) (by omega); exact aw_rz1 (by simp [gb, e1]; omega)) rfl
  · skip
    have e1 : ¬ gbl A k u v = 0 := by rw [← hz]; exact mt (lZ_eq (by omega) (by omega)).mpr c86
    refine aw_lload q_P_goesBefore_90 rfl ?_
    refine aw_lconst (lZ 0) q_P_goesBefore_92 rfl ?_
    refine aw_lcmp_le 101 q_P_goesBefore_93 q_P_goesBefore_94 rfl (fun c93 => ?_) (fun c93 => ?_)
    · skip
      refine aw_iconst 0 q_P_goesBefore_101 rfl ?_
      refine aw_goto 115 q_P_goesBefore_102 rfl ?_
      exact aw_iret .boolean q_P_goesBefore_115 rfl rfl (by have e2 := (lZ_le (by omega) (by omega)).mp c93; exact aw_rz0 (by simp [gb, e1]; omega)) rfl
    · skip
      refine aw_iconst 1 q_P_goesBefore_97 rfl ?_
      refine aw_goto 115 q_P_goesBefore_98 rfl ?_
      exact aw_iret .boolean q_P_goesBefore_115 rfl rfl (by have e2 := mt (lZ_le (by omega) (by omega)).mpr c93; exact aw_rz1 (by simp [gb, e1]; omega)) rfl
theorem yr_diff {A : ST} (b : bd A) (u v : Nat) : (nI (x_yr A v) - nI (x_yr A u)).toInt64 = lZ ((x_yr A v : Int) - x_yr A u) := by
  have h4 := b.2.2.2.2.1 u
  have h5 := b.2.2.2.2.1 v
  generalize x_yr A u = a at *
  generalize x_yr A v = c at *
  have : ∀ a, a < 6 → ∀ c, c < 6 → (nI c - nI a).toInt64 = lZ ((c : Int) - a) := by decide +kernel
  exact this a h4 c h5
theorem c_P_goesBefore (sc : am_S) (A : ST) (q : QS) (D : ST) (t : TS) (k u v : Nat) (b : bd A) (hk : k < 3) (hu : u < 14) (hv : v < 14) : AM sc m_P_goesBefore 2 [.ref 48, .int (nI k), .int (nI u), .int (nI v)] (hp A q D t) (some (.int (zI (gb A k u v)))) (hp A q D t) := by
  refine AM.of (by decide) (Nat.le_of_ble_eq_true rfl) ?_
  show AW sc m_P_goesBefore 2 0 [some (.ref 48), some (.int (nI k)), some (.int (nI u)), some (.int (nI v)), none, none] [] _ _ _
  have b5 := b.2.2.2.2.1 u
  have b5' := b.2.2.2.2.1 v
  refine aw_iload_n 1 q_P_goesBefore_0 rfl rfl ?_
  refine aw_iconst 1 q_P_goesBefore_1 rfl ?_
  refine aw_icmp_ne 14 q_P_goesBefore_2 rfl (fun c2 => ?_) (fun c2 => ?_)
  · skip
    have k1 : ¬ k = 1 := nI_ne (b := 1) (by omega) (by omega) c2
    refine aw_aload_n 0 q_P_goesBefore_14 rfl rfl ?_
    refine aw_get 0 q_P_goesBefore_15 fl_P_15 rfl rfl ?_
    refine aw_get 9 q_P_goesBefore_18 fl_P_50 rfl rfl ?_
    refine aw_iload_n 2 q_P_goesBefore_21 rfl rfl ?_
    refine aw_laldN q_P_goesBefore_22 rfl (by omega) rfl ?_
    refine aw_aload_n 0 q_P_goesBefore_23 rfl rfl ?_
    refine aw_get 0 q_P_goesBefore_24 fl_P_15 rfl rfl ?_
    refine aw_get 9 q_P_goesBefore_27 fl_P_50 rfl rfl ?_
    refine aw_iload_n 3 q_P_goesBefore_30 rfl rfl ?_
    refine aw_laldN q_P_goesBefore_31 rfl (by omega) rfl ?_
    refine aw_lsub q_P_goesBefore_32 ?_
    refine aw_lstore q_P_goesBefore_33 rfl rfl ?_
    refine aw_iload_n 1 q_P_goesBefore_35 rfl rfl ?_
    refine aw_iconst 2 q_P_goesBefore_36 rfl ?_
    refine aw_icmp_ne 83 q_P_goesBefore_37 rfl (fun c37 => ?_) (fun c37 => ?_)
    · skip
      first
        | (have k2 : ¬ k = 2 := nI_ne (b := 2) (by omega) (by omega) c37; (try rw [lZ_sub]); exact l_P_goesBefore sc A q D t k u v b hu hv _ (by simp [gbl, k1, k2]))
        | (have k2 : k = 2 := nI_eq' (b := 2) (by omega) (by omega) c37; exact absurd (k1.symm.trans k2) (by omega))
        | (have k2 : k = 2 := nI_eq' (b := 2) (by omega) (by omega) c37; have k3 := nI_eq' (by omega) (by omega) c58; rw [lZ_sub]; exact l_P_goesBefore sc A q D t k u v b hu hv _ (by simp [gbl, k1, k2, k3]))
        | (have k2 : k = 2 := nI_eq' (b := 2) (by omega) (by omega) c37; have k3 := nI_ne (by omega) (by omega) c58; rw [yr_diff b]; exact l_P_goesBefore sc A q D t k u v b hu hv _ (by simp [gbl, k1, k2, k3]))
    · skip
      refine aw_aload_n 0 q_P_goesBefore_40 rfl rfl ?_
      refine aw_get 0 q_P_goesBefore_41 fl_P_15 rfl rfl ?_
      refine aw_get 7 q_P_goesBefore_44 fl_P_54 rfl rfl ?_
      refine aw_iload_n 2 q_P_goesBefore_47 rfl rfl ?_
      refine aw_ialdN q_P_goesBefore_48 rfl (by omega) rfl ?_
      refine aw_aload_n 0 q_P_goesBefore_49 rfl rfl ?_
      refine aw_get 0 q_P_goesBefore_50 fl_P_15 rfl rfl ?_
      refine aw_get 7 q_P_goesBefore_53 fl_P_54 rfl rfl ?_
      refine aw_iload_n 3 q_P_goesBefore_56 rfl rfl ?_
      refine aw_ialdN q_P_goesBefore_57 rfl (by omega) rfl ?_
      refine aw_icmp_eq 83 q_P_goesBefore_58 rfl (fun c58 => ?_) (fun c58 => ?_)
      · skip
        first
          | (have k2 : ¬ k = 2 := nI_ne (b := 2) (by omega) (by omega) c37; (try rw [lZ_sub]); exact l_P_goesBefore sc A q D t k u v b hu hv _ (by simp [gbl, k1, k2]))
          | (have k2 : k = 2 := nI_eq' (b := 2) (by omega) (by omega) c37; exact absurd (k1.symm.trans k2) (by omega))
          | (have k2 : k = 2 := nI_eq' (b := 2) (by omega) (by omega) c37; have k3 := nI_eq' (by omega) (by omega) c58; rw [lZ_sub]; exact l_P_goesBefore sc A q D t k u v b hu hv _ (by simp [gbl, k1, k2, k3]))
          | (have k2 : k = 2 := nI_eq' (b := 2) (by omega) (by omega) c37; have k3 := nI_ne (by omega) (by omega) c58; rw [yr_diff b]; exact l_P_goesBefore sc A q D t k u v b hu hv _ (by simp [gbl, k1, k2, k3]))
      · skip
        refine aw_aload_n 0 q_P_goesBefore_61 rfl rfl ?_
        refine aw_get 0 q_P_goesBefore_62 fl_P_15 rfl rfl ?_
        refine aw_get 7 q_P_goesBefore_65 fl_P_54 rfl rfl ?_
        refine aw_iload_n 3 q_P_goesBefore_68 rfl rfl ?_
        refine aw_ialdN q_P_goesBefore_69 rfl (by omega) rfl ?_
        refine aw_aload_n 0 q_P_goesBefore_70 rfl rfl ?_
        refine aw_get 0 q_P_goesBefore_71 fl_P_15 rfl rfl ?_
        refine aw_get 7 q_P_goesBefore_74 fl_P_54 rfl rfl ?_
        refine aw_iload_n 2 q_P_goesBefore_77 rfl rfl ?_
        refine aw_ialdN q_P_goesBefore_78 rfl (by omega) rfl ?_
        refine aw_isub q_P_goesBefore_79 ?_
        refine aw_i2l q_P_goesBefore_80 ?_
        refine aw_lstore q_P_goesBefore_81 rfl rfl ?_
        first
          | (have k2 : ¬ k = 2 := nI_ne (b := 2) (by omega) (by omega) c37; (try rw [lZ_sub]); exact l_P_goesBefore sc A q D t k u v b hu hv _ (by simp [gbl, k1, k2]))
          | (have k2 : k = 2 := nI_eq' (b := 2) (by omega) (by omega) c37; exact absurd (k1.symm.trans k2) (by omega))
          | (have k2 : k = 2 := nI_eq' (b := 2) (by omega) (by omega) c37; have k3 := nI_eq' (by omega) (by omega) c58; rw [lZ_sub]; exact l_P_goesBefore sc A q D t k u v b hu hv _ (by simp [gbl, k1, k2, k3]))
          | (have k2 : k = 2 := nI_eq' (b := 2) (by omega) (by omega) c37; have k3 := nI_ne (by omega) (by omega) c58; rw [yr_diff b]; exact l_P_goesBefore sc A q D t k u v b hu hv _ (by simp [gbl, k1, k2, k3]))
  · skip
    have k1 : k = 1 := nI_eq' (b := 1) (by omega) (by omega) c2
    refine aw_aload_n 0 q_P_goesBefore_5 rfl rfl ?_
    refine aw_iload_n 2 q_P_goesBefore_6 rfl rfl ?_
    refine aw_iload_n 3 q_P_goesBefore_7 rfl rfl ?_
    refine aw_V2 q_P_goesBefore_8 st_P_46 rfl (by decide) (Nat.le_of_ble_eq_true rfl) (c_P_leadByWorthByCost _ _ _ _ _ _ _ b hu hv) ?_
    refine aw_goto 33 q_P_goesBefore_11 rfl ?_
    refine aw_lstore q_P_goesBefore_33 rfl rfl ?_
    refine aw_iload_n 1 q_P_goesBefore_35 rfl rfl ?_
    refine aw_iconst 2 q_P_goesBefore_36 rfl ?_
    refine aw_icmp_ne 83 q_P_goesBefore_37 rfl (fun c37 => ?_) (fun c37 => ?_)
    · skip
      first
        | (have k2 : ¬ k = 2 := nI_ne (b := 2) (by omega) (by omega) c37; (try rw [lZ_sub]); exact l_P_goesBefore sc A q D t k u v b hu hv _ (by simp [gbl, k1, k2]))
        | (have k2 : k = 2 := nI_eq' (b := 2) (by omega) (by omega) c37; exact absurd (k1.symm.trans k2) (by omega))
        | (have k2 : k = 2 := nI_eq' (b := 2) (by omega) (by omega) c37; have k3 := nI_eq' (by omega) (by omega) c58; rw [lZ_sub]; exact l_P_goesBefore sc A q D t k u v b hu hv _ (by simp [gbl, k1, k2, k3]))
        | (have k2 : k = 2 := nI_eq' (b := 2) (by omega) (by omega) c37; have k3 := nI_ne (by omega) (by omega) c58; rw [yr_diff b]; exact l_P_goesBefore sc A q D t k u v b hu hv _ (by simp [gbl, k1, k2, k3]))
    · skip
      refine aw_aload_n 0 q_P_goesBefore_40 rfl rfl ?_
      refine aw_get 0 q_P_goesBefore_41 fl_P_15 rfl rfl ?_
      refine aw_get 7 q_P_goesBefore_44 fl_P_54 rfl rfl ?_
      refine aw_iload_n 2 q_P_goesBefore_47 rfl rfl ?_
      refine aw_ialdN q_P_goesBefore_48 rfl (by omega) rfl ?_
      refine aw_aload_n 0 q_P_goesBefore_49 rfl rfl ?_
      refine aw_get 0 q_P_goesBefore_50 fl_P_15 rfl rfl ?_
      refine aw_get 7 q_P_goesBefore_53 fl_P_54 rfl rfl ?_
      refine aw_iload_n 3 q_P_goesBefore_56 rfl rfl ?_
      refine aw_ialdN q_P_goesBefore_57 rfl (by omega) rfl ?_
      refine aw_icmp_eq 83 q_P_goesBefore_58 rfl (fun c58 => ?_) (fun c58 => ?_)
      · skip
        first
          | (have k2 : ¬ k = 2 := nI_ne (b := 2) (by omega) (by omega) c37; (try rw [lZ_sub]); exact l_P_goesBefore sc A q D t k u v b hu hv _ (by simp [gbl, k1, k2]))
          | (have k2 : k = 2 := nI_eq' (b := 2) (by omega) (by omega) c37; exact absurd (k1.symm.trans k2) (by omega))
          | (have k2 : k = 2 := nI_eq' (b := 2) (by omega) (by omega) c37; have k3 := nI_eq' (by omega) (by omega) c58; rw [lZ_sub]; exact l_P_goesBefore sc A q D t k u v b hu hv _ (by simp [gbl, k1, k2, k3]))
          | (have k2 : k = 2 := nI_eq' (b := 2) (by omega) (by omega) c37; have k3 := nI_ne (by omega) (by omega) c58; rw [yr_diff b]; exact l_P_goesBefore sc A q D t k u v b hu hv _ (by simp [gbl, k1, k2, k3]))
      · skip
        refine aw_aload_n 0 q_P_goesBefore_61 rfl rfl ?_
        refine aw_get 0 q_P_goesBefore_62 fl_P_15 rfl rfl ?_
        refine aw_get 7 q_P_goesBefore_65 fl_P_54 rfl rfl ?_
        refine aw_iload_n 3 q_P_goesBefore_68 rfl rfl ?_
        refine aw_ialdN q_P_goesBefore_69 rfl (by omega) rfl ?_
        refine aw_aload_n 0 q_P_goesBefore_70 rfl rfl ?_
        refine aw_get 0 q_P_goesBefore_71 fl_P_15 rfl rfl ?_
        refine aw_get 7 q_P_goesBefore_74 fl_P_54 rfl rfl ?_
        refine aw_iload_n 2 q_P_goesBefore_77 rfl rfl ?_
        refine aw_ialdN q_P_goesBefore_78 rfl (by omega) rfl ?_
        refine aw_isub q_P_goesBefore_79 ?_
        refine aw_i2l q_P_goesBefore_80 ?_
        refine aw_lstore q_P_goesBefore_81 rfl rfl ?_
        first
          | (have k2 : ¬ k = 2 := nI_ne (b := 2) (by omega) (by omega) c37; (try rw [lZ_sub]); exact l_P_goesBefore sc A q D t k u v b hu hv _ (by simp [gbl, k1, k2]))
          | (have k2 : k = 2 := nI_eq' (b := 2) (by omega) (by omega) c37; exact absurd (k1.symm.trans k2) (by omega))
          | (have k2 : k = 2 := nI_eq' (b := 2) (by omega) (by omega) c37; have k3 := nI_eq' (by omega) (by omega) c58; rw [lZ_sub]; exact l_P_goesBefore sc A q D t k u v b hu hv _ (by simp [gbl, k1, k2, k3]))
          | (have k2 : k = 2 := nI_eq' (b := 2) (by omega) (by omega) c37; have k3 := nI_ne (by omega) (by omega) c58; rw [yr_diff b]; exact l_P_goesBefore sc A q D t k u v b hu hv _ (by simp [gbl, k1, k2, k3]))
def cb (A : ST) (k c : Nat) : Nat → Nat
  | 0 => 0
  | j + 1 => if gb A k j c = true then cb A k c j + 1 else cb A k c j
theorem cb_le (A : ST) (k c : Nat) : ∀ j, cb A k c j ≤ j ∧ (c < j → cb A k c j < j)
  | 0 => by simp [cb]
  | j + 1 => by
    have h := cb_le A k c j
    unfold cb
    by_cases e : c = j
    · subst e
      rw [gb_self]
      simp
      omega
    · split
      · refine ⟨by omega, fun q => ?_⟩
        have := h.2 (by omega)
        omega
      · refine ⟨by omega, fun q => ?_⟩
        omega
def orf (A : ST) (k : Nat) (f : Nat → Nat) : Nat → Nat → Nat
  | 0 => f
  | i + 1 => va_up (orf A k f i) (cb A k i (x_nc A)) i
theorem orf_lt {A : ST} (b : bd A) {k : Nat} {f : Nat → Nat} (hf : ∀ i, f i < 14) : ∀ i, i ≤ x_nc A → ∀ j, orf A k f i j < 14
  | 0, _, j => hf j
  | i + 1, h, j => by
    have h0 := orf_lt (k := k) b hf i (by omega) j
    have := b.2.2.1
    unfold orf va_up
    split <;> omega
theorem l_P_putInOrder1 (sc : am_S) (A : ST) (q : QS) (D : ST) (t : TS) (k c : Nat) (f : Nat → Nat) (hx : List am_C) (b : bd A) (hk : k < 3) (hc : c < 14) (kk : AW sc m_P_putInOrder 3 50 [some (.ref 48), some (.int (nI k)), some (.int (nI c)), some (.int (nI (cb A k c (x_nc A)))), some (.int (nI (x_nc A)))] [] (hp A (q_s_or q f) D t) none hx) : ∀ (n i : Nat), x_nc A - i = n → i ≤ x_nc A →  AW sc m_P_putInOrder 3 18 [some (.ref 48), some (.int (nI k)), some (.int (nI c)), some (.int (nI (cb A k c i))), some (.int (nI i))] [] (hp A (q_s_or q f) D t) (none) hx := by
  intro n
  induction n using Nat.strongRecOn with
  | _ n ih =>
    intro i hn hi
    have b3 := b.2.2.1
    refine aw_iload q_P_putInOrder_18 rfl ?_
    refine aw_aload_n 0 q_P_putInOrder_20 rfl rfl ?_
    refine aw_get 0 q_P_putInOrder_21 fl_P_15 rfl rfl ?_
    refine aw_get 5 q_P_putInOrder_24 fl_P_33 rfl rfl ?_
    refine aw_icmp_ge 50 q_P_putInOrder_27 rfl (fun c27 => ?_) (fun c27 => ?_)
    · skip
      have he : i = x_nc A := Nat.le_antisymm hi (nge_ge c27 (by omega) (by omega))
      subst he
      exact kk
    · skip
      have hlt : i < x_nc A := nge_lt c27 (by omega) (by omega)
      refine aw_aload_n 0 q_P_putInOrder_30 rfl rfl ?_
      refine aw_iload_n 1 q_P_putInOrder_31 rfl rfl ?_
      refine aw_iload q_P_putInOrder_32 rfl ?_
      refine aw_iload_n 2 q_P_putInOrder_34 rfl rfl ?_
      refine aw_V3 q_P_putInOrder_35 st_P_42 rfl (by decide) (Nat.le_of_ble_eq_true rfl) (c_P_goesBefore _ _ _ _ _ _ _ _ b hk (by omega) hc) ?_
      refine aw_if_eq 44 q_P_putInOrder_38 rfl (fun c38 => ?_) (fun c38 => ?_)
      · skip
        first | refine aw_iinc _ q_P_putInOrder_44 rfl (am_inc _) rfl rfl ?_ | refine aw_iinc _ q_P_putInOrder_44 rfl rfl rfl rfl ?_
        refine aw_goto 18 q_P_putInOrder_47 rfl ?_
        first
          | (have h9 := zI_0.mp c38; have e9 : cb A k c (i + 1) = cb A k c i := by simp [cb, h9]
             rw [← e9]; exact ih _ (by omega) (i + 1) rfl (by omega))
          | (have h9 := zI_n0.mp c38; have e9 : cb A k c (i + 1) = cb A k c i + 1 := by simp [cb, h9]
             rw [← e9]; exact ih _ (by omega) (i + 1) rfl (by omega))
      · skip
        first | refine aw_iinc _ q_P_putInOrder_41 rfl (am_inc _) rfl rfl ?_ | refine aw_iinc _ q_P_putInOrder_41 rfl rfl rfl rfl ?_
        first | refine aw_iinc _ q_P_putInOrder_44 rfl (am_inc _) rfl rfl ?_ | refine aw_iinc _ q_P_putInOrder_44 rfl rfl rfl rfl ?_
        refine aw_goto 18 q_P_putInOrder_47 rfl ?_
        first
          | (have h9 := zI_0.mp c38; have e9 : cb A k c (i + 1) = cb A k c i := by simp [cb, h9]
             rw [← e9]; exact ih _ (by omega) (i + 1) rfl (by omega))
          | (have h9 := zI_n0.mp c38; have e9 : cb A k c (i + 1) = cb A k c i + 1 := by simp [cb, h9]
             rw [← e9]; exact ih _ (by omega) (i + 1) rfl (by omega))
theorem l_P_putInOrder (sc : am_S) (A : ST) (q : QS) (D : ST) (t : TS) (k : Nat) (b : bd A) (hk : k < 3) : ∀ (n i : Nat), x_nc A - i = n → i ≤ x_nc A →  AW sc m_P_putInOrder 3 2 [some (.ref 48), some (.int (nI k)), some (.int (nI i)), none, none] [] (hp A (q_s_or q (orf A k (q_or q) i)) D t) (none) (hp A (q_s_or q (orf A k (q_or q) (x_nc A))) D t) := by
  intro n
  induction n using Nat.strongRecOn with
  | _ n ih =>
    intro i hn hi
    have b3 := b.2.2.1
    refine aw_iload_n 2 q_P_putInOrder_2 rfl rfl ?_
    refine aw_aload_n 0 q_P_putInOrder_3 rfl rfl ?_
    refine aw_get 0 q_P_putInOrder_4 fl_P_15 rfl rfl ?_
    refine aw_get 5 q_P_putInOrder_7 fl_P_33 rfl rfl ?_
    refine aw_icmp_ge 63 q_P_putInOrder_10 rfl (fun c10 => ?_) (fun c10 => ?_)
    · skip
      exact aw_vret q_P_putInOrder_63 rfl rfl (by rw [show i = x_nc A from Nat.le_antisymm hi (nge_ge c10 (by omega) (by omega))])
    · skip
      have hlt : i < x_nc A := nge_lt c10 (by omega) (by omega)
      have hcb := (cb_le A k i (x_nc A)).2 hlt
      refine aw_iconst 0 q_P_putInOrder_13 rfl ?_
      refine aw_istore_n 3 q_P_putInOrder_14 rfl rfl rfl ?_
      refine aw_iconst 0 q_P_putInOrder_15 rfl ?_
      refine aw_istore q_P_putInOrder_16 rfl rfl ?_
      refine l_P_putInOrder1 sc A q D t k i _ _ b hk (by omega) ?_ _ 0 rfl (by omega)
      refine aw_aload_n 0 q_P_putInOrder_50 rfl rfl ?_
      refine aw_get 1 q_P_putInOrder_51 fl_P_9 rfl rfl ?_
      refine aw_iload_n 3 q_P_putInOrder_54 rfl rfl ?_
      refine aw_iload_n 2 q_P_putInOrder_55 rfl rfl ?_
      refine wa_48 _ q_P_putInOrder_56 (by omega) ?_
      first | refine aw_iinc _ q_P_putInOrder_57 rfl (am_inc _) rfl rfl ?_ | refine aw_iinc _ q_P_putInOrder_57 rfl rfl rfl rfl ?_
      refine aw_goto 2 q_P_putInOrder_60 rfl ?_
      refine aw_kill [3, 4] ?_
      exact ih _ (by omega) (i + 1) rfl (by omega)
theorem c_P_putInOrder (sc : am_S) (A : ST) (q : QS) (D : ST) (t : TS) (k : Nat) (b : bd A) (hk : k < 3) : AM sc m_P_putInOrder 3 [.ref 48, .int (nI k)] (hp A q D t) (none) (hp A (q_s_or q (orf A k (q_or q) (x_nc A))) D t) := by
  refine AM.of (by decide) (Nat.le_of_ble_eq_true rfl) ?_
  show AW sc m_P_putInOrder 3 0 [some (.ref 48), some (.int (nI k)), none, none, none] [] _ _ _
  refine aw_iconst 0 q_P_putInOrder_0 rfl ?_
  refine aw_istore_n 2 q_P_putInOrder_1 rfl rfl rfl ?_
  exact l_P_putInOrder sc A q D t k b hk _ 0 rfl (by omega)
def pbm (A : ST) (f : Nat → Nat) : Nat → Nat
  | 0 => x_mu A
  | i + 1 => if psb A (pbm A f i ||| 2 ^ f i) = true then pbm A f i ||| 2 ^ f i else pbm A f i
theorem or14 {a i : Nat} (ha : a < 16384) (hi : i < 14) : a ||| 2 ^ i < 16384 := or_lt (n := 14) ha (Nat.pow_lt_pow_right (by decide) hi)
theorem pbm_lt {A : ST} (b : bd A) {f : Nat → Nat} (hf : ∀ i, f i < 14) : ∀ i, pbm A f i < 16384
  | 0 => b.2.2.2.2.2.2.2.2.2.2.2.2.1
  | i + 1 => by
    have h := pbm_lt b hf i
    unfold pbm
    split
    · exact or14 h (hf i)
    · exact h
theorem c_P_planBy_bad (sc : am_S) (A : ST) (q : QS) (D : ST) (t : TS) (x : Int32) (hx : x < 0 ∨ 3 ≤ x) : AM sc m_P_planBy 5 [.ref 48, .int x] (hp A q D t) (some (.int (-1))) (hp A q D t) := by
  refine AM.of (by decide) (Nat.le_of_ble_eq_true rfl) ?_
  show AW sc m_P_planBy 5 0 [some (.ref 48), some (.int x), none, none, none] [] _ _ _
  refine aw_aload_n 0 q_P_planBy_0 rfl rfl ?_
  refine aw_get 0 q_P_planBy_1 fl_P_15 rfl rfl ?_
  refine aw_get 10 q_P_planBy_4 fl_P_19 rfl rfl ?_
  refine aw_istore_n 2 q_P_planBy_7 rfl rfl rfl ?_
  refine aw_iload_n 1 q_P_planBy_8 rfl rfl ?_
  refine aw_if_lt 25 q_P_planBy_9 rfl (fun c9 => ?_) (fun c9 => ?_)
  · skip
    refine aw_iconst (-1) q_P_planBy_25 rfl ?_
    exact aw_iret .int q_P_planBy_26 rfl rfl rfl rfl
  · skip
    refine aw_iload_n 1 q_P_planBy_12 rfl rfl ?_
    refine aw_iconst 3 q_P_planBy_13 rfl ?_
    refine aw_icmp_ge 25 q_P_planBy_14 rfl (fun c14 => ?_) (fun c14 => ?_)
    · skip
      refine aw_iconst (-1) q_P_planBy_25 rfl ?_
      exact aw_iret .int q_P_planBy_26 rfl rfl rfl rfl
    · skip
      exact absurd hx (by rintro (z | z); exact c9 z; exact c14 z)
theorem c_P_planBy_no (sc : am_S) (A : ST) (q : QS) (D : ST) (t : TS) (k : Nat) (b : bd A) (hk : k < 3) (hx : psb A (x_mu A) = false) : AM sc m_P_planBy 5 [.ref 48, .int (nI k)] (hp A q D t) (some (.int (-1))) (hp A q D t) := by
  refine AM.of (by decide) (Nat.le_of_ble_eq_true rfl) ?_
  show AW sc m_P_planBy 5 0 [some (.ref 48), some (.int (nI k)), none, none, none] [] _ _ _
  refine aw_aload_n 0 q_P_planBy_0 rfl rfl ?_
  refine aw_get 0 q_P_planBy_1 fl_P_15 rfl rfl ?_
  refine aw_get 10 q_P_planBy_4 fl_P_19 rfl rfl ?_
  refine aw_istore_n 2 q_P_planBy_7 rfl rfl rfl ?_
  refine aw_iload_n 1 q_P_planBy_8 rfl rfl ?_
  refine aw_if_lt 25 q_P_planBy_9 rfl (fun c9 => ?_) (fun c9 => ?_)
  · skip
    refine aw_iconst (-1) q_P_planBy_25 rfl ?_
    exact aw_iret .int q_P_planBy_26 rfl rfl rfl rfl
  · skip
    refine aw_iload_n 1 q_P_planBy_12 rfl rfl ?_
    refine aw_iconst 3 q_P_planBy_13 rfl ?_
    refine aw_icmp_ge 25 q_P_planBy_14 rfl (fun c14 => ?_) (fun c14 => ?_)
    · skip
      refine aw_iconst (-1) q_P_planBy_25 rfl ?_
      exact aw_iret .int q_P_planBy_26 rfl rfl rfl rfl
    · skip
      refine aw_aload_n 0 q_P_planBy_17 rfl rfl ?_
      refine aw_iload_n 2 q_P_planBy_18 rfl rfl ?_
      refine aw_V1 q_P_planBy_19 st_P_25 rfl (by decide) (Nat.le_of_ble_eq_true rfl) (c_P_isPossible _ _ _ _ _ _ b b.2.2.2.2.2.2.2.2.2.2.2.2.1) ?_
      refine aw_if_ne 27 q_P_planBy_22 rfl (fun c22 => ?_) (fun c22 => ?_)
      · skip
        exact absurd (zI_n0.mp c22) (by rw [hx]; decide)
      · skip
        refine aw_iconst (-1) q_P_planBy_25 rfl ?_
        exact aw_iret .int q_P_planBy_26 rfl rfl rfl rfl
theorem l_P_planBy (sc : am_S) (A : ST) (q : QS) (D : ST) (t : TS) (k : Nat) (b : bd A) (hf : ∀ i, q_or q i < 14) : ∀ (n i : Nat), x_nc A - i = n → i ≤ x_nc A →  AW sc m_P_planBy 5 34 [some (.ref 48), some (.int (nI k)), some (.int (nI (pbm A (q_or q) i))), some (.int (nI i)), none] [] (hp A q D t) (some (.int (nI (pbm A (q_or q) (x_nc A))))) (hp A q D t) := by
  intro n
  induction n using Nat.strongRecOn with
  | _ n ih =>
    intro i hn hi
    have b3 := b.2.2.1
    have hfi := hf i
    have hpl := pbm_lt b hf i
    have ho := or14 hpl hfi
    refine aw_iload_n 3 q_P_planBy_34 rfl rfl ?_
    refine aw_aload_n 0 q_P_planBy_35 rfl rfl ?_
    refine aw_get 0 q_P_planBy_36 fl_P_15 rfl rfl ?_
    refine aw_get 5 q_P_planBy_39 fl_P_33 rfl rfl ?_
    refine aw_icmp_ge 75 q_P_planBy_42 rfl (fun c42 => ?_) (fun c42 => ?_)
    · skip
      refine aw_iload_n 2 q_P_planBy_75 rfl rfl ?_
      exact aw_iret .int q_P_planBy_76 rfl rfl (by rw [show i = x_nc A from Nat.le_antisymm hi (nge_ge c42 (by omega) (by omega))]) rfl
    · skip
      have hlt : i < x_nc A := nge_lt c42 (by omega) (by omega)
      refine aw_iload_n 2 q_P_planBy_45 rfl rfl ?_
      refine aw_iconst 1 q_P_planBy_46 rfl ?_
      refine aw_aload_n 0 q_P_planBy_47 rfl rfl ?_
      refine aw_get 1 q_P_planBy_48 fl_P_9 rfl rfl ?_
      refine aw_iload_n 3 q_P_planBy_51 rfl rfl ?_
      refine aw_ialdN q_P_planBy_52 rfl (by omega) rfl ?_
      refine aw_ishl q_P_planBy_53 ?_
      refine aw_ior q_P_planBy_54 ?_
      rw [bt_one (by omega), nI_or]
      refine aw_istore q_P_planBy_55 rfl rfl ?_
      refine aw_aload_n 0 q_P_planBy_57 rfl rfl ?_
      refine aw_iload q_P_planBy_58 rfl ?_
      refine aw_V1 q_P_planBy_60 st_P_25 rfl (by decide) (Nat.le_of_ble_eq_true rfl) (c_P_isPossible _ _ _ _ _ _ b ho) ?_
      refine aw_if_eq 69 q_P_planBy_63 rfl (fun c63 => ?_) (fun c63 => ?_)
      · skip
        first | refine aw_iinc _ q_P_planBy_69 rfl (am_inc _) rfl rfl ?_ | refine aw_iinc _ q_P_planBy_69 rfl rfl rfl rfl ?_
        refine aw_goto 34 q_P_planBy_72 rfl ?_
        refine aw_kill [4] ?_
        first
          | (have h9 := zI_0.mp c63; have e9 : pbm A (q_or q) (i + 1) = pbm A (q_or q) i := by simp [pbm, h9]
             rw [← e9]; exact ih _ (by omega) (i + 1) rfl (by omega))
          | (have h9 := zI_n0.mp c63; have e9 : pbm A (q_or q) (i + 1) = pbm A (q_or q) i ||| 2 ^ q_or q i := by simp [pbm, h9]
             rw [← e9]; exact ih _ (by omega) (i + 1) rfl (by omega))
      · skip
        refine aw_iload q_P_planBy_66 rfl ?_
        refine aw_istore_n 2 q_P_planBy_68 rfl rfl rfl ?_
        first | refine aw_iinc _ q_P_planBy_69 rfl (am_inc _) rfl rfl ?_ | refine aw_iinc _ q_P_planBy_69 rfl rfl rfl rfl ?_
        refine aw_goto 34 q_P_planBy_72 rfl ?_
        refine aw_kill [4] ?_
        first
          | (have h9 := zI_0.mp c63; have e9 : pbm A (q_or q) (i + 1) = pbm A (q_or q) i := by simp [pbm, h9]
             rw [← e9]; exact ih _ (by omega) (i + 1) rfl (by omega))
          | (have h9 := zI_n0.mp c63; have e9 : pbm A (q_or q) (i + 1) = pbm A (q_or q) i ||| 2 ^ q_or q i := by simp [pbm, h9]
             rw [← e9]; exact ih _ (by omega) (i + 1) rfl (by omega))
theorem c_P_planBy (sc : am_S) (A : ST) (q : QS) (D : ST) (t : TS) (k : Nat) (b : bd A) (hk : k < 3) (hx : psb A (x_mu A) = true) (hf : ∀ i, q_or q i < 14) : AM sc m_P_planBy 5 [.ref 48, .int (nI k)] (hp A q D t) (some (.int (nI (pbm A (orf A k (q_or q) (x_nc A)) (x_nc A))))) (hp A (q_s_or q (orf A k (q_or q) (x_nc A))) D t) := by
  refine AM.of (by decide) (Nat.le_of_ble_eq_true rfl) ?_
  show AW sc m_P_planBy 5 0 [some (.ref 48), some (.int (nI k)), none, none, none] [] _ _ _
  refine aw_aload_n 0 q_P_planBy_0 rfl rfl ?_
  refine aw_get 0 q_P_planBy_1 fl_P_15 rfl rfl ?_
  refine aw_get 10 q_P_planBy_4 fl_P_19 rfl rfl ?_
  refine aw_istore_n 2 q_P_planBy_7 rfl rfl rfl ?_
  refine aw_iload_n 1 q_P_planBy_8 rfl rfl ?_
  refine aw_if_lt 25 q_P_planBy_9 rfl (fun c9 => ?_) (fun c9 => ?_)
  · skip
    first
      | exact absurd c9 (nI_pos (by omega))
      | exact absurd c14 (nI_ge (b := 3) (by omega) (by omega))
      | exact absurd (zI_0.mp c22) (by rw [hx]; decide)
  · skip
    refine aw_iload_n 1 q_P_planBy_12 rfl rfl ?_
    refine aw_iconst 3 q_P_planBy_13 rfl ?_
    refine aw_icmp_ge 25 q_P_planBy_14 rfl (fun c14 => ?_) (fun c14 => ?_)
    · skip
      first
        | exact absurd c9 (nI_pos (by omega))
        | exact absurd c14 (nI_ge (b := 3) (by omega) (by omega))
        | exact absurd (zI_0.mp c22) (by rw [hx]; decide)
    · skip
      refine aw_aload_n 0 q_P_planBy_17 rfl rfl ?_
      refine aw_iload_n 2 q_P_planBy_18 rfl rfl ?_
      refine aw_V1 q_P_planBy_19 st_P_25 rfl (by decide) (Nat.le_of_ble_eq_true rfl) (c_P_isPossible _ _ _ _ _ _ b b.2.2.2.2.2.2.2.2.2.2.2.2.1) ?_
      refine aw_if_ne 27 q_P_planBy_22 rfl (fun c22 => ?_) (fun c22 => ?_)
      · skip
        refine aw_aload_n 0 q_P_planBy_27 rfl rfl ?_
        refine aw_iload_n 1 q_P_planBy_28 rfl rfl ?_
        refine aw_V1v q_P_planBy_29 st_P_29 rfl (by decide) (Nat.le_of_ble_eq_true rfl) (c_P_putInOrder _ _ _ _ _ _ b hk) ?_
        refine aw_iconst 0 q_P_planBy_32 rfl ?_
        refine aw_istore_n 3 q_P_planBy_33 rfl rfl rfl ?_
        exact l_P_planBy sc A (q_s_or q (orf A k (q_or q) (x_nc A))) D t k b (orf_lt b hf _ (Nat.le_refl _)) _ 0 rfl (by omega)
      · skip
        first
          | exact absurd c9 (nI_pos (by omega))
          | exact absurd c14 (nI_ge (b := 3) (by omega) (by omega))
          | exact absurd (zI_0.mp c22) (by rw [hx]; decide)
