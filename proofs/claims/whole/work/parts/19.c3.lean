/-! CONTRACTS 3: Works, read: tests of sets, districts, worths -/
theorem lZ_gt_n {A : ST} (b : bd A) (m y : Nat) (h : lZ (x_bu A y) < lZ (spI A m y)) : ¬ spI A m y ≤ x_bu A y := by
  have h1 := spI_bd b m y
  have h2 := b.2.2.2.2.2.2.2.2.2.2.1 y
  have := (lZ_lt (a := x_bu A y) (b := spI A m y) (by omega) (by omega)).mp h
  omega
theorem lZ_ngt_n {A : ST} (b : bd A) (m y : Nat) (h : ¬ lZ (x_bu A y) < lZ (spI A m y)) : spI A m y ≤ x_bu A y := by
  have h1 := spI_bd b m y
  have h2 := b.2.2.2.2.2.2.2.2.2.2.1 y
  have := mt (lZ_lt (a := x_bu A y) (b := spI A m y) (by omega) (by omega)).mpr h
  omega
theorem c_W_isWithinBudget (sc : am_S) (A : ST) (q : QS) (D : ST) (t : TS) (m y : Nat) (b : bd A) (hm : m < 16384) (hy : y < 6) : AM sc m_W_isWithinBudget 2 [.ref 2, .int (nI m), .int (nI y)] (hp A q D t) (some (.int (zI (decide (spI A m y ≤ x_bu A y))))) (hp A q D t) := by
  refine AM.of (by decide) (Nat.le_of_ble_eq_true rfl) ?_
  show AW sc m_W_isWithinBudget 2 0 [some (.ref 2), some (.int (nI m)), some (.int (nI y))] [] _ _ _
  refine aw_aload_n 0 q_W_isWithinBudget_0 rfl rfl ?_
  refine aw_iload_n 1 q_W_isWithinBudget_1 rfl rfl ?_
  refine aw_iload_n 2 q_W_isWithinBudget_2 rfl rfl ?_
  refine aw_V2 q_W_isWithinBudget_3 st_W_75 rfl (by decide) (Nat.le_of_ble_eq_true rfl) (c_W_spentIn _ _ _ _ _ _ _ b hm hy) ?_
  refine aw_aload_n 0 q_W_isWithinBudget_6 rfl rfl ?_
  refine aw_get 1 q_W_isWithinBudget_7 fl_W_9 rfl rfl ?_
  refine aw_iload_n 2 q_W_isWithinBudget_10 rfl rfl ?_
  refine aw_laldN q_W_isWithinBudget_11 rfl (by omega) rfl ?_
  refine aw_lcmp_gt 20 q_W_isWithinBudget_12 q_W_isWithinBudget_13 rfl (fun c12 => ?_) (fun c12 => ?_)
  · skip
    refine aw_iconst 0 q_W_isWithinBudget_20 rfl ?_
    exact aw_iret .boolean q_W_isWithinBudget_21 rfl rfl (by simp [zI, lZ_gt_n b m y c12]) rfl
  · skip
    refine aw_iconst 1 q_W_isWithinBudget_16 rfl ?_
    refine aw_goto 21 q_W_isWithinBudget_17 rfl ?_
    exact aw_iret .boolean q_W_isWithinBudget_21 rfl rfl (by simp [zI, lZ_ngt_n b m y c12]) rfl
theorem l_W_isWithinAllBudgets (sc : am_S) (A : ST) (q : QS) (D : ST) (t : TS) (m : Nat) (b : bd A) (hm : m < 16384) : ∀ (n i : Nat), x_ny A - i = n → i ≤ x_ny A → wal A m i = true → AW sc m_W_isWithinAllBudgets 3 2 [some (.ref 2), some (.int (nI m)), some (.int (nI i))] [] (hp A q D t) (some (.int (zI (wal A m (x_ny A))))) (hp A q D t) := by
  intro n
  induction n using Nat.strongRecOn with
  | _ n ih =>
    intro i hn hi
    intro hw
    have b1 := b.1
    refine aw_iload_n 2 q_W_isWithinAllBudgets_2 rfl rfl ?_
    refine aw_aload_n 0 q_W_isWithinAllBudgets_3 rfl rfl ?_
    refine aw_get 0 q_W_isWithinAllBudgets_4 fl_W_48 rfl rfl ?_
    refine aw_icmp_ge 27 q_W_isWithinAllBudgets_7 rfl (fun c7 => ?_) (fun c7 => ?_)
    · skip
      refine aw_iconst 1 q_W_isWithinAllBudgets_27 rfl ?_
      exact aw_iret .boolean q_W_isWithinAllBudgets_28 rfl rfl (by rw [show i = x_ny A from Nat.le_antisymm hi (nge_ge c7 (by omega) (by omega))] at hw; rw [hw]; rfl) rfl
    · skip
      have hlt : i < x_ny A := nge_lt c7 (by omega) (by omega)
      refine aw_aload_n 0 q_W_isWithinAllBudgets_10 rfl rfl ?_
      refine aw_iload_n 1 q_W_isWithinAllBudgets_11 rfl rfl ?_
      refine aw_iload_n 2 q_W_isWithinAllBudgets_12 rfl rfl ?_
      refine aw_V2 q_W_isWithinAllBudgets_13 st_W_78 rfl (by decide) (Nat.le_of_ble_eq_true rfl) (c_W_isWithinBudget _ _ _ _ _ _ _ b hm (by omega)) ?_
      refine aw_if_ne 21 q_W_isWithinAllBudgets_16 rfl (fun c16 => ?_) (fun c16 => ?_)
      · skip
        first | refine aw_iinc _ q_W_isWithinAllBudgets_21 rfl (am_inc _) rfl rfl ?_ | refine aw_iinc _ q_W_isWithinAllBudgets_21 rfl rfl rfl rfl ?_
        refine aw_goto 2 q_W_isWithinAllBudgets_24 rfl ?_
        exact ih _ (by omega) (i + 1) rfl (by omega) (by simp only [wal, hw]; simpa using zI_n0.mp c16)
      · skip
        refine aw_iconst 0 q_W_isWithinAllBudgets_19 rfl ?_
        exact aw_iret .boolean q_W_isWithinAllBudgets_20 rfl rfl (by rw [wal_mono (i := i + 1) (by omega) (by simp only [wal, hw]; simpa using zI_0.mp c16)]; rfl) rfl
theorem c_W_isWithinAllBudgets (sc : am_S) (A : ST) (q : QS) (D : ST) (t : TS) (m : Nat) (b : bd A) (hm : m < 16384) : AM sc m_W_isWithinAllBudgets 3 [.ref 2, .int (nI m)] (hp A q D t) (some (.int (zI (wal A m (x_ny A))))) (hp A q D t) := by
  refine AM.of (by decide) (Nat.le_of_ble_eq_true rfl) ?_
  show AW sc m_W_isWithinAllBudgets 3 0 [some (.ref 2), some (.int (nI m)), none] [] _ _ _
  refine aw_iconst 0 q_W_isWithinAllBudgets_0 rfl ?_
  refine aw_istore_n 2 q_W_isWithinAllBudgets_1 rfl rfl rfl ?_
  exact l_W_isWithinAllBudgets sc A q D t m b hm _ 0 rfl (by omega) rfl
theorem tkm_t {A : ST} {m i : Nat} (h : m.testBit i = true) : tkm A m (i + 1) = tkm A m i ||| 2 ^ x_th A i := by simp only [tkm, if_pos h]
theorem tkm_f {A : ST} {m i : Nat} (h : m.testBit i = false) : tkm A m (i + 1) = tkm A m i := by simp [tkm, h]
theorem l_W_isPlan (sc : am_S) (A : ST) (q : QS) (D : ST) (t : TS) (m : Nat) (b : bd A) (hm : m < 16384) : ∀ (n i : Nat), x_nc A - i = n → i ≤ x_nc A → pln A m i = true → AW sc m_W_isPlan 1 4 [some (.ref 2), some (.int (nI m)), some (.int (nI (tkm A m i))), some (.int (nI i))] [] (hp A q D t) (some (.int (zI (pln A m (x_nc A))))) (hp A q D t) := by
  intro n
  induction n using Nat.strongRecOn with
  | _ n ih =>
    intro i hn hi
    intro hw
    have b3 := b.2.2.1
    have b4 := b.2.2.2.1 i
    have b9 := tkm_lt b m i
    refine aw_iload_n 3 q_W_isPlan_4 rfl rfl ?_
    refine aw_aload_n 0 q_W_isPlan_5 rfl rfl ?_
    refine aw_get 5 q_W_isPlan_6 fl_W_55 rfl rfl ?_
    refine aw_icmp_ge 52 q_W_isPlan_9 rfl (fun c9 => ?_) (fun c9 => ?_)
    · skip
      refine aw_iconst 1 q_W_isPlan_52 rfl ?_
      exact aw_iret .boolean q_W_isPlan_53 rfl rfl (by rw [show i = x_nc A from Nat.le_antisymm hi (nge_ge c9 (by omega) (by omega))] at hw; rw [hw]; rfl) rfl
    · skip
      have hlt : i < x_nc A := nge_lt c9 (by omega) (by omega)
      refine aw_iload_n 1 q_W_isPlan_12 rfl rfl ?_
      refine aw_iload_n 3 q_W_isPlan_13 rfl rfl ?_
      refine aw_S2 q_W_isPlan_14 st_W_58 (by decide) (Nat.le_of_ble_eq_true rfl) (c_B_isIn _ _ _ _ (by omega) (by omega)) ?_
      refine aw_if_eq 46 q_W_isPlan_17 rfl (fun c17 => ?_) (fun c17 => ?_)
      · skip
        first | refine aw_iinc _ q_W_isPlan_46 rfl (am_inc _) rfl rfl ?_ | refine aw_iinc _ q_W_isPlan_46 rfl rfl rfl rfl ?_
        refine aw_goto 4 q_W_isPlan_49 rfl ?_
        first
          | (have h9 := zI_0.mp c17; rw [← tkm_f h9]; exact ih _ (by omega) (i + 1) rfl (by omega) (by simp [pln, hw, h9]))
          | (have h9 := zI_n0.mp c17; have h8 := zI_0.mp c30; rw [bt_one (by omega), nI_or, ← tkm_t h9]; exact ih _ (by omega) (i + 1) rfl (by omega) (by simp [pln, hw, h8]))
      · skip
        refine aw_iload_n 2 q_W_isPlan_20 rfl rfl ?_
        refine aw_aload_n 0 q_W_isPlan_21 rfl rfl ?_
        refine aw_get 6 q_W_isPlan_22 fl_W_22 rfl rfl ?_
        refine aw_iload_n 3 q_W_isPlan_25 rfl rfl ?_
        refine aw_ialdN q_W_isPlan_26 rfl (by omega) rfl ?_
        refine aw_S2 q_W_isPlan_27 st_W_58 (by decide) (Nat.le_of_ble_eq_true rfl) (c_B_isIn _ _ _ _ (by omega) (by omega)) ?_
        refine aw_if_eq 35 q_W_isPlan_30 rfl (fun c30 => ?_) (fun c30 => ?_)
        · skip
          refine aw_iload_n 2 q_W_isPlan_35 rfl rfl ?_
          refine aw_iconst 1 q_W_isPlan_36 rfl ?_
          refine aw_aload_n 0 q_W_isPlan_37 rfl rfl ?_
          refine aw_get 6 q_W_isPlan_38 fl_W_22 rfl rfl ?_
          refine aw_iload_n 3 q_W_isPlan_41 rfl rfl ?_
          refine aw_ialdN q_W_isPlan_42 rfl (by omega) rfl ?_
          refine aw_ishl q_W_isPlan_43 ?_
          refine aw_ior q_W_isPlan_44 ?_
          refine aw_istore_n 2 q_W_isPlan_45 rfl rfl rfl ?_
          first | refine aw_iinc _ q_W_isPlan_46 rfl (am_inc _) rfl rfl ?_ | refine aw_iinc _ q_W_isPlan_46 rfl rfl rfl rfl ?_
          refine aw_goto 4 q_W_isPlan_49 rfl ?_
          first
            | (have h9 := zI_0.mp c17; rw [← tkm_f h9]; exact ih _ (by omega) (i + 1) rfl (by omega) (by simp [pln, hw, h9]))
            | (have h9 := zI_n0.mp c17; have h8 := zI_0.mp c30; rw [bt_one (by omega), nI_or, ← tkm_t h9]; exact ih _ (by omega) (i + 1) rfl (by omega) (by simp [pln, hw, h8]))
        · skip
          refine aw_iconst 0 q_W_isPlan_33 rfl ?_
          exact aw_iret .boolean q_W_isPlan_34 rfl rfl (by rw [pln_mono (i := i + 1) (by omega) (by simp [pln, hw, zI_n0.mp c17, zI_n0.mp c30])]; rfl) rfl
theorem c_W_isPlan (sc : am_S) (A : ST) (q : QS) (D : ST) (t : TS) (m : Nat) (b : bd A) (hm : m < 16384) : AM sc m_W_isPlan 1 [.ref 2, .int (nI m)] (hp A q D t) (some (.int (zI (pln A m (x_nc A))))) (hp A q D t) := by
  refine AM.of (by decide) (Nat.le_of_ble_eq_true rfl) ?_
  show AW sc m_W_isPlan 1 0 [some (.ref 2), some (.int (nI m)), none, none] [] _ _ _
  refine aw_iconst 0 q_W_isPlan_0 rfl ?_
  refine aw_istore_n 2 q_W_isPlan_1 rfl rfl rfl ?_
  refine aw_iconst 0 q_W_isPlan_2 rfl ?_
  refine aw_istore_n 3 q_W_isPlan_3 rfl rfl rfl ?_
  exact l_W_isPlan sc A q D t m b hm _ 0 rfl (by omega) rfl
theorem l_W_usedDistricts (sc : am_S) (A : ST) (q : QS) (D : ST) (t : TS)  (b : bd A) : ∀ (n i : Nat), x_nt A - i = n → i ≤ x_nt A →  AW sc m_W_usedDistricts 0 4 [some (.ref 2), some (.int (nI (udm A i))), some (.int (nI i))] [] (hp A q D t) (some (.int (nI (udm A (x_nt A))))) (hp A q D t) := by
  intro n
  induction n using Nat.strongRecOn with
  | _ n ih =>
    intro i hn hi
    have b2 := b.2.1
    have b6 := b.2.2.2.2.2.1 i
    refine aw_iload_n 2 q_W_usedDistricts_4 rfl rfl ?_
    refine aw_aload_n 0 q_W_usedDistricts_5 rfl rfl ?_
    refine aw_get 2 q_W_usedDistricts_6 fl_W_52 rfl rfl ?_
    refine aw_icmp_ge 29 q_W_usedDistricts_9 rfl (fun c9 => ?_) (fun c9 => ?_)
    · skip
      refine aw_iload_n 1 q_W_usedDistricts_29 rfl rfl ?_
      exact aw_iret .int q_W_usedDistricts_30 rfl rfl (by rw [show i = x_nt A from Nat.le_antisymm hi (nge_ge c9 (by omega) (by omega))]) rfl
    · skip
      have hlt : i < x_nt A := nge_lt c9 (by omega) (by omega)
      refine aw_iload_n 1 q_W_usedDistricts_12 rfl rfl ?_
      refine aw_iconst 1 q_W_usedDistricts_13 rfl ?_
      refine aw_aload_n 0 q_W_usedDistricts_14 rfl rfl ?_
      refine aw_get 4 q_W_usedDistricts_15 fl_W_19 rfl rfl ?_
      refine aw_iload_n 2 q_W_usedDistricts_18 rfl rfl ?_
      refine aw_ialdN q_W_usedDistricts_19 rfl (by omega) rfl ?_
      refine aw_ishl q_W_usedDistricts_20 ?_
      refine aw_ior q_W_usedDistricts_21 ?_
      refine aw_istore_n 1 q_W_usedDistricts_22 rfl rfl rfl ?_
      first | refine aw_iinc _ q_W_usedDistricts_23 rfl (am_inc _) rfl rfl ?_ | refine aw_iinc _ q_W_usedDistricts_23 rfl rfl rfl rfl ?_
      refine aw_goto 4 q_W_usedDistricts_26 rfl ?_
      rw [bt_one (by omega), nI_or]
      exact ih _ (by omega) (i + 1) rfl (by omega)
theorem c_W_usedDistricts (sc : am_S) (A : ST) (q : QS) (D : ST) (t : TS)  (b : bd A) : AM sc m_W_usedDistricts 0 [.ref 2] (hp A q D t) (some (.int (nI (udm A (x_nt A))))) (hp A q D t) := by
  refine AM.of (by decide) (Nat.le_of_ble_eq_true rfl) ?_
  show AW sc m_W_usedDistricts 0 0 [some (.ref 2), none, none] [] _ _ _
  refine aw_iconst 0 q_W_usedDistricts_0 rfl ?_
  refine aw_istore_n 1 q_W_usedDistricts_1 rfl rfl rfl ?_
  refine aw_iconst 0 q_W_usedDistricts_2 rfl ?_
  refine aw_istore_n 2 q_W_usedDistricts_3 rfl rfl rfl ?_
  exact l_W_usedDistricts sc A q D t b _ 0 rfl (by omega)
theorem pom_t {A : ST} {m d y i : Nat} (h : m.testBit i = true ∧ x_di A (x_th A i) = d ∧ x_yr A i = y) : pom A m d y (i + 1) = pom A m d y i ||| 2 ^ i := by simp only [pom, if_pos h]
theorem pom_f {A : ST} {m d y i : Nat} (h : ¬ (m.testBit i = true ∧ x_di A (x_th A i) = d ∧ x_yr A i = y)) : pom A m d y (i + 1) = pom A m d y i := by simp only [pom, if_neg h]
theorem l_W_partOf (sc : am_S) (A : ST) (q : QS) (D : ST) (t : TS) (m dd y : Nat) (b : bd A) (hm : m < 16384) (hdd : dd < 4) (hy : y < 6) : ∀ (n i : Nat), x_nc A - i = n → i ≤ x_nc A →  AW sc m_W_partOf 1 6 [some (.ref 2), some (.int (nI m)), some (.int (nI dd)), some (.int (nI y)), some (.int (nI (pom A m dd y i))), some (.int (nI i))] [] (hp A q D t) (some (.int (nI (pom A m dd y (x_nc A))))) (hp A q D t) := by
  intro n
  induction n using Nat.strongRecOn with
  | _ n ih =>
    intro i hn hi
    have b3 := b.2.2.1
    have b4 := b.2.2.2.1 i
    have b5 := b.2.2.2.2.1 i
    have b6 := b.2.2.2.2.2.1 (x_th A i)
    refine aw_iload q_W_partOf_6 rfl ?_
    refine aw_aload_n 0 q_W_partOf_8 rfl rfl ?_
    refine aw_get 5 q_W_partOf_9 fl_W_55 rfl rfl ?_
    refine aw_icmp_ge 60 q_W_partOf_12 rfl (fun c12 => ?_) (fun c12 => ?_)
    · skip
      refine aw_iload q_W_partOf_60 rfl ?_
      exact aw_iret .int q_W_partOf_62 rfl rfl (by rw [show i = x_nc A from Nat.le_antisymm hi (nge_ge c12 (by omega) (by omega))]) rfl
    · skip
      have hlt : i < x_nc A := nge_lt c12 (by omega) (by omega)
      refine aw_iload_n 1 q_W_partOf_15 rfl rfl ?_
      refine aw_iload q_W_partOf_16 rfl ?_
      refine aw_S2 q_W_partOf_18 st_W_58 (by decide) (Nat.le_of_ble_eq_true rfl) (c_B_isIn _ _ _ _ (by omega) (by omega)) ?_
      refine aw_if_eq 54 q_W_partOf_21 rfl (fun c21 => ?_) (fun c21 => ?_)
      · skip
        first | refine aw_iinc _ q_W_partOf_54 rfl (am_inc _) rfl rfl ?_ | refine aw_iinc _ q_W_partOf_54 rfl rfl rfl rfl ?_
        refine aw_goto 6 q_W_partOf_57 rfl ?_
        first
          | (have h9 := zI_0.mp c21; rw [← pom_f (A := A) (m := m) (d := dd) (y := y) (i := i) (by simp [h9])]; exact ih _ (by omega) (i + 1) rfl (by omega))
          | (have h9 := nI_ne (by omega) (by omega) c31; rw [← pom_f (A := A) (m := m) (d := dd) (y := y) (i := i) (by simp [h9])]; exact ih _ (by omega) (i + 1) rfl (by omega))
          | (have h9 := nI_ne (by omega) (by omega) c42; rw [← pom_f (A := A) (m := m) (d := dd) (y := y) (i := i) (by simp [h9])]; exact ih _ (by omega) (i + 1) rfl (by omega))
          | (have h9 := zI_n0.mp c21; have h8 := nI_eq' (by omega) (by omega) c31; have h7 := nI_eq' (by omega) (by omega) c42; rw [bt_one (by omega), nI_or, ← pom_t ⟨h9, h8, h7⟩]; exact ih _ (by omega) (i + 1) rfl (by omega))
      · skip
        refine aw_aload_n 0 q_W_partOf_24 rfl rfl ?_
        refine aw_iload q_W_partOf_25 rfl ?_
        refine aw_V1 q_W_partOf_27 st_W_81 rfl (by decide) (Nat.le_of_ble_eq_true rfl) (c_W_districtOfChoice _ _ _ _ _ _ (by omega) (by omega)) ?_
        refine aw_iload_n 2 q_W_partOf_30 rfl rfl ?_
        refine aw_icmp_ne 54 q_W_partOf_31 rfl (fun c31 => ?_) (fun c31 => ?_)
        · skip
          first | refine aw_iinc _ q_W_partOf_54 rfl (am_inc _) rfl rfl ?_ | refine aw_iinc _ q_W_partOf_54 rfl rfl rfl rfl ?_
          refine aw_goto 6 q_W_partOf_57 rfl ?_
          first
            | (have h9 := zI_0.mp c21; rw [← pom_f (A := A) (m := m) (d := dd) (y := y) (i := i) (by simp [h9])]; exact ih _ (by omega) (i + 1) rfl (by omega))
            | (have h9 := nI_ne (by omega) (by omega) c31; rw [← pom_f (A := A) (m := m) (d := dd) (y := y) (i := i) (by simp [h9])]; exact ih _ (by omega) (i + 1) rfl (by omega))
            | (have h9 := nI_ne (by omega) (by omega) c42; rw [← pom_f (A := A) (m := m) (d := dd) (y := y) (i := i) (by simp [h9])]; exact ih _ (by omega) (i + 1) rfl (by omega))
            | (have h9 := zI_n0.mp c21; have h8 := nI_eq' (by omega) (by omega) c31; have h7 := nI_eq' (by omega) (by omega) c42; rw [bt_one (by omega), nI_or, ← pom_t ⟨h9, h8, h7⟩]; exact ih _ (by omega) (i + 1) rfl (by omega))
        · skip
          refine aw_aload_n 0 q_W_partOf_34 rfl rfl ?_
          refine aw_get 7 q_W_partOf_35 fl_W_25 rfl rfl ?_
          refine aw_iload q_W_partOf_38 rfl ?_
          refine aw_ialdN q_W_partOf_40 rfl (by omega) rfl ?_
          refine aw_iload_n 3 q_W_partOf_41 rfl rfl ?_
          refine aw_icmp_ne 54 q_W_partOf_42 rfl (fun c42 => ?_) (fun c42 => ?_)
          · skip
            first | refine aw_iinc _ q_W_partOf_54 rfl (am_inc _) rfl rfl ?_ | refine aw_iinc _ q_W_partOf_54 rfl rfl rfl rfl ?_
            refine aw_goto 6 q_W_partOf_57 rfl ?_
            first
              | (have h9 := zI_0.mp c21; rw [← pom_f (A := A) (m := m) (d := dd) (y := y) (i := i) (by simp [h9])]; exact ih _ (by omega) (i + 1) rfl (by omega))
              | (have h9 := nI_ne (by omega) (by omega) c31; rw [← pom_f (A := A) (m := m) (d := dd) (y := y) (i := i) (by simp [h9])]; exact ih _ (by omega) (i + 1) rfl (by omega))
              | (have h9 := nI_ne (by omega) (by omega) c42; rw [← pom_f (A := A) (m := m) (d := dd) (y := y) (i := i) (by simp [h9])]; exact ih _ (by omega) (i + 1) rfl (by omega))
              | (have h9 := zI_n0.mp c21; have h8 := nI_eq' (by omega) (by omega) c31; have h7 := nI_eq' (by omega) (by omega) c42; rw [bt_one (by omega), nI_or, ← pom_t ⟨h9, h8, h7⟩]; exact ih _ (by omega) (i + 1) rfl (by omega))
          · skip
            refine aw_iload q_W_partOf_45 rfl ?_
            refine aw_iconst 1 q_W_partOf_47 rfl ?_
            refine aw_iload q_W_partOf_48 rfl ?_
            refine aw_ishl q_W_partOf_50 ?_
            refine aw_ior q_W_partOf_51 ?_
            refine aw_istore q_W_partOf_52 rfl rfl ?_
            first | refine aw_iinc _ q_W_partOf_54 rfl (am_inc _) rfl rfl ?_ | refine aw_iinc _ q_W_partOf_54 rfl rfl rfl rfl ?_
            refine aw_goto 6 q_W_partOf_57 rfl ?_
            first
              | (have h9 := zI_0.mp c21; rw [← pom_f (A := A) (m := m) (d := dd) (y := y) (i := i) (by simp [h9])]; exact ih _ (by omega) (i + 1) rfl (by omega))
              | (have h9 := nI_ne (by omega) (by omega) c31; rw [← pom_f (A := A) (m := m) (d := dd) (y := y) (i := i) (by simp [h9])]; exact ih _ (by omega) (i + 1) rfl (by omega))
              | (have h9 := nI_ne (by omega) (by omega) c42; rw [← pom_f (A := A) (m := m) (d := dd) (y := y) (i := i) (by simp [h9])]; exact ih _ (by omega) (i + 1) rfl (by omega))
              | (have h9 := zI_n0.mp c21; have h8 := nI_eq' (by omega) (by omega) c31; have h7 := nI_eq' (by omega) (by omega) c42; rw [bt_one (by omega), nI_or, ← pom_t ⟨h9, h8, h7⟩]; exact ih _ (by omega) (i + 1) rfl (by omega))
theorem c_W_partOf (sc : am_S) (A : ST) (q : QS) (D : ST) (t : TS) (m dd y : Nat) (b : bd A) (hm : m < 16384) (hdd : dd < 4) (hy : y < 6) : AM sc m_W_partOf 1 [.ref 2, .int (nI m), .int (nI dd), .int (nI y)] (hp A q D t) (some (.int (nI (pom A m dd y (x_nc A))))) (hp A q D t) := by
  refine AM.of (by decide) (Nat.le_of_ble_eq_true rfl) ?_
  show AW sc m_W_partOf 1 0 [some (.ref 2), some (.int (nI m)), some (.int (nI dd)), some (.int (nI y)), none, none] [] _ _ _
  refine aw_iconst 0 q_W_partOf_0 rfl ?_
  refine aw_istore q_W_partOf_1 rfl rfl ?_
  refine aw_iconst 0 q_W_partOf_3 rfl ?_
  refine aw_istore q_W_partOf_4 rfl rfl ?_
  exact l_W_partOf sc A q D t m dd y b hm hdd hy _ 0 rfl (by omega)
theorem nI_gt {a c : Nat} (ha : a < 2 ^ 31) (hc : c < 2 ^ 31) (h : nI a < nI c) : ¬ c ≤ a := by
  have := (nI_ltI ha hc).mp h
  omega
theorem nI_ngt {a c : Nat} (ha : a < 2 ^ 31) (hc : c < 2 ^ 31) (h : ¬ nI a < nI c) : c ≤ a := by
  have := mt (nI_ltI ha hc).mpr h
  omega
theorem l_W_isDoneBy (sc : am_S) (A : ST) (q : QS) (D : ST) (t : TS) (m tt y : Nat) (b : bd A) (hm : m < 16384) (htt : tt < 12) (hy : y < 6) : ∀ (n i : Nat), x_nc A - i = n → i ≤ x_nc A → dnb A m tt y i = false → AW sc m_W_isDoneBy 1 3 [some (.ref 2), some (.int (nI m)), some (.int (nI tt)), some (.int (nI y)), some (.int (nI i))] [] (hp A q D t) (some (.int (zI (dnb A m tt y (x_nc A))))) (hp A q D t) := by
  intro n
  induction n using Nat.strongRecOn with
  | _ n ih =>
    intro i hn hi
    intro hw
    have b3 := b.2.2.1
    have b4 := b.2.2.2.1 i
    have b5 := b.2.2.2.2.1 i
    refine aw_iload q_W_isDoneBy_3 rfl ?_
    refine aw_aload_n 0 q_W_isDoneBy_5 rfl rfl ?_
    refine aw_get 5 q_W_isDoneBy_6 fl_W_55 rfl rfl ?_
    refine aw_icmp_ge 51 q_W_isDoneBy_9 rfl (fun c9 => ?_) (fun c9 => ?_)
    · skip
      refine aw_iconst 0 q_W_isDoneBy_51 rfl ?_
      exact aw_iret .boolean q_W_isDoneBy_52 rfl rfl (by rw [show i = x_nc A from Nat.le_antisymm hi (nge_ge c9 (by omega) (by omega))] at hw; rw [hw]; rfl) rfl
    · skip
      have hlt : i < x_nc A := nge_lt c9 (by omega) (by omega)
      refine aw_iload_n 1 q_W_isDoneBy_12 rfl rfl ?_
      refine aw_iload q_W_isDoneBy_13 rfl ?_
      refine aw_S2 q_W_isDoneBy_15 st_W_58 (by decide) (Nat.le_of_ble_eq_true rfl) (c_B_isIn _ _ _ _ (by omega) (by omega)) ?_
      refine aw_if_eq 45 q_W_isDoneBy_18 rfl (fun c18 => ?_) (fun c18 => ?_)
      · skip
        first | refine aw_iinc _ q_W_isDoneBy_45 rfl (am_inc _) rfl rfl ?_ | refine aw_iinc _ q_W_isDoneBy_45 rfl rfl rfl rfl ?_
        refine aw_goto 3 q_W_isDoneBy_48 rfl ?_
        first
          | (have h9 := zI_0.mp c18; exact ih _ (by omega) (i + 1) rfl (by omega) (by simp [dnb, hw, h9]))
          | (have h9 := nI_ne (by omega) (by omega) c29; exact ih _ (by omega) (i + 1) rfl (by omega) (by simp [dnb, hw, h9]))
          | (have h9 := nI_gt (by omega) (by omega) c40; exact ih _ (by omega) (i + 1) rfl (by omega) (by simp [dnb, hw]; intros; omega))
      · skip
        refine aw_aload_n 0 q_W_isDoneBy_21 rfl rfl ?_
        refine aw_get 6 q_W_isDoneBy_22 fl_W_22 rfl rfl ?_
        refine aw_iload q_W_isDoneBy_25 rfl ?_
        refine aw_ialdN q_W_isDoneBy_27 rfl (by omega) rfl ?_
        refine aw_iload_n 2 q_W_isDoneBy_28 rfl rfl ?_
        refine aw_icmp_ne 45 q_W_isDoneBy_29 rfl (fun c29 => ?_) (fun c29 => ?_)
        · skip
          first | refine aw_iinc _ q_W_isDoneBy_45 rfl (am_inc _) rfl rfl ?_ | refine aw_iinc _ q_W_isDoneBy_45 rfl rfl rfl rfl ?_
          refine aw_goto 3 q_W_isDoneBy_48 rfl ?_
          first
            | (have h9 := zI_0.mp c18; exact ih _ (by omega) (i + 1) rfl (by omega) (by simp [dnb, hw, h9]))
            | (have h9 := nI_ne (by omega) (by omega) c29; exact ih _ (by omega) (i + 1) rfl (by omega) (by simp [dnb, hw, h9]))
            | (have h9 := nI_gt (by omega) (by omega) c40; exact ih _ (by omega) (i + 1) rfl (by omega) (by simp [dnb, hw]; intros; omega))
        · skip
          refine aw_aload_n 0 q_W_isDoneBy_32 rfl rfl ?_
          refine aw_get 7 q_W_isDoneBy_33 fl_W_25 rfl rfl ?_
          refine aw_iload q_W_isDoneBy_36 rfl ?_
          refine aw_ialdN q_W_isDoneBy_38 rfl (by omega) rfl ?_
          refine aw_iload_n 3 q_W_isDoneBy_39 rfl rfl ?_
          refine aw_icmp_gt 45 q_W_isDoneBy_40 rfl (fun c40 => ?_) (fun c40 => ?_)
          · skip
            first | refine aw_iinc _ q_W_isDoneBy_45 rfl (am_inc _) rfl rfl ?_ | refine aw_iinc _ q_W_isDoneBy_45 rfl rfl rfl rfl ?_
            refine aw_goto 3 q_W_isDoneBy_48 rfl ?_
            first
              | (have h9 := zI_0.mp c18; exact ih _ (by omega) (i + 1) rfl (by omega) (by simp [dnb, hw, h9]))
              | (have h9 := nI_ne (by omega) (by omega) c29; exact ih _ (by omega) (i + 1) rfl (by omega) (by simp [dnb, hw, h9]))
              | (have h9 := nI_gt (by omega) (by omega) c40; exact ih _ (by omega) (i + 1) rfl (by omega) (by simp [dnb, hw]; intros; omega))
          · skip
            refine aw_iconst 1 q_W_isDoneBy_43 rfl ?_
            exact aw_iret .boolean q_W_isDoneBy_44 rfl rfl (by rw [dnb_mono (i := i + 1) (by omega) (by simp [dnb, zI_n0.mp c18, nI_eq' (by omega) (by omega) c29, nI_ngt (by omega) (by omega) c40])]; rfl) rfl
theorem c_W_isDoneBy (sc : am_S) (A : ST) (q : QS) (D : ST) (t : TS) (m tt y : Nat) (b : bd A) (hm : m < 16384) (htt : tt < 12) (hy : y < 6) : AM sc m_W_isDoneBy 1 [.ref 2, .int (nI m), .int (nI tt), .int (nI y)] (hp A q D t) (some (.int (zI (dnb A m tt y (x_nc A))))) (hp A q D t) := by
  refine AM.of (by decide) (Nat.le_of_ble_eq_true rfl) ?_
  show AW sc m_W_isDoneBy 1 0 [some (.ref 2), some (.int (nI m)), some (.int (nI tt)), some (.int (nI y)), none] [] _ _ _
  refine aw_iconst 0 q_W_isDoneBy_0 rfl ?_
  refine aw_istore q_W_isDoneBy_1 rfl rfl ?_
  exact l_W_isDoneBy sc A q D t m tt y b hm htt hy _ 0 rfl (by omega) rfl
theorem mwb_f {A : ST} {tt y i : Nat} (h : ¬ (x_th A i = tt ∧ x_yr A i ≤ y)) : mwb A tt y (i + 1) = mwb A tt y i := by simp only [mwb, if_neg h]
theorem mwb_t {A : ST} (b : bd A) {tt y i : Nat} (h : x_th A i = tt ∧ x_yr A i ≤ y) : (if lZ (x_wo A i) < lZ (mwb A tt y i) then lZ (mwb A tt y i) else lZ (x_wo A i)) = lZ (mwb A tt y (i + 1)) := by
  have h1 := mwb_bd b tt y i
  have h2 := b.2.2.2.2.2.2.2.2.1 i
  simp only [mwb, if_pos h]
  by_cases c : x_wo A i < mwb A tt y i
  · rw [if_pos c, if_pos ((lZ_lt (by omega) (by omega)).mpr c)]
  · rw [if_neg c, if_neg (fun z => c ((lZ_lt (by omega) (by omega)).mp z))]
theorem l_W_mostWorthBy (sc : am_S) (A : ST) (q : QS) (D : ST) (t : TS) (tt y : Nat) (b : bd A) (htt : tt < 12) (hy : y < 6) : ∀ (n i : Nat), x_nc A - i = n → i ≤ x_nc A →  AW sc m_W_mostWorthBy 1 5 [some (.ref 2), some (.int (nI tt)), some (.int (nI y)), some (.long (lZ (mwb A tt y i))), none, some (.int (nI i))] [] (hp A q D t) (some (.long (lZ (mwb A tt y (x_nc A))))) (hp A q D t) := by
  intro n
  induction n using Nat.strongRecOn with
  | _ n ih =>
    intro i hn hi
    have b3 := b.2.2.1
    have b4 := b.2.2.2.1 i
    have b5 := b.2.2.2.2.1 i
    refine aw_iload q_W_mostWorthBy_5 rfl ?_
    refine aw_aload_n 0 q_W_mostWorthBy_7 rfl rfl ?_
    refine aw_get 5 q_W_mostWorthBy_8 fl_W_55 rfl rfl ?_
    refine aw_icmp_ge 54 q_W_mostWorthBy_11 rfl (fun c11 => ?_) (fun c11 => ?_)
    · skip
      refine aw_lload_n 3 q_W_mostWorthBy_54 rfl rfl ?_
      exact aw_lret q_W_mostWorthBy_55 rfl (by rw [show i = x_nc A from Nat.le_antisymm hi (nge_ge c11 (by omega) (by omega))]) rfl
    · skip
      have hlt : i < x_nc A := nge_lt c11 (by omega) (by omega)
      refine aw_aload_n 0 q_W_mostWorthBy_14 rfl rfl ?_
      refine aw_get 6 q_W_mostWorthBy_15 fl_W_22 rfl rfl ?_
      refine aw_iload q_W_mostWorthBy_18 rfl ?_
      refine aw_ialdN q_W_mostWorthBy_20 rfl (by omega) rfl ?_
      refine aw_iload_n 1 q_W_mostWorthBy_21 rfl rfl ?_
      refine aw_icmp_ne 48 q_W_mostWorthBy_22 rfl (fun c22 => ?_) (fun c22 => ?_)
      · skip
        first | refine aw_iinc _ q_W_mostWorthBy_48 rfl (am_inc _) rfl rfl ?_ | refine aw_iinc _ q_W_mostWorthBy_48 rfl rfl rfl rfl ?_
        refine aw_goto 5 q_W_mostWorthBy_51 rfl ?_
        first
          | (have h9 := nI_ne (by omega) (by omega) c22; rw [← mwb_f (A := A) (tt := tt) (y := y) (i := i) (by simp [h9])]; exact ih _ (by omega) (i + 1) rfl (by omega))
          | (have h9 := nI_gt (by omega) (by omega) c33; rw [← mwb_f (A := A) (tt := tt) (y := y) (i := i) (by omega)]; exact ih _ (by omega) (i + 1) rfl (by omega))
          | (have h9 := nI_eq' (by omega) (by omega) c22; have h8 := nI_ngt (by omega) (by omega) c33; rw [mwb_t b ⟨h9, h8⟩]; exact ih _ (by omega) (i + 1) rfl (by omega))
      · skip
        refine aw_aload_n 0 q_W_mostWorthBy_25 rfl rfl ?_
        refine aw_get 7 q_W_mostWorthBy_26 fl_W_25 rfl rfl ?_
        refine aw_iload q_W_mostWorthBy_29 rfl ?_
        refine aw_ialdN q_W_mostWorthBy_31 rfl (by omega) rfl ?_
        refine aw_iload_n 2 q_W_mostWorthBy_32 rfl rfl ?_
        refine aw_icmp_gt 48 q_W_mostWorthBy_33 rfl (fun c33 => ?_) (fun c33 => ?_)
        · skip
          first | refine aw_iinc _ q_W_mostWorthBy_48 rfl (am_inc _) rfl rfl ?_ | refine aw_iinc _ q_W_mostWorthBy_48 rfl rfl rfl rfl ?_
          refine aw_goto 5 q_W_mostWorthBy_51 rfl ?_
          first
            | (have h9 := nI_ne (by omega) (by omega) c22; rw [← mwb_f (A := A) (tt := tt) (y := y) (i := i) (by simp [h9])]; exact ih _ (by omega) (i + 1) rfl (by omega))
            | (have h9 := nI_gt (by omega) (by omega) c33; rw [← mwb_f (A := A) (tt := tt) (y := y) (i := i) (by omega)]; exact ih _ (by omega) (i + 1) rfl (by omega))
            | (have h9 := nI_eq' (by omega) (by omega) c22; have h8 := nI_ngt (by omega) (by omega) c33; rw [mwb_t b ⟨h9, h8⟩]; exact ih _ (by omega) (i + 1) rfl (by omega))
        · skip
          refine aw_lload_n 3 q_W_mostWorthBy_36 rfl rfl ?_
          refine aw_aload_n 0 q_W_mostWorthBy_37 rfl rfl ?_
          refine aw_get 9 q_W_mostWorthBy_38 fl_W_31 rfl rfl ?_
          refine aw_iload q_W_mostWorthBy_41 rfl ?_
          refine aw_laldN q_W_mostWorthBy_43 rfl (by omega) rfl ?_
          refine aw_maxL q_W_mostWorthBy_44 (am_in2 (i := 184) rfl rfl) (by decide) (Nat.le_of_ble_eq_true rfl) ?_
          refine aw_lstore_n 3 q_W_mostWorthBy_47 rfl rfl rfl ?_
          first | refine aw_iinc _ q_W_mostWorthBy_48 rfl (am_inc _) rfl rfl ?_ | refine aw_iinc _ q_W_mostWorthBy_48 rfl rfl rfl rfl ?_
          refine aw_goto 5 q_W_mostWorthBy_51 rfl ?_
          first
            | (have h9 := nI_ne (by omega) (by omega) c22; rw [← mwb_f (A := A) (tt := tt) (y := y) (i := i) (by simp [h9])]; exact ih _ (by omega) (i + 1) rfl (by omega))
            | (have h9 := nI_gt (by omega) (by omega) c33; rw [← mwb_f (A := A) (tt := tt) (y := y) (i := i) (by omega)]; exact ih _ (by omega) (i + 1) rfl (by omega))
            | (have h9 := nI_eq' (by omega) (by omega) c22; have h8 := nI_ngt (by omega) (by omega) c33; rw [mwb_t b ⟨h9, h8⟩]; exact ih _ (by omega) (i + 1) rfl (by omega))
theorem c_W_mostWorthBy (sc : am_S) (A : ST) (q : QS) (D : ST) (t : TS) (tt y : Nat) (b : bd A) (htt : tt < 12) (hy : y < 6) : AM sc m_W_mostWorthBy 1 [.ref 2, .int (nI tt), .int (nI y)] (hp A q D t) (some (.long (lZ (mwb A tt y (x_nc A))))) (hp A q D t) := by
  refine AM.of (by decide) (Nat.le_of_ble_eq_true rfl) ?_
  show AW sc m_W_mostWorthBy 1 0 [some (.ref 2), some (.int (nI tt)), some (.int (nI y)), none, none, none] [] _ _ _
  refine aw_lconst (lZ 0) q_W_mostWorthBy_0 rfl ?_
  refine aw_lstore_n 3 q_W_mostWorthBy_1 rfl rfl rfl ?_
  refine aw_iconst 0 q_W_mostWorthBy_2 rfl ?_
  refine aw_istore q_W_mostWorthBy_3 rfl rfl ?_
  exact l_W_mostWorthBy sc A q D t tt y b htt hy _ 0 rfl (by omega)
def mw (A : ST) (tt : Nat) : Int := mwb A tt (x_ny A - 1) (x_nc A)
theorem c_W_mostWorth (sc : am_S) (A : ST) (q : QS) (D : ST) (t : TS) (tt : Nat) (b : bd A) (htt : tt < 12) : AM sc m_W_mostWorth 2 [.ref 2, .int (nI tt)] (hp A q D t) (some (.long (lZ (mw A tt)))) (hp A q D t) := by
  refine AM.of (by decide) (Nat.le_of_ble_eq_true rfl) ?_
  show AW sc m_W_mostWorth 2 0 [some (.ref 2), some (.int (nI tt))] [] _ _ _
  refine aw_aload_n 0 q_W_mostWorth_0 rfl rfl ?_
  refine aw_iload_n 1 q_W_mostWorth_1 rfl rfl ?_
  refine aw_aload_n 0 q_W_mostWorth_2 rfl rfl ?_
  refine aw_get 0 q_W_mostWorth_3 fl_W_48 rfl rfl ?_
  refine aw_iconst 1 q_W_mostWorth_6 rfl ?_
  refine aw_isub q_W_mostWorth_7 ?_
  rw [show (1 : Int32) = nI 1 from rfl, pk_sub (by have := b.2.2.2.2.2.2.2.2.2.2.2.2.2; omega)]
  refine aw_V2 q_W_mostWorth_8 st_W_85 rfl (by decide) (Nat.le_of_ble_eq_true rfl) (c_W_mostWorthBy _ _ _ _ _ _ _ b htt (by have := b.1; omega)) ?_
  exact aw_lret q_W_mostWorth_11 rfl rfl rfl
theorem mw_bd {A : ST} (b : bd A) (tt : Nat) : 0 ≤ mw A tt ∧ mw A tt ≤ 1000000 := mwb_bd b tt _ _
/-- thing u ranks before thing v -/
def rkb (A : ST) (u v : Nat) : Bool := if mw A u = mw A v then (if x_pl A u = x_pl A v then decide (u < v) else decide (x_pl A u < x_pl A v)) else decide (mw A v < mw A u)
theorem mw_eq {A : ST} (b : bd A) {u v : Nat} : lZ (mw A u) = lZ (mw A v) ↔ mw A u = mw A v := by
  have h1 := mw_bd b u
  have h2 := mw_bd b v
  exact lZ_eq (by omega) (by omega)
theorem mw_le {A : ST} (b : bd A) {u v : Nat} : lZ (mw A u) ≤ lZ (mw A v) ↔ mw A u ≤ mw A v := by
  have h1 := mw_bd b u
  have h2 := mw_bd b v
  exact lZ_le (by omega) (by omega)
theorem c_W_ranksBefore (sc : am_S) (A : ST) (q : QS) (D : ST) (t : TS) (u v : Nat) (b : bd A) (hu : u < 12) (hv : v < 12) : AM sc m_W_ranksBefore 3 [.ref 2, .int (nI u), .int (nI v)] (hp A q D t) (some (.int (zI (rkb A u v)))) (hp A q D t) := by
  refine AM.of (by decide) (Nat.le_of_ble_eq_true rfl) ?_
  show AW sc m_W_ranksBefore 3 0 [some (.ref 2), some (.int (nI u)), some (.int (nI v)), none, none, none, none] [] _ _ _
  have bu := b.2.2.2.2.2.2.2.2.2.2.2.1 u
  have bv := b.2.2.2.2.2.2.2.2.2.2.2.1 v
  refine aw_aload_n 0 q_W_ranksBefore_0 rfl rfl ?_
  refine aw_iload_n 1 q_W_ranksBefore_1 rfl rfl ?_
  refine aw_V1 q_W_ranksBefore_2 st_W_88 rfl (by decide) (Nat.le_of_ble_eq_true rfl) (c_W_mostWorth _ _ _ _ _ _ b (by assumption)) ?_
  refine aw_lstore_n 3 q_W_ranksBefore_5 rfl rfl rfl ?_
  refine aw_aload_n 0 q_W_ranksBefore_6 rfl rfl ?_
  refine aw_iload_n 2 q_W_ranksBefore_7 rfl rfl ?_
  refine aw_V1 q_W_ranksBefore_8 st_W_88 rfl (by decide) (Nat.le_of_ble_eq_true rfl) (c_W_mostWorth _ _ _ _ _ _ b (by assumption)) ?_
  refine aw_lstore q_W_ranksBefore_11 rfl rfl ?_
  refine aw_lload_n 3 q_W_ranksBefore_13 rfl rfl ?_
  refine aw_lload q_W_ranksBefore_14 rfl ?_
  refine aw_lcmp_eq 33 q_W_ranksBefore_16 q_W_ranksBefore_17 rfl (fun c16 => ?_) (fun c16 => ?_)
  · skip
    have e1 := (mw_eq b).mp c16
    refine aw_aload_n 0 q_W_ranksBefore_33 rfl rfl ?_
    refine aw_get 3 q_W_ranksBefore_34 fl_W_15 rfl rfl ?_
    refine aw_iload_n 1 q_W_ranksBefore_37 rfl rfl ?_
    refine aw_ialdN q_W_ranksBefore_38 rfl (by omega) rfl ?_
    refine aw_aload_n 0 q_W_ranksBefore_39 rfl rfl ?_
    refine aw_get 3 q_W_ranksBefore_40 fl_W_15 rfl rfl ?_
    refine aw_iload_n 2 q_W_ranksBefore_43 rfl rfl ?_
    refine aw_ialdN q_W_ranksBefore_44 rfl (by omega) rfl ?_
    refine aw_icmp_eq 71 q_W_ranksBefore_45 rfl (fun c45 => ?_) (fun c45 => ?_)
    · skip
      refine aw_iload_n 1 q_W_ranksBefore_71 rfl rfl ?_
      refine aw_iload_n 2 q_W_ranksBefore_72 rfl rfl ?_
      refine aw_icmp_ge 80 q_W_ranksBefore_73 rfl (fun c73 => ?_) (fun c73 => ?_)
      · skip
        refine aw_iconst 0 q_W_ranksBefore_80 rfl ?_
        exact aw_iret .boolean q_W_ranksBefore_81 rfl rfl (by have e2 := nI_eq' (by omega) (by omega) c45; have e3 := nge_ge c73 (by omega) (by omega); rw [zI_f]; simp [rkb, e1, e2]; omega) rfl
      · skip
        refine aw_iconst 1 q_W_ranksBefore_76 rfl ?_
        refine aw_goto 81 q_W_ranksBefore_77 rfl ?_
        exact aw_iret .boolean q_W_ranksBefore_81 rfl rfl (by have e2 := nI_eq' (by omega) (by omega) c45; have e3 := nge_lt c73 (by omega) (by omega); rw [zI_t]; simp [rkb, e1, e2]; omega) rfl
    · skip
      refine aw_aload_n 0 q_W_ranksBefore_48 rfl rfl ?_
      refine aw_get 3 q_W_ranksBefore_49 fl_W_15 rfl rfl ?_
      refine aw_iload_n 1 q_W_ranksBefore_52 rfl rfl ?_
      refine aw_ialdN q_W_ranksBefore_53 rfl (by omega) rfl ?_
      refine aw_aload_n 0 q_W_ranksBefore_54 rfl rfl ?_
      refine aw_get 3 q_W_ranksBefore_55 fl_W_15 rfl rfl ?_
      refine aw_iload_n 2 q_W_ranksBefore_58 rfl rfl ?_
      refine aw_ialdN q_W_ranksBefore_59 rfl (by omega) rfl ?_
      refine aw_icmp_ge 67 q_W_ranksBefore_60 rfl (fun c60 => ?_) (fun c60 => ?_)
      · skip
        refine aw_iconst 0 q_W_ranksBefore_67 rfl ?_
        refine aw_goto 81 q_W_ranksBefore_68 rfl ?_
        exact aw_iret .boolean q_W_ranksBefore_81 rfl rfl (by have e2 := nI_ne (by omega) (by omega) c45; have e3 := nge_ge c60 (by omega) (by omega); rw [zI_f]; simp [rkb, e1, e2]; omega) rfl
      · skip
        refine aw_iconst 1 q_W_ranksBefore_63 rfl ?_
        refine aw_goto 81 q_W_ranksBefore_64 rfl ?_
        exact aw_iret .boolean q_W_ranksBefore_81 rfl rfl (by have e2 := nI_ne (by omega) (by omega) c45; have e3 := nge_lt c60 (by omega) (by omega); rw [zI_t]; simp [rkb, e1, e2]; omega) rfl
  · skip
    have e1 := mt (mw_eq b).mpr c16
    refine aw_lload_n 3 q_W_ranksBefore_20 rfl rfl ?_
    refine aw_lload q_W_ranksBefore_21 rfl ?_
    refine aw_lcmp_le 31 q_W_ranksBefore_23 q_W_ranksBefore_24 rfl (fun c23 => ?_) (fun c23 => ?_)
    · skip
      refine aw_iconst 0 q_W_ranksBefore_31 rfl ?_
      exact aw_iret .boolean q_W_ranksBefore_32 rfl rfl (by have e2 := (mw_le b).mp c23; rw [zI_f]; simp [rkb, e1]; omega) rfl
    · skip
      refine aw_iconst 1 q_W_ranksBefore_27 rfl ?_
      refine aw_goto 32 q_W_ranksBefore_28 rfl ?_
      exact aw_iret .boolean q_W_ranksBefore_32 rfl rfl (by have e2 := mt (mw_le b).mpr c23; rw [zI_t]; simp [rkb, e1]; omega) rfl
