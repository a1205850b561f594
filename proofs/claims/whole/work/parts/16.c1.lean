/-! CONTRACTS 1: the JDK's, the static ones, the tests of numbers -/
theorem nge_lt {a b : Nat} (c : ¬ nI b ≤ nI a) (ha : a < 2 ^ 31) (hb : b < 2 ^ 31) : a < b := by
  rw [nI_leI hb ha] at c
  omega
theorem nge_ge {a b : Nat} (c : nI b ≤ nI a) (ha : a < 2 ^ 31) (hb : b < 2 ^ 31) : b ≤ a := (nI_leI hb ha).mp c
theorem bt_dec {m c : Nat} (hm : m < 2 ^ 31) (hc : c < 32) : decide ((nI m >>> (nI c &&& 31)) &&& 1 = 1) = m.testBit c := by
  rw [Bool.eq_iff_iff, decide_eq_true_iff]
  exact bt_is hm hc
def bcI (x : Int32) : Int32 :=
  let a := x - ((x.toUInt32 >>> ((1 : Int32).toUInt32 &&& Int32.toUInt32 31)).toInt32 &&& 1431655765)
  let b := (a &&& 858993459) + ((a.toUInt32 >>> ((2 : Int32).toUInt32 &&& Int32.toUInt32 31)).toInt32 &&& 858993459)
  let c := (b + (b.toUInt32 >>> ((4 : Int32).toUInt32 &&& Int32.toUInt32 31)).toInt32) &&& 252645135
  let d := c + (c.toUInt32 >>> ((8 : Int32).toUInt32 &&& Int32.toUInt32 31)).toInt32
  let e := d + (d.toUInt32 >>> ((16 : Int32).toUInt32 &&& Int32.toUInt32 31)).toInt32
  e &&& 63
theorem c_JL_compare (sc : am_S) (h : List am_C) (x y : Int64)  : AM sc m_JL_compare 0 [.long x, .long y] h (some (.int (if y ≤ x then (if x = y then 0 else 1) else -1))) h := by
  refine AM.of (by decide) (Nat.le_of_ble_eq_true rfl) ?_
  show AW sc m_JL_compare 0 0 [some (.long x), none, some (.long y), none] [] _ _ _
  refine aw_lload_n 0 q_JL_compare_0 rfl rfl ?_
  refine aw_lload_n 2 q_JL_compare_1 rfl rfl ?_
  refine aw_lcmp_ge 10 q_JL_compare_2 q_JL_compare_3 rfl (fun c2 => ?_) (fun c2 => ?_)
  · skip
    refine aw_lload_n 0 q_JL_compare_10 rfl rfl ?_
    refine aw_lload_n 2 q_JL_compare_11 rfl rfl ?_
    refine aw_lcmp_ne 20 q_JL_compare_12 q_JL_compare_13 rfl (fun c12 => ?_) (fun c12 => ?_)
    · skip
      refine aw_iconst 1 q_JL_compare_20 rfl ?_
      exact aw_iret .int q_JL_compare_21 rfl rfl (by simp [*]) rfl
    · skip
      refine aw_iconst 0 q_JL_compare_16 rfl ?_
      refine aw_goto 21 q_JL_compare_17 rfl ?_
      exact aw_iret .int q_JL_compare_21 rfl rfl (by simp [*]) rfl
  · skip
    refine aw_iconst (-1) q_JL_compare_6 rfl ?_
    refine aw_goto 21 q_JL_compare_7 rfl ?_
    exact aw_iret .int q_JL_compare_21 rfl rfl (by simp [*]) rfl
theorem c_JI_bitCount (sc : am_S) (h : List am_C) (x : Int32)  : AM sc m_JI_bitCount 0 [.int x] h (some (.int (bcI x))) h := by
  refine AM.of (by decide) (Nat.le_of_ble_eq_true rfl) ?_
  show AW sc m_JI_bitCount 0 0 [some (.int x)] [] _ _ _
  refine aw_iload_n 0 q_JI_bitCount_0 rfl rfl ?_
  refine aw_iload_n 0 q_JI_bitCount_1 rfl rfl ?_
  refine aw_iconst 1 q_JI_bitCount_2 rfl ?_
  refine aw_iushr q_JI_bitCount_3 ?_
  refine aw_ldcw 1431655765 q_JI_bitCount_4 (am_in2 (i := 111) rfl rfl) ?_
  refine aw_iand q_JI_bitCount_7 ?_
  refine aw_isub q_JI_bitCount_8 ?_
  refine aw_istore_n 0 q_JI_bitCount_9 rfl rfl rfl ?_
  refine aw_iload_n 0 q_JI_bitCount_10 rfl rfl ?_
  refine aw_ldcw 858993459 q_JI_bitCount_11 (am_in2 (i := 112) rfl rfl) ?_
  refine aw_iand q_JI_bitCount_14 ?_
  refine aw_iload_n 0 q_JI_bitCount_15 rfl rfl ?_
  refine aw_iconst 2 q_JI_bitCount_16 rfl ?_
  refine aw_iushr q_JI_bitCount_17 ?_
  refine aw_ldcw 858993459 q_JI_bitCount_18 (am_in2 (i := 112) rfl rfl) ?_
  refine aw_iand q_JI_bitCount_21 ?_
  refine aw_iadd q_JI_bitCount_22 ?_
  refine aw_istore_n 0 q_JI_bitCount_23 rfl rfl rfl ?_
  refine aw_iload_n 0 q_JI_bitCount_24 rfl rfl ?_
  refine aw_iload_n 0 q_JI_bitCount_25 rfl rfl ?_
  refine aw_iconst 4 q_JI_bitCount_26 rfl ?_
  refine aw_iushr q_JI_bitCount_27 ?_
  refine aw_iadd q_JI_bitCount_28 ?_
  refine aw_ldcw 252645135 q_JI_bitCount_29 (am_in2 (i := 113) rfl rfl) ?_
  refine aw_iand q_JI_bitCount_32 ?_
  refine aw_istore_n 0 q_JI_bitCount_33 rfl rfl rfl ?_
  refine aw_iload_n 0 q_JI_bitCount_34 rfl rfl ?_
  refine aw_iload_n 0 q_JI_bitCount_35 rfl rfl ?_
  refine aw_bipush 8 q_JI_bitCount_36 rfl ?_
  refine aw_iushr q_JI_bitCount_38 ?_
  refine aw_iadd q_JI_bitCount_39 ?_
  refine aw_istore_n 0 q_JI_bitCount_40 rfl rfl rfl ?_
  refine aw_iload_n 0 q_JI_bitCount_41 rfl rfl ?_
  refine aw_iload_n 0 q_JI_bitCount_42 rfl rfl ?_
  refine aw_bipush 16 q_JI_bitCount_43 rfl ?_
  refine aw_iushr q_JI_bitCount_45 ?_
  refine aw_iadd q_JI_bitCount_46 ?_
  refine aw_istore_n 0 q_JI_bitCount_47 rfl rfl rfl ?_
  refine aw_iload_n 0 q_JI_bitCount_48 rfl rfl ?_
  refine aw_bipush 63 q_JI_bitCount_49 rfl ?_
  refine aw_iand q_JI_bitCount_51 ?_
  exact aw_iret .int q_JI_bitCount_52 rfl rfl rfl rfl
theorem c_B_isIn (sc : am_S) (h : List am_C) (m c : Nat) (hm : m < 2 ^ 31) (hc : c < 32) : AM sc m_B_isIn 0 [.int (nI m), .int (nI c)] h (some (.int (zI (m.testBit c)))) h := by
  refine AM.of (by decide) (Nat.le_of_ble_eq_true rfl) ?_
  show AW sc m_B_isIn 0 0 [some (.int (nI m)), some (.int (nI c))] [] _ _ _
  rw [← bt_dec hm hc]
  refine aw_iload_n 0 q_B_isIn_0 rfl rfl ?_
  refine aw_iload_n 1 q_B_isIn_1 rfl rfl ?_
  refine aw_ishr q_B_isIn_2 ?_
  refine aw_iconst 1 q_B_isIn_3 rfl ?_
  refine aw_iand q_B_isIn_4 ?_
  refine aw_iconst 1 q_B_isIn_5 rfl ?_
  refine aw_icmp_ne 13 q_B_isIn_6 rfl (fun c6 => ?_) (fun c6 => ?_)
  · skip
    refine aw_iconst 0 q_B_isIn_13 rfl ?_
    exact aw_iret .boolean q_B_isIn_14 rfl rfl (by simp [zI, *]) rfl
  · skip
    refine aw_iconst 1 q_B_isIn_9 rfl ?_
    refine aw_goto 14 q_B_isIn_10 rfl ?_
    exact aw_iret .boolean q_B_isIn_14 rfl rfl (by simp [zI, *]) rfl
theorem c_M_has (sc : am_S) (h : List am_C) (m c : Nat) (hm : m < 2 ^ 31) (hc : c < 32) : AM sc m_M_has 0 [.int (nI m), .int (nI c)] h (some (.int (zI (m.testBit c)))) h := by
  refine AM.of (by decide) (Nat.le_of_ble_eq_true rfl) ?_
  show AW sc m_M_has 0 0 [some (.int (nI m)), some (.int (nI c))] [] _ _ _
  rw [← bt_dec hm hc]
  refine aw_iload_n 0 q_M_has_0 rfl rfl ?_
  refine aw_iload_n 1 q_M_has_1 rfl rfl ?_
  refine aw_ishr q_M_has_2 ?_
  refine aw_iconst 1 q_M_has_3 rfl ?_
  refine aw_iand q_M_has_4 ?_
  refine aw_iconst 1 q_M_has_5 rfl ?_
  refine aw_icmp_ne 13 q_M_has_6 rfl (fun c6 => ?_) (fun c6 => ?_)
  · skip
    refine aw_iconst 0 q_M_has_13 rfl ?_
    exact aw_iret .boolean q_M_has_14 rfl rfl (by simp [zI, *]) rfl
  · skip
    refine aw_iconst 1 q_M_has_9 rfl ?_
    refine aw_goto 14 q_M_has_10 rfl ?_
    exact aw_iret .boolean q_M_has_14 rfl rfl (by simp [zI, *]) rfl
theorem c_B_isWithin (sc : am_S) (h : List am_C) (v w : Int64)  : AM sc m_B_isWithin 0 [.long v, .long w] h (some (.int (zI (decide (¬ v < 0 ∧ ¬ w < v))))) h := by
  refine AM.of (by decide) (Nat.le_of_ble_eq_true rfl) ?_
  show AW sc m_B_isWithin 0 0 [some (.long v), none, some (.long w), none] [] _ _ _
  refine aw_lload_n 0 q_B_isWithin_0 rfl rfl ?_
  refine aw_lconst 0 q_B_isWithin_1 rfl ?_
  refine aw_lcmp_lt 16 q_B_isWithin_2 q_B_isWithin_3 rfl (fun c2 => ?_) (fun c2 => ?_)
  · skip
    refine aw_iconst 0 q_B_isWithin_16 rfl ?_
    exact aw_iret .boolean q_B_isWithin_17 rfl rfl (by simp [zI, *]) rfl
  · skip
    refine aw_lload_n 0 q_B_isWithin_6 rfl rfl ?_
    refine aw_lload_n 2 q_B_isWithin_7 rfl rfl ?_
    refine aw_lcmp_gt 16 q_B_isWithin_8 q_B_isWithin_9 rfl (fun c8 => ?_) (fun c8 => ?_)
    · skip
      refine aw_iconst 0 q_B_isWithin_16 rfl ?_
      exact aw_iret .boolean q_B_isWithin_17 rfl rfl (by simp [zI, *]) rfl
    · skip
      refine aw_iconst 1 q_B_isWithin_12 rfl ?_
      refine aw_goto 17 q_B_isWithin_13 rfl ?_
      exact aw_iret .boolean q_B_isWithin_17 rfl rfl (by simp [zI, *]) rfl
theorem c_M_in (sc : am_S) (h : List am_C) (v a w : Int64)  : AM sc m_M_in 0 [.long v, .long a, .long w] h (some (.int (zI (decide (¬ v < a ∧ ¬ w < v))))) h := by
  refine AM.of (by decide) (Nat.le_of_ble_eq_true rfl) ?_
  show AW sc m_M_in 0 0 [some (.long v), none, some (.long a), none, some (.long w), none] [] _ _ _
  refine aw_lload_n 0 q_M_in_0 rfl rfl ?_
  refine aw_lload_n 2 q_M_in_1 rfl rfl ?_
  refine aw_lcmp_lt 17 q_M_in_2 q_M_in_3 rfl (fun c2 => ?_) (fun c2 => ?_)
  · skip
    refine aw_iconst 0 q_M_in_17 rfl ?_
    exact aw_iret .boolean q_M_in_18 rfl rfl (by simp [zI, *]) rfl
  · skip
    refine aw_lload_n 0 q_M_in_6 rfl rfl ?_
    refine aw_lload q_M_in_7 rfl ?_
    refine aw_lcmp_gt 17 q_M_in_9 q_M_in_10 rfl (fun c9 => ?_) (fun c9 => ?_)
    · skip
      refine aw_iconst 0 q_M_in_17 rfl ?_
      exact aw_iret .boolean q_M_in_18 rfl rfl (by simp [zI, *]) rfl
    · skip
      refine aw_iconst 1 q_M_in_13 rfl ?_
      refine aw_goto 18 q_M_in_14 rfl ?_
      exact aw_iret .boolean q_M_in_18 rfl rfl (by simp [zI, *]) rfl
theorem c_B_isDistrict (sc : am_S) (h : List am_C) (x : Int32)  : AM sc m_B_isDistrict 0 [.int x] h (some (.int (zI (decide (¬ x < 0 ∧ ¬ 4 ≤ x))))) h := by
  refine AM.of (by decide) (Nat.le_of_ble_eq_true rfl) ?_
  show AW sc m_B_isDistrict 0 0 [some (.int x)] [] _ _ _
  refine aw_iload_n 0 q_B_isDistrict_0 rfl rfl ?_
  refine aw_if_lt 13 q_B_isDistrict_1 rfl (fun c1 => ?_) (fun c1 => ?_)
  · skip
    refine aw_iconst 0 q_B_isDistrict_13 rfl ?_
    exact aw_iret .boolean q_B_isDistrict_14 rfl rfl (by simp [zI, *]) rfl
  · skip
    refine aw_iload_n 0 q_B_isDistrict_4 rfl rfl ?_
    refine aw_iconst 4 q_B_isDistrict_5 rfl ?_
    refine aw_icmp_ge 13 q_B_isDistrict_6 rfl (fun c6 => ?_) (fun c6 => ?_)
    · skip
      refine aw_iconst 0 q_B_isDistrict_13 rfl ?_
      exact aw_iret .boolean q_B_isDistrict_14 rfl rfl (by simp [zI, *]) rfl
    · skip
      refine aw_iconst 1 q_B_isDistrict_9 rfl ?_
      refine aw_goto 14 q_B_isDistrict_10 rfl ?_
      exact aw_iret .boolean q_B_isDistrict_14 rfl rfl (by simp [zI, *]) rfl
theorem c_B_isNodes (sc : am_S) (h : List am_C) (v : Int64)  : AM sc m_B_isNodes 0 [.long v] h (some (.int (zI (decide (¬ v < 1 ∧ ¬ 20000 < v))))) h := by
  refine AM.of (by decide) (Nat.le_of_ble_eq_true rfl) ?_
  show AW sc m_B_isNodes 0 0 [some (.long v), none] [] _ _ _
  refine aw_lload_n 0 q_B_isNodes_0 rfl rfl ?_
  refine aw_lconst 1 q_B_isNodes_1 rfl ?_
  refine aw_lcmp_lt 18 q_B_isNodes_2 q_B_isNodes_3 rfl (fun c2 => ?_) (fun c2 => ?_)
  · skip
    refine aw_iconst 0 q_B_isNodes_18 rfl ?_
    exact aw_iret .boolean q_B_isNodes_19 rfl rfl (by simp [zI, *]) rfl
  · skip
    refine aw_lload_n 0 q_B_isNodes_6 rfl rfl ?_
    refine aw_ldc2 20000 q_B_isNodes_7 (am_in2 (i := 75) rfl rfl) ?_
    refine aw_lcmp_gt 18 q_B_isNodes_10 q_B_isNodes_11 rfl (fun c10 => ?_) (fun c10 => ?_)
    · skip
      refine aw_iconst 0 q_B_isNodes_18 rfl ?_
      exact aw_iret .boolean q_B_isNodes_19 rfl rfl (by simp [zI, *]) rfl
    · skip
      refine aw_iconst 1 q_B_isNodes_14 rfl ?_
      refine aw_goto 19 q_B_isNodes_15 rfl ?_
      exact aw_iret .boolean q_B_isNodes_19 rfl rfl (by simp [zI, *]) rfl
theorem c_W_isYear (sc : am_S) (A : ST) (q : QS) (D : ST) (t : TS) (x : Int32)  : AM sc m_W_isYear 0 [.ref 2, .int x] (hp A q D t) (some (.int (zI (decide (¬ x < 0 ∧ ¬ nI (x_ny A) ≤ x))))) (hp A q D t) := by
  refine AM.of (by decide) (Nat.le_of_ble_eq_true rfl) ?_
  show AW sc m_W_isYear 0 0 [some (.ref 2), some (.int x)] [] _ _ _
  refine aw_iload_n 1 q_W_isYear_0 rfl rfl ?_
  refine aw_if_lt 16 q_W_isYear_1 rfl (fun c1 => ?_) (fun c1 => ?_)
  · skip
    refine aw_iconst 0 q_W_isYear_16 rfl ?_
    exact aw_iret .boolean q_W_isYear_17 rfl rfl (by simp [zI, *]) rfl
  · skip
    refine aw_iload_n 1 q_W_isYear_4 rfl rfl ?_
    refine aw_aload_n 0 q_W_isYear_5 rfl rfl ?_
    refine aw_get 0 q_W_isYear_6 fl_W_48 rfl rfl ?_
    refine aw_icmp_ge 16 q_W_isYear_9 rfl (fun c9 => ?_) (fun c9 => ?_)
    · skip
      refine aw_iconst 0 q_W_isYear_16 rfl ?_
      exact aw_iret .boolean q_W_isYear_17 rfl rfl (by simp [zI, *]) rfl
    · skip
      refine aw_iconst 1 q_W_isYear_12 rfl ?_
      refine aw_goto 17 q_W_isYear_13 rfl ?_
      exact aw_iret .boolean q_W_isYear_17 rfl rfl (by simp [zI, *]) rfl
theorem c_W_isThing (sc : am_S) (A : ST) (q : QS) (D : ST) (t : TS) (x : Int32)  : AM sc m_W_isThing 0 [.ref 2, .int x] (hp A q D t) (some (.int (zI (decide (¬ x < 0 ∧ ¬ nI (x_nt A) ≤ x))))) (hp A q D t) := by
  refine AM.of (by decide) (Nat.le_of_ble_eq_true rfl) ?_
  show AW sc m_W_isThing 0 0 [some (.ref 2), some (.int x)] [] _ _ _
  refine aw_iload_n 1 q_W_isThing_0 rfl rfl ?_
  refine aw_if_lt 16 q_W_isThing_1 rfl (fun c1 => ?_) (fun c1 => ?_)
  · skip
    refine aw_iconst 0 q_W_isThing_16 rfl ?_
    exact aw_iret .boolean q_W_isThing_17 rfl rfl (by simp [zI, *]) rfl
  · skip
    refine aw_iload_n 1 q_W_isThing_4 rfl rfl ?_
    refine aw_aload_n 0 q_W_isThing_5 rfl rfl ?_
    refine aw_get 2 q_W_isThing_6 fl_W_52 rfl rfl ?_
    refine aw_icmp_ge 16 q_W_isThing_9 rfl (fun c9 => ?_) (fun c9 => ?_)
    · skip
      refine aw_iconst 0 q_W_isThing_16 rfl ?_
      exact aw_iret .boolean q_W_isThing_17 rfl rfl (by simp [zI, *]) rfl
    · skip
      refine aw_iconst 1 q_W_isThing_12 rfl ?_
      refine aw_goto 17 q_W_isThing_13 rfl ?_
      exact aw_iret .boolean q_W_isThing_17 rfl rfl (by simp [zI, *]) rfl
theorem c_W_isChoice (sc : am_S) (A : ST) (q : QS) (D : ST) (t : TS) (x : Int32)  : AM sc m_W_isChoice 0 [.ref 2, .int x] (hp A q D t) (some (.int (zI (decide (¬ x < 0 ∧ ¬ nI (x_nc A) ≤ x))))) (hp A q D t) := by
  refine AM.of (by decide) (Nat.le_of_ble_eq_true rfl) ?_
  show AW sc m_W_isChoice 0 0 [some (.ref 2), some (.int x)] [] _ _ _
  refine aw_iload_n 1 q_W_isChoice_0 rfl rfl ?_
  refine aw_if_lt 16 q_W_isChoice_1 rfl (fun c1 => ?_) (fun c1 => ?_)
  · skip
    refine aw_iconst 0 q_W_isChoice_16 rfl ?_
    exact aw_iret .boolean q_W_isChoice_17 rfl rfl (by simp [zI, *]) rfl
  · skip
    refine aw_iload_n 1 q_W_isChoice_4 rfl rfl ?_
    refine aw_aload_n 0 q_W_isChoice_5 rfl rfl ?_
    refine aw_get 5 q_W_isChoice_6 fl_W_55 rfl rfl ?_
    refine aw_icmp_ge 16 q_W_isChoice_9 rfl (fun c9 => ?_) (fun c9 => ?_)
    · skip
      refine aw_iconst 0 q_W_isChoice_16 rfl ?_
      exact aw_iret .boolean q_W_isChoice_17 rfl rfl (by simp [zI, *]) rfl
    · skip
      refine aw_iconst 1 q_W_isChoice_12 rfl ?_
      refine aw_goto 17 q_W_isChoice_13 rfl ?_
      exact aw_iret .boolean q_W_isChoice_17 rfl rfl (by simp [zI, *]) rfl
theorem c_M_isYear (sc : am_S) (A : ST) (q : QS) (D : ST) (t : TS) (x : Int32)  : AM sc m_M_isYear 0 [.ref 50, .int x] (hp A q D t) (some (.int (zI (decide (¬ x < 0 ∧ ¬ nI (x_ny D) ≤ x))))) (hp A q D t) := by
  refine AM.of (by decide) (Nat.le_of_ble_eq_true rfl) ?_
  show AW sc m_M_isYear 0 0 [some (.ref 50), some (.int x)] [] _ _ _
  refine aw_iload_n 1 q_M_isYear_0 rfl rfl ?_
  refine aw_if_lt 16 q_M_isYear_1 rfl (fun c1 => ?_) (fun c1 => ?_)
  · skip
    refine aw_iconst 0 q_M_isYear_16 rfl ?_
    exact aw_iret .boolean q_M_isYear_17 rfl rfl (by simp [zI, *]) rfl
  · skip
    refine aw_iload_n 1 q_M_isYear_4 rfl rfl ?_
    refine aw_aload_n 0 q_M_isYear_5 rfl rfl ?_
    refine aw_get 0 q_M_isYear_6 fl_M_63 rfl rfl ?_
    refine aw_icmp_ge 16 q_M_isYear_9 rfl (fun c9 => ?_) (fun c9 => ?_)
    · skip
      refine aw_iconst 0 q_M_isYear_16 rfl ?_
      exact aw_iret .boolean q_M_isYear_17 rfl rfl (by simp [zI, *]) rfl
    · skip
      refine aw_iconst 1 q_M_isYear_12 rfl ?_
      refine aw_goto 17 q_M_isYear_13 rfl ?_
      exact aw_iret .boolean q_M_isYear_17 rfl rfl (by simp [zI, *]) rfl
theorem c_M_isChoice (sc : am_S) (A : ST) (q : QS) (D : ST) (t : TS) (x : Int32)  : AM sc m_M_isChoice 0 [.ref 50, .int x] (hp A q D t) (some (.int (zI (decide (¬ x < 0 ∧ ¬ nI (x_nc D) ≤ x))))) (hp A q D t) := by
  refine AM.of (by decide) (Nat.le_of_ble_eq_true rfl) ?_
  show AW sc m_M_isChoice 0 0 [some (.ref 50), some (.int x)] [] _ _ _
  refine aw_iload_n 1 q_M_isChoice_0 rfl rfl ?_
  refine aw_if_lt 16 q_M_isChoice_1 rfl (fun c1 => ?_) (fun c1 => ?_)
  · skip
    refine aw_iconst 0 q_M_isChoice_16 rfl ?_
    exact aw_iret .boolean q_M_isChoice_17 rfl rfl (by simp [zI, *]) rfl
  · skip
    refine aw_iload_n 1 q_M_isChoice_4 rfl rfl ?_
    refine aw_aload_n 0 q_M_isChoice_5 rfl rfl ?_
    refine aw_get 4 q_M_isChoice_6 fl_M_84 rfl rfl ?_
    refine aw_icmp_ge 16 q_M_isChoice_9 rfl (fun c9 => ?_) (fun c9 => ?_)
    · skip
      refine aw_iconst 0 q_M_isChoice_16 rfl ?_
      exact aw_iret .boolean q_M_isChoice_17 rfl rfl (by simp [zI, *]) rfl
    · skip
      refine aw_iconst 1 q_M_isChoice_12 rfl ?_
      refine aw_goto 17 q_M_isChoice_13 rfl ?_
      exact aw_iret .boolean q_M_isChoice_17 rfl rfl (by simp [zI, *]) rfl
theorem c_W_countOfSets (sc : am_S) (A : ST) (q : QS) (D : ST) (t : TS)  (hc : x_nc A ≤ 14) : AM sc m_W_countOfSets 0 [.ref 2] (hp A q D t) (some (.int (nI (2 ^ x_nc A)))) (hp A q D t) := by
  refine AM.of (by decide) (Nat.le_of_ble_eq_true rfl) ?_
  show AW sc m_W_countOfSets 0 0 [some (.ref 2)] [] _ _ _
  refine aw_iconst 1 q_W_countOfSets_0 rfl ?_
  refine aw_aload_n 0 q_W_countOfSets_1 rfl rfl ?_
  refine aw_get 5 q_W_countOfSets_2 fl_W_55 rfl rfl ?_
  refine aw_ishl q_W_countOfSets_5 ?_
  exact aw_iret .int q_W_countOfSets_6 rfl rfl (by rw [bt_one (by omega)]) rfl
theorem c_W_districtOfChoice (sc : am_S) (A : ST) (q : QS) (D : ST) (t : TS) (c : Nat) (hc : c < 14) (ht : x_th A c < 12) : AM sc m_W_districtOfChoice 0 [.ref 2, .int (nI c)] (hp A q D t) (some (.int (nI (x_di A (x_th A c))))) (hp A q D t) := by
  refine AM.of (by decide) (Nat.le_of_ble_eq_true rfl) ?_
  show AW sc m_W_districtOfChoice 0 0 [some (.ref 2), some (.int (nI c))] [] _ _ _
  refine aw_aload_n 0 q_W_districtOfChoice_0 rfl rfl ?_
  refine aw_get 4 q_W_districtOfChoice_1 fl_W_19 rfl rfl ?_
  refine aw_aload_n 0 q_W_districtOfChoice_4 rfl rfl ?_
  refine aw_get 6 q_W_districtOfChoice_5 fl_W_22 rfl rfl ?_
  refine aw_iload_n 1 q_W_districtOfChoice_8 rfl rfl ?_
  refine aw_ialdN q_W_districtOfChoice_9 rfl (by omega) rfl ?_
  refine aw_ialdN q_W_districtOfChoice_10 rfl (by omega) rfl ?_
  exact aw_iret .int q_W_districtOfChoice_11 rfl rfl rfl rfl
