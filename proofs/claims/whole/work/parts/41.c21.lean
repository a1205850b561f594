/-! CONTRACTS 21: the reference is told of things and districts -/
theorem i2l_of (x : Int32) : x.toInt64 = lZ x.toInt := by
  have h1 := Int32.le_toInt x
  have h2 := Int32.toInt_lt x
  apply Int64.toInt_inj.mp
  rw [Int32.toInt_toInt64, lZ_toInt (by omega) (by omega)]
theorem i2l_in (x : Int32) {a m : Int} (ha : -4611686018427387904 ≤ a ∧ a < 4611686018427387904) (hm : -4611686018427387904 ≤ m ∧ m < 4611686018427387904) : decide (¬ x.toInt64 < lZ a ∧ ¬ lZ m < x.toInt64) = decide (a ≤ x.toInt ∧ x.toInt ≤ m) := by
  have h1 := Int32.le_toInt x
  have h2 := Int32.toInt_lt x
  rw [i2l_of, inN (by omega) (by omega) (by omega)]
theorem nt_m1 (n : Nat) (h : n < 2 ^ 31) : (nI n).toInt64 - lZ 1 = lZ ((n : Int) - 1) := by
  rw [i2l_of, nI_toInt h, lZ_sub]
def thM (D : ST) (p : Nat) : ST := x_s_nt (x_s_di (x_s_pl D (va_up (x_pl D) (x_nt D) p)) (va_up (x_di D) (x_nt D) 0)) (x_nt D + 1)
theorem c_M_thing_no (sc : am_S) (A : ST) (q : QS) (D : ST) (t : TS) (x : Int32) (b : bd D) (hx : ¬ ((0 ≤ x.toInt ∧ x.toInt ≤ 999) ∧ x_nt D < 12)) : AM sc m_M_thing 1 [.ref 50, .int x] (hp A q D t) (some (.int (-1))) (hp A q D t) := by
  refine AM.of (by decide) (Nat.le_of_ble_eq_true rfl) ?_
  show AW sc m_M_thing 1 0 [some (.ref 50), some (.int x)] [] _ _ _
  have b2 := b.2.1
  refine aw_iload_n 1 q_M_thing_0 rfl rfl ?_
  refine aw_i2l q_M_thing_1 ?_
  refine aw_lconst (lZ 0) q_M_thing_2 rfl ?_
  refine aw_ldc2 (lZ (999)) q_M_thing_3 (am_in3 (i := 202) rfl rfl) ?_
  refine aw_S3 q_M_thing_6 st_M_72 (by omega) (Nat.le_of_ble_eq_true rfl) (c_M_in _ _ _ _ _) ?_
  refine aw_if_eq 21 q_M_thing_9 rfl (fun c9 => ?_) (fun c9 => ?_)
  · skip
    refine aw_iconst (-1) q_M_thing_21 rfl ?_
    exact aw_iret .int q_M_thing_22 rfl rfl rfl rfl
  · skip
    refine aw_aload_n 0 q_M_thing_12 rfl rfl ?_
    refine aw_get 1 q_M_thing_13 fl_M_76 rfl rfl ?_
    refine aw_bipush 12 q_M_thing_16 rfl ?_
    refine aw_icmp_ne 23 q_M_thing_18 rfl (fun c18 => ?_) (fun c18 => ?_)
    · skip
      exact (hx ⟨of_decide_eq_true (by rw [← i2l_in x (by omega) (by omega)]; exact zI_n0.mp c9), by have := nI_ne (b := 12) (by omega) (by omega) c18; omega⟩).elim
    · skip
      refine aw_iconst (-1) q_M_thing_21 rfl ?_
      exact aw_iret .int q_M_thing_22 rfl rfl rfl rfl
theorem c_M_thing (sc : am_S) (A : ST) (q : QS) (D : ST) (t : TS) (p : Nat) (hp1 : p ≤ 999) (hn : x_nt D < 12) : AM sc m_M_thing 1 [.ref 50, .int (nI p)] (hp A q D t) (some (.int (nI (x_nt D)))) (hp A q (fgA (thM D p)) t) := by
  refine AM.of (by decide) (Nat.le_of_ble_eq_true rfl) ?_
  show AW sc m_M_thing 1 0 [some (.ref 50), some (.int (nI p))] [] _ _ _
  refine aw_iload_n 1 q_M_thing_0 rfl rfl ?_
  refine aw_i2l q_M_thing_1 ?_
  refine aw_lconst (lZ 0) q_M_thing_2 rfl ?_
  refine aw_ldc2 (lZ (999)) q_M_thing_3 (am_in3 (i := 202) rfl rfl) ?_
  refine aw_S3 q_M_thing_6 st_M_72 (by omega) (Nat.le_of_ble_eq_true rfl) (c_M_in _ _ _ _ _) ?_
  refine aw_if_eq 21 q_M_thing_9 rfl (fun c9 => ?_) (fun c9 => ?_)
  · skip
    first
      | exact absurd (zI_0.mp c9) (by rw [i2l_in _ (by omega) (by omega), nI_toInt (by omega)]; simp; omega)
      | exact absurd (nI_eq' (b := 12) (by omega) (by omega) c18) (by omega)
  · skip
    refine aw_aload_n 0 q_M_thing_12 rfl rfl ?_
    refine aw_get 1 q_M_thing_13 fl_M_76 rfl rfl ?_
    refine aw_bipush 12 q_M_thing_16 rfl ?_
    refine aw_icmp_ne 23 q_M_thing_18 rfl (fun c18 => ?_) (fun c18 => ?_)
    · skip
      refine aw_aload_n 0 q_M_thing_23 rfl rfl ?_
      refine aw_get 2 q_M_thing_24 fl_M_7 rfl rfl ?_
      refine aw_aload_n 0 q_M_thing_27 rfl rfl ?_
      refine aw_get 1 q_M_thing_28 fl_M_76 rfl rfl ?_
      refine aw_iload_n 1 q_M_thing_31 rfl rfl ?_
      refine wa_50 _ q_M_thing_32 (by omega) ?_
      refine aw_aload_n 0 q_M_thing_33 rfl rfl ?_
      refine aw_get 3 q_M_thing_34 fl_M_13 rfl rfl ?_
      refine aw_aload_n 0 q_M_thing_37 rfl rfl ?_
      refine aw_get 1 q_M_thing_38 fl_M_76 rfl rfl ?_
      rw [xg_nt_pl]
      refine aw_iconst 0 q_M_thing_41 rfl ?_
      refine wa_51 0 q_M_thing_42 (by omega) ?_
      rw [xg_di_pl]
      refine aw_aload_n 0 q_M_thing_43 rfl rfl ?_
      refine aw_dup q_M_thing_44 rfl ?_
      refine aw_get 1 q_M_thing_45 fl_M_76 rfl rfl ?_
      rw [xg_nt_di, xg_nt_pl]
      refine aw_iconst 1 q_M_thing_48 rfl ?_
      refine aw_iadd q_M_thing_49 ?_
      rw [nI_1]
      refine wp_M_1 _ q_M_thing_50 fl_M_76 ?_
      refine aw_aload_n 0 q_M_thing_53 rfl rfl ?_
      refine aw_V0v q_M_thing_54 st_M_79 rfl (by omega) (Nat.le_of_ble_eq_true rfl) (c_M_tell _ _ _ _ _) ?_
      refine aw_aload_n 0 q_M_thing_57 rfl rfl ?_
      refine aw_get 1 q_M_thing_58 fl_M_76 rfl rfl ?_
      rw [fg_nt, xg_nt_nt]
      refine aw_iconst 1 q_M_thing_61 rfl ?_
      refine aw_isub q_M_thing_62 ?_
      rw [nI_pred]
      exact aw_iret .int q_M_thing_63 rfl rfl rfl rfl
    · skip
      first
        | exact absurd (zI_0.mp c9) (by rw [i2l_in _ (by omega) (by omega), nI_toInt (by omega)]; simp; omega)
        | exact absurd (nI_eq' (b := 12) (by omega) (by omega) c18) (by omega)
theorem c_M_district_no (sc : am_S) (A : ST) (q : QS) (D : ST) (t : TS) (x y : Int32) (b : bd D) (hx : ¬ ((0 ≤ x.toInt ∧ x.toInt ≤ (x_nt D : Int) - 1) ∧ (0 ≤ y.toInt ∧ y.toInt ≤ 3))) : AM sc m_M_district 1 [.ref 50, .int x, .int y] (hp A q D t) (some (.int 0)) (hp A q D t) := by
  refine AM.of (by decide) (Nat.le_of_ble_eq_true rfl) ?_
  show AW sc m_M_district 1 0 [some (.ref 50), some (.int x), some (.int y)] [] _ _ _
  have b2 := b.2.1
  refine aw_iload_n 1 q_M_district_0 rfl rfl ?_
  refine aw_i2l q_M_district_1 ?_
  refine aw_lconst (lZ 0) q_M_district_2 rfl ?_
  refine aw_aload_n 0 q_M_district_3 rfl rfl ?_
  refine aw_get 1 q_M_district_4 fl_M_76 rfl rfl ?_
  refine aw_i2l q_M_district_7 ?_
  refine aw_lconst (lZ 1) q_M_district_8 rfl ?_
  refine aw_lsub q_M_district_9 ?_
  rw [nt_m1 _ (by omega)]
  refine aw_S3 q_M_district_10 st_M_72 (by omega) (Nat.le_of_ble_eq_true rfl) (c_M_in _ _ _ _ _) ?_
  refine aw_if_eq 28 q_M_district_13 rfl (fun c13 => ?_) (fun c13 => ?_)
  · skip
    refine aw_iconst 0 q_M_district_28 rfl ?_
    exact aw_iret .boolean q_M_district_29 rfl rfl rfl rfl
  · skip
    refine aw_iload_n 2 q_M_district_16 rfl rfl ?_
    refine aw_i2l q_M_district_17 ?_
    refine aw_lconst (lZ 0) q_M_district_18 rfl ?_
    refine aw_ldc2 (lZ (3)) q_M_district_19 (am_in4 (i := 3) rfl rfl) ?_
    refine aw_S3 q_M_district_22 st_M_72 (by omega) (Nat.le_of_ble_eq_true rfl) (c_M_in _ _ _ _ _) ?_
    refine aw_if_ne 30 q_M_district_25 rfl (fun c25 => ?_) (fun c25 => ?_)
    · skip
      exact (hx ⟨of_decide_eq_true (by rw [← i2l_in x (by omega) (by omega)]; exact zI_n0.mp c13), of_decide_eq_true (by rw [← i2l_in y (by omega) (by omega)]; exact zI_n0.mp c25)⟩).elim
    · skip
      refine aw_iconst 0 q_M_district_28 rfl ?_
      exact aw_iret .boolean q_M_district_29 rfl rfl rfl rfl
theorem c_M_district (sc : am_S) (A : ST) (q : QS) (D : ST) (t : TS) (u d : Nat) (b : bd D) (hu : u < x_nt D) (hd : d < 4) : AM sc m_M_district 1 [.ref 50, .int (nI u), .int (nI d)] (hp A q D t) (some (.int 1)) (hp A q (fgA (diA D u d)) t) := by
  refine AM.of (by decide) (Nat.le_of_ble_eq_true rfl) ?_
  show AW sc m_M_district 1 0 [some (.ref 50), some (.int (nI u)), some (.int (nI d))] [] _ _ _
  have b2 := b.2.1
  refine aw_iload_n 1 q_M_district_0 rfl rfl ?_
  refine aw_i2l q_M_district_1 ?_
  refine aw_lconst (lZ 0) q_M_district_2 rfl ?_
  refine aw_aload_n 0 q_M_district_3 rfl rfl ?_
  refine aw_get 1 q_M_district_4 fl_M_76 rfl rfl ?_
  refine aw_i2l q_M_district_7 ?_
  refine aw_lconst (lZ 1) q_M_district_8 rfl ?_
  refine aw_lsub q_M_district_9 ?_
  rw [nt_m1 _ (by omega)]
  refine aw_S3 q_M_district_10 st_M_72 (by omega) (Nat.le_of_ble_eq_true rfl) (c_M_in _ _ _ _ _) ?_
  refine aw_if_eq 28 q_M_district_13 rfl (fun c13 => ?_) (fun c13 => ?_)
  · skip
    first
      | exact absurd (zI_0.mp c13) (by rw [i2l_in _ (by omega) (by omega), nI_toInt (by omega)]; simp; omega)
      | exact absurd (zI_0.mp c25) (by rw [i2l_in _ (by omega) (by omega), nI_toInt (by omega)]; simp; omega)
  · skip
    refine aw_iload_n 2 q_M_district_16 rfl rfl ?_
    refine aw_i2l q_M_district_17 ?_
    refine aw_lconst (lZ 0) q_M_district_18 rfl ?_
    refine aw_ldc2 (lZ (3)) q_M_district_19 (am_in4 (i := 3) rfl rfl) ?_
    refine aw_S3 q_M_district_22 st_M_72 (by omega) (Nat.le_of_ble_eq_true rfl) (c_M_in _ _ _ _ _) ?_
    refine aw_if_ne 30 q_M_district_25 rfl (fun c25 => ?_) (fun c25 => ?_)
    · skip
      refine aw_aload_n 0 q_M_district_30 rfl rfl ?_
      refine aw_get 3 q_M_district_31 fl_M_13 rfl rfl ?_
      refine aw_iload_n 1 q_M_district_34 rfl rfl ?_
      refine aw_iload_n 2 q_M_district_35 rfl rfl ?_
      refine wa_51 _ q_M_district_36 (by omega) ?_
      refine aw_aload_n 0 q_M_district_37 rfl rfl ?_
      refine aw_V0v q_M_district_38 st_M_79 rfl (by omega) (Nat.le_of_ble_eq_true rfl) (c_M_tell _ _ _ _ _) ?_
      refine aw_iconst 1 q_M_district_41 rfl ?_
      exact aw_iret .boolean q_M_district_42 rfl rfl rfl rfl
    · skip
      first
        | exact absurd (zI_0.mp c13) (by rw [i2l_in _ (by omega) (by omega), nI_toInt (by omega)]; simp; omega)
        | exact absurd (zI_0.mp c25) (by rw [i2l_in _ (by omega) (by omega), nI_toInt (by omega)]; simp; omega)
