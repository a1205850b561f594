/-! CONSTRUCTORS -/
def ny0 (x : Int32) : Nat := if x < 1 then 1 else if 6 < x then 6 else x.toNatClampNeg
theorem ny0_1 {x : Int32} (h : x < 1) : (1 : Int32) = nI (ny0 x) := by
  unfold ny0
  rw [if_pos h]
  rfl
theorem ny0_2 {x : Int32} (h : ¬ x < 1) (h2 : 6 < x) : (6 : Int32) = nI (ny0 x) := by
  unfold ny0
  rw [if_neg h, if_pos h2]
  rfl
theorem ny0_3 {x : Int32} (h : ¬ x < 1) (h2 : ¬ 6 < x) : x = nI (ny0 x) := by
  have h0 : ¬ x < 0 := fun e => h (Int32.lt_of_lt_of_le e (by decide))
  obtain ⟨c, hc, rfl⟩ := nI_of (x := x) (by simpa using h0)
  unfold ny0
  rw [if_neg h, if_neg h2, nI_clamp (by omega)]
theorem ny0_b (x : Int32) : 1 ≤ ny0 x ∧ ny0 x ≤ 6 := by
  unfold ny0
  by_cases h : x < 1
  · rw [if_pos h]; omega
  · rw [if_neg h]
    by_cases h2 : 6 < x
    · rw [if_pos h2]; omega
    · rw [if_neg h2]
      have h0 : ¬ x < 0 := fun e => h (Int32.lt_of_lt_of_le e (by decide))
      obtain ⟨c, hc, rfl⟩ := nI_of (x := x) (by simpa using h0)
      rw [nI_clamp (by omega)]
      have h3 := mt (nI_ltI (a := c) (b := 1) (by omega) (by omega)).mpr h
      have h4 := mt (nI_ltI (a := 6) (b := c) (by omega) (by omega)).mpr h2
      omega
theorem ny0_m (x : Int32) : (if 1 < (if x < 6 then x else 6) then (if x < 6 then x else 6) else 1) = nI (ny0 x) := by
  by_cases h : x < 1
  · have h6 : x < 6 := Int32.lt_of_lt_of_le h (by decide)
    rw [if_pos h6, if_neg (fun e => Int32.lt_irrefl (Int32.lt_trans h e)), ← ny0_1 h]
  · have h1 : 1 ≤ x := Int32.not_lt.mp h
    by_cases h6 : 6 < x
    · rw [if_neg (fun e => Int32.lt_irrefl (Int32.lt_trans h6 e)), if_pos (by decide), ← ny0_2 h h6]
    · rw [← ny0_3 h h6]
      by_cases h5 : x < 6
      · rw [if_pos h5]
        by_cases h7 : 1 < x
        · rw [if_pos h7]
        · rw [if_neg h7]
          exact Int32.le_antisymm h1 (Int32.not_lt.mp h7)
      · rw [if_neg h5, if_pos (by decide)]
        exact Int32.le_antisymm (Int32.not_lt.mp h5) (Int32.not_lt.mp h6)
def A0 (n : Nat) : ST := (n, 0, 0, 0, 0, -1, fun _ => 0, fun _ => 0, fun _ => 0, fun _ => 0, fun _ => 0, fun _ => 0, fun _ => 0, fun _ => 0, fun _ _ => 0, fun _ => 0, fun _ => 0, fun _ => 0, none, 0, false)
def q0 : QS := (false, some 0, false, 0, 0, 0, 0, 0, false, 0, fun _ => 0, fun _ _ => 0, fun _ => 0, 0, 0, 0, 0, fun _ => 0, fun _ => 0, some 0, 0, 0, 0, fun _ => 0)
def t0 : TS := (fun _ => 0, fun _ => 0, fun _ => 0)
theorem c_W_init (sc : am_S) (c0 : am_C) (n : Nat) : AM sc m_W_init 1 [.ref 2, .int (nI n)] [c0, .inr (0, [.int 0, .null, .int 0, .null, .null, .int 0, .null, .null, .null, .null, .int 0, .int 0, .null, .null, .long 0])] none [c0, .inr (0, [.int (nI n), .ref 3, .int 0, .ref 4, .ref 5, .int 0, .ref 6, .ref 7, .ref 8, .ref 9, .int 0, .int 0, .ref 10, .ref 11, .long (lZ (-1))]), aL 6 (fun _ => 0), aI 12 (fun _ => 0), aI 12 (fun _ => 0), aI 14 (fun _ => 0), aI 14 (fun _ => 0), aL 14 (fun _ => 0), aL 14 (fun _ => 0), aI 14 (fun _ => 0), aA 14 11, aL 14 (fun _ => 0), aL 14 (fun _ => 0), aL 14 (fun _ => 0), aL 14 (fun _ => 0), aL 14 (fun _ => 0), aL 14 (fun _ => 0), aL 14 (fun _ => 0), aL 14 (fun _ => 0), aL 14 (fun _ => 0), aL 14 (fun _ => 0), aL 14 (fun _ => 0), aL 14 (fun _ => 0), aL 14 (fun _ => 0), aL 14 (fun _ => 0)] := by
  refine AM.of (by decide) (Nat.le_of_ble_eq_true rfl) ?_
  show AW sc m_W_init 1 0 [some (.ref 2), some (.int (nI n))] [] _ _ _
  refine aw_aload_n 0 q_W_init_0 rfl rfl ?_
  refine aw_obj q_W_init_1 (ob_W rfl) ob_i ob_c (by omega) (Nat.le_of_ble_eq_true rfl) ?_
  refine aw_aload_n 0 q_W_init_4 rfl rfl ?_
  refine aw_bipush 6 q_W_init_5 rfl ?_
  refine aw_newl (t := 1) (N := 6) 2 q_W_init_7 ac_l rfl (by decide) rfl (by decide) rfl ?_
  refine aw_putF 1 q_W_init_9 fl_W_9 tb_W fi_W_1 rfl ow_W rfl rfl rfl ?_
  refine aw_is (hx := [c0, .inr (0, [.int 0, .ref 3, .int 0, .null, .null, .int 0, .null, .null, .null, .null, .int 0, .int 0, .null, .null, .long 0]), aL 6 (fun _ => 0)]) rfl rfl rfl ?_
  refine aw_aload_n 0 q_W_init_12 rfl rfl ?_
  refine aw_bipush 12 q_W_init_13 rfl ?_
  refine aw_newi (t := 0) (N := 12) 3 q_W_init_15 ac_i rfl (by decide) rfl (by decide) rfl ?_
  refine aw_putF 3 q_W_init_17 fl_W_15 tb_W fi_W_3 rfl ow_W rfl rfl rfl ?_
  refine aw_is (hx := [c0, .inr (0, [.int 0, .ref 3, .int 0, .ref 4, .null, .int 0, .null, .null, .null, .null, .int 0, .int 0, .null, .null, .long 0]), aL 6 (fun _ => 0), aI 12 (fun _ => 0)]) rfl rfl rfl ?_
  refine aw_aload_n 0 q_W_init_20 rfl rfl ?_
  refine aw_bipush 12 q_W_init_21 rfl ?_
  refine aw_newi (t := 0) (N := 12) 4 q_W_init_23 ac_i rfl (by decide) rfl (by decide) rfl ?_
  refine aw_putF 4 q_W_init_25 fl_W_19 tb_W fi_W_4 rfl ow_W rfl rfl rfl ?_
  refine aw_is (hx := [c0, .inr (0, [.int 0, .ref 3, .int 0, .ref 4, .ref 5, .int 0, .null, .null, .null, .null, .int 0, .int 0, .null, .null, .long 0]), aL 6 (fun _ => 0), aI 12 (fun _ => 0), aI 12 (fun _ => 0)]) rfl rfl rfl ?_
  refine aw_aload_n 0 q_W_init_28 rfl rfl ?_
  refine aw_bipush 14 q_W_init_29 rfl ?_
  refine aw_newi (t := 0) (N := 14) 5 q_W_init_31 ac_i rfl (by decide) rfl (by decide) rfl ?_
  refine aw_putF 6 q_W_init_33 fl_W_22 tb_W fi_W_6 rfl ow_W rfl rfl rfl ?_
  refine aw_is (hx := [c0, .inr (0, [.int 0, .ref 3, .int 0, .ref 4, .ref 5, .int 0, .ref 6, .null, .null, .null, .int 0, .int 0, .null, .null, .long 0]), aL 6 (fun _ => 0), aI 12 (fun _ => 0), aI 12 (fun _ => 0), aI 14 (fun _ => 0)]) rfl rfl rfl ?_
  refine aw_aload_n 0 q_W_init_36 rfl rfl ?_
  refine aw_bipush 14 q_W_init_37 rfl ?_
  refine aw_newi (t := 0) (N := 14) 6 q_W_init_39 ac_i rfl (by decide) rfl (by decide) rfl ?_
  refine aw_putF 7 q_W_init_41 fl_W_25 tb_W fi_W_7 rfl ow_W rfl rfl rfl ?_
  refine aw_is (hx := [c0, .inr (0, [.int 0, .ref 3, .int 0, .ref 4, .ref 5, .int 0, .ref 6, .ref 7, .null, .null, .int 0, .int 0, .null, .null, .long 0]), aL 6 (fun _ => 0), aI 12 (fun _ => 0), aI 12 (fun _ => 0), aI 14 (fun _ => 0), aI 14 (fun _ => 0)]) rfl rfl rfl ?_
  refine aw_aload_n 0 q_W_init_44 rfl rfl ?_
  refine aw_bipush 14 q_W_init_45 rfl ?_
  refine aw_newl (t := 1) (N := 14) 7 q_W_init_47 ac_l rfl (by decide) rfl (by decide) rfl ?_
  refine aw_putF 8 q_W_init_49 fl_W_28 tb_W fi_W_8 rfl ow_W rfl rfl rfl ?_
  refine aw_is (hx := [c0, .inr (0, [.int 0, .ref 3, .int 0, .ref 4, .ref 5, .int 0, .ref 6, .ref 7, .ref 8, .null, .int 0, .int 0, .null, .null, .long 0]), aL 6 (fun _ => 0), aI 12 (fun _ => 0), aI 12 (fun _ => 0), aI 14 (fun _ => 0), aI 14 (fun _ => 0), aL 14 (fun _ => 0)]) rfl rfl rfl ?_
  refine aw_aload_n 0 q_W_init_52 rfl rfl ?_
  refine aw_bipush 14 q_W_init_53 rfl ?_
  refine aw_newl (t := 1) (N := 14) 8 q_W_init_55 ac_l rfl (by decide) rfl (by decide) rfl ?_
  refine aw_putF 9 q_W_init_57 fl_W_31 tb_W fi_W_9 rfl ow_W rfl rfl rfl ?_
  refine aw_is (hx := [c0, .inr (0, [.int 0, .ref 3, .int 0, .ref 4, .ref 5, .int 0, .ref 6, .ref 7, .ref 8, .ref 9, .int 0, .int 0, .null, .null, .long 0]), aL 6 (fun _ => 0), aI 12 (fun _ => 0), aI 12 (fun _ => 0), aI 14 (fun _ => 0), aI 14 (fun _ => 0), aL 14 (fun _ => 0), aL 14 (fun _ => 0)]) rfl rfl rfl ?_
  refine aw_aload_n 0 q_W_init_60 rfl rfl ?_
  refine aw_bipush 14 q_W_init_61 rfl ?_
  refine aw_newi (t := 0) (N := 14) 9 q_W_init_63 ac_i rfl (by decide) rfl (by decide) rfl ?_
  refine aw_putF 12 q_W_init_65 fl_W_34 tb_W fi_W_12 rfl ow_W rfl rfl rfl ?_
  refine aw_is (hx := [c0, .inr (0, [.int 0, .ref 3, .int 0, .ref 4, .ref 5, .int 0, .ref 6, .ref 7, .ref 8, .ref 9, .int 0, .int 0, .ref 10, .null, .long 0]), aL 6 (fun _ => 0), aI 12 (fun _ => 0), aI 12 (fun _ => 0), aI 14 (fun _ => 0), aI 14 (fun _ => 0), aL 14 (fun _ => 0), aL 14 (fun _ => 0), aI 14 (fun _ => 0)]) rfl rfl rfl ?_
  refine aw_aload_n 0 q_W_init_68 rfl rfl ?_
  refine aw_bipush 14 q_W_init_69 rfl ?_
  refine aw_bipush 14 q_W_init_71 rfl ?_
  refine aw_mna (N := 14) (K := 14) 10 q_W_init_73 jj_W ac_l (by decide) (by decide) rfl rfl (by decide) (by decide) rfl ?_
  refine aw_putF 13 q_W_init_77 fl_W_39 tb_W fi_W_13 rfl ow_W rfl rfl rfl ?_
  refine aw_is (hx := [c0, .inr (0, [.int 0, .ref 3, .int 0, .ref 4, .ref 5, .int 0, .ref 6, .ref 7, .ref 8, .ref 9, .int 0, .int 0, .ref 10, .ref 11, .long 0]), aL 6 (fun _ => 0), aI 12 (fun _ => 0), aI 12 (fun _ => 0), aI 14 (fun _ => 0), aI 14 (fun _ => 0), aL 14 (fun _ => 0), aL 14 (fun _ => 0), aI 14 (fun _ => 0), aA 14 11, aL 14 (fun _ => 0), aL 14 (fun _ => 0), aL 14 (fun _ => 0), aL 14 (fun _ => 0), aL 14 (fun _ => 0), aL 14 (fun _ => 0), aL 14 (fun _ => 0), aL 14 (fun _ => 0), aL 14 (fun _ => 0), aL 14 (fun _ => 0), aL 14 (fun _ => 0), aL 14 (fun _ => 0), aL 14 (fun _ => 0), aL 14 (fun _ => 0)]) rfl rfl rfl ?_
  refine aw_aload_n 0 q_W_init_80 rfl rfl ?_
  refine aw_ldc2 (lZ (-1)) q_W_init_81 (am_in1 (i := 32) rfl rfl) ?_
  refine aw_put 14 q_W_init_84 fl_W_44 tb_W fi_W_14 rfl rfl rfl ?_
  refine aw_is (hx := [c0, .inr (0, [.int 0, .ref 3, .int 0, .ref 4, .ref 5, .int 0, .ref 6, .ref 7, .ref 8, .ref 9, .int 0, .int 0, .ref 10, .ref 11, .long (lZ (-1))]), aL 6 (fun _ => 0), aI 12 (fun _ => 0), aI 12 (fun _ => 0), aI 14 (fun _ => 0), aI 14 (fun _ => 0), aL 14 (fun _ => 0), aL 14 (fun _ => 0), aI 14 (fun _ => 0), aA 14 11, aL 14 (fun _ => 0), aL 14 (fun _ => 0), aL 14 (fun _ => 0), aL 14 (fun _ => 0), aL 14 (fun _ => 0), aL 14 (fun _ => 0), aL 14 (fun _ => 0), aL 14 (fun _ => 0), aL 14 (fun _ => 0), aL 14 (fun _ => 0), aL 14 (fun _ => 0), aL 14 (fun _ => 0), aL 14 (fun _ => 0), aL 14 (fun _ => 0)]) rfl rfl rfl ?_
  refine aw_aload_n 0 q_W_init_87 rfl rfl ?_
  refine aw_iload_n 1 q_W_init_88 rfl rfl ?_
  refine aw_putF 0 q_W_init_89 fl_W_48 tb_W fi_W_0 rfl ow_W rfl rfl rfl ?_
  refine aw_is (hx := [c0, .inr (0, [.int (nI n), .ref 3, .int 0, .ref 4, .ref 5, .int 0, .ref 6, .ref 7, .ref 8, .ref 9, .int 0, .int 0, .ref 10, .ref 11, .long (lZ (-1))]), aL 6 (fun _ => 0), aI 12 (fun _ => 0), aI 12 (fun _ => 0), aI 14 (fun _ => 0), aI 14 (fun _ => 0), aL 14 (fun _ => 0), aL 14 (fun _ => 0), aI 14 (fun _ => 0), aA 14 11, aL 14 (fun _ => 0), aL 14 (fun _ => 0), aL 14 (fun _ => 0), aL 14 (fun _ => 0), aL 14 (fun _ => 0), aL 14 (fun _ => 0), aL 14 (fun _ => 0), aL 14 (fun _ => 0), aL 14 (fun _ => 0), aL 14 (fun _ => 0), aL 14 (fun _ => 0), aL 14 (fun _ => 0), aL 14 (fun _ => 0), aL 14 (fun _ => 0)]) rfl rfl rfl ?_
  exact aw_vret q_W_init_92 rfl rfl rfl
theorem c_S_init (sc : am_S) (c0 c1 c2 c3 c4 c5 c6 c7 c8 c9 c10 c11 c12 c13 c14 c15 c16 c17 c18 c19 c20 c21 c22 c23 c24 : am_C) : AM sc m_S_init 1 [.ref 26, .ref 2] [c0, c1, c2, c3, c4, c5, c6, c7, c8, c9, c10, c11, c12, c13, c14, c15, c16, c17, c18, c19, c20, c21, c22, c23, c24, .inr (1, [.null, .long 0, .int 0, .int 0, .int 0, .int 0, .int 0, .null, .null, .null, .int 0, .int 0, .int 0, .long 0, .null, .null, .int 0, .int 0, .long 0, .int 0])] none [c0, c1, c2, c3, c4, c5, c6, c7, c8, c9, c10, c11, c12, c13, c14, c15, c16, c17, c18, c19, c20, c21, c22, c23, c24, .inr (1, [.ref 2, .long 0, .int 0, .int 0, .int 0, .int 0, .int 0, .ref 27, .ref 28, .ref 44, .int 0, .int 0, .int 0, .long 0, .ref 45, .ref 46, .int 0, .int 0, .long 0, .int 0]), aL 6 (fun _ => 0), aA 15 28, aL 6 (fun _ => 0), aL 6 (fun _ => 0), aL 6 (fun _ => 0), aL 6 (fun _ => 0), aL 6 (fun _ => 0), aL 6 (fun _ => 0), aL 6 (fun _ => 0), aL 6 (fun _ => 0), aL 6 (fun _ => 0), aL 6 (fun _ => 0), aL 6 (fun _ => 0), aL 6 (fun _ => 0), aL 6 (fun _ => 0), aL 6 (fun _ => 0), aL 6 (fun _ => 0), aL 15 (fun _ => 0), aL 6 (fun _ => 0), aL 4 (fun _ => 0)] := by
  refine AM.of (by decide) (Nat.le_of_ble_eq_true rfl) ?_
  show AW sc m_S_init 1 0 [some (.ref 26), some (.ref 2)] [] _ _ _
  refine aw_aload_n 0 q_S_init_0 rfl rfl ?_
  refine aw_obj q_S_init_1 (ob_S rfl) ob_i ob_c (by omega) (Nat.le_of_ble_eq_true rfl) ?_
  refine aw_aload_n 0 q_S_init_4 rfl rfl ?_
  refine aw_bipush 6 q_S_init_5 rfl ?_
  refine aw_newl (t := 1) (N := 6) 26 q_S_init_7 ac_l rfl (by decide) rfl (by decide) rfl ?_
  refine aw_putF 7 q_S_init_9 fl_S_9 tb_S fi_S_7 rfl ow_S rfl rfl rfl ?_
  refine aw_is (hx := [c0, c1, c2, c3, c4, c5, c6, c7, c8, c9, c10, c11, c12, c13, c14, c15, c16, c17, c18, c19, c20, c21, c22, c23, c24, .inr (1, [.null, .long 0, .int 0, .int 0, .int 0, .int 0, .int 0, .ref 27, .null, .null, .int 0, .int 0, .int 0, .long 0, .null, .null, .int 0, .int 0, .long 0, .int 0]), aL 6 (fun _ => 0)]) rfl rfl rfl ?_
  refine aw_aload_n 0 q_S_init_12 rfl rfl ?_
  refine aw_bipush 15 q_S_init_13 rfl ?_
  refine aw_bipush 6 q_S_init_15 rfl ?_
  refine aw_mna (N := 15) (K := 6) 27 q_S_init_17 jj_S ac_l (by decide) (by decide) rfl rfl (by decide) (by decide) rfl ?_
  refine aw_putF 8 q_S_init_21 fl_S_17 tb_S fi_S_8 rfl ow_S rfl rfl rfl ?_
  refine aw_is (hx := [c0, c1, c2, c3, c4, c5, c6, c7, c8, c9, c10, c11, c12, c13, c14, c15, c16, c17, c18, c19, c20, c21, c22, c23, c24, .inr (1, [.null, .long 0, .int 0, .int 0, .int 0, .int 0, .int 0, .ref 27, .ref 28, .null, .int 0, .int 0, .int 0, .long 0, .null, .null, .int 0, .int 0, .long 0, .int 0]), aL 6 (fun _ => 0), aA 15 28, aL 6 (fun _ => 0), aL 6 (fun _ => 0), aL 6 (fun _ => 0), aL 6 (fun _ => 0), aL 6 (fun _ => 0), aL 6 (fun _ => 0), aL 6 (fun _ => 0), aL 6 (fun _ => 0), aL 6 (fun _ => 0), aL 6 (fun _ => 0), aL 6 (fun _ => 0), aL 6 (fun _ => 0), aL 6 (fun _ => 0), aL 6 (fun _ => 0), aL 6 (fun _ => 0)]) rfl rfl rfl ?_
  refine aw_aload_n 0 q_S_init_24 rfl rfl ?_
  refine aw_bipush 15 q_S_init_25 rfl ?_
  refine aw_newl (t := 1) (N := 15) 43 q_S_init_27 ac_l rfl (by decide) rfl (by decide) rfl ?_
  refine aw_putF 9 q_S_init_29 fl_S_20 tb_S fi_S_9 rfl ow_S rfl rfl rfl ?_
  refine aw_is (hx := [c0, c1, c2, c3, c4, c5, c6, c7, c8, c9, c10, c11, c12, c13, c14, c15, c16, c17, c18, c19, c20, c21, c22, c23, c24, .inr (1, [.null, .long 0, .int 0, .int 0, .int 0, .int 0, .int 0, .ref 27, .ref 28, .ref 44, .int 0, .int 0, .int 0, .long 0, .null, .null, .int 0, .int 0, .long 0, .int 0]), aL 6 (fun _ => 0), aA 15 28, aL 6 (fun _ => 0), aL 6 (fun _ => 0), aL 6 (fun _ => 0), aL 6 (fun _ => 0), aL 6 (fun _ => 0), aL 6 (fun _ => 0), aL 6 (fun _ => 0), aL 6 (fun _ => 0), aL 6 (fun _ => 0), aL 6 (fun _ => 0), aL 6 (fun _ => 0), aL 6 (fun _ => 0), aL 6 (fun _ => 0), aL 6 (fun _ => 0), aL 6 (fun _ => 0), aL 15 (fun _ => 0)]) rfl rfl rfl ?_
  refine aw_aload_n 0 q_S_init_32 rfl rfl ?_
  refine aw_bipush 6 q_S_init_33 rfl ?_
  refine aw_newl (t := 1) (N := 6) 44 q_S_init_35 ac_l rfl (by decide) rfl (by decide) rfl ?_
  refine aw_putF 14 q_S_init_37 fl_S_23 tb_S fi_S_14 rfl ow_S rfl rfl rfl ?_
  refine aw_is (hx := [c0, c1, c2, c3, c4, c5, c6, c7, c8, c9, c10, c11, c12, c13, c14, c15, c16, c17, c18, c19, c20, c21, c22, c23, c24, .inr (1, [.null, .long 0, .int 0, .int 0, .int 0, .int 0, .int 0, .ref 27, .ref 28, .ref 44, .int 0, .int 0, .int 0, .long 0, .ref 45, .null, .int 0, .int 0, .long 0, .int 0]), aL 6 (fun _ => 0), aA 15 28, aL 6 (fun _ => 0), aL 6 (fun _ => 0), aL 6 (fun _ => 0), aL 6 (fun _ => 0), aL 6 (fun _ => 0), aL 6 (fun _ => 0), aL 6 (fun _ => 0), aL 6 (fun _ => 0), aL 6 (fun _ => 0), aL 6 (fun _ => 0), aL 6 (fun _ => 0), aL 6 (fun _ => 0), aL 6 (fun _ => 0), aL 6 (fun _ => 0), aL 6 (fun _ => 0), aL 15 (fun _ => 0), aL 6 (fun _ => 0)]) rfl rfl rfl ?_
  refine aw_aload_n 0 q_S_init_40 rfl rfl ?_
  refine aw_iconst 4 q_S_init_41 rfl ?_
  refine aw_newl (t := 1) (N := 4) 45 q_S_init_42 ac_l rfl (by decide) rfl (by decide) rfl ?_
  refine aw_putF 15 q_S_init_44 fl_S_26 tb_S fi_S_15 rfl ow_S rfl rfl rfl ?_
  refine aw_is (hx := [c0, c1, c2, c3, c4, c5, c6, c7, c8, c9, c10, c11, c12, c13, c14, c15, c16, c17, c18, c19, c20, c21, c22, c23, c24, .inr (1, [.null, .long 0, .int 0, .int 0, .int 0, .int 0, .int 0, .ref 27, .ref 28, .ref 44, .int 0, .int 0, .int 0, .long 0, .ref 45, .ref 46, .int 0, .int 0, .long 0, .int 0]), aL 6 (fun _ => 0), aA 15 28, aL 6 (fun _ => 0), aL 6 (fun _ => 0), aL 6 (fun _ => 0), aL 6 (fun _ => 0), aL 6 (fun _ => 0), aL 6 (fun _ => 0), aL 6 (fun _ => 0), aL 6 (fun _ => 0), aL 6 (fun _ => 0), aL 6 (fun _ => 0), aL 6 (fun _ => 0), aL 6 (fun _ => 0), aL 6 (fun _ => 0), aL 6 (fun _ => 0), aL 6 (fun _ => 0), aL 15 (fun _ => 0), aL 6 (fun _ => 0), aL 4 (fun _ => 0)]) rfl rfl rfl ?_
  refine aw_aload_n 0 q_S_init_47 rfl rfl ?_
  refine aw_aload_n 1 q_S_init_48 rfl rfl ?_
  refine aw_putF 0 q_S_init_49 fl_S_29 tb_S fi_S_0 rfl ow_S rfl rfl rfl ?_
  refine aw_is (hx := [c0, c1, c2, c3, c4, c5, c6, c7, c8, c9, c10, c11, c12, c13, c14, c15, c16, c17, c18, c19, c20, c21, c22, c23, c24, .inr (1, [.ref 2, .long 0, .int 0, .int 0, .int 0, .int 0, .int 0, .ref 27, .ref 28, .ref 44, .int 0, .int 0, .int 0, .long 0, .ref 45, .ref 46, .int 0, .int 0, .long 0, .int 0]), aL 6 (fun _ => 0), aA 15 28, aL 6 (fun _ => 0), aL 6 (fun _ => 0), aL 6 (fun _ => 0), aL 6 (fun _ => 0), aL 6 (fun _ => 0), aL 6 (fun _ => 0), aL 6 (fun _ => 0), aL 6 (fun _ => 0), aL 6 (fun _ => 0), aL 6 (fun _ => 0), aL 6 (fun _ => 0), aL 6 (fun _ => 0), aL 6 (fun _ => 0), aL 6 (fun _ => 0), aL 6 (fun _ => 0), aL 15 (fun _ => 0), aL 6 (fun _ => 0), aL 4 (fun _ => 0)]) rfl rfl rfl ?_
  exact aw_vret q_S_init_52 rfl rfl rfl
theorem c_N_init (sc : am_S) (c0 c1 c2 c3 c4 c5 c6 c7 c8 c9 c10 c11 c12 c13 c14 c15 c16 c17 c18 c19 c20 c21 c22 c23 c24 c25 c26 c27 c28 c29 c30 c31 c32 c33 c34 c35 c36 c37 c38 c39 c40 c41 c42 c43 c44 c45 : am_C) : AM sc m_N_init 1 [.ref 47, .ref 2] [c0, c1, c2, c3, c4, c5, c6, c7, c8, c9, c10, c11, c12, c13, c14, c15, c16, c17, c18, c19, c20, c21, c22, c23, c24, c25, c26, c27, c28, c29, c30, c31, c32, c33, c34, c35, c36, c37, c38, c39, c40, c41, c42, c43, c44, c45, .inr (2, [.null])] none [c0, c1, c2, c3, c4, c5, c6, c7, c8, c9, c10, c11, c12, c13, c14, c15, c16, c17, c18, c19, c20, c21, c22, c23, c24, c25, c26, c27, c28, c29, c30, c31, c32, c33, c34, c35, c36, c37, c38, c39, c40, c41, c42, c43, c44, c45, .inr (2, [.ref 2])] := by
  refine AM.of (by decide) (Nat.le_of_ble_eq_true rfl) ?_
  show AW sc m_N_init 1 0 [some (.ref 47), some (.ref 2)] [] _ _ _
  refine aw_aload_n 0 q_N_init_0 rfl rfl ?_
  refine aw_obj q_N_init_1 (ob_N rfl) ob_i ob_c (by omega) (Nat.le_of_ble_eq_true rfl) ?_
  refine aw_aload_n 0 q_N_init_4 rfl rfl ?_
  refine aw_aload_n 1 q_N_init_5 rfl rfl ?_
  refine aw_putF 0 q_N_init_6 fl_N_7 tb_N fi_N_0 rfl ow_N rfl rfl rfl ?_
  refine aw_is (hx := [c0, c1, c2, c3, c4, c5, c6, c7, c8, c9, c10, c11, c12, c13, c14, c15, c16, c17, c18, c19, c20, c21, c22, c23, c24, c25, c26, c27, c28, c29, c30, c31, c32, c33, c34, c35, c36, c37, c38, c39, c40, c41, c42, c43, c44, c45, .inr (2, [.ref 2])]) rfl rfl rfl ?_
  exact aw_vret q_N_init_9 rfl rfl rfl
theorem c_P_init (sc : am_S) (c0 c1 c2 c3 c4 c5 c6 c7 c8 c9 c10 c11 c12 c13 c14 c15 c16 c17 c18 c19 c20 c21 c22 c23 c24 c25 c26 c27 c28 c29 c30 c31 c32 c33 c34 c35 c36 c37 c38 c39 c40 c41 c42 c43 c44 c45 c46 : am_C) : AM sc m_P_init 1 [.ref 48, .ref 2] [c0, c1, c2, c3, c4, c5, c6, c7, c8, c9, c10, c11, c12, c13, c14, c15, c16, c17, c18, c19, c20, c21, c22, c23, c24, c25, c26, c27, c28, c29, c30, c31, c32, c33, c34, c35, c36, c37, c38, c39, c40, c41, c42, c43, c44, c45, c46, .inr (3, [.null, .null])] none [c0, c1, c2, c3, c4, c5, c6, c7, c8, c9, c10, c11, c12, c13, c14, c15, c16, c17, c18, c19, c20, c21, c22, c23, c24, c25, c26, c27, c28, c29, c30, c31, c32, c33, c34, c35, c36, c37, c38, c39, c40, c41, c42, c43, c44, c45, c46, .inr (3, [.ref 2, .ref 49]), aI 14 (fun _ => 0)] := by
  refine AM.of (by decide) (Nat.le_of_ble_eq_true rfl) ?_
  show AW sc m_P_init 1 0 [some (.ref 48), some (.ref 2)] [] _ _ _
  refine aw_aload_n 0 q_P_init_0 rfl rfl ?_
  refine aw_obj q_P_init_1 (ob_P rfl) ob_i ob_c (by omega) (Nat.le_of_ble_eq_true rfl) ?_
  refine aw_aload_n 0 q_P_init_4 rfl rfl ?_
  refine aw_bipush 14 q_P_init_5 rfl ?_
  refine aw_newi (t := 0) (N := 14) 48 q_P_init_7 ac_i rfl (by decide) rfl (by decide) rfl ?_
  refine aw_putF 1 q_P_init_9 fl_P_9 tb_P fi_P_1 rfl ow_P rfl rfl rfl ?_
  refine aw_is (hx := [c0, c1, c2, c3, c4, c5, c6, c7, c8, c9, c10, c11, c12, c13, c14, c15, c16, c17, c18, c19, c20, c21, c22, c23, c24, c25, c26, c27, c28, c29, c30, c31, c32, c33, c34, c35, c36, c37, c38, c39, c40, c41, c42, c43, c44, c45, c46, .inr (3, [.null, .ref 49]), aI 14 (fun _ => 0)]) rfl rfl rfl ?_
  refine aw_aload_n 0 q_P_init_12 rfl rfl ?_
  refine aw_aload_n 1 q_P_init_13 rfl rfl ?_
  refine aw_putF 0 q_P_init_14 fl_P_15 tb_P fi_P_0 rfl ow_P rfl rfl rfl ?_
  refine aw_is (hx := [c0, c1, c2, c3, c4, c5, c6, c7, c8, c9, c10, c11, c12, c13, c14, c15, c16, c17, c18, c19, c20, c21, c22, c23, c24, c25, c26, c27, c28, c29, c30, c31, c32, c33, c34, c35, c36, c37, c38, c39, c40, c41, c42, c43, c44, c45, c46, .inr (3, [.ref 2, .ref 49]), aI 14 (fun _ => 0)]) rfl rfl rfl ?_
  exact aw_vret q_P_init_17 rfl rfl rfl
theorem c_B_init (sc : am_S) (x : Int32) : AM sc m_B_init 2 [.ref 1, .int x] [.inr (4, [.null, .null, .null, .null, .int 0, .int 0, .int 0, .int 0, .int 0, .int 0, .int 0])] none (cC (A0 (ny0 x)) q0) := by
  refine AM.of (by decide) (Nat.le_of_ble_eq_true rfl) ?_
  show AW sc m_B_init 2 0 [some (.ref 1), some (.int x)] [] _ _ _
  refine aw_aload_n 0 q_B_init_0 rfl rfl ?_
  refine aw_obj q_B_init_1 (ob_B rfl) ob_i ob_c (by omega) (Nat.le_of_ble_eq_true rfl) ?_
  refine aw_aload_n 0 q_B_init_4 rfl rfl ?_
  refine aw_new 1 q_B_init_5 fc_B_9 rfl ?_
  refine aw_dup q_B_init_8 rfl ?_
  refine aw_iconst 1 q_B_init_9 rfl ?_
  refine aw_bipush 6 q_B_init_10 rfl ?_
  refine aw_iload_n 1 q_B_init_12 rfl rfl ?_
  refine aw_minI q_B_init_13 (am_in1 (i := 20) rfl rfl) (by omega) (Nat.le_of_ble_eq_true rfl) ?_
  refine aw_maxI q_B_init_16 (am_in1 (i := 23) rfl rfl) (by omega) (Nat.le_of_ble_eq_true rfl) ?_
  rw [ny0_m]
  refine aw_I1 q_B_init_19 st_B_20 (by omega) (Nat.le_of_ble_eq_true rfl) (c_W_init _ _ _) ?_
  refine aw_putF 0 q_B_init_22 fl_B_23 tb_B fi_B_0 rfl ow_B rfl rfl rfl ?_
  refine aw_is (hx := [.inr (4, [.ref 2, .null, .null, .null, .int 0, .int 0, .int 0, .int 0, .int 0, .int 0, .int 0]), .inr (0, [.int (nI (ny0 x)), .ref 3, .int 0, .ref 4, .ref 5, .int 0, .ref 6, .ref 7, .ref 8, .ref 9, .int 0, .int 0, .ref 10, .ref 11, .long (lZ (-1))]), aL 6 (fun _ => 0), aI 12 (fun _ => 0), aI 12 (fun _ => 0), aI 14 (fun _ => 0), aI 14 (fun _ => 0), aL 14 (fun _ => 0), aL 14 (fun _ => 0), aI 14 (fun _ => 0), aA 14 11, aL 14 (fun _ => 0), aL 14 (fun _ => 0), aL 14 (fun _ => 0), aL 14 (fun _ => 0), aL 14 (fun _ => 0), aL 14 (fun _ => 0), aL 14 (fun _ => 0), aL 14 (fun _ => 0), aL 14 (fun _ => 0), aL 14 (fun _ => 0), aL 14 (fun _ => 0), aL 14 (fun _ => 0), aL 14 (fun _ => 0), aL 14 (fun _ => 0)]) rfl rfl rfl ?_
  refine aw_aload_n 0 q_B_init_25 rfl rfl ?_
  refine aw_new 25 q_B_init_26 fc_B_27 rfl ?_
  refine aw_dup q_B_init_29 rfl ?_
  refine aw_aload_n 0 q_B_init_30 rfl rfl ?_
  refine aw_get 0 q_B_init_31 fl_B_23 rfl rfl ?_
  refine aw_I1 q_B_init_34 st_B_29 (by omega) (Nat.le_of_ble_eq_true rfl) (c_S_init _ _ _ _ _ _ _ _ _ _ _ _ _ _ _ _ _ _ _ _ _ _ _ _ _ _) ?_
  refine aw_putF 1 q_B_init_37 fl_B_32 tb_B fi_B_1 rfl ow_B rfl rfl rfl ?_
  refine aw_is (hx := [.inr (4, [.ref 2, .ref 26, .null, .null, .int 0, .int 0, .int 0, .int 0, .int 0, .int 0, .int 0]), .inr (0, [.int (nI (ny0 x)), .ref 3, .int 0, .ref 4, .ref 5, .int 0, .ref 6, .ref 7, .ref 8, .ref 9, .int 0, .int 0, .ref 10, .ref 11, .long (lZ (-1))]), aL 6 (fun _ => 0), aI 12 (fun _ => 0), aI 12 (fun _ => 0), aI 14 (fun _ => 0), aI 14 (fun _ => 0), aL 14 (fun _ => 0), aL 14 (fun _ => 0), aI 14 (fun _ => 0), aA 14 11, aL 14 (fun _ => 0), aL 14 (fun _ => 0), aL 14 (fun _ => 0), aL 14 (fun _ => 0), aL 14 (fun _ => 0), aL 14 (fun _ => 0), aL 14 (fun _ => 0), aL 14 (fun _ => 0), aL 14 (fun _ => 0), aL 14 (fun _ => 0), aL 14 (fun _ => 0), aL 14 (fun _ => 0), aL 14 (fun _ => 0), aL 14 (fun _ => 0), .inr (1, [.ref 2, .long 0, .int 0, .int 0, .int 0, .int 0, .int 0, .ref 27, .ref 28, .ref 44, .int 0, .int 0, .int 0, .long 0, .ref 45, .ref 46, .int 0, .int 0, .long 0, .int 0]), aL 6 (fun _ => 0), aA 15 28, aL 6 (fun _ => 0), aL 6 (fun _ => 0), aL 6 (fun _ => 0), aL 6 (fun _ => 0), aL 6 (fun _ => 0), aL 6 (fun _ => 0), aL 6 (fun _ => 0), aL 6 (fun _ => 0), aL 6 (fun _ => 0), aL 6 (fun _ => 0), aL 6 (fun _ => 0), aL 6 (fun _ => 0), aL 6 (fun _ => 0), aL 6 (fun _ => 0), aL 6 (fun _ => 0), aL 15 (fun _ => 0), aL 6 (fun _ => 0), aL 4 (fun _ => 0)]) rfl rfl rfl ?_
  refine aw_aload_n 0 q_B_init_40 rfl rfl ?_
  refine aw_new 46 q_B_init_41 fc_B_36 rfl ?_
  refine aw_dup q_B_init_44 rfl ?_
  refine aw_aload_n 0 q_B_init_45 rfl rfl ?_
  refine aw_get 0 q_B_init_46 fl_B_23 rfl rfl ?_
  refine aw_I1 q_B_init_49 st_B_38 (by omega) (Nat.le_of_ble_eq_true rfl) (c_N_init _ _ _ _ _ _ _ _ _ _ _ _ _ _ _ _ _ _ _ _ _ _ _ _ _ _ _ _ _ _ _ _ _ _ _ _ _ _ _ _ _ _ _ _ _ _ _) ?_
  refine aw_putF 2 q_B_init_52 fl_B_39 tb_B fi_B_2 rfl ow_B rfl rfl rfl ?_
  refine aw_is (hx := [.inr (4, [.ref 2, .ref 26, .ref 47, .null, .int 0, .int 0, .int 0, .int 0, .int 0, .int 0, .int 0]), .inr (0, [.int (nI (ny0 x)), .ref 3, .int 0, .ref 4, .ref 5, .int 0, .ref 6, .ref 7, .ref 8, .ref 9, .int 0, .int 0, .ref 10, .ref 11, .long (lZ (-1))]), aL 6 (fun _ => 0), aI 12 (fun _ => 0), aI 12 (fun _ => 0), aI 14 (fun _ => 0), aI 14 (fun _ => 0), aL 14 (fun _ => 0), aL 14 (fun _ => 0), aI 14 (fun _ => 0), aA 14 11, aL 14 (fun _ => 0), aL 14 (fun _ => 0), aL 14 (fun _ => 0), aL 14 (fun _ => 0), aL 14 (fun _ => 0), aL 14 (fun _ => 0), aL 14 (fun _ => 0), aL 14 (fun _ => 0), aL 14 (fun _ => 0), aL 14 (fun _ => 0), aL 14 (fun _ => 0), aL 14 (fun _ => 0), aL 14 (fun _ => 0), aL 14 (fun _ => 0), .inr (1, [.ref 2, .long 0, .int 0, .int 0, .int 0, .int 0, .int 0, .ref 27, .ref 28, .ref 44, .int 0, .int 0, .int 0, .long 0, .ref 45, .ref 46, .int 0, .int 0, .long 0, .int 0]), aL 6 (fun _ => 0), aA 15 28, aL 6 (fun _ => 0), aL 6 (fun _ => 0), aL 6 (fun _ => 0), aL 6 (fun _ => 0), aL 6 (fun _ => 0), aL 6 (fun _ => 0), aL 6 (fun _ => 0), aL 6 (fun _ => 0), aL 6 (fun _ => 0), aL 6 (fun _ => 0), aL 6 (fun _ => 0), aL 6 (fun _ => 0), aL 6 (fun _ => 0), aL 6 (fun _ => 0), aL 6 (fun _ => 0), aL 15 (fun _ => 0), aL 6 (fun _ => 0), aL 4 (fun _ => 0), .inr (2, [.ref 2])]) rfl rfl rfl ?_
  refine aw_aload_n 0 q_B_init_55 rfl rfl ?_
  refine aw_new 47 q_B_init_56 fc_B_43 rfl ?_
  refine aw_dup q_B_init_59 rfl ?_
  refine aw_aload_n 0 q_B_init_60 rfl rfl ?_
  refine aw_get 0 q_B_init_61 fl_B_23 rfl rfl ?_
  refine aw_I1 q_B_init_64 st_B_45 (by omega) (Nat.le_of_ble_eq_true rfl) (c_P_init _ _ _ _ _ _ _ _ _ _ _ _ _ _ _ _ _ _ _ _ _ _ _ _ _ _ _ _ _ _ _ _ _ _ _ _ _ _ _ _ _ _ _ _ _ _ _ _) ?_
  refine aw_putF 3 q_B_init_67 fl_B_46 tb_B fi_B_3 rfl ow_B rfl rfl rfl ?_
  refine aw_is (hx := [.inr (4, [.ref 2, .ref 26, .ref 47, .ref 48, .int 0, .int 0, .int 0, .int 0, .int 0, .int 0, .int 0]), .inr (0, [.int (nI (ny0 x)), .ref 3, .int 0, .ref 4, .ref 5, .int 0, .ref 6, .ref 7, .ref 8, .ref 9, .int 0, .int 0, .ref 10, .ref 11, .long (lZ (-1))]), aL 6 (fun _ => 0), aI 12 (fun _ => 0), aI 12 (fun _ => 0), aI 14 (fun _ => 0), aI 14 (fun _ => 0), aL 14 (fun _ => 0), aL 14 (fun _ => 0), aI 14 (fun _ => 0), aA 14 11, aL 14 (fun _ => 0), aL 14 (fun _ => 0), aL 14 (fun _ => 0), aL 14 (fun _ => 0), aL 14 (fun _ => 0), aL 14 (fun _ => 0), aL 14 (fun _ => 0), aL 14 (fun _ => 0), aL 14 (fun _ => 0), aL 14 (fun _ => 0), aL 14 (fun _ => 0), aL 14 (fun _ => 0), aL 14 (fun _ => 0), aL 14 (fun _ => 0), .inr (1, [.ref 2, .long 0, .int 0, .int 0, .int 0, .int 0, .int 0, .ref 27, .ref 28, .ref 44, .int 0, .int 0, .int 0, .long 0, .ref 45, .ref 46, .int 0, .int 0, .long 0, .int 0]), aL 6 (fun _ => 0), aA 15 28, aL 6 (fun _ => 0), aL 6 (fun _ => 0), aL 6 (fun _ => 0), aL 6 (fun _ => 0), aL 6 (fun _ => 0), aL 6 (fun _ => 0), aL 6 (fun _ => 0), aL 6 (fun _ => 0), aL 6 (fun _ => 0), aL 6 (fun _ => 0), aL 6 (fun _ => 0), aL 6 (fun _ => 0), aL 6 (fun _ => 0), aL 6 (fun _ => 0), aL 6 (fun _ => 0), aL 15 (fun _ => 0), aL 6 (fun _ => 0), aL 4 (fun _ => 0), .inr (2, [.ref 2]), .inr (3, [.ref 2, .ref 49]), aI 14 (fun _ => 0)]) rfl rfl rfl ?_
  refine aw_aload_n 0 q_B_init_70 rfl rfl ?_
  refine aw_iconst (-1) q_B_init_71 rfl ?_
  refine aw_put 4 q_B_init_72 fl_B_50 tb_B fi_B_4 rfl rfl rfl ?_
  refine aw_is (hx := [.inr (4, [.ref 2, .ref 26, .ref 47, .ref 48, .int (-1), .int 0, .int 0, .int 0, .int 0, .int 0, .int 0]), .inr (0, [.int (nI (ny0 x)), .ref 3, .int 0, .ref 4, .ref 5, .int 0, .ref 6, .ref 7, .ref 8, .ref 9, .int 0, .int 0, .ref 10, .ref 11, .long (lZ (-1))]), aL 6 (fun _ => 0), aI 12 (fun _ => 0), aI 12 (fun _ => 0), aI 14 (fun _ => 0), aI 14 (fun _ => 0), aL 14 (fun _ => 0), aL 14 (fun _ => 0), aI 14 (fun _ => 0), aA 14 11, aL 14 (fun _ => 0), aL 14 (fun _ => 0), aL 14 (fun _ => 0), aL 14 (fun _ => 0), aL 14 (fun _ => 0), aL 14 (fun _ => 0), aL 14 (fun _ => 0), aL 14 (fun _ => 0), aL 14 (fun _ => 0), aL 14 (fun _ => 0), aL 14 (fun _ => 0), aL 14 (fun _ => 0), aL 14 (fun _ => 0), aL 14 (fun _ => 0), .inr (1, [.ref 2, .long 0, .int 0, .int 0, .int 0, .int 0, .int 0, .ref 27, .ref 28, .ref 44, .int 0, .int 0, .int 0, .long 0, .ref 45, .ref 46, .int 0, .int 0, .long 0, .int 0]), aL 6 (fun _ => 0), aA 15 28, aL 6 (fun _ => 0), aL 6 (fun _ => 0), aL 6 (fun _ => 0), aL 6 (fun _ => 0), aL 6 (fun _ => 0), aL 6 (fun _ => 0), aL 6 (fun _ => 0), aL 6 (fun _ => 0), aL 6 (fun _ => 0), aL 6 (fun _ => 0), aL 6 (fun _ => 0), aL 6 (fun _ => 0), aL 6 (fun _ => 0), aL 6 (fun _ => 0), aL 6 (fun _ => 0), aL 15 (fun _ => 0), aL 6 (fun _ => 0), aL 4 (fun _ => 0), .inr (2, [.ref 2]), .inr (3, [.ref 2, .ref 49]), aI 14 (fun _ => 0)]) rfl rfl rfl ?_
  exact aw_vret q_B_init_75 rfl rfl rfl
theorem c_M_init (sc : am_S) (A : ST) (q : QS) (x : Int32) : AM sc m_M_init 1 [.ref 50, .int x] (cC A q ++ [.inr (5, [.int 0, .int 0, .null, .null, .int 0, .null, .null, .null, .null, .int 0, .null, .int 0, .null, .null, .null, .long 0, .int 0, .int 0, .int 0, .null, .null, .null, .null])]) none (hp A q (A0 (ny0 x)) t0) := by
  refine AM.of (by decide) (Nat.le_of_ble_eq_true rfl) ?_
  show AW sc m_M_init 1 0 [some (.ref 50), some (.int x)] [] _ _ _
  obtain ⟨n, hn⟩ : ∃ n, ny0 x = n := ⟨_, rfl⟩
  rw [hn]
  refine aw_aload_n 0 q_M_init_0 rfl rfl ?_
  refine aw_obj q_M_init_1 (ob_M rfl) ob_i ob_c (by omega) (Nat.le_of_ble_eq_true rfl) ?_
  refine aw_aload_n 0 q_M_init_4 rfl rfl ?_
  refine aw_bipush 12 q_M_init_5 rfl ?_
  refine aw_newi (t := 0) (N := 12) 50 q_M_init_7 ac_i rfl (by decide) rfl (by decide) rfl ?_
  refine aw_putF 2 q_M_init_9 fl_M_7 tb_M fi_M_2 rfl ow_M rfl rfl rfl ?_
  refine aw_is (hx := (cC A q ++ [.inr (5, [.int 0, .int 0, .ref 51, .null, .int 0, .null, .null, .null, .null, .int 0, .null, .int 0, .null, .null, .null, .long 0, .int 0, .int 0, .int 0, .null, .null, .null, .null]), aI 12 (fun _ => 0)])) rfl rfl rfl ?_
  refine aw_aload_n 0 q_M_init_12 rfl rfl ?_
  refine aw_bipush 12 q_M_init_13 rfl ?_
  refine aw_newi (t := 0) (N := 12) 51 q_M_init_15 ac_i rfl (by decide) rfl (by decide) rfl ?_
  refine aw_putF 3 q_M_init_17 fl_M_13 tb_M fi_M_3 rfl ow_M rfl rfl rfl ?_
  refine aw_is (hx := (cC A q ++ [.inr (5, [.int 0, .int 0, .ref 51, .ref 52, .int 0, .null, .null, .null, .null, .int 0, .null, .int 0, .null, .null, .null, .long 0, .int 0, .int 0, .int 0, .null, .null, .null, .null]), aI 12 (fun _ => 0), aI 12 (fun _ => 0)])) rfl rfl rfl ?_
  refine aw_aload_n 0 q_M_init_20 rfl rfl ?_
  refine aw_bipush 14 q_M_init_21 rfl ?_
  refine aw_newi (t := 0) (N := 14) 52 q_M_init_23 ac_i rfl (by decide) rfl (by decide) rfl ?_
  refine aw_putF 5 q_M_init_25 fl_M_16 tb_M fi_M_5 rfl ow_M rfl rfl rfl ?_
  refine aw_is (hx := (cC A q ++ [.inr (5, [.int 0, .int 0, .ref 51, .ref 52, .int 0, .ref 53, .null, .null, .null, .int 0, .null, .int 0, .null, .null, .null, .long 0, .int 0, .int 0, .int 0, .null, .null, .null, .null]), aI 12 (fun _ => 0), aI 12 (fun _ => 0), aI 14 (fun _ => 0)])) rfl rfl rfl ?_
  refine aw_aload_n 0 q_M_init_28 rfl rfl ?_
  refine aw_bipush 14 q_M_init_29 rfl ?_
  refine aw_newi (t := 0) (N := 14) 53 q_M_init_31 ac_i rfl (by decide) rfl (by decide) rfl ?_
  refine aw_putF 6 q_M_init_33 fl_M_19 tb_M fi_M_6 rfl ow_M rfl rfl rfl ?_
  refine aw_is (hx := (cC A q ++ [.inr (5, [.int 0, .int 0, .ref 51, .ref 52, .int 0, .ref 53, .ref 54, .null, .null, .int 0, .null, .int 0, .null, .null, .null, .long 0, .int 0, .int 0, .int 0, .null, .null, .null, .null]), aI 12 (fun _ => 0), aI 12 (fun _ => 0), aI 14 (fun _ => 0), aI 14 (fun _ => 0)])) rfl rfl rfl ?_
  refine aw_aload_n 0 q_M_init_36 rfl rfl ?_
  refine aw_bipush 14 q_M_init_37 rfl ?_
  refine aw_newl (t := 1) (N := 14) 54 q_M_init_39 ac_l rfl (by decide) rfl (by decide) rfl ?_
  refine aw_putF 7 q_M_init_41 fl_M_22 tb_M fi_M_7 rfl ow_M rfl rfl rfl ?_
  refine aw_is (hx := (cC A q ++ [.inr (5, [.int 0, .int 0, .ref 51, .ref 52, .int 0, .ref 53, .ref 54, .ref 55, .null, .int 0, .null, .int 0, .null, .null, .null, .long 0, .int 0, .int 0, .int 0, .null, .null, .null, .null]), aI 12 (fun _ => 0), aI 12 (fun _ => 0), aI 14 (fun _ => 0), aI 14 (fun _ => 0), aL 14 (fun _ => 0)])) rfl rfl rfl ?_
  refine aw_aload_n 0 q_M_init_44 rfl rfl ?_
  refine aw_bipush 14 q_M_init_45 rfl ?_
  refine aw_newl (t := 1) (N := 14) 55 q_M_init_47 ac_l rfl (by decide) rfl (by decide) rfl ?_
  refine aw_putF 8 q_M_init_49 fl_M_26 tb_M fi_M_8 rfl ow_M rfl rfl rfl ?_
  refine aw_is (hx := (cC A q ++ [.inr (5, [.int 0, .int 0, .ref 51, .ref 52, .int 0, .ref 53, .ref 54, .ref 55, .ref 56, .int 0, .null, .int 0, .null, .null, .null, .long 0, .int 0, .int 0, .int 0, .null, .null, .null, .null]), aI 12 (fun _ => 0), aI 12 (fun _ => 0), aI 14 (fun _ => 0), aI 14 (fun _ => 0), aL 14 (fun _ => 0), aL 14 (fun _ => 0)])) rfl rfl rfl ?_
  refine aw_aload_n 0 q_M_init_52 rfl rfl ?_
  refine aw_bipush 6 q_M_init_53 rfl ?_
  refine aw_newl (t := 1) (N := 6) 56 q_M_init_55 ac_l rfl (by decide) rfl (by decide) rfl ?_
  refine aw_putF 10 q_M_init_57 fl_M_29 tb_M fi_M_10 rfl ow_M rfl rfl rfl ?_
  refine aw_is (hx := (cC A q ++ [.inr (5, [.int 0, .int 0, .ref 51, .ref 52, .int 0, .ref 53, .ref 54, .ref 55, .ref 56, .int 0, .ref 57, .int 0, .null, .null, .null, .long 0, .int 0, .int 0, .int 0, .null, .null, .null, .null]), aI 12 (fun _ => 0), aI 12 (fun _ => 0), aI 14 (fun _ => 0), aI 14 (fun _ => 0), aL 14 (fun _ => 0), aL 14 (fun _ => 0), aL 6 (fun _ => 0)])) rfl rfl rfl ?_
  refine aw_aload_n 0 q_M_init_60 rfl rfl ?_
  refine aw_bipush 20 q_M_init_61 rfl ?_
  refine aw_newi (t := 0) (N := 20) 57 q_M_init_63 ac_i rfl (by decide) rfl (by decide) rfl ?_
  refine aw_putF 12 q_M_init_65 fl_M_32 tb_M fi_M_12 rfl ow_M rfl rfl rfl ?_
  refine aw_is (hx := (cC A q ++ [.inr (5, [.int 0, .int 0, .ref 51, .ref 52, .int 0, .ref 53, .ref 54, .ref 55, .ref 56, .int 0, .ref 57, .int 0, .ref 58, .null, .null, .long 0, .int 0, .int 0, .int 0, .null, .null, .null, .null]), aI 12 (fun _ => 0), aI 12 (fun _ => 0), aI 14 (fun _ => 0), aI 14 (fun _ => 0), aL 14 (fun _ => 0), aL 14 (fun _ => 0), aL 6 (fun _ => 0), aI 20 (fun _ => 0)])) rfl rfl rfl ?_
  refine aw_aload_n 0 q_M_init_68 rfl rfl ?_
  refine aw_bipush 20 q_M_init_69 rfl ?_
  refine aw_newi (t := 0) (N := 20) 58 q_M_init_71 ac_i rfl (by decide) rfl (by decide) rfl ?_
  refine aw_putF 13 q_M_init_73 fl_M_35 tb_M fi_M_13 rfl ow_M rfl rfl rfl ?_
  refine aw_is (hx := (cC A q ++ [.inr (5, [.int 0, .int 0, .ref 51, .ref 52, .int 0, .ref 53, .ref 54, .ref 55, .ref 56, .int 0, .ref 57, .int 0, .ref 58, .ref 59, .null, .long 0, .int 0, .int 0, .int 0, .null, .null, .null, .null]), aI 12 (fun _ => 0), aI 12 (fun _ => 0), aI 14 (fun _ => 0), aI 14 (fun _ => 0), aL 14 (fun _ => 0), aL 14 (fun _ => 0), aL 6 (fun _ => 0), aI 20 (fun _ => 0), aI 20 (fun _ => 0)])) rfl rfl rfl ?_
  refine aw_aload_n 0 q_M_init_76 rfl rfl ?_
  refine aw_bipush 20 q_M_init_77 rfl ?_
  refine aw_newl (t := 1) (N := 20) 59 q_M_init_79 ac_l rfl (by decide) rfl (by decide) rfl ?_
  refine aw_putF 14 q_M_init_81 fl_M_38 tb_M fi_M_14 rfl ow_M rfl rfl rfl ?_
  refine aw_is (hx := (cC A q ++ [.inr (5, [.int 0, .int 0, .ref 51, .ref 52, .int 0, .ref 53, .ref 54, .ref 55, .ref 56, .int 0, .ref 57, .int 0, .ref 58, .ref 59, .ref 60, .long 0, .int 0, .int 0, .int 0, .null, .null, .null, .null]), aI 12 (fun _ => 0), aI 12 (fun _ => 0), aI 14 (fun _ => 0), aI 14 (fun _ => 0), aL 14 (fun _ => 0), aL 14 (fun _ => 0), aL 6 (fun _ => 0), aI 20 (fun _ => 0), aI 20 (fun _ => 0), aL 20 (fun _ => 0)])) rfl rfl rfl ?_
  refine aw_aload_n 0 q_M_init_84 rfl rfl ?_
  refine aw_ldc2 (lZ (-1)) q_M_init_85 (am_in3 (i := 127) rfl rfl) ?_
  refine aw_put 15 q_M_init_88 fl_M_43 tb_M fi_M_15 rfl rfl rfl ?_
  refine aw_is (hx := (cC A q ++ [.inr (5, [.int 0, .int 0, .ref 51, .ref 52, .int 0, .ref 53, .ref 54, .ref 55, .ref 56, .int 0, .ref 57, .int 0, .ref 58, .ref 59, .ref 60, .long (lZ (-1)), .int 0, .int 0, .int 0, .null, .null, .null, .null]), aI 12 (fun _ => 0), aI 12 (fun _ => 0), aI 14 (fun _ => 0), aI 14 (fun _ => 0), aL 14 (fun _ => 0), aL 14 (fun _ => 0), aL 6 (fun _ => 0), aI 20 (fun _ => 0), aI 20 (fun _ => 0), aL 20 (fun _ => 0)])) rfl rfl rfl ?_
  refine aw_aload_n 0 q_M_init_91 rfl rfl ?_
  refine aw_iconst (-1) q_M_init_92 rfl ?_
  refine aw_put 16 q_M_init_93 fl_M_47 tb_M fi_M_16 rfl rfl rfl ?_
  refine aw_is (hx := (cC A q ++ [.inr (5, [.int 0, .int 0, .ref 51, .ref 52, .int 0, .ref 53, .ref 54, .ref 55, .ref 56, .int 0, .ref 57, .int 0, .ref 58, .ref 59, .ref 60, .long (lZ (-1)), .int (-1), .int 0, .int 0, .null, .null, .null, .null]), aI 12 (fun _ => 0), aI 12 (fun _ => 0), aI 14 (fun _ => 0), aI 14 (fun _ => 0), aL 14 (fun _ => 0), aL 14 (fun _ => 0), aL 6 (fun _ => 0), aI 20 (fun _ => 0), aI 20 (fun _ => 0), aL 20 (fun _ => 0)])) rfl rfl rfl ?_
  refine aw_aload_n 0 q_M_init_96 rfl rfl ?_
  refine aw_bipush 6 q_M_init_97 rfl ?_
  refine aw_newl (t := 1) (N := 6) 60 q_M_init_99 ac_l rfl (by decide) rfl (by decide) rfl ?_
  refine aw_putF 19 q_M_init_101 fl_M_51 tb_M fi_M_19 rfl ow_M rfl rfl rfl ?_
  refine aw_is (hx := (cC A q ++ [.inr (5, [.int 0, .int 0, .ref 51, .ref 52, .int 0, .ref 53, .ref 54, .ref 55, .ref 56, .int 0, .ref 57, .int 0, .ref 58, .ref 59, .ref 60, .long (lZ (-1)), .int (-1), .int 0, .int 0, .ref 61, .null, .null, .null]), aI 12 (fun _ => 0), aI 12 (fun _ => 0), aI 14 (fun _ => 0), aI 14 (fun _ => 0), aL 14 (fun _ => 0), aL 14 (fun _ => 0), aL 6 (fun _ => 0), aI 20 (fun _ => 0), aI 20 (fun _ => 0), aL 20 (fun _ => 0), aL 6 (fun _ => 0)])) rfl rfl rfl ?_
  refine aw_aload_n 0 q_M_init_104 rfl rfl ?_
  refine aw_iconst 4 q_M_init_105 rfl ?_
  refine aw_newl (t := 1) (N := 4) 61 q_M_init_106 ac_l rfl (by decide) rfl (by decide) rfl ?_
  refine aw_putF 20 q_M_init_108 fl_M_54 tb_M fi_M_20 rfl ow_M rfl rfl rfl ?_
  refine aw_is (hx := (cC A q ++ [.inr (5, [.int 0, .int 0, .ref 51, .ref 52, .int 0, .ref 53, .ref 54, .ref 55, .ref 56, .int 0, .ref 57, .int 0, .ref 58, .ref 59, .ref 60, .long (lZ (-1)), .int (-1), .int 0, .int 0, .ref 61, .ref 62, .null, .null]), aI 12 (fun _ => 0), aI 12 (fun _ => 0), aI 14 (fun _ => 0), aI 14 (fun _ => 0), aL 14 (fun _ => 0), aL 14 (fun _ => 0), aL 6 (fun _ => 0), aI 20 (fun _ => 0), aI 20 (fun _ => 0), aL 20 (fun _ => 0), aL 6 (fun _ => 0), aL 4 (fun _ => 0)])) rfl rfl rfl ?_
  refine aw_aload_n 0 q_M_init_111 rfl rfl ?_
  refine aw_bipush 14 q_M_init_112 rfl ?_
  refine aw_newi (t := 0) (N := 14) 62 q_M_init_114 ac_i rfl (by decide) rfl (by decide) rfl ?_
  refine aw_putF 21 q_M_init_116 fl_M_57 tb_M fi_M_21 rfl ow_M rfl rfl rfl ?_
  refine aw_is (hx := (cC A q ++ [.inr (5, [.int 0, .int 0, .ref 51, .ref 52, .int 0, .ref 53, .ref 54, .ref 55, .ref 56, .int 0, .ref 57, .int 0, .ref 58, .ref 59, .ref 60, .long (lZ (-1)), .int (-1), .int 0, .int 0, .ref 61, .ref 62, .ref 63, .null]), aI 12 (fun _ => 0), aI 12 (fun _ => 0), aI 14 (fun _ => 0), aI 14 (fun _ => 0), aL 14 (fun _ => 0), aL 14 (fun _ => 0), aL 6 (fun _ => 0), aI 20 (fun _ => 0), aI 20 (fun _ => 0), aL 20 (fun _ => 0), aL 6 (fun _ => 0), aL 4 (fun _ => 0), aI 14 (fun _ => 0)])) rfl rfl rfl ?_
  refine aw_aload_n 0 q_M_init_119 rfl rfl ?_
  refine aw_bipush 12 q_M_init_120 rfl ?_
  refine aw_newi (t := 0) (N := 12) 63 q_M_init_122 ac_i rfl (by decide) rfl (by decide) rfl ?_
  refine aw_putF 22 q_M_init_124 fl_M_60 tb_M fi_M_22 rfl ow_M rfl rfl rfl ?_
  refine aw_is (hx := (cC A q ++ [.inr (5, [.int 0, .int 0, .ref 51, .ref 52, .int 0, .ref 53, .ref 54, .ref 55, .ref 56, .int 0, .ref 57, .int 0, .ref 58, .ref 59, .ref 60, .long (lZ (-1)), .int (-1), .int 0, .int 0, .ref 61, .ref 62, .ref 63, .ref 64]), aI 12 (fun _ => 0), aI 12 (fun _ => 0), aI 14 (fun _ => 0), aI 14 (fun _ => 0), aL 14 (fun _ => 0), aL 14 (fun _ => 0), aL 6 (fun _ => 0), aI 20 (fun _ => 0), aI 20 (fun _ => 0), aL 20 (fun _ => 0), aL 6 (fun _ => 0), aL 4 (fun _ => 0), aI 14 (fun _ => 0), aI 12 (fun _ => 0)])) rfl rfl rfl ?_
  refine aw_aload_n 0 q_M_init_127 rfl rfl ?_
  refine aw_iload_n 1 q_M_init_128 rfl rfl ?_
  refine aw_iconst 1 q_M_init_129 rfl ?_
  refine aw_icmp_ge 137 q_M_init_130 rfl (fun c130 => ?_) (fun c130 => ?_)
  · skip
    refine aw_iload_n 1 q_M_init_137 rfl rfl ?_
    refine aw_bipush 6 q_M_init_138 rfl ?_
    refine aw_icmp_le 148 q_M_init_140 rfl (fun c140 => ?_) (fun c140 => ?_)
    · skip
      have e9 : x = nI n := hn ▸ ny0_3 (Int32.not_lt.mpr c130) (Int32.not_lt.mpr c140)
      refine aw_iload_n 1 q_M_init_148 rfl rfl ?_
      refine aw_putF 0 q_M_init_149 fl_M_63 tb_M fi_M_0 rfl ow_M rfl rfl rfl ?_
      refine aw_is (hx := (cC A q ++ [.inr (5, [.int x, .int 0, .ref 51, .ref 52, .int 0, .ref 53, .ref 54, .ref 55, .ref 56, .int 0, .ref 57, .int 0, .ref 58, .ref 59, .ref 60, .long (lZ (-1)), .int (-1), .int 0, .int 0, .ref 61, .ref 62, .ref 63, .ref 64]), aI 12 (fun _ => 0), aI 12 (fun _ => 0), aI 14 (fun _ => 0), aI 14 (fun _ => 0), aL 14 (fun _ => 0), aL 14 (fun _ => 0), aL 6 (fun _ => 0), aI 20 (fun _ => 0), aI 20 (fun _ => 0), aL 20 (fun _ => 0), aL 6 (fun _ => 0), aL 4 (fun _ => 0), aI 14 (fun _ => 0), aI 12 (fun _ => 0)])) rfl rfl rfl ?_
      exact aw_vret q_M_init_152 rfl rfl (by show cC A q ++ cM (A0 n) t0 = _; unfold cM; rw [show x_ny (A0 n) = n from rfl, ← e9]; rfl)
    · skip
      have e9 : (6 : Int32) = nI n := hn ▸ ny0_2 (Int32.not_lt.mpr c130) (Int32.not_le.mp c140)
      refine aw_bipush 6 q_M_init_143 rfl ?_
      refine aw_goto 149 q_M_init_145 rfl ?_
      refine aw_putF 0 q_M_init_149 fl_M_63 tb_M fi_M_0 rfl ow_M rfl rfl rfl ?_
      refine aw_is (hx := (cC A q ++ [.inr (5, [.int 6, .int 0, .ref 51, .ref 52, .int 0, .ref 53, .ref 54, .ref 55, .ref 56, .int 0, .ref 57, .int 0, .ref 58, .ref 59, .ref 60, .long (lZ (-1)), .int (-1), .int 0, .int 0, .ref 61, .ref 62, .ref 63, .ref 64]), aI 12 (fun _ => 0), aI 12 (fun _ => 0), aI 14 (fun _ => 0), aI 14 (fun _ => 0), aL 14 (fun _ => 0), aL 14 (fun _ => 0), aL 6 (fun _ => 0), aI 20 (fun _ => 0), aI 20 (fun _ => 0), aL 20 (fun _ => 0), aL 6 (fun _ => 0), aL 4 (fun _ => 0), aI 14 (fun _ => 0), aI 12 (fun _ => 0)])) rfl rfl rfl ?_
      exact aw_vret q_M_init_152 rfl rfl (by show cC A q ++ cM (A0 n) t0 = _; unfold cM; rw [show x_ny (A0 n) = n from rfl, ← e9]; rfl)
  · skip
    have e9 : (1 : Int32) = nI n := hn ▸ ny0_1 (Int32.not_le.mp c130)
    refine aw_iconst 1 q_M_init_133 rfl ?_
    refine aw_goto 149 q_M_init_134 rfl ?_
    refine aw_putF 0 q_M_init_149 fl_M_63 tb_M fi_M_0 rfl ow_M rfl rfl rfl ?_
    refine aw_is (hx := (cC A q ++ [.inr (5, [.int 1, .int 0, .ref 51, .ref 52, .int 0, .ref 53, .ref 54, .ref 55, .ref 56, .int 0, .ref 57, .int 0, .ref 58, .ref 59, .ref 60, .long (lZ (-1)), .int (-1), .int 0, .int 0, .ref 61, .ref 62, .ref 63, .ref 64]), aI 12 (fun _ => 0), aI 12 (fun _ => 0), aI 14 (fun _ => 0), aI 14 (fun _ => 0), aL 14 (fun _ => 0), aL 14 (fun _ => 0), aL 6 (fun _ => 0), aI 20 (fun _ => 0), aI 20 (fun _ => 0), aL 20 (fun _ => 0), aL 6 (fun _ => 0), aL 4 (fun _ => 0), aI 14 (fun _ => 0), aI 12 (fun _ => 0)])) rfl rfl rfl ?_
    exact aw_vret q_M_init_152 rfl rfl (by show cC A q ++ cM (A0 n) t0 = _; unfold cM; rw [show x_ny (A0 n) = n from rfl, ← e9]; rfl)
