/-! CONTRACTS 20: the reference is told something -/
theorem inN {z a m : Int} (ha : -9223372036854775808 ≤ a ∧ a < 9223372036854775808) (hz : -9223372036854775808 ≤ z ∧ z < 9223372036854775808) (hm : -9223372036854775808 ≤ m ∧ m < 9223372036854775808) : decide (¬ lZ z < lZ a ∧ ¬ lZ m < lZ z) = decide (a ≤ z ∧ z ≤ m) := by
  rw [decide_eq_decide, lZ_lt hz ha, lZ_lt hm hz]
  omega
theorem c_M_must_no (sc : am_S) (A : ST) (q : QS) (D : ST) (t : TS) (x : Int32) (hx : ¬ (¬ x < 0 ∧ ¬ nI (x_nc D) ≤ x)) : AM sc m_M_must 1 [.ref 50, .int x] (hp A q D t) (some (.int 0)) (hp A q D t) := by
  refine AM.of (by decide) (Nat.le_of_ble_eq_true rfl) ?_
  show AW sc m_M_must 1 0 [some (.ref 50), some (.int x)] [] _ _ _
  refine aw_aload_n 0 q_M_must_0 rfl rfl ?_
  refine aw_iload_n 1 q_M_must_1 rfl rfl ?_
  refine aw_V1 q_M_must_2 st_M_87 rfl (by omega) (Nat.le_of_ble_eq_true rfl) (c_M_isChoice _ _ _ _ _ _) ?_
  refine aw_if_eq 19 q_M_must_5 rfl (fun c5 => ?_) (fun c5 => ?_)
  · skip
    refine aw_iconst 0 q_M_must_19 rfl ?_
    exact aw_iret .boolean q_M_must_20 rfl rfl rfl rfl
  · skip
    exact (hx (of_decide_eq_true (zI_n0.mp c5))).elim
theorem c_M_must_was (sc : am_S) (A : ST) (q : QS) (D : ST) (t : TS) (c : Nat) (b : bd D) (hc : c < x_nc D) (hb : (x_mu D).testBit c = true) : AM sc m_M_must 1 [.ref 50, .int (nI c)] (hp A q D t) (some (.int 0)) (hp A q D t) := by
  refine AM.of (by decide) (Nat.le_of_ble_eq_true rfl) ?_
  show AW sc m_M_must 1 0 [some (.ref 50), some (.int (nI c))] [] _ _ _
  have b3 := b.2.2.1
  have bm := b.2.2.2.2.2.2.2.2.2.2.2.2.1
  refine aw_aload_n 0 q_M_must_0 rfl rfl ?_
  refine aw_iload_n 1 q_M_must_1 rfl rfl ?_
  refine aw_V1 q_M_must_2 st_M_87 rfl (by omega) (Nat.le_of_ble_eq_true rfl) (c_M_isChoice _ _ _ _ _ _) ?_
  refine aw_if_eq 19 q_M_must_5 rfl (fun c5 => ?_) (fun c5 => ?_)
  · skip
    refine aw_iconst 0 q_M_must_19 rfl ?_
    exact aw_iret .boolean q_M_must_20 rfl rfl rfl rfl
  · skip
    refine aw_aload_n 0 q_M_must_8 rfl rfl ?_
    refine aw_get 9 q_M_must_9 fl_M_91 rfl rfl ?_
    refine aw_iload_n 1 q_M_must_12 rfl rfl ?_
    refine aw_S2 q_M_must_13 st_M_94 (by omega) (Nat.le_of_ble_eq_true rfl) (c_M_has _ _ _ _ (by omega) (by omega)) ?_
    refine aw_if_eq 21 q_M_must_16 rfl (fun c16 => ?_) (fun c16 => ?_)
    · skip
      exact absurd (zI_0.mp c16) (by rw [hb]; decide)
    · skip
      refine aw_iconst 0 q_M_must_19 rfl ?_
      exact aw_iret .boolean q_M_must_20 rfl rfl rfl rfl
theorem c_M_must (sc : am_S) (A : ST) (q : QS) (D : ST) (t : TS) (c : Nat) (b : bd D) (hc : c < x_nc D) (hb : (x_mu D).testBit c = false) : AM sc m_M_must 1 [.ref 50, .int (nI c)] (hp A q D t) (some (.int 1)) (hp A q (fgA (muA D c)) t) := by
  refine AM.of (by decide) (Nat.le_of_ble_eq_true rfl) ?_
  show AW sc m_M_must 1 0 [some (.ref 50), some (.int (nI c))] [] _ _ _
  have b3 := b.2.2.1
  have bm := b.2.2.2.2.2.2.2.2.2.2.2.2.1
  refine aw_aload_n 0 q_M_must_0 rfl rfl ?_
  refine aw_iload_n 1 q_M_must_1 rfl rfl ?_
  refine aw_V1 q_M_must_2 st_M_87 rfl (by omega) (Nat.le_of_ble_eq_true rfl) (c_M_isChoice _ _ _ _ _ _) ?_
  refine aw_if_eq 19 q_M_must_5 rfl (fun c5 => ?_) (fun c5 => ?_)
  · skip
    first
      | exact absurd (zI_0.mp c5) (by rw [isN hc (by omega)]; decide)
      | exact absurd (zI_n0.mp c16) (by rw [hb]; decide)
  · skip
    refine aw_aload_n 0 q_M_must_8 rfl rfl ?_
    refine aw_get 9 q_M_must_9 fl_M_91 rfl rfl ?_
    refine aw_iload_n 1 q_M_must_12 rfl rfl ?_
    refine aw_S2 q_M_must_13 st_M_94 (by omega) (Nat.le_of_ble_eq_true rfl) (c_M_has _ _ _ _ (by omega) (by omega)) ?_
    refine aw_if_eq 21 q_M_must_16 rfl (fun c16 => ?_) (fun c16 => ?_)
    · skip
      refine aw_aload_n 0 q_M_must_21 rfl rfl ?_
      refine aw_dup q_M_must_22 rfl ?_
      refine aw_get 9 q_M_must_23 fl_M_91 rfl rfl ?_
      refine aw_iconst 1 q_M_must_26 rfl ?_
      refine aw_iload_n 1 q_M_must_27 rfl rfl ?_
      refine aw_ishl q_M_must_28 ?_
      refine aw_ior q_M_must_29 ?_
      rw [bt_one (by omega), nI_or]
      refine wp_M_9 _ q_M_must_30 fl_M_91 ?_
      refine aw_aload_n 0 q_M_must_33 rfl rfl ?_
      refine aw_V0v q_M_must_34 st_M_79 rfl (by omega) (Nat.le_of_ble_eq_true rfl) (c_M_tell _ _ _ _ _) ?_
      refine aw_iconst 1 q_M_must_37 rfl ?_
      exact aw_iret .boolean q_M_must_38 rfl rfl rfl rfl
    · skip
      first
        | exact absurd (zI_0.mp c5) (by rw [isN hc (by omega)]; decide)
        | exact absurd (zI_n0.mp c16) (by rw [hb]; decide)
theorem c_M_budget_no (sc : am_S) (A : ST) (q : QS) (D : ST) (t : TS) (x : Int32) (v : Int64) (hx : ¬ ((¬ x < 0 ∧ ¬ nI (x_ny D) ≤ x) ∧ (¬ v < 0 ∧ ¬ 100000000 < v))) : AM sc m_M_budget 1 [.ref 50, .int x, .long v] (hp A q D t) (some (.int 0)) (hp A q D t) := by
  refine AM.of (by decide) (Nat.le_of_ble_eq_true rfl) ?_
  show AW sc m_M_budget 1 0 [some (.ref 50), some (.int x), some (.long v), none] [] _ _ _
  refine aw_aload_n 0 q_M_budget_0 rfl rfl ?_
  refine aw_iload_n 1 q_M_budget_1 rfl rfl ?_
  refine aw_V1 q_M_budget_2 st_M_98 rfl (by omega) (Nat.le_of_ble_eq_true rfl) (c_M_isYear _ _ _ _ _ _) ?_
  refine aw_if_eq 19 q_M_budget_5 rfl (fun c5 => ?_) (fun c5 => ?_)
  · skip
    refine aw_iconst 0 q_M_budget_19 rfl ?_
    exact aw_iret .boolean q_M_budget_20 rfl rfl rfl rfl
  · skip
    refine aw_lload_n 2 q_M_budget_8 rfl rfl ?_
    refine aw_lconst 0 q_M_budget_9 rfl ?_
    refine aw_ldc2 100000000 q_M_budget_10 (am_in3 (i := 234) rfl rfl) ?_
    refine aw_S3 q_M_budget_13 st_M_72 (by omega) (Nat.le_of_ble_eq_true rfl) (c_M_in _ _ _ _ _) ?_
    refine aw_if_ne 21 q_M_budget_16 rfl (fun c16 => ?_) (fun c16 => ?_)
    · skip
      exact (hx ⟨of_decide_eq_true (zI_n0.mp c5), of_decide_eq_true (zI_n0.mp c16)⟩).elim
    · skip
      refine aw_iconst 0 q_M_budget_19 rfl ?_
      exact aw_iret .boolean q_M_budget_20 rfl rfl rfl rfl
theorem c_M_budget (sc : am_S) (A : ST) (q : QS) (D : ST) (t : TS) (y : Nat) (v : Int) (b : bd D) (hy : y < x_ny D) (hv : 0 ≤ v ∧ v ≤ 100000000) : AM sc m_M_budget 1 [.ref 50, .int (nI y), .long (lZ v)] (hp A q D t) (some (.int 1)) (hp A q (fgA (buA D y v)) t) := by
  refine AM.of (by decide) (Nat.le_of_ble_eq_true rfl) ?_
  show AW sc m_M_budget 1 0 [some (.ref 50), some (.int (nI y)), some (.long (lZ v)), none] [] _ _ _
  have b1 := b.1
  refine aw_aload_n 0 q_M_budget_0 rfl rfl ?_
  refine aw_iload_n 1 q_M_budget_1 rfl rfl ?_
  refine aw_V1 q_M_budget_2 st_M_98 rfl (by omega) (Nat.le_of_ble_eq_true rfl) (c_M_isYear _ _ _ _ _ _) ?_
  refine aw_if_eq 19 q_M_budget_5 rfl (fun c5 => ?_) (fun c5 => ?_)
  · skip
    first
      | exact absurd (zI_0.mp c5) (by rw [isN hy (by omega)]; decide)
      | exact absurd (zI_0.mp c16) (by rw [inN (by omega) (by omega) (by omega)]; simp; omega)
  · skip
    refine aw_lload_n 2 q_M_budget_8 rfl rfl ?_
    refine aw_lconst (lZ 0) q_M_budget_9 rfl ?_
    refine aw_ldc2 (lZ (100000000)) q_M_budget_10 (am_in3 (i := 234) rfl rfl) ?_
    refine aw_S3 q_M_budget_13 st_M_72 (by omega) (Nat.le_of_ble_eq_true rfl) (c_M_in _ _ _ _ _) ?_
    refine aw_if_ne 21 q_M_budget_16 rfl (fun c16 => ?_) (fun c16 => ?_)
    · skip
      refine aw_aload_n 0 q_M_budget_21 rfl rfl ?_
      refine aw_get 10 q_M_budget_22 fl_M_29 rfl rfl ?_
      refine aw_iload_n 1 q_M_budget_25 rfl rfl ?_
      refine aw_lload_n 2 q_M_budget_26 rfl rfl ?_
      refine wa_56 _ q_M_budget_27 (by omega) ?_
      refine aw_aload_n 0 q_M_budget_28 rfl rfl ?_
      refine aw_V0v q_M_budget_29 st_M_79 rfl (by omega) (Nat.le_of_ble_eq_true rfl) (c_M_tell _ _ _ _ _) ?_
      refine aw_iconst 1 q_M_budget_32 rfl ?_
      exact aw_iret .boolean q_M_budget_33 rfl rfl rfl rfl
    · skip
      first
        | exact absurd (zI_0.mp c5) (by rw [isN hy (by omega)]; decide)
        | exact absurd (zI_0.mp c16) (by rw [inN (by omega) (by omega) (by omega)]; simp; omega)
theorem c_M_fair_no (sc : am_S) (A : ST) (q : QS) (D : ST) (t : TS) (v : Int64) (hx : 10000000 < v) : AM sc m_M_fair 1 [.ref 50, .long v] (hp A q D t) (some (.int 0)) (hp A q D t) := by
  refine AM.of (by decide) (Nat.le_of_ble_eq_true rfl) ?_
  show AW sc m_M_fair 1 0 [some (.ref 50), some (.long v), none] [] _ _ _
  refine aw_lload_n 1 q_M_fair_0 rfl rfl ?_
  refine aw_ldc2 10000000 q_M_fair_1 (am_in4 (i := 8) rfl rfl) ?_
  refine aw_lcmp_le 10 q_M_fair_4 q_M_fair_5 rfl (fun c4 => ?_) (fun c4 => ?_)
  · skip
    exact absurd c4 (Int64.not_le.mpr hx)
  · skip
    refine aw_iconst 0 q_M_fair_8 rfl ?_
    exact aw_iret .boolean q_M_fair_9 rfl rfl rfl rfl
theorem c_M_fair (sc : am_S) (A : ST) (q : QS) (D : ST) (t : TS) (v : Int) (hv : -9223372036854775808 ≤ v ∧ v ≤ 10000000) : AM sc m_M_fair 1 [.ref 50, .long (lZ v)] (hp A q D t) (some (.int 1)) (hp A q (fgA (faA D v)) t) := by
  refine AM.of (by decide) (Nat.le_of_ble_eq_true rfl) ?_
  show AW sc m_M_fair 1 0 [some (.ref 50), some (.long (lZ v)), none] [] _ _ _
  refine aw_lload_n 1 q_M_fair_0 rfl rfl ?_
  refine aw_ldc2 (lZ (10000000)) q_M_fair_1 (am_in4 (i := 8) rfl rfl) ?_
  refine aw_lcmp_le 10 q_M_fair_4 q_M_fair_5 rfl (fun c4 => ?_) (fun c4 => ?_)
  · skip
    refine aw_aload_n 0 q_M_fair_10 rfl rfl ?_
    refine aw_lload_n 1 q_M_fair_11 rfl rfl ?_
    refine aw_lconst (lZ 0) q_M_fair_12 rfl ?_
    refine aw_lcmp_ge 23 q_M_fair_13 q_M_fair_14 rfl (fun c13 => ?_) (fun c13 => ?_)
    · skip
      refine aw_lload_n 1 q_M_fair_23 rfl rfl ?_
      refine wp_M_15 _ q_M_fair_24 fl_M_43 ?_
      refine aw_aload_n 0 q_M_fair_27 rfl rfl ?_
      refine aw_V0v q_M_fair_28 st_M_79 rfl (by omega) (Nat.le_of_ble_eq_true rfl) (c_M_tell _ _ _ _ _) ?_
      refine aw_iconst 1 q_M_fair_31 rfl ?_
      exact aw_iret .boolean q_M_fair_32 rfl rfl rfl (by have e := (lZ_le (by omega) (by omega)).mp c13; unfold faA; rw [if_neg (by omega)])
    · skip
      refine aw_ldc2 (lZ (-1)) q_M_fair_17 (am_in3 (i := 127) rfl rfl) ?_
      refine aw_goto 24 q_M_fair_20 rfl ?_
      refine wp_M_15 _ q_M_fair_24 fl_M_43 ?_
      refine aw_aload_n 0 q_M_fair_27 rfl rfl ?_
      refine aw_V0v q_M_fair_28 st_M_79 rfl (by omega) (Nat.le_of_ble_eq_true rfl) (c_M_tell _ _ _ _ _) ?_
      refine aw_iconst 1 q_M_fair_31 rfl ?_
      exact aw_iret .boolean q_M_fair_32 rfl rfl rfl (by have e := mt (lZ_le (by omega) (by omega)).mpr c13; unfold faA; rw [if_pos (by omega)])
  · skip
    exact absurd ((lZ_le (by omega) (by omega)).mpr hv.2) c4
