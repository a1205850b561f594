theorem c_S_bestPlan (sc : am_S) (A : ST) (q : QS) (D : ST) (t : TS) (N : Nat) (b : bd A) (j : jy A) (r : rst q) (h0 : bu0 A) (hfa : -1 ≤ x_fa A ∧ x_fa A ≤ 10000000) (hN : N ≤ 20000) : AM sc m_S_bestPlan 40 [.ref 26, .long (lZ (N : Int))] (hp A q D t) (some (.int (pI (SR A (QF A q (N : Int) (x_mu A) (x_bu A) 0 0 false) N (x_nc A) 0 0 (z0 q)).1))) (hp A (pst A (zq (QF A q (N : Int) (x_mu A) (x_bu A) 0 0 false) (SR A (QF A q (N : Int) (x_mu A) (x_bu A) 0 0 false) N (x_nc A) 0 0 (z0 q))) 0) D t) := by
  refine AM.of (by decide) (Nat.le_of_ble_eq_true rfl) ?_
  show AW sc m_S_bestPlan 40 0 [some (.ref 26), some (.long (lZ (N : Int))), none] [] _ _ _
  have b3 := b.2.2.1
  have h14 := p14 b3
  have bm := b.2.2.2.2.2.2.2.2.2.2.2.2.1
  have bbu := b.2.2.2.2.2.2.2.2.2.2.1
  have fq : bqf (QF A q (N : Int) (x_mu A) (x_bu A) 0 0 false) := QF_f b r (by omega) bm (by decide) (by intro y; have := bbu y; omega)
  refine aw_aload_n 0 q_S_bestPlan_0 rfl rfl ?_
  refine aw_lload_n 1 q_S_bestPlan_1 rfl rfl ?_
  refine aw_aload_n 0 q_S_bestPlan_2 rfl rfl ?_
  refine aw_get 0 q_S_bestPlan_3 fl_S_29 rfl rfl ?_
  refine aw_get 10 q_S_bestPlan_6 fl_S_33 rfl rfl ?_
  refine aw_V2v q_S_bestPlan_9 st_S_39 rfl (by omega) (Nat.le_of_ble_eq_true rfl) (c_S_prepare _ _ _ _ _ _ _ b) ?_
  refine aw_q (qpf_QF r h0 _ _) ?_
  refine aw_q (QF_pst A q _ _ _ _ _ _) ?_
  refine aw_aload_n 0 q_S_bestPlan_12 rfl rfl ?_
  refine aw_iconst 0 q_S_bestPlan_13 rfl ?_
  refine aw_lconst (lZ 0) q_S_bestPlan_14 rfl ?_
  refine aw_V2v q_S_bestPlan_15 st_S_43 rfl (by omega) (Nat.le_of_ble_eq_true rfl) (c_S_lookFrom sc A (QF A q (N : Int) (x_mu A) (x_bu A) 0 0 false) D t b j fq hfa N (by rw [QF_gno]) (x_nc A) 0 0 0 (z0 q) (by omega) (by decide) (z0_jz r) (by omega)) ?_
  refine aw_aload_n 0 q_S_bestPlan_18 rfl rfl ?_
  refine aw_get 16 q_S_bestPlan_19 fl_S_47 rfl rfl ?_
  rw [ps_be, zq_be]
  exact aw_iret .int q_S_bestPlan_22 rfl rfl rfl rfl
theorem c_S_bestPlanWithMore (sc : am_S) (A : ST) (q : QS) (D : ST) (t : TS) (y : Nat) (ce : Int) (b : bd A) (j : jy A) (r : rst q) (h0 : bu0 A) (hfa : -1 ≤ x_fa A ∧ x_fa A ≤ 10000000) (hy : y < 6) (hce : 0 ≤ ce ∧ ce ≤ 1000) : AM sc m_S_bestPlanWithMore 40 [.ref 26, .int (nI y), .long (lZ ce)] (hp A q D t) (some (.int (pI (SR A (QF A q 16384 (x_mu A) (va_up (x_bu A) y (x_bu A y + ce)) 0 0 false) 16384 (x_nc A) 0 0 (z0 q)).1))) (hp A (pst A (zq (QF A q 16384 (x_mu A) (va_up (x_bu A) y (x_bu A y + ce)) 0 0 false) (SR A (QF A q 16384 (x_mu A) (va_up (x_bu A) y (x_bu A y + ce)) 0 0 false) 16384 (x_nc A) 0 0 (z0 q))) 0) D t) := by
  refine AM.of (by decide) (Nat.le_of_ble_eq_true rfl) ?_
  show AW sc m_S_bestPlanWithMore 40 0 [some (.ref 26), some (.int (nI y)), some (.long (lZ ce)), none] [] _ _ _
  have b3 := b.2.2.1
  have h14 := p14 b3
  have bm := b.2.2.2.2.2.2.2.2.2.2.2.2.1
  have bbu := b.2.2.2.2.2.2.2.2.2.2.1
  have fq : bqf (QF A q 16384 (x_mu A) (va_up (x_bu A) y (x_bu A y + ce)) 0 0 false) := QF_f b r (by omega) bm (by decide) (by intro v; unfold va_up; have := bbu v; have := bbu y; split <;> omega)
  refine aw_aload_n 0 q_S_bestPlanWithMore_0 rfl rfl ?_
  refine aw_ldc2 (lZ (16384)) q_S_bestPlanWithMore_1 (am_in2 (i := 216) rfl rfl) ?_
  refine aw_aload_n 0 q_S_bestPlanWithMore_4 rfl rfl ?_
  refine aw_get 0 q_S_bestPlanWithMore_5 fl_S_29 rfl rfl ?_
  refine aw_get 10 q_S_bestPlanWithMore_8 fl_S_33 rfl rfl ?_
  refine aw_V2v q_S_bestPlanWithMore_11 st_S_39 rfl (by omega) (Nat.le_of_ble_eq_true rfl) (c_S_prepare _ _ _ _ _ _ _ b) ?_
  refine aw_q (qpf_QF r h0 _ _) ?_
  refine aw_aload_n 0 q_S_bestPlanWithMore_14 rfl rfl ?_
  refine aw_get 7 q_S_bestPlanWithMore_15 fl_S_9 rfl rfl ?_
  refine aw_iload_n 1 q_S_bestPlanWithMore_18 rfl rfl ?_
  refine aw_dup2_11 q_S_bestPlanWithMore_19 rfl rfl ?_
  refine aw_laldN q_S_bestPlanWithMore_20 rfl (by omega) rfl ?_
  refine aw_lload_n 2 q_S_bestPlanWithMore_21 rfl rfl ?_
  refine aw_ladd q_S_bestPlanWithMore_22 ?_
  rw [lZ_add]
  refine wa_26 _ q_S_bestPlanWithMore_23 (by omega) ?_
  rw [QF_gli]
  refine aw_q (QF_li A q _ _ _ _ _ _ _) ?_
  refine aw_q (QF_pst A q _ _ _ _ _ _) ?_
  refine aw_aload_n 0 q_S_bestPlanWithMore_24 rfl rfl ?_
  refine aw_iconst 0 q_S_bestPlanWithMore_25 rfl ?_
  refine aw_lconst (lZ 0) q_S_bestPlanWithMore_26 rfl ?_
  refine aw_V2v q_S_bestPlanWithMore_27 st_S_43 rfl (by omega) (Nat.le_of_ble_eq_true rfl) (c_S_lookFrom sc A (QF A q 16384 (x_mu A) (va_up (x_bu A) y (x_bu A y + ce)) 0 0 false) D t b j fq hfa 16384 (by rw [QF_gno]; rfl) (x_nc A) 0 0 0 (z0 q) (by omega) (by decide) (z0_jz r) (by omega)) ?_
  refine aw_aload_n 0 q_S_bestPlanWithMore_30 rfl rfl ?_
  refine aw_get 16 q_S_bestPlanWithMore_31 fl_S_47 rfl rfl ?_
  rw [ps_be, zq_be]
  exact aw_iret .int q_S_bestPlanWithMore_34 rfl rfl rfl rfl
theorem c_S_nearestPlan (sc : am_S) (A : ST) (q : QS) (D : ST) (t : TS) (N od : Nat) (b : bd A) (j : jy A) (r : rst q) (h0 : bu0 A) (hfa : -1 ≤ x_fa A ∧ x_fa A ≤ 10000000) (hN : N ≤ 20000) : AM sc m_S_nearestPlan 40 [.ref 26, .long (lZ (N : Int)), .int (nI od)] (hp A q D t) (some (.int (pI (SR A (QF A q (N : Int) (x_mu A) (x_bu A) od (2 ^ x_nc A - 1) false) N (x_nc A) 0 0 (z0 q)).1))) (hp A (pst A (zq (QF A q (N : Int) (x_mu A) (x_bu A) od (2 ^ x_nc A - 1) false) (SR A (QF A q (N : Int) (x_mu A) (x_bu A) od (2 ^ x_nc A - 1) false) N (x_nc A) 0 0 (z0 q))) 0) D t) := by
  refine AM.of (by decide) (Nat.le_of_ble_eq_true rfl) ?_
  show AW sc m_S_nearestPlan 40 0 [some (.ref 26), some (.long (lZ (N : Int))), none, some (.int (nI od))] [] _ _ _
  have b3 := b.2.2.1
  have h14 := p14 b3
  have bm := b.2.2.2.2.2.2.2.2.2.2.2.2.1
  have bbu := b.2.2.2.2.2.2.2.2.2.2.1
  have fq : bqf (QF A q (N : Int) (x_mu A) (x_bu A) od (2 ^ x_nc A - 1) false) := QF_f b r (by omega) bm (by omega) (by intro y; have := bbu y; omega)
  refine aw_aload_n 0 q_S_nearestPlan_0 rfl rfl ?_
  refine aw_lload_n 1 q_S_nearestPlan_1 rfl rfl ?_
  refine aw_aload_n 0 q_S_nearestPlan_2 rfl rfl ?_
  refine aw_get 0 q_S_nearestPlan_3 fl_S_29 rfl rfl ?_
  refine aw_get 10 q_S_nearestPlan_6 fl_S_33 rfl rfl ?_
  refine aw_V2v q_S_nearestPlan_9 st_S_39 rfl (by omega) (Nat.le_of_ble_eq_true rfl) (c_S_prepare _ _ _ _ _ _ _ b) ?_
  refine aw_q (qpf_QF r h0 _ _) ?_
  refine aw_aload_n 0 q_S_nearestPlan_12 rfl rfl ?_
  refine aw_iload_n 3 q_S_nearestPlan_13 rfl rfl ?_
  refine wp_S_3 _ q_S_nearestPlan_14 fl_S_52 ?_
  refine aw_q (QF_od A q _ _ _ _ _ _ _) ?_
  refine aw_aload_n 0 q_S_nearestPlan_17 rfl rfl ?_
  refine aw_aload_n 0 q_S_nearestPlan_18 rfl rfl ?_
  refine aw_get 0 q_S_nearestPlan_19 fl_S_29 rfl rfl ?_
  refine aw_V0 q_S_nearestPlan_22 st_S_55 rfl (by omega) (Nat.le_of_ble_eq_true rfl) (c_W_countOfSets _ _ _ _ _ b3) ?_
  refine aw_iconst 1 q_S_nearestPlan_25 rfl ?_
  refine aw_isub q_S_nearestPlan_26 ?_
  rw [pk_pow (by omega)]
  refine wp_S_4 _ q_S_nearestPlan_27 fl_S_59 ?_
  refine aw_q (QF_cm A q _ _ _ _ _ _ _) ?_
  refine aw_q (QF_pst A q _ _ _ _ _ _) ?_
  refine aw_aload_n 0 q_S_nearestPlan_30 rfl rfl ?_
  refine aw_iconst 0 q_S_nearestPlan_31 rfl ?_
  refine aw_lconst (lZ 0) q_S_nearestPlan_32 rfl ?_
  refine aw_V2v q_S_nearestPlan_33 st_S_43 rfl (by omega) (Nat.le_of_ble_eq_true rfl) (c_S_lookFrom sc A (QF A q (N : Int) (x_mu A) (x_bu A) od (2 ^ x_nc A - 1) false) D t b j fq hfa N (by rw [QF_gno]) (x_nc A) 0 0 0 (z0 q) (by omega) (by decide) (z0_jz r) (by omega)) ?_
  refine aw_aload_n 0 q_S_nearestPlan_36 rfl rfl ?_
  refine aw_get 16 q_S_nearestPlan_37 fl_S_47 rfl rfl ?_
  rw [ps_be, zq_be]
  exact aw_iret .int q_S_nearestPlan_40 rfl rfl rfl rfl
theorem c_S_someHolds (sc : am_S) (A : ST) (q : QS) (D : ST) (t : TS) (m : Nat) (b : bd A) (j : jy A) (r : rst q) (h0 : bu0 A) (hfa : -1 ≤ x_fa A ∧ x_fa A ≤ 10000000) (hm : m < 16384) : AM sc m_S_someHolds 40 [.ref 26, .int (nI m)] (hp A q D t) (some (.int (zI (SR A (QF A q 16384 m (x_bu A) 0 0 true) 16384 (x_nc A) 0 0 (z0 q)).1.isSome))) (hp A (pst A (zq (QF A q 16384 m (x_bu A) 0 0 true) (SR A (QF A q 16384 m (x_bu A) 0 0 true) 16384 (x_nc A) 0 0 (z0 q))) 0) D t) := by
  refine AM.of (by decide) (Nat.le_of_ble_eq_true rfl) ?_
  show AW sc m_S_someHolds 40 0 [some (.ref 26), some (.int (nI m))] [] _ _ _
  have b3 := b.2.2.1
  have h14 := p14 b3
  have bm := b.2.2.2.2.2.2.2.2.2.2.2.2.1
  have bbu := b.2.2.2.2.2.2.2.2.2.2.1
  have fq : bqf (QF A q 16384 m (x_bu A) 0 0 true) := QF_f b r (by omega) hm (by decide) (by intro y; have := bbu y; omega)
  have hz := SR_jz (q := (QF A q 16384 m (x_bu A) 0 0 true)) (N := 16384) b (x_nc A) 0 0 0 (z0 q) (by omega) (by decide) (z0_jz r)
  have e0 := pI_eq (o := (SR A (QF A q 16384 m (x_bu A) 0 0 true) 16384 (x_nc A) 0 0 (z0 q)).1) (fun m h => by have := hz.1 m h; omega)
  refine aw_aload_n 0 q_S_someHolds_0 rfl rfl ?_
  refine aw_ldc2 (lZ (16384)) q_S_someHolds_1 (am_in2 (i := 216) rfl rfl) ?_
  refine aw_iload_n 1 q_S_someHolds_4 rfl rfl ?_
  refine aw_V2v q_S_someHolds_5 st_S_39 rfl (by omega) (Nat.le_of_ble_eq_true rfl) (c_S_prepare _ _ _ _ _ _ _ b) ?_
  refine aw_q (qpf_QF r h0 _ _) ?_
  refine aw_aload_n 0 q_S_someHolds_8 rfl rfl ?_
  refine aw_iconst 1 q_S_someHolds_9 rfl ?_
  refine wp_S_5 true q_S_someHolds_10 fl_S_62 ?_
  refine aw_q (QF_oe A q _ _ _ _ _ _ _) ?_
  refine aw_q (QF_pst A q _ _ _ _ _ _) ?_
  refine aw_aload_n 0 q_S_someHolds_13 rfl rfl ?_
  refine aw_iconst 0 q_S_someHolds_14 rfl ?_
  refine aw_lconst (lZ 0) q_S_someHolds_15 rfl ?_
  refine aw_V2v q_S_someHolds_16 st_S_43 rfl (by omega) (Nat.le_of_ble_eq_true rfl) (c_S_lookFrom sc A (QF A q 16384 m (x_bu A) 0 0 true) D t b j fq hfa 16384 (by rw [QF_gno]; rfl) (x_nc A) 0 0 0 (z0 q) (by omega) (by decide) (z0_jz r) (by omega)) ?_
  refine aw_aload_n 0 q_S_someHolds_19 rfl rfl ?_
  refine aw_get 16 q_S_someHolds_20 fl_S_47 rfl rfl ?_
  refine aw_iconst (-1) q_S_someHolds_23 rfl ?_
  rw [ps_be, zq_be]
  refine aw_icmp_eq 31 q_S_someHolds_24 rfl (fun c24 => ?_) (fun c24 => ?_)
  · skip
    refine aw_iconst 0 q_S_someHolds_31 rfl ?_
    exact aw_iret .boolean q_S_someHolds_32 rfl rfl (aw_rz0 (by rw [e0.mp c24]; rfl)) rfl
  · skip
    refine aw_iconst 1 q_S_someHolds_27 rfl ?_
    refine aw_goto 32 q_S_someHolds_28 rfl ?_
    exact aw_iret .boolean q_S_someHolds_32 rfl rfl (aw_rz1 (by have h9 := mt e0.mpr c24; exact Option.isSome_iff_ne_none.mpr h9)) rfl
