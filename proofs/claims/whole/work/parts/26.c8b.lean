theorem c_S_lookWithout (sc : am_S) (A : ST) (q : QS) (D : ST) (t : TS) (N k c : Nat) (b : bd A) (j : jy A) (f : bqf q) (hfa : -1 ≤ x_fa A ∧ x_fa A ≤ 10000000) (hN : q_no q = (N : Int)) (hc : c + (k + 1) = x_nc A) (IH : ∀ (P bb : Nat) (z : Z4), P < 2 ^ (c + 1) → jz z → bb + 2 ^ k ≤ 100000 → AM sc m_S_lookFrom (2 * k + 4) [.ref 26, .int (nI (c + 1)), .long (lZ (bb : Int))] (hp A (pst A (zq q z) P) D t) none (hp A (pst A (zq q (SR A q N k bb P z)) P) D t)) (P bb : Nat) (z : Z4) (hP : P < 2 ^ c) (hz : jz z) (hbb : bb + 2 ^ k ≤ 100000) : AM sc m_S_lookWithout (2 * k + 5) [.ref 26, .int (nI c), .long (lZ (bb : Int))] (hp A (pst A (zq q z) P) D t) (none) (hp A (pst A (zq q (SO A q N k bb P z)) P) D t) := by
  refine AM.of (by decide) (Nat.le_of_ble_eq_true rfl) ?_
  show AW sc m_S_lookWithout (2 * k + 5) 0 [some (.ref 26), some (.int (nI c)), some (.long (lZ (bb : Int))), none] [] _ _ _
  have b3 := b.2.2.1
  have hmu := f.2.2.2.2.2.1
  have h14 := p14 (i := c) (by omega)
  have ec : x_nc A - (k + 1) = c := by omega
  have hP2 : P < 2 ^ (c + 1) := Nat.lt_trans hP (Nat.pow_lt_pow_right (by decide) (by omega))
  refine aw_aload_n 0 q_S_lookWithout_0 rfl rfl ?_
  refine aw_get 2 q_S_lookWithout_1 fl_S_70 rfl rfl ?_
  simp only [ps_bk, ps_ba, ps_ck, ps_cl, ps_no, ps_mu, ps_od, ps_cm, ps_oe, ps_ud, ps_li, ps_sf, ps_wf, ps_pk, ps_tk, ps_sy, ps_ga, ps_sp, ps_gi, ps_be, ps_bc, ps_bw, ps_bs, ps_or, zq_bk, zq_ba, zq_ck, zq_cl, zq_no, zq_mu, zq_od, zq_cm, zq_oe, zq_ud, zq_li, zq_sf, zq_wf, zq_pk, zq_tk, zq_sy, zq_ga, zq_sp, zq_gi, zq_be, zq_bc, zq_bw, zq_bs, zq_or]
  refine aw_iload_n 1 q_S_lookWithout_4 rfl rfl ?_
  refine aw_S2 q_S_lookWithout_5 st_S_124 (by omega) (Nat.le_of_ble_eq_true rfl) (c_B_isIn _ _ _ _ (by omega) (by omega)) ?_
  refine aw_if_ne 27 q_S_lookWithout_8 rfl (fun c8 => ?_) (fun c8 => ?_)
  · skip
    exact aw_vret q_S_lookWithout_27 rfl rfl (by rw [show SO A q N k bb P z = z from if_pos (by have h9 : (q_mu q).testBit c = true := zI_n0.mp c8; simp [bdO, ec, h9])])
  · skip
    refine aw_aload_n 0 q_S_lookWithout_11 rfl rfl ?_
    refine aw_iload_n 1 q_S_lookWithout_12 rfl rfl ?_
    refine aw_V1 q_S_lookWithout_13 st_S_132 rfl (by omega) (Nat.le_of_ble_eq_true rfl) (c_S_isOverspent _ _ _ _ _ _ b (bq_pst b f hz (by omega)) (by omega)) ?_
    rw [ovs_zq]
    refine aw_if_ne 27 q_S_lookWithout_16 rfl (fun c16 => ?_) (fun c16 => ?_)
    · skip
      exact aw_vret q_S_lookWithout_27 rfl rfl (by rw [show SO A q N k bb P z = z from if_pos (by have h9 : ovs A (pst A q P) c = true := zI_n0.mp c16; simp [bdO, ec, h9])])
    · skip
      refine aw_aload_n 0 q_S_lookWithout_19 rfl rfl ?_
      refine aw_iload_n 1 q_S_lookWithout_20 rfl rfl ?_
      refine aw_iconst 1 q_S_lookWithout_21 rfl ?_
      refine aw_iadd q_S_lookWithout_22 ?_
      rw [nI_1]
      refine aw_lload_n 2 q_S_lookWithout_23 rfl rfl ?_
      refine aw_V2v q_S_lookWithout_24 st_S_43 rfl (by omega) (Nat.le_of_ble_eq_true rfl) (IH _ _ _ hP2 hz hbb) ?_
      exact aw_vret q_S_lookWithout_27 rfl rfl (by rw [show SO A q N k bb P z = SR A q N k bb P z from if_neg (by have h9 : ovs A (pst A q P) c = false := zI_0.mp c16; have h8 : (q_mu q).testBit c = false := zI_0.mp c8; simp [bdO, ec, h9, h8])])
