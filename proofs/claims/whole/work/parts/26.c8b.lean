theorem SW_jz {A : ST} (b : bd A) {q : QS} {N k c bb P : Nat} {z : Z4} (hc : c + (k + 1) = x_nc A) (hP : P < 2 ^ c) (hz : jz z) : jz (SW A q N k bb P z) := by
  unfold SW
  split
  · exact hz
  · rw [show x_nc A - (k + 1) = c by omega]
    exact SR_jz b k (c + 1) bb _ z (by omega) (or_lt' hP) hz
theorem c_S_lookWith (sc : am_S) (A : ST) (q : QS) (D : ST) (t : TS) (N k c : Nat) (b : bd A) (j : jy A) (f : bqf q) (hfa : -1 ≤ x_fa A ∧ x_fa A ≤ 10000000) (hN : q_no q = (N : Int)) (hc : c + (k + 1) = x_nc A) (IH : ∀ (P bb : Nat) (z : Z4), P < 2 ^ (c + 1) → jz z → bb + 2 ^ k ≤ 100000 → AM sc m_S_lookFrom (2 * k + 4) [.ref 26, .int (nI (c + 1)), .long (lZ (bb : Int))] (hp A (pst A (zq q z) P) D t) none (hp A (pst A (zq q (SR A q N k bb P z)) P) D t)) (P bb : Nat) (z : Z4) (hP : P < 2 ^ c) (hz : jz z) (hbb : bb + 2 ^ k ≤ 100000) : AM sc m_S_lookWith (2 * k + 5) [.ref 26, .int (nI c), .long (lZ (bb : Int))] (hp A (pst A (zq q z) P) D t) (none) (hp A (pst A (zq q (SW A q N k bb P z)) P) D t) := by
  refine AM.of (by decide) (Nat.le_of_ble_eq_true rfl) ?_
  show AW sc m_S_lookWith (2 * k + 5) 0 [some (.ref 26), some (.int (nI c)), some (.long (lZ (bb : Int))), none] [] _ _ _
  have b3 := b.2.2.1
  have b4 := b.2.2.2.1 c
  have hcn : c < x_nc A := by omega
  have h14 := p14 (i := c) (by omega)
  have h15 := p14 (i := c + 1) (by omega)
  have hP2 := or_lt' hP
  have tl := tkm_lt b P (x_nc A)
  have ec : x_nc A - (k + 1) = c := by omega
  refine aw_aload_n 0 q_S_lookWith_0 rfl rfl ?_
  refine aw_get 11 q_S_lookWith_1 fl_S_79 rfl rfl ?_
  simp only [ps_bk, ps_ba, ps_ck, ps_cl, ps_no, ps_mu, ps_od, ps_cm, ps_oe, ps_ud, ps_li, ps_sf, ps_wf, ps_pk, ps_tk, ps_sy, ps_ga, ps_sp, ps_gi, ps_be, ps_bc, ps_bw, ps_bs, ps_or, zq_bk, zq_ba, zq_ck, zq_cl, zq_no, zq_mu, zq_od, zq_cm, zq_oe, zq_ud, zq_li, zq_sf, zq_wf, zq_pk, zq_tk, zq_sy, zq_ga, zq_sp, zq_gi, zq_be, zq_bc, zq_bw, zq_bs, zq_or]
  refine aw_aload_n 0 q_S_lookWith_4 rfl rfl ?_
  refine aw_get 0 q_S_lookWith_5 fl_S_29 rfl rfl ?_
  refine aw_get 6 q_S_lookWith_8 fl_S_121 rfl rfl ?_
  refine aw_iload_n 1 q_S_lookWith_11 rfl rfl ?_
  refine aw_ialdN q_S_lookWith_12 rfl (by omega) rfl ?_
  refine aw_S2 q_S_lookWith_13 st_S_124 (by omega) (Nat.le_of_ble_eq_true rfl) (c_B_isIn _ _ _ _ (by omega) (by omega)) ?_
  refine aw_if_eq 20 q_S_lookWith_16 rfl (fun c16 => ?_) (fun c16 => ?_)
  · skip
    have hk : (tkm A P (x_nc A)).testBit (x_th A c) = false := zI_0.mp c16
    refine aw_aload_n 0 q_S_lookWith_20 rfl rfl ?_
    refine aw_iload_n 1 q_S_lookWith_21 rfl rfl ?_
    refine aw_iconst 1 q_S_lookWith_22 rfl ?_
    refine aw_V2v q_S_lookWith_23 st_S_128 rfl (by omega) (Nat.le_of_ble_eq_true rfl) (c_S_pick1 _ _ _ _ _ _ b (by omega) (by rw [ps_pk]; omega)) ?_
    simp only [ps_sy]
    rw [pkq_in j hP hcn hk]
    refine aw_aload_n 0 q_S_lookWith_26 rfl rfl ?_
    refine aw_iload_n 1 q_S_lookWith_27 rfl rfl ?_
    refine aw_V1 q_S_lookWith_28 st_S_132 rfl (by omega) (Nat.le_of_ble_eq_true rfl) (c_S_isOverspent _ _ _ _ _ _ b (bq_pst b f hz (by omega)) (by omega)) ?_
    rw [ovs_zq]
    refine aw_if_ne 42 q_S_lookWith_31 rfl (fun c31 => ?_) (fun c31 => ?_)
    · skip
      refine aw_aload_n 0 q_S_lookWith_42 rfl rfl ?_
      refine aw_iload_n 1 q_S_lookWith_43 rfl rfl ?_
      refine aw_iconst (-1) q_S_lookWith_44 rfl ?_
      refine aw_V2v q_S_lookWith_45 st_S_128 rfl (by omega) (Nat.le_of_ble_eq_true rfl) (c_S_pickm _ _ _ _ _ _ b (by omega) (by rw [ps_pk]; omega) (by rw [ps_sy, ysum_or hP hcn]; omega)) ?_
      exact aw_vret q_S_lookWith_48 rfl rfl (by
      have e9 : ysum A (P ||| 2 ^ c) - x_yr A c = ysum A P := by rw [ysum_or hP hcn]; omega
      rw [show SW A q N k bb P z = z from if_pos (by have h9 : ovs A (pst A q (P ||| 2 ^ c)) c = true := zI_n0.mp c31; simp [bdW, ec, h9])]
      rw [ps_sy, e9, pkq_out j hP hcn hk])
    · skip
      refine aw_aload_n 0 q_S_lookWith_34 rfl rfl ?_
      refine aw_iload_n 1 q_S_lookWith_35 rfl rfl ?_
      refine aw_iconst 1 q_S_lookWith_36 rfl ?_
      refine aw_iadd q_S_lookWith_37 ?_
      rw [nI_1]
      refine aw_lload_n 2 q_S_lookWith_38 rfl rfl ?_
      refine aw_V2v q_S_lookWith_39 st_S_43 rfl (by omega) (Nat.le_of_ble_eq_true rfl) (IH _ _ _ hP2 hz hbb) ?_
      refine aw_aload_n 0 q_S_lookWith_42 rfl rfl ?_
      refine aw_iload_n 1 q_S_lookWith_43 rfl rfl ?_
      refine aw_iconst (-1) q_S_lookWith_44 rfl ?_
      refine aw_V2v q_S_lookWith_45 st_S_128 rfl (by omega) (Nat.le_of_ble_eq_true rfl) (c_S_pickm _ _ _ _ _ _ b (by omega) (by rw [ps_pk]; omega) (by rw [ps_sy, ysum_or hP hcn]; omega)) ?_
      exact aw_vret q_S_lookWith_48 rfl rfl (by
      have e9 : ysum A (P ||| 2 ^ c) - x_yr A c = ysum A P := by rw [ysum_or hP hcn]; omega
      rw [show SW A q N k bb P z = SR A q N k bb (P ||| 2 ^ c) z from by rw [← ec]; exact if_neg (by have h9 : ovs A (pst A q (P ||| 2 ^ c)) c = false := zI_0.mp c31; simp [bdW, ec, hk, h9])]
      generalize SR A q N k bb (P ||| 2 ^ c) z = z1
      rw [ps_sy, e9, pkq_out j hP hcn hk])
  · skip
    exact aw_vret q_S_lookWith_19 rfl rfl (by rw [show SW A q N k bb P z = z from if_pos (by simp [bdW, ec, zI_n0.mp c16])])
theorem c_S_lookWithout (sc : am_S) (A : ST) (q : QS) (D : ST) (t : TS) (N k c : Nat) (b : bd A) (j : jy A) (f : bqf q) (hfa : -1 ≤ x_fa A ∧ x_fa A ≤ 10000000) (hN : q_no q = (N : Int)) (hc : c + (k + 1) = x_nc A) (IH : ∀ (P bb : Nat) (z : Z4), P < 2 ^ (c + 1) → jz z → bb + 2 ^ k ≤ 100000 → AM sc m_S_lookFrom (2 * k + 4) [.ref 26, .int (nI (c + 1)), .long (lZ (bb : Int))] (hp A (pst A (zq q z) P) D t) none (hp A (pst A (zq q (SR A q N k bb P z)) P) D t)) (P bb : Nat) (z : Z4) (hP : P < 2 ^ c) (hz : jz z) (hbb : bb + 2 ^ k ≤ 100000) : AM sc m_S_lookWithout (2 * k + 5) [.ref 26, .int (nI c), .long (lZ (bb : Int))] (hp A (pst A (zq q z) P) D t) (none) (hp A (pst A (zq q (SO A q N k bb P z)) P) D t) := by
  refine AM.of (by decide) (Nat.le_of_ble_eq_true rfl) ?_
  show AW sc m_S_lookWithout (2 * k + 5) 0 [some (.ref 26), some (.int (nI c)), some (.long (lZ (bb : Int))), none] [] _ _ _
  have b3 := b.2.2.1
  have hmu := f.2.2.2.2.2.1
  have h14 := p14 (i := c) (by omega)
  have ec : x_nc A - (k + 1) = c := by omega
  have hP2 : P < 2 ^ (c + 1) := Nat.lt_trans hP (Nat.pow_lt_pow_right (by decide) (by omega))
  refine aw_aload_n 0 q_S_lookWithout_0 rfl rfl ?_
  refine aw_get 2 q_S_lookWithout_1 fl_S_70 rfl rfl ?_
  simp only [ps_bk, ps_ba, ps_ck, ps_cl, ps_no, ps_mu, ps_od, ps_cm, ps_oe, ps_ud, ps_li, ps_sf, ps_wf, ps_pk, ps_tk, ps_sy, ps_ga, ps_sp, ps_gi, ps_be, ps_bc, ps_bw, ps_bs, ps_or, zq_bk, zq_ba, zq_ck, zq_cl, zq_no, zq_mu, zq_od, zq_cm, zq_oe, zq_ud, zq_li, zq_sf, zq_wf, zq_pk, zq_tk, zq_sy, zq_ga, zq_sp, zq_gi, zq_be, zq_bc, zq_bw, zq_bs, zq_or]
  refine aw_iload_n 1 q_S_lookWithout_4 rfl rfl ?_
  refine aw_S2 q_S_lookWithout_5 st_S_124 (by omega) (Nat.le_of_ble_eq_true rfl) (c_B_isIn _ _ _ _ (by omega) (by omega)) ?_
  refine aw_if_ne 27 q_S_lookWithout_8 rfl (fun c8 => ?_) (fun c8 => ?_)
  · skip
    exact aw_vret q_S_lookWithout_27 rfl rfl (by rw [show SO A q N k bb P z = z from if_pos (by have h9 : (q_mu q).testBit c = true := zI_n0.mp c8; simp [bdO, ec, h9])])
  · skip
    refine aw_aload_n 0 q_S_lookWithout_11 rfl rfl ?_
    refine aw_iload_n 1 q_S_lookWithout_12 rfl rfl ?_
    refine aw_V1 q_S_lookWithout_13 st_S_132 rfl (by omega) (Nat.le_of_ble_eq_true rfl) (c_S_isOverspent _ _ _ _ _ _ b (bq_pst b f hz (by omega)) (by omega)) ?_
    rw [ovs_zq]
    refine aw_if_ne 27 q_S_lookWithout_16 rfl (fun c16 => ?_) (fun c16 => ?_)
    · skip
      exact aw_vret q_S_lookWithout_27 rfl rfl (by rw [show SO A q N k bb P z = z from if_pos (by have h9 : ovs A (pst A q P) c = true := zI_n0.mp c16; simp [bdO, ec, h9])])
    · skip
      refine aw_aload_n 0 q_S_lookWithout_19 rfl rfl ?_
      refine aw_iload_n 1 q_S_lookWithout_20 rfl rfl ?_
      refine aw_iconst 1 q_S_lookWithout_21 rfl ?_
      refine aw_iadd q_S_lookWithout_22 ?_
      rw [nI_1]
      refine aw_lload_n 2 q_S_lookWithout_23 rfl rfl ?_
      refine aw_V2v q_S_lookWithout_24 st_S_43 rfl (by omega) (Nat.le_of_ble_eq_true rfl) (IH _ _ _ hP2 hz hbb) ?_
      exact aw_vret q_S_lookWithout_27 rfl rfl (by rw [show SO A q N k bb P z = SR A q N k bb P z from if_neg (by have h9 : ovs A (pst A q P) c = false := zI_0.mp c16; have h8 : (q_mu q).testBit c = false := zI_0.mp c8; simp [bdO, ec, h9, h8])])
theorem c_S_lookFrom (sc : am_S) (A : ST) (q : QS) (D : ST) (t : TS) (b : bd A) (j : jy A) (f : bqf q) (hfa : -1 ≤ x_fa A ∧ x_fa A ≤ 10000000) (N : Nat) (hN : q_no q = (N : Int)) : ∀ (k c P bb : Nat) (z : Z4), c + k = x_nc A → P < 2 ^ c → jz z → bb + 2 ^ k ≤ 100000 → AM sc m_S_lookFrom (2 * k + 4) [.ref 26, .int (nI c), .long (lZ (bb : Int))] (hp A (pst A (zq q z) P) D t) none (hp A (pst A (zq q (SR A q N k bb P z)) P) D t) := by
  intro k
  induction k with
  | zero =>
    intro c P bb z hc hP hz hbb
    have b3 := b.2.2.1
    have h14 := p14 (i := c) (by omega)
    have hn6 := f.2.2.2.2.2.2
    have tp := Nat.two_pow_pos 0
    have ek : x_nc A - 0 = c := by omega
    refine AM.of (by decide) (Nat.le_of_ble_eq_true rfl) ?_
    show AW sc m_S_lookFrom _ 0 [some (.ref 26), some (.int (nI c)), some (.long (lZ (bb : Int))), none] [] _ _ _
    refine aw_lload_n 2 q_S_lookFrom_0 rfl rfl ?_
    refine aw_aload_n 0 q_S_lookFrom_1 rfl rfl ?_
    refine aw_get 1 q_S_lookFrom_2 fl_S_66 rfl rfl ?_
    simp only [ps_bk, ps_ba, ps_ck, ps_cl, ps_no, ps_mu, ps_od, ps_cm, ps_oe, ps_ud, ps_li, ps_sf, ps_wf, ps_pk, ps_tk, ps_sy, ps_ga, ps_sp, ps_gi, ps_be, ps_bc, ps_bw, ps_bs, ps_or, zq_bk, zq_ba, zq_ck, zq_cl, zq_no, zq_mu, zq_od, zq_cm, zq_oe, zq_ud, zq_li, zq_sf, zq_wf, zq_pk, zq_tk, zq_sy, zq_ga, zq_sp, zq_gi, zq_be, zq_bc, zq_bw, zq_bs, zq_or]
    refine aw_lcmp_ge 17 q_S_lookFrom_5 q_S_lookFrom_6 rfl (fun c5 => ?_) (fun c5 => ?_)
    · skip
      exact aw_vret q_S_lookFrom_17 rfl rfl (by rw [SR_cut (Or.inl (by have h9 := (lZ_le (a := q_no q) (b := (bb : Int)) (by omega) (by omega)).mp c5; omega))])
    · skip
      have hnb : ¬ N ≤ bb := fun x => c5 ((lZ_le (by omega) (by omega)).mpr (by omega))
      refine aw_aload_n 0 q_S_lookFrom_9 rfl rfl ?_
      refine aw_iload_n 1 q_S_lookFrom_10 rfl rfl ?_
      refine aw_V1 q_S_lookFrom_11 st_S_108 rfl (by omega) (Nat.le_of_ble_eq_true rfl) (c_S_isHopeless _ _ _ _ _ _ (bq_pst b f hz (by omega)) (by omega)) ?_
      refine aw_if_eq 18 q_S_lookFrom_14 rfl (fun c14 => ?_) (fun c14 => ?_)
      · skip
        have hh : hopf A q 0 P z = false := by unfold hopf; rw [ek]; exact zI_0.mp c14
        refine aw_iload_n 1 q_S_lookFrom_18 rfl rfl ?_
        refine aw_aload_n 0 q_S_lookFrom_19 rfl rfl ?_
        refine aw_get 0 q_S_lookFrom_20 fl_S_29 rfl rfl ?_
        refine aw_get 5 q_S_lookFrom_23 fl_S_94 rfl rfl ?_
        refine aw_icmp_lt 34 q_S_lookFrom_26 rfl (fun c26 => ?_) (fun c26 => ?_)
        · skip
          exact absurd ((nI_ltI (by omega) (by omega)).mp c26) (by omega)
        · skip
          refine aw_aload_n 0 q_S_lookFrom_29 rfl rfl ?_
          refine aw_V0v q_S_lookFrom_30 st_S_112 rfl (by omega) (Nat.le_of_ble_eq_true rfl) (c_S_weigh _ _ _ _ _ (bq_pst b f hz (by omega)) hfa) ?_
          exact aw_vret q_S_lookFrom_33 rfl rfl (by rw [SR_leaf hnb hh, ← wgh_pst])
      · skip
        exact aw_vret q_S_lookFrom_17 rfl rfl (by rw [SR_cut (Or.inr (by unfold hopf; rw [ek]; exact zI_n0.mp c14))])
  | succ k ih =>
    intro c P bb z hc hP hz hbb
    have h2k : 2 ^ (k + 1) = 2 ^ k + 2 ^ k := by rw [Nat.pow_succ]; omega
    have b3 := b.2.2.1
    have h14 := p14 (i := c) (by omega)
    have hn6 := f.2.2.2.2.2.2
    have tp := Nat.two_pow_pos (k + 1)
    have ek : x_nc A - (k + 1) = c := by omega
    refine AM.of (by decide) (Nat.le_of_ble_eq_true rfl) ?_
    show AW sc m_S_lookFrom _ 0 [some (.ref 26), some (.int (nI c)), some (.long (lZ (bb : Int))), none] [] _ _ _
    refine aw_lload_n 2 q_S_lookFrom_0 rfl rfl ?_
    refine aw_aload_n 0 q_S_lookFrom_1 rfl rfl ?_
    refine aw_get 1 q_S_lookFrom_2 fl_S_66 rfl rfl ?_
    simp only [ps_bk, ps_ba, ps_ck, ps_cl, ps_no, ps_mu, ps_od, ps_cm, ps_oe, ps_ud, ps_li, ps_sf, ps_wf, ps_pk, ps_tk, ps_sy, ps_ga, ps_sp, ps_gi, ps_be, ps_bc, ps_bw, ps_bs, ps_or, zq_bk, zq_ba, zq_ck, zq_cl, zq_no, zq_mu, zq_od, zq_cm, zq_oe, zq_ud, zq_li, zq_sf, zq_wf, zq_pk, zq_tk, zq_sy, zq_ga, zq_sp, zq_gi, zq_be, zq_bc, zq_bw, zq_bs, zq_or]
    refine aw_lcmp_ge 17 q_S_lookFrom_5 q_S_lookFrom_6 rfl (fun c5 => ?_) (fun c5 => ?_)
    · skip
      exact aw_vret q_S_lookFrom_17 rfl rfl (by rw [SR_cut (Or.inl (by have h9 := (lZ_le (a := q_no q) (b := (bb : Int)) (by omega) (by omega)).mp c5; omega))])
    · skip
      have hnb : ¬ N ≤ bb := fun x => c5 ((lZ_le (by omega) (by omega)).mpr (by omega))
      refine aw_aload_n 0 q_S_lookFrom_9 rfl rfl ?_
      refine aw_iload_n 1 q_S_lookFrom_10 rfl rfl ?_
      refine aw_V1 q_S_lookFrom_11 st_S_108 rfl (by omega) (Nat.le_of_ble_eq_true rfl) (c_S_isHopeless _ _ _ _ _ _ (bq_pst b f hz (by omega)) (by omega)) ?_
      refine aw_if_eq 18 q_S_lookFrom_14 rfl (fun c14 => ?_) (fun c14 => ?_)
      · skip
        have hh : hopf A q (k + 1) P z = false := by unfold hopf; rw [ek]; exact zI_0.mp c14
        refine aw_iload_n 1 q_S_lookFrom_18 rfl rfl ?_
        refine aw_aload_n 0 q_S_lookFrom_19 rfl rfl ?_
        refine aw_get 0 q_S_lookFrom_20 fl_S_29 rfl rfl ?_
        refine aw_get 5 q_S_lookFrom_23 fl_S_94 rfl rfl ?_
        refine aw_icmp_lt 34 q_S_lookFrom_26 rfl (fun c26 => ?_) (fun c26 => ?_)
        · skip
          refine aw_aload_n 0 q_S_lookFrom_34 rfl rfl ?_
          refine aw_iload_n 1 q_S_lookFrom_35 rfl rfl ?_
          refine aw_lload_n 2 q_S_lookFrom_36 rfl rfl ?_
          refine aw_V2v q_S_lookFrom_37 st_S_115 rfl (by omega) (Nat.le_of_ble_eq_true rfl) (c_S_lookWith sc A q D t N k c b j f hfa hN hc (fun P bb z h1 h2 h3 => ih (c + 1) P bb z (by omega) h1 h2 h3) P bb z hP hz (by omega)) ?_
          have hzW : jz (SW A q N k bb P z) := SW_jz b hc hP hz
          refine aw_aload_n 0 q_S_lookFrom_40 rfl rfl ?_
          refine aw_iload_n 1 q_S_lookFrom_41 rfl rfl ?_
          refine aw_lload_n 2 q_S_lookFrom_42 rfl rfl ?_
          refine aw_lconst (lZ 1) q_S_lookFrom_43 rfl ?_
          refine aw_aload_n 0 q_S_lookFrom_44 rfl rfl ?_
          refine aw_get 0 q_S_lookFrom_45 fl_S_29 rfl rfl ?_
          refine aw_get 5 q_S_lookFrom_48 fl_S_94 rfl rfl ?_
          refine aw_iconst 1 q_S_lookFrom_51 rfl ?_
          refine aw_isub q_S_lookFrom_52 ?_
          refine aw_iload_n 1 q_S_lookFrom_53 rfl rfl ?_
          refine aw_isub q_S_lookFrom_54 ?_
          rw [show (1 : Int32) = nI 1 from rfl, pk_sub (by omega), pk_sub (by omega)]
          refine aw_lshl q_S_lookFrom_55 ?_
          rw [ls_dec _ (by omega)]
          refine aw_ladd q_S_lookFrom_56 ?_
          rw [lZ_add, show (bb : Int) + ((2 ^ (x_nc A - 1 - c) : Nat) : Int) = ((bb + 2 ^ k : Nat) : Int) from by rw [show x_nc A - 1 - c = k by omega]; omega]
          refine aw_V2v q_S_lookFrom_57 st_S_118 rfl (by omega) (Nat.le_of_ble_eq_true rfl) (c_S_lookWithout sc A q D t N k c b j f hfa hN hc (fun P bb z h1 h2 h3 => ih (c + 1) P bb z (by omega) h1 h2 h3) P (bb + 2 ^ k) _ hP hzW (by omega)) ?_
          exact aw_vret q_S_lookFrom_60 rfl rfl (by rw [SR_go hnb hh])
        · skip
          exact absurd ((nI_ltI (by omega) (by omega)).mpr (by omega)) c26
      · skip
        exact aw_vret q_S_lookFrom_17 rfl rfl (by rw [SR_cut (Or.inr (by unfold hopf; rw [ek]; exact zI_n0.mp c14))])
