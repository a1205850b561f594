/-! CONTRACTS 12: Works, written -/
theorem c_W_addThing (sc : am_S) (A : ST) (q : QS) (D : ST) (t : TS) (p : Nat) (hn : x_nt A < 12) : AM sc m_W_addThing 0 [.ref 2, .int (nI p)] (hp A q D t) (some (.int (nI (x_nt A)))) (hp (x_s_nt (x_s_pl A (va_up (x_pl A) (x_nt A) p)) (x_nt A + 1)) q D t) := by
  refine AM.of (by decide) (Nat.le_of_ble_eq_true rfl) ?_
  show AW sc m_W_addThing 0 0 [some (.ref 2), some (.int (nI p))] [] _ _ _
  refine aw_aload_n 0 q_W_addThing_0 rfl rfl ?_
  refine aw_get 3 q_W_addThing_1 fl_W_15 rfl rfl ?_
  refine aw_aload_n 0 q_W_addThing_4 rfl rfl ?_
  refine aw_get 2 q_W_addThing_5 fl_W_52 rfl rfl ?_
  refine aw_iload_n 1 q_W_addThing_8 rfl rfl ?_
  refine wa_3 _ q_W_addThing_9 (by omega) ?_
  refine aw_aload_n 0 q_W_addThing_10 rfl rfl ?_
  refine aw_dup q_W_addThing_11 rfl ?_
  refine aw_get 2 q_W_addThing_12 fl_W_52 rfl rfl ?_
  simp only [xg_nt_pl]
  refine aw_iconst 1 q_W_addThing_15 rfl ?_
  refine aw_iadd q_W_addThing_16 ?_
  rw [nI_1]
  refine wp_W_2 _ q_W_addThing_17 fl_W_52 ?_
  refine aw_aload_n 0 q_W_addThing_20 rfl rfl ?_
  refine aw_get 2 q_W_addThing_21 fl_W_52 rfl rfl ?_
  simp only [xg_nt_nt]
  refine aw_iconst 1 q_W_addThing_24 rfl ?_
  refine aw_isub q_W_addThing_25 ?_
  rw [nI_pred]
  exact aw_iret .int q_W_addThing_26 rfl rfl rfl rfl
theorem c_W_addChoice (sc : am_S) (A : ST) (q : QS) (D : ST) (t : TS) (u y : Nat) (ce wo : Int) (hn : x_nc A < 14) : AM sc m_W_addChoice 0 [.ref 2, .int (nI u), .int (nI y), .long (lZ ce), .long (lZ wo)] (hp A q D t) (some (.int (nI (x_nc A)))) (hp (x_s_nc (x_s_wo (x_s_co (x_s_yr (x_s_th A (va_up (x_th A) (x_nc A) u)) (va_up (x_yr A) (x_nc A) y)) (va_up (x_co A) (x_nc A) ce)) (va_up (x_wo A) (x_nc A) wo)) (x_nc A + 1)) q D t) := by
  refine AM.of (by decide) (Nat.le_of_ble_eq_true rfl) ?_
  show AW sc m_W_addChoice 0 0 [some (.ref 2), some (.int (nI u)), some (.int (nI y)), some (.long (lZ ce)), none, some (.long (lZ wo)), none] [] _ _ _
  refine aw_aload_n 0 q_W_addChoice_0 rfl rfl ?_
  refine aw_get 6 q_W_addChoice_1 fl_W_22 rfl rfl ?_
  refine aw_aload_n 0 q_W_addChoice_4 rfl rfl ?_
  refine aw_get 5 q_W_addChoice_5 fl_W_55 rfl rfl ?_
  refine aw_iload_n 1 q_W_addChoice_8 rfl rfl ?_
  refine wa_5 _ q_W_addChoice_9 (by omega) ?_
  refine aw_aload_n 0 q_W_addChoice_10 rfl rfl ?_
  refine aw_get 7 q_W_addChoice_11 fl_W_25 rfl rfl ?_
  refine aw_aload_n 0 q_W_addChoice_14 rfl rfl ?_
  refine aw_get 5 q_W_addChoice_15 fl_W_55 rfl rfl ?_
  simp only [xg_nc_th]
  refine aw_iload_n 2 q_W_addChoice_18 rfl rfl ?_
  refine wa_6 _ q_W_addChoice_19 (by omega) ?_
  simp only [xg_yr_th]
  refine aw_aload_n 0 q_W_addChoice_20 rfl rfl ?_
  refine aw_get 8 q_W_addChoice_21 fl_W_28 rfl rfl ?_
  refine aw_aload_n 0 q_W_addChoice_24 rfl rfl ?_
  refine aw_get 5 q_W_addChoice_25 fl_W_55 rfl rfl ?_
  simp only [xg_nc_th, xg_nc_yr]
  refine aw_lload_n 3 q_W_addChoice_28 rfl rfl ?_
  refine wa_7 _ q_W_addChoice_29 (by omega) ?_
  simp only [xg_co_yr, xg_co_th]
  refine aw_aload_n 0 q_W_addChoice_30 rfl rfl ?_
  refine aw_get 9 q_W_addChoice_31 fl_W_31 rfl rfl ?_
  refine aw_aload_n 0 q_W_addChoice_34 rfl rfl ?_
  refine aw_get 5 q_W_addChoice_35 fl_W_55 rfl rfl ?_
  simp only [xg_nc_th, xg_nc_yr, xg_nc_co]
  refine aw_lload q_W_addChoice_38 rfl ?_
  refine wa_8 _ q_W_addChoice_40 (by omega) ?_
  simp only [xg_wo_co, xg_wo_yr, xg_wo_th]
  refine aw_aload_n 0 q_W_addChoice_41 rfl rfl ?_
  refine aw_dup q_W_addChoice_42 rfl ?_
  refine aw_get 5 q_W_addChoice_43 fl_W_55 rfl rfl ?_
  simp only [xg_nc_th, xg_nc_yr, xg_nc_co, xg_nc_wo]
  refine aw_iconst 1 q_W_addChoice_46 rfl ?_
  refine aw_iadd q_W_addChoice_47 ?_
  rw [nI_1]
  refine wp_W_5 _ q_W_addChoice_48 fl_W_55 ?_
  refine aw_aload_n 0 q_W_addChoice_51 rfl rfl ?_
  refine aw_get 5 q_W_addChoice_52 fl_W_55 rfl rfl ?_
  simp only [xg_nc_nc]
  refine aw_iconst 1 q_W_addChoice_55 rfl ?_
  refine aw_isub q_W_addChoice_56 ?_
  rw [nI_pred]
  exact aw_iret .int q_W_addChoice_57 rfl rfl rfl rfl
theorem c_W_canJoin (sc : am_S) (A : ST) (q : QS) (D : ST) (t : TS) (u v : Nat) (b : bd A) (hu : u < 14) (hv : v < 14) : AM sc m_W_canJoin 1 [.ref 2, .int (nI u), .int (nI v)] (hp A q D t) (some (.int (zI (decide (¬ x_th A u = x_th A v ∧ x_yr A u = x_yr A v) && !(x_jt A u).testBit v)))) (hp A q D t) := by
  refine AM.of (by decide) (Nat.le_of_ble_eq_true rfl) ?_
  show AW sc m_W_canJoin 1 0 [some (.ref 2), some (.int (nI u)), some (.int (nI v))] [] _ _ _
  have b4 := b.2.2.2.1 u
  have b4' := b.2.2.2.1 v
  have b5 := b.2.2.2.2.1 u
  have b5' := b.2.2.2.2.1 v
  have b7 := b.2.2.2.2.2.2.1 u
  refine aw_aload_n 0 q_W_canJoin_0 rfl rfl ?_
  refine aw_get 6 q_W_canJoin_1 fl_W_22 rfl rfl ?_
  refine aw_iload_n 1 q_W_canJoin_4 rfl rfl ?_
  refine aw_ialdN q_W_canJoin_5 rfl (by omega) rfl ?_
  refine aw_aload_n 0 q_W_canJoin_6 rfl rfl ?_
  refine aw_get 6 q_W_canJoin_7 fl_W_22 rfl rfl ?_
  refine aw_iload_n 2 q_W_canJoin_10 rfl rfl ?_
  refine aw_ialdN q_W_canJoin_11 rfl (by omega) rfl ?_
  refine aw_icmp_eq 47 q_W_canJoin_12 rfl (fun c12 => ?_) (fun c12 => ?_)
  · skip
    refine aw_iconst 0 q_W_canJoin_47 rfl ?_
    exact aw_iret .boolean q_W_canJoin_48 rfl rfl (aw_rz0 (by simp [nI_eq' (by omega) (by omega) c12])) rfl
  · skip
    refine aw_aload_n 0 q_W_canJoin_15 rfl rfl ?_
    refine aw_get 7 q_W_canJoin_16 fl_W_25 rfl rfl ?_
    refine aw_iload_n 1 q_W_canJoin_19 rfl rfl ?_
    refine aw_ialdN q_W_canJoin_20 rfl (by omega) rfl ?_
    refine aw_aload_n 0 q_W_canJoin_21 rfl rfl ?_
    refine aw_get 7 q_W_canJoin_22 fl_W_25 rfl rfl ?_
    refine aw_iload_n 2 q_W_canJoin_25 rfl rfl ?_
    refine aw_ialdN q_W_canJoin_26 rfl (by omega) rfl ?_
    refine aw_icmp_ne 47 q_W_canJoin_27 rfl (fun c27 => ?_) (fun c27 => ?_)
    · skip
      refine aw_iconst 0 q_W_canJoin_47 rfl ?_
      exact aw_iret .boolean q_W_canJoin_48 rfl rfl (aw_rz0 (by simp [nI_ne (by omega) (by omega) c27])) rfl
    · skip
      refine aw_aload_n 0 q_W_canJoin_30 rfl rfl ?_
      refine aw_get 12 q_W_canJoin_31 fl_W_34 rfl rfl ?_
      refine aw_iload_n 1 q_W_canJoin_34 rfl rfl ?_
      refine aw_ialdN q_W_canJoin_35 rfl (by omega) rfl ?_
      refine aw_iload_n 2 q_W_canJoin_36 rfl rfl ?_
      refine aw_S2 q_W_canJoin_37 st_W_58 (by omega) (Nat.le_of_ble_eq_true rfl) (c_B_isIn _ _ _ _ (by omega) (by omega)) ?_
      refine aw_if_ne 47 q_W_canJoin_40 rfl (fun c40 => ?_) (fun c40 => ?_)
      · skip
        refine aw_iconst 0 q_W_canJoin_47 rfl ?_
        exact aw_iret .boolean q_W_canJoin_48 rfl rfl (aw_rz0 (by simp [zI_n0.mp c40])) rfl
      · skip
        refine aw_iconst 1 q_W_canJoin_43 rfl ?_
        refine aw_goto 48 q_W_canJoin_44 rfl ?_
        exact aw_iret .boolean q_W_canJoin_48 rfl rfl (aw_rz1 (by simp [nI_ne (by omega) (by omega) c12, nI_eq' (by omega) (by omega) c27, zI_0.mp c40])) rfl
/-- a join more, in the class's rows -/
def ajn (A : ST) (u v : Nat) (s : Int) : ST := x_s_nj (x_s_sv (x_s_sv (x_s_jt (x_s_jt A (va_up (x_jt A) u (x_jt A u ||| 2 ^ v))) (va_up (va_up (x_jt A) u (x_jt A u ||| 2 ^ v)) v (va_up (x_jt A) u (x_jt A u ||| 2 ^ v) v ||| 2 ^ u))) (up2 (x_sv A) u v s)) (up2 (up2 (x_sv A) u v s) v u s)) (x_nj A + 1)
theorem c_W_addJoin (sc : am_S) (A : ST) (q : QS) (D : ST) (t : TS) (u v : Nat) (s : Int) (hu : u < 14) (hv : v < 14) : AM sc m_W_addJoin 0 [.ref 2, .int (nI u), .int (nI v), .long (lZ s)] (hp A q D t) (none) (hp (ajn A u v s) q D t) := by
  refine AM.of (by decide) (Nat.le_of_ble_eq_true rfl) ?_
  show AW sc m_W_addJoin 0 0 [some (.ref 2), some (.int (nI u)), some (.int (nI v)), some (.long (lZ s)), none] [] _ _ _
  refine aw_aload_n 0 q_W_addJoin_0 rfl rfl ?_
  refine aw_get 12 q_W_addJoin_1 fl_W_34 rfl rfl ?_
  refine aw_iload_n 1 q_W_addJoin_4 rfl rfl ?_
  refine aw_dup2_11 q_W_addJoin_5 rfl rfl ?_
  refine aw_ialdN q_W_addJoin_6 rfl (by omega) rfl ?_
  refine aw_iconst 1 q_W_addJoin_7 rfl ?_
  refine aw_iload_n 2 q_W_addJoin_8 rfl rfl ?_
  refine aw_ishl q_W_addJoin_9 ?_
  refine aw_ior q_W_addJoin_10 ?_
  rw [bt_one (by omega), nI_or]
  refine wa_9 _ q_W_addJoin_11 (by omega) ?_
  refine aw_aload_n 0 q_W_addJoin_12 rfl rfl ?_
  refine aw_get 12 q_W_addJoin_13 fl_W_34 rfl rfl ?_
  refine aw_iload_n 2 q_W_addJoin_16 rfl rfl ?_
  refine aw_dup2_11 q_W_addJoin_17 rfl rfl ?_
  refine aw_ialdN q_W_addJoin_18 rfl (by omega) rfl ?_
  simp only [xg_jt_jt]
  refine aw_iconst 1 q_W_addJoin_19 rfl ?_
  refine aw_iload_n 1 q_W_addJoin_20 rfl rfl ?_
  refine aw_ishl q_W_addJoin_21 ?_
  refine aw_ior q_W_addJoin_22 ?_
  rw [bt_one (by omega), nI_or]
  refine wa_9 _ q_W_addJoin_23 (by omega) ?_
  simp only [xg_jt_jt]
  refine aw_aload_n 0 q_W_addJoin_24 rfl rfl ?_
  refine aw_get 13 q_W_addJoin_25 fl_W_39 rfl rfl ?_
  refine aw_iload_n 1 q_W_addJoin_28 rfl rfl ?_
  refine aw_aaldN q_W_addJoin_29 rfl (by omega) rfl ?_
  refine aw_iload_n 2 q_W_addJoin_30 rfl rfl ?_
  refine aw_lload_n 3 q_W_addJoin_31 rfl rfl ?_
  refine wa_sv _ q_W_addJoin_32 (by omega) (by omega) ?_
  simp only [xg_sv_jt]
  refine aw_aload_n 0 q_W_addJoin_33 rfl rfl ?_
  refine aw_get 13 q_W_addJoin_34 fl_W_39 rfl rfl ?_
  refine aw_iload_n 2 q_W_addJoin_37 rfl rfl ?_
  refine aw_aaldN q_W_addJoin_38 rfl (by omega) rfl ?_
  refine aw_iload_n 1 q_W_addJoin_39 rfl rfl ?_
  refine aw_lload_n 3 q_W_addJoin_40 rfl rfl ?_
  refine wa_sv _ q_W_addJoin_41 (by omega) (by omega) ?_
  simp only [xg_sv_sv, xg_sv_jt]
  refine aw_aload_n 0 q_W_addJoin_42 rfl rfl ?_
  refine aw_dup q_W_addJoin_43 rfl ?_
  refine aw_get 11 q_W_addJoin_44 fl_W_62 rfl rfl ?_
  simp only [xg_nj_sv, xg_nj_jt]
  refine aw_iconst 1 q_W_addJoin_47 rfl ?_
  refine aw_iadd q_W_addJoin_48 ?_
  rw [nI_1]
  refine wp_W_11 _ q_W_addJoin_49 fl_W_62 ?_
  exact aw_vret q_W_addJoin_52 rfl rfl rfl
