/-! CONTRACTS 10: the search from outside -/
def ul (f g : Nat → Int) (i : Nat) : Nat → Int := fun y => if y < i then g y else f y
theorem ul_s (f g : Nat → Int) (i : Nat) : va_up (ul f g i) i (g i) = ul f g (i + 1) := by
  funext y
  unfold va_up ul
  by_cases h : y = i
  · rw [if_pos h, if_pos (by omega), h]
  · rw [if_neg h]
    by_cases h2 : y < i
    · rw [if_pos h2, if_pos (by omega)]
    · rw [if_neg h2, if_neg (by omega)]
theorem ul_0 (f g : Nat → Int) : ul f g 0 = f := by
  funext y
  unfold ul
  rw [if_neg (by omega)]
def z0f : Nat → Int := fun _ => 0
/-- the search's rows while they are prepared -/
def qp (A : ST) (q : QS) (N : Int) (m : Nat) (gi sp li : Nat → Int) : QS := (q_bk q, q_ba q, q_ck q, q_cl q, N, m, 0, 0, false, udm A (x_nt A), li, q_sf q, q_wf q, 0, 0, 0, 0, sp, gi, none, q_bc q, q_bw q, q_bs q, q_or q)
theorem qp_0 (A : ST) (q : QS) (N : Int) (m : Nat) : q_s_ga (q_s_sy (q_s_tk (q_s_pk (q_s_be (q_s_ud (q_s_oe (q_s_cm (q_s_od (q_s_mu (q_s_no q N) m) 0) 0) false) (udm A (x_nt A))) none) 0) 0) 0) 0 = qp A q N m (q_gi q) (q_sp q) (q_li q) := by
  simp only [q_s_ga, q_s_sy, q_s_tk, q_s_pk, q_s_be, q_s_ud, q_s_oe, q_s_cm, q_s_od, q_s_mu, q_s_no, qp, q_bk, q_ba, q_ck, q_cl, q_no, q_mu, q_od, q_cm, q_oe, q_ud, q_li, q_sf, q_wf, q_pk, q_tk, q_sy, q_ga, q_sp, q_gi, q_be, q_bc, q_bw, q_bs, q_or]
theorem qp_gi (A : ST) (q : QS) (N : Int) (m : Nat) (a b c f : Nat → Int) : q_s_gi (qp A q N m a b c) f = qp A q N m f b c := by simp only [q_s_gi, qp, q_bk, q_ba, q_ck, q_cl, q_no, q_mu, q_od, q_cm, q_oe, q_ud, q_li, q_sf, q_wf, q_pk, q_tk, q_sy, q_ga, q_sp, q_gi, q_be, q_bc, q_bw, q_bs, q_or]
theorem qp_sp (A : ST) (q : QS) (N : Int) (m : Nat) (a b c f : Nat → Int) : q_s_sp (qp A q N m a b c) f = qp A q N m a f c := by simp only [q_s_sp, qp, q_bk, q_ba, q_ck, q_cl, q_no, q_mu, q_od, q_cm, q_oe, q_ud, q_li, q_sf, q_wf, q_pk, q_tk, q_sy, q_ga, q_sp, q_gi, q_be, q_bc, q_bw, q_bs, q_or]
theorem qp_li (A : ST) (q : QS) (N : Int) (m : Nat) (a b c f : Nat → Int) : q_s_li (qp A q N m a b c) f = qp A q N m a b f := by simp only [q_s_li, qp, q_bk, q_ba, q_ck, q_cl, q_no, q_mu, q_od, q_cm, q_oe, q_ud, q_li, q_sf, q_wf, q_pk, q_tk, q_sy, q_ga, q_sp, q_gi, q_be, q_bc, q_bw, q_bs, q_or]
theorem qp_ggi (A : ST) (q : QS) (N : Int) (m : Nat) (a b c : Nat → Int) : q_gi (qp A q N m a b c) = a := by simp only [qp, q_gi]
theorem qp_gsp (A : ST) (q : QS) (N : Int) (m : Nat) (a b c : Nat → Int) : q_sp (qp A q N m a b c) = b := by simp only [qp, q_sp]
theorem qp_gli (A : ST) (q : QS) (N : Int) (m : Nat) (a b c : Nat → Int) : q_li (qp A q N m a b c) = c := by simp only [qp, q_li]
def qpp (A : ST) (q : QS) (N : Int) (m : Nat) : QS := qp A q N m (ul (q_gi q) z0f 4) (ul (q_sp q) z0f 6) (ul (q_li q) (x_bu A) 6)
def qpf (A : ST) (q : QS) (N : Int) (m : Nat) : QS := qr (qpp A q N m) (RS A (rs0 A (qpp A q N m)) (x_nc A))
theorem l_S_prep2 (sc : am_S) (A : ST) (q : QS) (D : ST) (t : TS) (N : Int) (m : Nat) (b : bd A) : ∀ (n i : Nat), 6 - i = n → i ≤ 6 →  AW sc m_S_prepare 2 87 [some (.ref 26), some (.long (lZ N)), none, some (.int (nI m)), some (.int (nI i))] [] (hp A (qp A q N m (ul (q_gi q) z0f 4) (ul (q_sp q) z0f i) (ul (q_li q) (x_bu A) i)) D t) (none) (hp A (qpf A q N m) D t) := by
  intro n
  induction n using Nat.strongRecOn with
  | _ n ih =>
    intro i hn hi
    refine aw_iload q_S_prepare_87 rfl ?_
    refine aw_bipush 6 q_S_prepare_89 rfl ?_
    refine aw_icmp_ge 125 q_S_prepare_91 rfl (fun c91 => ?_) (fun c91 => ?_)
    · skip
      have he : i = 6 := Nat.le_antisymm hi (nge_ge (b := 6) c91 (by omega) (by omega))
      subst he
      refine aw_aload_n 0 q_S_prepare_125 rfl rfl ?_
      refine aw_V0v q_S_prepare_126 st_S_91 rfl (by omega) (Nat.le_of_ble_eq_true rfl) (c_S_prepareRests _ _ _ _ _ b) ?_
      exact aw_vret q_S_prepare_129 rfl rfl rfl
    · skip
      have hlt : i < 6 := nge_lt (b := 6) c91 (by omega) (by omega)
      refine aw_aload_n 0 q_S_prepare_94 rfl rfl ?_
      refine aw_get 14 q_S_prepare_95 fl_S_23 rfl rfl ?_
      refine aw_iload q_S_prepare_98 rfl ?_
      refine aw_lconst (lZ 0) q_S_prepare_100 rfl ?_
      refine wa_44 _ q_S_prepare_101 (by omega) ?_
      rw [qp_sp, qp_gsp, show va_up (ul (q_sp q) z0f i) i 0 = ul (q_sp q) z0f (i + 1) from ul_s (q_sp q) z0f i]
      refine aw_aload_n 0 q_S_prepare_102 rfl rfl ?_
      refine aw_get 7 q_S_prepare_103 fl_S_9 rfl rfl ?_
      refine aw_iload q_S_prepare_106 rfl ?_
      refine aw_aload_n 0 q_S_prepare_108 rfl rfl ?_
      refine aw_get 0 q_S_prepare_109 fl_S_29 rfl rfl ?_
      refine aw_get 1 q_S_prepare_112 fl_S_88 rfl rfl ?_
      refine aw_iload q_S_prepare_115 rfl ?_
      refine aw_laldN q_S_prepare_117 rfl (by omega) rfl ?_
      refine wa_26 _ q_S_prepare_118 (by omega) ?_
      rw [qp_li, qp_gli, ul_s]
      first | refine aw_iinc _ q_S_prepare_119 rfl (am_inc _) rfl rfl ?_ | refine aw_iinc _ q_S_prepare_119 rfl rfl rfl rfl ?_
      refine aw_goto 87 q_S_prepare_122 rfl ?_
      exact ih _ (by omega) (i + 1) rfl (by omega)
theorem l_S_prep1 (sc : am_S) (A : ST) (q : QS) (D : ST) (t : TS) (N : Int) (m : Nat) (b : bd A) : ∀ (n i : Nat), 4 - i = n → i ≤ 4 →  AW sc m_S_prepare 2 64 [some (.ref 26), some (.long (lZ N)), none, some (.int (nI m)), some (.int (nI i))] [] (hp A (qp A q N m (ul (q_gi q) z0f i) (q_sp q) (q_li q)) D t) (none) (hp A (qpf A q N m) D t) := by
  intro n
  induction n using Nat.strongRecOn with
  | _ n ih =>
    intro i hn hi
    refine aw_iload q_S_prepare_64 rfl ?_
    refine aw_iconst 4 q_S_prepare_66 rfl ?_
    refine aw_icmp_ge 84 q_S_prepare_67 rfl (fun c67 => ?_) (fun c67 => ?_)
    · skip
      have he : i = 4 := Nat.le_antisymm hi (nge_ge (b := 4) c67 (by omega) (by omega))
      subst he
      refine aw_iconst 0 q_S_prepare_84 rfl ?_
      refine aw_istore q_S_prepare_85 rfl rfl ?_
      have h0 := l_S_prep2 sc A q D t N m b _ 0 rfl (by omega)
      rw [ul_0, ul_0] at h0
      exact h0
    · skip
      have hlt : i < 4 := nge_lt (b := 4) c67 (by omega) (by omega)
      refine aw_aload_n 0 q_S_prepare_70 rfl rfl ?_
      refine aw_get 15 q_S_prepare_71 fl_S_26 rfl rfl ?_
      refine aw_iload q_S_prepare_74 rfl ?_
      refine aw_lconst (lZ 0) q_S_prepare_76 rfl ?_
      refine wa_45 _ q_S_prepare_77 (by omega) ?_
      rw [qp_gi, qp_ggi, show va_up (ul (q_gi q) z0f i) i 0 = ul (q_gi q) z0f (i + 1) from ul_s (q_gi q) z0f i]
      first | refine aw_iinc _ q_S_prepare_78 rfl (am_inc _) rfl rfl ?_ | refine aw_iinc _ q_S_prepare_78 rfl rfl rfl rfl ?_
      refine aw_goto 64 q_S_prepare_81 rfl ?_
      exact ih _ (by omega) (i + 1) rfl (by omega)
theorem c_S_prepare (sc : am_S) (A : ST) (q : QS) (D : ST) (t : TS) (N : Int) (m : Nat) (b : bd A) : AM sc m_S_prepare 2 [.ref 26, .long (lZ N), .int (nI m)] (hp A q D t) (none) (hp A (qpf A q N m) D t) := by
  refine AM.of (by decide) (Nat.le_of_ble_eq_true rfl) ?_
  show AW sc m_S_prepare 2 0 [some (.ref 26), some (.long (lZ N)), none, some (.int (nI m)), none] [] _ _ _
  refine aw_aload_n 0 q_S_prepare_0 rfl rfl ?_
  refine aw_lload_n 1 q_S_prepare_1 rfl rfl ?_
  refine wp_S_1 _ q_S_prepare_2 fl_S_66 ?_
  refine aw_aload_n 0 q_S_prepare_5 rfl rfl ?_
  refine aw_iload_n 3 q_S_prepare_6 rfl rfl ?_
  refine wp_S_2 _ q_S_prepare_7 fl_S_70 ?_
  refine aw_aload_n 0 q_S_prepare_10 rfl rfl ?_
  refine aw_iconst 0 q_S_prepare_11 rfl ?_
  refine wp_S_3 0 q_S_prepare_12 fl_S_52 ?_
  refine aw_aload_n 0 q_S_prepare_15 rfl rfl ?_
  refine aw_iconst 0 q_S_prepare_16 rfl ?_
  refine wp_S_4 0 q_S_prepare_17 fl_S_59 ?_
  refine aw_aload_n 0 q_S_prepare_20 rfl rfl ?_
  refine aw_iconst 0 q_S_prepare_21 rfl ?_
  refine wp_S_5 false q_S_prepare_22 fl_S_62 ?_
  refine aw_aload_n 0 q_S_prepare_25 rfl rfl ?_
  refine aw_aload_n 0 q_S_prepare_26 rfl rfl ?_
  refine aw_get 0 q_S_prepare_27 fl_S_29 rfl rfl ?_
  refine aw_V0 q_S_prepare_30 st_S_71 rfl (by omega) (Nat.le_of_ble_eq_true rfl) (c_W_usedDistricts _ _ _ _ _ b) ?_
  refine wp_S_6 _ q_S_prepare_33 fl_S_74 ?_
  refine aw_aload_n 0 q_S_prepare_36 rfl rfl ?_
  refine aw_iconst (-1) q_S_prepare_37 rfl ?_
  refine wp_S_16 none q_S_prepare_38 fl_S_47 ?_
  refine aw_aload_n 0 q_S_prepare_41 rfl rfl ?_
  refine aw_iconst 0 q_S_prepare_42 rfl ?_
  refine wp_S_10 0 q_S_prepare_43 fl_S_76 ?_
  refine aw_aload_n 0 q_S_prepare_46 rfl rfl ?_
  refine aw_iconst 0 q_S_prepare_47 rfl ?_
  refine wp_S_11 0 q_S_prepare_48 fl_S_79 ?_
  refine aw_aload_n 0 q_S_prepare_51 rfl rfl ?_
  refine aw_iconst 0 q_S_prepare_52 rfl ?_
  refine wp_S_12 0 q_S_prepare_53 fl_S_82 ?_
  refine aw_aload_n 0 q_S_prepare_56 rfl rfl ?_
  refine aw_lconst (lZ 0) q_S_prepare_57 rfl ?_
  refine wp_S_13 0 q_S_prepare_58 fl_S_85 ?_
  rw [qp_0]
  refine aw_iconst 0 q_S_prepare_61 rfl ?_
  refine aw_istore q_S_prepare_62 rfl rfl ?_
  have h0 := l_S_prep1 sc A q D t N m b _ 0 rfl (by omega)
  rw [ul_0] at h0
  exact h0
/-- the rows of the rests are right -/
def WF (A : ST) (c : Nat) : Int := sm (x_nc A) (x_wo A) - sm c (x_wo A)
def sfg (A : ST) (y : Nat) : Nat → Int := fun o => if x_yr A o = y then sw A o (2 ^ o - 1) else 0
def SF (A : ST) (a y : Nat) : Int := sm (x_nc A) (sfg A y) - sm a (sfg A y)
theorem RS_wf {A : ST} {w : FG} (h0 : w.1 (x_nc A) = 0) : ∀ k, k ≤ x_nc A → ∀ c, (RS A w k).1 c = if x_nc A - k ≤ c ∧ c ≤ x_nc A then WF A c else w.1 c
  | 0, _, c => by
    show w.1 c = _
    by_cases h : x_nc A - 0 ≤ c ∧ c ≤ x_nc A
    · rw [if_pos h, show c = x_nc A by omega, h0]; unfold WF; omega
    · rw [if_neg h]
  | k + 1, hk, c => by
    have ih := RS_wf h0 k (by omega)
    show (rsS A (x_nc A - (k + 1)) (RS A w k)).1 c = _
    unfold rsS va_up
    simp only [ih]
    by_cases h : c = x_nc A - (k + 1)
    · rw [if_pos h, if_pos (by omega), if_pos (by omega), h]
      unfold WF
      simp only [sm]
      omega
    · rw [if_neg h]
      by_cases h2 : x_nc A - k ≤ c ∧ c ≤ x_nc A
      · rw [if_pos h2, if_pos (by omega)]
      · rw [if_neg h2, if_neg (by omega)]
theorem RS_sf {A : ST} (b : bd A) {w : FG} (h0 : ∀ y, y < 6 → w.2 (x_nc A) y = 0) : ∀ k, k ≤ x_nc A → ∀ a y, (RS A w k).2 a y = if (x_nc A - k ≤ a ∧ a ≤ x_nc A) ∧ y < 6 then SF A a y else w.2 a y
  | 0, _, a, y => by
    show w.2 a y = _
    by_cases h : (x_nc A - 0 ≤ a ∧ a ≤ x_nc A) ∧ y < 6
    · rw [if_pos h, show a = x_nc A by omega, h0 y h.2]; unfold SF; omega
    · rw [if_neg h]
  | k + 1, hk, a, y => by
    have ih := RS_sf b h0 k (by omega)
    have b5 := b.2.2.2.2.1 (x_nc A - (k + 1))
    show (rsS A (x_nc A - (k + 1)) (RS A w k)).2 a y = _
    generalize hc : x_nc A - (k + 1) = c at *
    have hck : x_nc A - k = c + 1 := by omega
    unfold rsS up2 va_up g3
    simp only [ih]
    have hs : SF A c y = SF A (c + 1) y + sfg A y c := by unfold SF; simp only [sm]; omega
    by_cases h : a = c
    · rw [if_pos h]
      by_cases hy : y = x_yr A c
      · rw [if_pos hy, if_pos (by simp [b5]), if_pos (by omega), if_pos (by omega), h, hs, hy]
        simp [sfg]
      · rw [if_neg hy]
        by_cases hy6 : y < 6
        · rw [if_pos (by simp [hy6]), if_pos (by omega), if_pos (by omega), h, hs]
          unfold sfg
          rw [if_neg (fun z : x_yr A c = y => hy z.symm)]
          omega
        · rw [if_neg (by omega), if_neg (by omega), if_neg (by omega), h]
    · rw [if_neg h, if_neg (by omega)]
      by_cases h2 : (x_nc A - k ≤ a ∧ a ≤ x_nc A) ∧ y < 6
      · rw [if_pos h2, if_pos (by omega)]
      · rw [if_neg h2, if_neg (by omega)]
