/-! CONTRACTS 9: the search is prepared -/
abbrev FG : Type := (Nat → Int) × (Nat → Nat → Int)
/-- the rests: worthFrom and savesFrom -/
def qr (q : QS) (w : FG) : QS := (q_bk q, q_ba q, q_ck q, q_cl q, q_no q, q_mu q, q_od q, q_cm q, q_oe q, q_ud q, q_li q, w.2, w.1, q_pk q, q_tk q, q_sy q, q_ga q, q_sp q, q_gi q, q_be q, q_bc q, q_bw q, q_bs q, q_or q)
theorem qr_swf (q : QS) (w : FG) (f : Nat → Int) : q_s_wf (qr q w) f = qr q (f, w.2) := by simp only [q_s_wf, qr, q_bk, q_ba, q_ck, q_cl, q_no, q_mu, q_od, q_cm, q_oe, q_ud, q_li, q_sf, q_wf, q_pk, q_tk, q_sy, q_ga, q_sp, q_gi, q_be, q_bc, q_bw, q_bs, q_or]
theorem qr_ssf (q : QS) (w : FG) (g : Nat → Nat → Int) : q_s_sf (qr q w) g = qr q (w.1, g) := by simp only [q_s_sf, qr, q_bk, q_ba, q_ck, q_cl, q_no, q_mu, q_od, q_cm, q_oe, q_ud, q_li, q_sf, q_wf, q_pk, q_tk, q_sy, q_ga, q_sp, q_gi, q_be, q_bc, q_bw, q_bs, q_or]
theorem qr_wf (q : QS) (w : FG) : q_wf (qr q w) = w.1 := by simp only [qr, q_wf]
theorem qr_sf (q : QS) (w : FG) : q_sf (qr q w) = w.2 := by simp only [qr, q_sf]
def g1 (n i : Nat) (g : Nat → Nat → Int) : Nat → Nat → Int := fun a y => if a = n ∧ y < i then 0 else g a y
theorem g1_s (n i : Nat) (g : Nat → Nat → Int) : up2 (g1 n i g) n i 0 = g1 n (i + 1) g := by
  funext a y
  unfold up2 va_up g1
  by_cases ha : a = n
  · subst ha
    simp only [if_true, true_and]
    by_cases hy : y = i
    · subst hy; simp
    · rw [if_neg hy]
      by_cases h2 : y < i
      · rw [if_pos h2, if_pos (by omega)]
      · rw [if_neg h2, if_neg (by omega)]
  · simp [ha]
def g3 (c i : Nat) (g : Nat → Nat → Int) : Nat → Nat → Int := fun a y => if a = c ∧ y < i then g (c + 1) y else g a y
theorem g3_s (c i : Nat) (g : Nat → Nat → Int) : up2 (g3 c i g) c i (g3 c i g (c + 1) i) = g3 c (i + 1) g := by
  have e : g3 c i g (c + 1) i = g (c + 1) i := by unfold g3; rw [if_neg (by omega)]
  rw [e]
  funext a y
  unfold up2 va_up g3
  by_cases ha : a = c
  · subst ha
    simp only [if_true, true_and]
    by_cases hy : y = i
    · subst hy; simp
    · rw [if_neg hy]
      by_cases h2 : y < i
      · rw [if_pos h2, if_pos (by omega)]
      · rw [if_neg h2, if_neg (by omega)]
  · simp [ha]
/-- one choice more, from the last one on -/
def rsS (A : ST) (c : Nat) (w : FG) : FG := (va_up w.1 c (w.1 (c + 1) + x_wo A c), up2 (g3 c 6 w.2) c (x_yr A c) (g3 c 6 w.2 c (x_yr A c) + sw A c (2 ^ c - 1)))
def RS (A : ST) (w : FG) : Nat → FG
  | 0 => w
  | k + 1 => rsS A (x_nc A - (k + 1)) (RS A w k)
def rs0 (A : ST) (q : QS) : FG := (va_up (q_wf q) (x_nc A) 0, g1 (x_nc A) 6 (q_sf q))
theorem g1_0 (n : Nat) (g : Nat → Nat → Int) : g1 n 0 g = g := by
  funext a y
  unfold g1
  rw [if_neg (by omega)]
theorem g3_0 (c : Nat) (g : Nat → Nat → Int) : g3 c 0 g = g := by
  funext a y
  unfold g3
  rw [if_neg (by omega)]
theorem am_dec1 (x : Int32) : x + Int32.ofInt (-1) = x - 1 := by
  rw [show Int32.ofInt (-1) = (-1 : Int32) from by decide, Int32.sub_eq_add_neg]
theorem nI_m1 (k : Nat) : nI (k + 1) - 1 = nI k := nI_pred k
theorem l_S_pr3 (sc : am_S) (A : ST) (q : QS) (D : ST) (t : TS) (c : Nat) (w : FG) (hx : List am_C) (b : bd A) (hc : c < x_nc A) (kk : AW sc m_S_prepareRests 1 102 [some (.ref 26), some (.int (nI (x_nc A))), some (.int (nI c)), some (.int (nI 6))] [] (hp A (qr q (w.1, g3 c 6 w.2)) D t) none hx) : ∀ (n i : Nat), 6 - i = n → i ≤ 6 →  AW sc m_S_prepareRests 1 72 [some (.ref 26), some (.int (nI (x_nc A))), some (.int (nI c)), some (.int (nI i))] [] (hp A (qr q (w.1, g3 c i w.2)) D t) (none) hx := by
  intro n
  induction n using Nat.strongRecOn with
  | _ n ih =>
    intro i hn hi
    have b3 := b.2.2.1
    refine aw_iload_n 3 q_S_prepareRests_72 rfl rfl ?_
    refine aw_bipush 6 q_S_prepareRests_73 rfl ?_
    refine aw_icmp_ge 102 q_S_prepareRests_75 rfl (fun c75 => ?_) (fun c75 => ?_)
    · skip
      have he : i = 6 := Nat.le_antisymm hi (nge_ge (b := 6) c75 (by omega) (by omega))
      subst he
      exact kk
    · skip
      have hlt : i < 6 := nge_lt (b := 6) c75 (by omega) (by omega)
      refine aw_aload_n 0 q_S_prepareRests_78 rfl rfl ?_
      refine aw_get 8 q_S_prepareRests_79 fl_S_17 rfl rfl ?_
      refine aw_iload_n 2 q_S_prepareRests_82 rfl rfl ?_
      refine aw_aaldN q_S_prepareRests_83 rfl (by omega) rfl ?_
      refine aw_iload_n 3 q_S_prepareRests_84 rfl rfl ?_
      refine aw_aload_n 0 q_S_prepareRests_85 rfl rfl ?_
      refine aw_get 8 q_S_prepareRests_86 fl_S_17 rfl rfl ?_
      refine aw_iload_n 2 q_S_prepareRests_89 rfl rfl ?_
      refine aw_iconst 1 q_S_prepareRests_90 rfl ?_
      refine aw_iadd q_S_prepareRests_91 ?_
      rw [nI_1]
      refine aw_aaldN q_S_prepareRests_92 rfl (by omega) rfl ?_
      refine aw_iload_n 3 q_S_prepareRests_93 rfl rfl ?_
      refine aw_laldN q_S_prepareRests_94 (hp_sf _ _ _ _ _ (by omega)) (by omega) rfl ?_
      refine wa_sf _ q_S_prepareRests_95 (by omega) (by omega) ?_
      first | refine aw_iinc _ q_S_prepareRests_96 rfl (am_inc _) rfl rfl ?_ | refine aw_iinc _ q_S_prepareRests_96 rfl rfl rfl rfl ?_
      refine aw_goto 72 q_S_prepareRests_99 rfl ?_
      rw [qr_ssf, qr_sf]
      rw [show up2 (w.1, g3 c i w.2).2 c i ((w.1, g3 c i w.2).2 (c + 1) i) = g3 c (i + 1) w.2 from g3_s c i w.2]
      exact ih _ (by omega) (i + 1) rfl (by omega)
theorem l_S_pr2 (sc : am_S) (A : ST) (q : QS) (D : ST) (t : TS) (w : FG) (b : bd A) : ∀ (k i : Nat), i + k = x_nc A → ∀ (L3 : Option Value), AW sc m_S_prepareRests 1 42 [some (.ref 26), some (.int (nI (x_nc A))), some (.int (nI i - 1)), L3] [] (hp A (qr q (RS A w k)) D t) none (hp A (qr q (RS A w (x_nc A))) D t) := by
  have b3 := b.2.2.1
  suffices h : ∀ (i k : Nat), i + k = x_nc A → ∀ (L3 : Option Value), AW sc m_S_prepareRests 1 42 [some (.ref 26), some (.int (nI (x_nc A))), some (.int (nI i - 1)), L3] [] (hp A (qr q (RS A w k)) D t) none (hp A (qr q (RS A w (x_nc A))) D t) from fun k i h1 => h i k h1
  intro i
  induction i with
  | zero =>
    intro k hk L3
    refine aw_kill [3] ?_
    refine aw_iload_n 2 q_S_prepareRests_42 rfl rfl ?_
    refine aw_if_lt 142 q_S_prepareRests_43 rfl (fun c43 => ?_) (fun c43 => ?_)
    · skip
      exact aw_vret q_S_prepareRests_142 rfl rfl (by rw [show k = x_nc A by omega])
    · skip
      exact absurd (by decide) c43
  | succ i ih =>
    intro k hk L3
    refine aw_kill [3] ?_
    rw [nI_m1]
    have ec : x_nc A - (k + 1) = i := by omega
    have b5 := b.2.2.2.2.1 i
    refine aw_iload_n 2 q_S_prepareRests_42 rfl rfl ?_
    refine aw_if_lt 142 q_S_prepareRests_43 rfl (fun c43 => ?_) (fun c43 => ?_)
    · skip
      exact absurd c43 (nI_pos (by omega))
    · skip
      refine aw_aload_n 0 q_S_prepareRests_46 rfl rfl ?_
      refine aw_get 9 q_S_prepareRests_47 fl_S_20 rfl rfl ?_
      refine aw_iload_n 2 q_S_prepareRests_50 rfl rfl ?_
      refine aw_aload_n 0 q_S_prepareRests_51 rfl rfl ?_
      refine aw_get 9 q_S_prepareRests_52 fl_S_20 rfl rfl ?_
      refine aw_iload_n 2 q_S_prepareRests_55 rfl rfl ?_
      refine aw_iconst 1 q_S_prepareRests_56 rfl ?_
      refine aw_iadd q_S_prepareRests_57 ?_
      rw [nI_1]
      refine aw_laldN q_S_prepareRests_58 rfl (by omega) rfl ?_
      refine aw_aload_n 0 q_S_prepareRests_59 rfl rfl ?_
      refine aw_get 0 q_S_prepareRests_60 fl_S_29 rfl rfl ?_
      refine aw_get 9 q_S_prepareRests_63 fl_S_97 rfl rfl ?_
      refine aw_iload_n 2 q_S_prepareRests_66 rfl rfl ?_
      refine aw_laldN q_S_prepareRests_67 rfl (by omega) rfl ?_
      refine aw_ladd q_S_prepareRests_68 ?_
      rw [lZ_add]
      refine wa_43 _ q_S_prepareRests_69 (by omega) ?_
      rw [qr_swf, qr_wf]
      refine aw_iconst 0 q_S_prepareRests_70 rfl ?_
      refine aw_istore_n 3 q_S_prepareRests_71 rfl rfl rfl ?_
      rw [show ((va_up (RS A w k).1 i ((RS A w k).1 (i + 1) + x_wo A i), (RS A w k).2) : FG) = (va_up (RS A w k).1 i ((RS A w k).1 (i + 1) + x_wo A i), g3 i 0 (RS A w k).2) from by rw [g3_0]]
      refine l_S_pr3 sc A q D t i (va_up (RS A w k).1 i ((RS A w k).1 (i + 1) + x_wo A i), (RS A w k).2) _ b (by omega) ?_ _ 0 rfl (by omega)
      refine aw_iconst 1 q_S_prepareRests_102 rfl ?_
      refine aw_iload_n 2 q_S_prepareRests_103 rfl rfl ?_
      refine aw_ishl q_S_prepareRests_104 ?_
      refine aw_iconst 1 q_S_prepareRests_105 rfl ?_
      refine aw_isub q_S_prepareRests_106 ?_
      rw [bt_one (by omega), pk_pow (by omega)]
      refine aw_istore_n 3 q_S_prepareRests_107 rfl rfl rfl ?_
      refine aw_aload_n 0 q_S_prepareRests_108 rfl rfl ?_
      refine aw_get 8 q_S_prepareRests_109 fl_S_17 rfl rfl ?_
      refine aw_iload_n 2 q_S_prepareRests_112 rfl rfl ?_
      refine aw_aaldN q_S_prepareRests_113 rfl (by omega) rfl ?_
      refine aw_aload_n 0 q_S_prepareRests_114 rfl rfl ?_
      refine aw_get 0 q_S_prepareRests_115 fl_S_29 rfl rfl ?_
      refine aw_get 7 q_S_prepareRests_118 fl_S_100 rfl rfl ?_
      refine aw_iload_n 2 q_S_prepareRests_121 rfl rfl ?_
      refine aw_ialdN q_S_prepareRests_122 rfl (by omega) rfl ?_
      refine aw_dup2_11 q_S_prepareRests_123 rfl rfl ?_
      refine aw_laldN q_S_prepareRests_124 (hp_sf _ _ _ _ _ (by omega)) (by omega) rfl ?_
      refine aw_aload_n 0 q_S_prepareRests_125 rfl rfl ?_
      refine aw_get 0 q_S_prepareRests_126 fl_S_29 rfl rfl ?_
      refine aw_iload_n 2 q_S_prepareRests_129 rfl rfl ?_
      refine aw_iload_n 3 q_S_prepareRests_130 rfl rfl ?_
      refine aw_V2 q_S_prepareRests_131 st_S_104 rfl (by omega) (Nat.le_of_ble_eq_true rfl) (c_W_savesWith _ _ _ _ _ _ _ b (by omega)) ?_
      refine aw_ladd q_S_prepareRests_134 ?_
      rw [lZ_add]
      refine wa_sf _ q_S_prepareRests_135 (by omega) (by omega) ?_
      rw [qr_ssf, qr_sf]
      refine aw_iinc _ q_S_prepareRests_136 rfl (am_dec1 _) rfl rfl ?_
      refine aw_goto 42 q_S_prepareRests_139 rfl ?_
      have e9 : ((va_up (RS A w k).1 i ((RS A w k).1 (i + 1) + x_wo A i), up2 (g3 i 6 (RS A w k).2) i (x_yr A i) (g3 i 6 (RS A w k).2 i (x_yr A i) + sw A i (2 ^ i - 1))) : FG) = RS A w (k + 1) := by
        show _ = rsS A (x_nc A - (k + 1)) (RS A w k)
        rw [ec]; rfl
      rw [show ((_, _) : FG) = RS A w (k + 1) from e9]
      exact ih (k + 1) (by omega) _
theorem l_S_pr1 (sc : am_S) (A : ST) (q : QS) (D : ST) (t : TS) (f : Nat → Int) (b : bd A) : ∀ (n i : Nat), 6 - i = n → i ≤ 6 →  AW sc m_S_prepareRests 1 17 [some (.ref 26), some (.int (nI (x_nc A))), some (.int (nI i)), none] [] (hp A (qr q (f, g1 (x_nc A) i (q_sf q))) D t) (none) (hp A (qr q (RS A (f, g1 (x_nc A) 6 (q_sf q)) (x_nc A))) D t) := by
  intro n
  induction n using Nat.strongRecOn with
  | _ n ih =>
    intro i hn hi
    have b3 := b.2.2.1
    refine aw_iload_n 2 q_S_prepareRests_17 rfl rfl ?_
    refine aw_bipush 6 q_S_prepareRests_18 rfl ?_
    refine aw_icmp_ge 38 q_S_prepareRests_20 rfl (fun c20 => ?_) (fun c20 => ?_)
    · skip
      have he : i = 6 := Nat.le_antisymm hi (nge_ge (b := 6) c20 (by omega) (by omega))
      subst he
      refine aw_iload_n 1 q_S_prepareRests_38 rfl rfl ?_
      refine aw_iconst 1 q_S_prepareRests_39 rfl ?_
      refine aw_isub q_S_prepareRests_40 ?_
      refine aw_istore_n 2 q_S_prepareRests_41 rfl rfl rfl ?_
      exact l_S_pr2 sc A q D t _ b 0 (x_nc A) (by omega) _
    · skip
      have hlt : i < 6 := nge_lt (b := 6) c20 (by omega) (by omega)
      refine aw_aload_n 0 q_S_prepareRests_23 rfl rfl ?_
      refine aw_get 8 q_S_prepareRests_24 fl_S_17 rfl rfl ?_
      refine aw_iload_n 1 q_S_prepareRests_27 rfl rfl ?_
      refine aw_aaldN q_S_prepareRests_28 rfl (by omega) rfl ?_
      refine aw_iload_n 2 q_S_prepareRests_29 rfl rfl ?_
      refine aw_lconst (lZ 0) q_S_prepareRests_30 rfl ?_
      refine wa_sf _ q_S_prepareRests_31 (by omega) (by omega) ?_
      first | refine aw_iinc _ q_S_prepareRests_32 rfl (am_inc _) rfl rfl ?_ | refine aw_iinc _ q_S_prepareRests_32 rfl rfl rfl rfl ?_
      refine aw_goto 17 q_S_prepareRests_35 rfl ?_
      rw [qr_ssf, qr_sf]
      rw [show up2 (f, g1 (x_nc A) i (q_sf q)).2 (x_nc A) i 0 = g1 (x_nc A) (i + 1) (q_sf q) from g1_s _ _ _]
      exact ih _ (by omega) (i + 1) rfl (by omega)
theorem qr_self (q : QS) : qr q (q_wf q, q_sf q) = q := by simp only [qr, q_bk, q_ba, q_ck, q_cl, q_no, q_mu, q_od, q_cm, q_oe, q_ud, q_li, q_sf, q_wf, q_pk, q_tk, q_sy, q_ga, q_sp, q_gi, q_be, q_bc, q_bw, q_bs, q_or]
theorem c_S_prepareRests (sc : am_S) (A : ST) (q : QS) (D : ST) (t : TS)  (b : bd A) : AM sc m_S_prepareRests 1 [.ref 26] (hp A q D t) (none) (hp A (qr q (RS A (rs0 A q) (x_nc A))) D t) := by
  refine AM.of (by decide) (Nat.le_of_ble_eq_true rfl) ?_
  show AW sc m_S_prepareRests 1 0 [some (.ref 26), none, none, none] [] _ _ _
  have b3 := b.2.2.1
  have h0 : q_s_wf q (va_up (q_wf q) (x_nc A) 0) = qr q (va_up (q_wf q) (x_nc A) 0, g1 (x_nc A) 0 (q_sf q)) := by rw [g1_0]; simp only [q_s_wf, qr, q_bk, q_ba, q_ck, q_cl, q_no, q_mu, q_od, q_cm, q_oe, q_ud, q_li, q_sf, q_wf, q_pk, q_tk, q_sy, q_ga, q_sp, q_gi, q_be, q_bc, q_bw, q_bs, q_or]
  refine aw_aload_n 0 q_S_prepareRests_0 rfl rfl ?_
  refine aw_get 0 q_S_prepareRests_1 fl_S_29 rfl rfl ?_
  refine aw_get 5 q_S_prepareRests_4 fl_S_94 rfl rfl ?_
  refine aw_istore_n 1 q_S_prepareRests_7 rfl rfl rfl ?_
  refine aw_aload_n 0 q_S_prepareRests_8 rfl rfl ?_
  refine aw_get 9 q_S_prepareRests_9 fl_S_20 rfl rfl ?_
  refine aw_iload_n 1 q_S_prepareRests_12 rfl rfl ?_
  refine aw_lconst (lZ 0) q_S_prepareRests_13 rfl ?_
  refine wa_43 _ q_S_prepareRests_14 (by omega) ?_
  rw [h0]
  refine aw_iconst 0 q_S_prepareRests_15 rfl ?_
  refine aw_istore_n 2 q_S_prepareRests_16 rfl rfl rfl ?_
  exact l_S_pr1 sc A q D t _ b _ 0 rfl (by omega)
