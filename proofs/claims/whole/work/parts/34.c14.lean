/-! CONTRACTS 14: the class is told something -/
theorem fg_ny (A : ST) : x_ny (fgA A) = x_ny A := by simp only [fgA, xg_ny_pr, xg_ny_pn]
theorem fg_nt (A : ST) : x_nt (fgA A) = x_nt A := by simp only [fgA, xg_nt_pr, xg_nt_pn]
theorem fg_nc (A : ST) : x_nc (fgA A) = x_nc A := by simp only [fgA, xg_nc_pr, xg_nc_pn]
theorem fg_mu (A : ST) : x_mu (fgA A) = x_mu A := by simp only [fgA, xg_mu_pr, xg_mu_pn]
theorem fg_nj (A : ST) : x_nj (fgA A) = x_nj A := by simp only [fgA, xg_nj_pr, xg_nj_pn]
theorem fg_fa (A : ST) : x_fa (fgA A) = x_fa A := by simp only [fgA, xg_fa_pr, xg_fa_pn]
theorem fg_bu (A : ST) : x_bu (fgA A) = x_bu A := by simp only [fgA, xg_bu_pr, xg_bu_pn]
theorem fg_pl (A : ST) : x_pl (fgA A) = x_pl A := by simp only [fgA, xg_pl_pr, xg_pl_pn]
theorem fg_di (A : ST) : x_di (fgA A) = x_di A := by simp only [fgA, xg_di_pr, xg_di_pn]
theorem fg_th (A : ST) : x_th (fgA A) = x_th A := by simp only [fgA, xg_th_pr, xg_th_pn]
theorem fg_yr (A : ST) : x_yr (fgA A) = x_yr A := by simp only [fgA, xg_yr_pr, xg_yr_pn]
theorem fg_co (A : ST) : x_co (fgA A) = x_co A := by simp only [fgA, xg_co_pr, xg_co_pn]
theorem fg_wo (A : ST) : x_wo (fgA A) = x_wo A := by simp only [fgA, xg_wo_pr, xg_wo_pn]
theorem fg_jt (A : ST) : x_jt (fgA A) = x_jt A := by simp only [fgA, xg_jt_pr, xg_jt_pn]
theorem fg_sv (A : ST) : x_sv (fgA A) = x_sv A := by simp only [fgA, xg_sv_pr, xg_sv_pn]
theorem fg_ja (A : ST) : x_ja (fgA A) = x_ja A := by simp only [fgA, xg_ja_pr, xg_ja_pn]
theorem fg_jb (A : ST) : x_jb (fgA A) = x_jb A := by simp only [fgA, xg_jb_pr, xg_jb_pn]
theorem fg_js (A : ST) : x_js (fgA A) = x_js A := by simp only [fgA, xg_js_pr, xg_js_pn]
theorem fg_pn (A : ST) : x_pn (fgA A) = none := by simp only [fgA, xg_pn_pr, xg_pn_pn]
theorem fg_od (A : ST) : x_od (fgA A) = x_od A := by simp only [fgA, xg_od_pr, xg_od_pn]
theorem fg_pr (A : ST) : x_pr (fgA A) = false := by simp only [fgA, xg_pr_pr, xg_pr_pn]
theorem bd_fg {A : ST} (b : bd A) : bd (fgA A) := by
  unfold bd
  simp only [fg_ny, fg_nt, fg_nc, fg_th, fg_yr, fg_di, fg_jt, fg_co, fg_wo, fg_sv, fg_bu, fg_pl, fg_mu]
  exact b
theorem lt12 {n : Nat} (h : n < 2 ^ 31) (k : Nat) (hk : k < 2 ^ 31) : nI n < nI k ↔ n < k := nI_ltI h hk
def thA (A : ST) (p : Nat) : ST := x_s_nt (x_s_pl A (va_up (x_pl A) (x_nt A) p)) (x_nt A + 1)
def chA (A : ST) (u y : Nat) (ce wo : Int) : ST := x_s_nc (x_s_wo (x_s_co (x_s_yr (x_s_th A (va_up (x_th A) (x_nc A) u)) (va_up (x_yr A) (x_nc A) y)) (va_up (x_co A) (x_nc A) ce)) (va_up (x_wo A) (x_nc A) wo)) (x_nc A + 1)
theorem c_B_thing_no (sc : am_S) (A : ST) (q : QS) (D : ST) (t : TS) (x : Int32) (b : bd A) (hx : x < 0 ∨ 999 < x ∨ 12 ≤ x_nt A) : AM sc m_B_thing 1 [.ref 1, .int x] (hp A q D t) (some (.int (-1))) (hp A q D t) := by
  refine AM.of (by decide) (Nat.le_of_ble_eq_true rfl) ?_
  show AW sc m_B_thing 1 0 [some (.ref 1), some (.int x)] [] _ _ _
  have b2 := b.2.1
  refine aw_iload_n 1 q_B_thing_0 rfl rfl ?_
  refine aw_if_lt 23 q_B_thing_1 rfl (fun c1 => ?_) (fun c1 => ?_)
  · skip
    refine aw_iconst (-1) q_B_thing_23 rfl ?_
    exact aw_iret .int q_B_thing_24 rfl rfl rfl rfl
  · skip
    refine aw_iload_n 1 q_B_thing_4 rfl rfl ?_
    refine aw_sipush 999 q_B_thing_5 rfl ?_
    refine aw_icmp_gt 23 q_B_thing_8 rfl (fun c8 => ?_) (fun c8 => ?_)
    · skip
      refine aw_iconst (-1) q_B_thing_23 rfl ?_
      exact aw_iret .int q_B_thing_24 rfl rfl rfl rfl
    · skip
      refine aw_aload_n 0 q_B_thing_11 rfl rfl ?_
      refine aw_get 0 q_B_thing_12 fl_B_23 rfl rfl ?_
      refine aw_get 2 q_B_thing_15 fl_B_54 rfl rfl ?_
      refine aw_bipush 12 q_B_thing_18 rfl ?_
      refine aw_icmp_lt 25 q_B_thing_20 rfl (fun c20 => ?_) (fun c20 => ?_)
      · skip
        exact absurd hx (by rintro (z | z | z); exact c1 z; exact c8 z; exact absurd ((nI_ltI (b := 12) (by omega) (by omega)).mp c20) (by omega))
      · skip
        refine aw_iconst (-1) q_B_thing_23 rfl ?_
        exact aw_iret .int q_B_thing_24 rfl rfl rfl rfl
theorem c_B_thing (sc : am_S) (A : ST) (q : QS) (D : ST) (t : TS) (p : Nat) (b : bd A) (hp1 : p ≤ 999) (hn : x_nt A < 12) : AM sc m_B_thing 1 [.ref 1, .int (nI p)] (hp A q D t) (some (.int (nI (x_nt A)))) (hp (thA (fgA A) p) (fgq q) D t) := by
  refine AM.of (by decide) (Nat.le_of_ble_eq_true rfl) ?_
  show AW sc m_B_thing 1 0 [some (.ref 1), some (.int (nI p))] [] _ _ _
  refine aw_iload_n 1 q_B_thing_0 rfl rfl ?_
  refine aw_if_lt 23 q_B_thing_1 rfl (fun c1 => ?_) (fun c1 => ?_)
  · skip
    first
      | exact absurd c1 (nI_pos (by omega))
      | exact absurd ((nI_ltI (a := 999) (by omega) (by omega)).mp c8) (by omega)
      | exact absurd ((nI_ltI (b := 12) (by omega) (by omega)).mpr hn) c20
  · skip
    refine aw_iload_n 1 q_B_thing_4 rfl rfl ?_
    refine aw_sipush 999 q_B_thing_5 rfl ?_
    refine aw_icmp_gt 23 q_B_thing_8 rfl (fun c8 => ?_) (fun c8 => ?_)
    · skip
      first
        | exact absurd c1 (nI_pos (by omega))
        | exact absurd ((nI_ltI (a := 999) (by omega) (by omega)).mp c8) (by omega)
        | exact absurd ((nI_ltI (b := 12) (by omega) (by omega)).mpr hn) c20
    · skip
      refine aw_aload_n 0 q_B_thing_11 rfl rfl ?_
      refine aw_get 0 q_B_thing_12 fl_B_23 rfl rfl ?_
      refine aw_get 2 q_B_thing_15 fl_B_54 rfl rfl ?_
      refine aw_bipush 12 q_B_thing_18 rfl ?_
      refine aw_icmp_lt 25 q_B_thing_20 rfl (fun c20 => ?_) (fun c20 => ?_)
      · skip
        refine aw_aload_n 0 q_B_thing_25 rfl rfl ?_
        refine aw_V0v q_B_thing_26 st_B_57 rfl (by omega) (Nat.le_of_ble_eq_true rfl) (c_B_forget _ _ _ _ _) ?_
        refine aw_aload_n 0 q_B_thing_29 rfl rfl ?_
        refine aw_get 0 q_B_thing_30 fl_B_23 rfl rfl ?_
        refine aw_iload_n 1 q_B_thing_33 rfl rfl ?_
        refine aw_V1 q_B_thing_34 st_B_60 rfl (by omega) (Nat.le_of_ble_eq_true rfl) (c_W_addThing _ _ _ _ _ _ (by rw [fg_nt]; exact hn)) ?_
        exact aw_iret .int q_B_thing_37 rfl rfl (by rw [fg_nt]) rfl
      · skip
        first
          | exact absurd c1 (nI_pos (by omega))
          | exact absurd ((nI_ltI (a := 999) (by omega) (by omega)).mp c8) (by omega)
          | exact absurd ((nI_ltI (b := 12) (by omega) (by omega)).mpr hn) c20
theorem c_B_choice_no (sc : am_S) (A : ST) (q : QS) (D : ST) (t : TS) (x y : Int32) (v w : Int64) (b : bd A) (hx : ¬ ((¬ x < 0 ∧ ¬ nI (x_nt A) ≤ x) ∧ (¬ y < 0 ∧ ¬ nI (x_ny A) ≤ y) ∧ x_nc A < 14 ∧ (¬ v < 0 ∧ ¬ 1000000 < v) ∧ (¬ w < 0 ∧ ¬ 1000000 < w))) : AM sc m_B_choice 1 [.ref 1, .int x, .int y, .long v, .long w] (hp A q D t) (some (.int (-1))) (hp A q D t) := by
  refine AM.of (by decide) (Nat.le_of_ble_eq_true rfl) ?_
  show AW sc m_B_choice 1 0 [some (.ref 1), some (.int x), some (.int y), some (.long v), none, some (.long w), none] [] _ _ _
  have b3 := b.2.2.1
  refine aw_aload_n 0 q_B_choice_0 rfl rfl ?_
  refine aw_get 0 q_B_choice_1 fl_B_23 rfl rfl ?_
  refine aw_iload_n 1 q_B_choice_4 rfl rfl ?_
  refine aw_V1 q_B_choice_5 st_B_64 rfl (by omega) (Nat.le_of_ble_eq_true rfl) (c_W_isThing _ _ _ _ _ _) ?_
  refine aw_if_eq 34 q_B_choice_8 rfl (fun c8 => ?_) (fun c8 => ?_)
  · skip
    refine aw_iconst (-1) q_B_choice_34 rfl ?_
    exact aw_iret .int q_B_choice_35 rfl rfl rfl rfl
  · skip
    refine aw_aload_n 0 q_B_choice_11 rfl rfl ?_
    refine aw_get 0 q_B_choice_12 fl_B_23 rfl rfl ?_
    refine aw_iload_n 2 q_B_choice_15 rfl rfl ?_
    refine aw_V1 q_B_choice_16 st_B_68 rfl (by omega) (Nat.le_of_ble_eq_true rfl) (c_W_isYear _ _ _ _ _ _) ?_
    refine aw_if_eq 34 q_B_choice_19 rfl (fun c19 => ?_) (fun c19 => ?_)
    · skip
      refine aw_iconst (-1) q_B_choice_34 rfl ?_
      exact aw_iret .int q_B_choice_35 rfl rfl rfl rfl
    · skip
      refine aw_aload_n 0 q_B_choice_22 rfl rfl ?_
      refine aw_get 0 q_B_choice_23 fl_B_23 rfl rfl ?_
      refine aw_get 5 q_B_choice_26 fl_B_71 rfl rfl ?_
      refine aw_bipush 14 q_B_choice_29 rfl ?_
      refine aw_icmp_lt 36 q_B_choice_31 rfl (fun c31 => ?_) (fun c31 => ?_)
      · skip
        refine aw_lload_n 3 q_B_choice_36 rfl rfl ?_
        refine aw_ldc2 1000000 q_B_choice_37 (am_in2 (i := 18) rfl rfl) ?_
        refine aw_S2 q_B_choice_40 st_B_76 (by omega) (Nat.le_of_ble_eq_true rfl) (c_B_isWithin _ _ _ _) ?_
        refine aw_if_eq 57 q_B_choice_43 rfl (fun c43 => ?_) (fun c43 => ?_)
        · skip
          refine aw_iconst (-1) q_B_choice_57 rfl ?_
          exact aw_iret .int q_B_choice_58 rfl rfl rfl rfl
        · skip
          refine aw_lload q_B_choice_46 rfl ?_
          refine aw_ldc2 1000000 q_B_choice_48 (am_in2 (i := 18) rfl rfl) ?_
          refine aw_S2 q_B_choice_51 st_B_76 (by omega) (Nat.le_of_ble_eq_true rfl) (c_B_isWithin _ _ _ _) ?_
          refine aw_if_ne 59 q_B_choice_54 rfl (fun c54 => ?_) (fun c54 => ?_)
          · skip
            exact (hx ⟨of_decide_eq_true (zI_n0.mp c8), of_decide_eq_true (zI_n0.mp c19), (nI_ltI (b := 14) (by omega) (by omega)).mp c31, of_decide_eq_true (zI_n0.mp c43), of_decide_eq_true (zI_n0.mp c54)⟩).elim
          · skip
            refine aw_iconst (-1) q_B_choice_57 rfl ?_
            exact aw_iret .int q_B_choice_58 rfl rfl rfl rfl
      · skip
        refine aw_iconst (-1) q_B_choice_34 rfl ?_
        exact aw_iret .int q_B_choice_35 rfl rfl rfl rfl
theorem isN {k n : Nat} (hk : k < n) (hn : n < 2 ^ 31) : decide (¬ nI k < 0 ∧ ¬ nI n ≤ nI k) = true := by
  simp only [decide_eq_true_eq]
  exact ⟨nI_pos (by omega), nI_ge hk hn⟩
theorem wiN {z m : Int} (h1 : 0 ≤ z) (h2 : z ≤ m) (hm : m < 4611686018427387904) : decide (¬ lZ z < 0 ∧ ¬ lZ m < lZ z) = true := by
  simp only [decide_eq_true_eq]
  rw [← lZ_0]
  exact ⟨fun e => by have := (lZ_lt (by omega) (by omega)).mp e; omega, fun e => by have := (lZ_lt (by omega) (by omega)).mp e; omega⟩
theorem c_B_choice (sc : am_S) (A : ST) (q : QS) (D : ST) (t : TS) (u y : Nat) (v w : Int) (b : bd A) (hu : u < x_nt A) (hy : y < x_ny A) (hn : x_nc A < 14) (hv : 0 ≤ v ∧ v ≤ 1000000) (hw : 0 ≤ w ∧ w ≤ 1000000) : AM sc m_B_choice 1 [.ref 1, .int (nI u), .int (nI y), .long (lZ v), .long (lZ w)] (hp A q D t) (some (.int (nI (x_nc A)))) (hp (chA (fgA A) u y v w) (fgq q) D t) := by
  refine AM.of (by decide) (Nat.le_of_ble_eq_true rfl) ?_
  show AW sc m_B_choice 1 0 [some (.ref 1), some (.int (nI u)), some (.int (nI y)), some (.long (lZ v)), none, some (.long (lZ w)), none] [] _ _ _
  have b1 := b.1
  have b2 := b.2.1
  refine aw_aload_n 0 q_B_choice_0 rfl rfl ?_
  refine aw_get 0 q_B_choice_1 fl_B_23 rfl rfl ?_
  refine aw_iload_n 1 q_B_choice_4 rfl rfl ?_
  refine aw_V1 q_B_choice_5 st_B_64 rfl (by omega) (Nat.le_of_ble_eq_true rfl) (c_W_isThing _ _ _ _ _ _) ?_
  refine aw_if_eq 34 q_B_choice_8 rfl (fun c8 => ?_) (fun c8 => ?_)
  · skip
    first
      | exact absurd (zI_0.mp c8) (by rw [isN hu (by omega)]; decide)
      | exact absurd (zI_0.mp c19) (by rw [isN hy (by omega)]; decide)
      | exact absurd ((nI_ltI (b := 14) (by omega) (by omega)).mpr hn) c31
  · skip
    refine aw_aload_n 0 q_B_choice_11 rfl rfl ?_
    refine aw_get 0 q_B_choice_12 fl_B_23 rfl rfl ?_
    refine aw_iload_n 2 q_B_choice_15 rfl rfl ?_
    refine aw_V1 q_B_choice_16 st_B_68 rfl (by omega) (Nat.le_of_ble_eq_true rfl) (c_W_isYear _ _ _ _ _ _) ?_
    refine aw_if_eq 34 q_B_choice_19 rfl (fun c19 => ?_) (fun c19 => ?_)
    · skip
      first
        | exact absurd (zI_0.mp c8) (by rw [isN hu (by omega)]; decide)
        | exact absurd (zI_0.mp c19) (by rw [isN hy (by omega)]; decide)
        | exact absurd ((nI_ltI (b := 14) (by omega) (by omega)).mpr hn) c31
    · skip
      refine aw_aload_n 0 q_B_choice_22 rfl rfl ?_
      refine aw_get 0 q_B_choice_23 fl_B_23 rfl rfl ?_
      refine aw_get 5 q_B_choice_26 fl_B_71 rfl rfl ?_
      refine aw_bipush 14 q_B_choice_29 rfl ?_
      refine aw_icmp_lt 36 q_B_choice_31 rfl (fun c31 => ?_) (fun c31 => ?_)
      · skip
        refine aw_lload_n 3 q_B_choice_36 rfl rfl ?_
        refine aw_ldc2 (lZ (1000000)) q_B_choice_37 (am_in2 (i := 18) rfl rfl) ?_
        refine aw_S2 q_B_choice_40 st_B_76 (by omega) (Nat.le_of_ble_eq_true rfl) (c_B_isWithin _ _ _ _) ?_
        refine aw_if_eq 57 q_B_choice_43 rfl (fun c43 => ?_) (fun c43 => ?_)
        · skip
          first
            | exact absurd (zI_0.mp c43) (by rw [wiN hv.1 hv.2 (by omega)]; decide)
            | exact absurd (zI_0.mp c54) (by rw [wiN hw.1 hw.2 (by omega)]; decide)
        · skip
          refine aw_lload q_B_choice_46 rfl ?_
          refine aw_ldc2 (lZ (1000000)) q_B_choice_48 (am_in2 (i := 18) rfl rfl) ?_
          refine aw_S2 q_B_choice_51 st_B_76 (by omega) (Nat.le_of_ble_eq_true rfl) (c_B_isWithin _ _ _ _) ?_
          refine aw_if_ne 59 q_B_choice_54 rfl (fun c54 => ?_) (fun c54 => ?_)
          · skip
            refine aw_aload_n 0 q_B_choice_59 rfl rfl ?_
            refine aw_V0v q_B_choice_60 st_B_57 rfl (by omega) (Nat.le_of_ble_eq_true rfl) (c_B_forget _ _ _ _ _) ?_
            refine aw_aload_n 0 q_B_choice_63 rfl rfl ?_
            refine aw_get 0 q_B_choice_64 fl_B_23 rfl rfl ?_
            refine aw_iload_n 1 q_B_choice_67 rfl rfl ?_
            refine aw_iload_n 2 q_B_choice_68 rfl rfl ?_
            refine aw_lload_n 3 q_B_choice_69 rfl rfl ?_
            refine aw_lload q_B_choice_70 rfl ?_
            refine aw_V4 q_B_choice_72 st_B_80 rfl (by omega) (Nat.le_of_ble_eq_true rfl) (c_W_addChoice _ _ _ _ _ _ _ _ _ (by rw [fg_nc]; exact hn)) ?_
            exact aw_iret .int q_B_choice_75 rfl rfl (by rw [fg_nc]) rfl
          · skip
            first
              | exact absurd (zI_0.mp c43) (by rw [wiN hv.1 hv.2 (by omega)]; decide)
              | exact absurd (zI_0.mp c54) (by rw [wiN hw.1 hw.2 (by omega)]; decide)
      · skip
        first
          | exact absurd (zI_0.mp c8) (by rw [isN hu (by omega)]; decide)
          | exact absurd (zI_0.mp c19) (by rw [isN hy (by omega)]; decide)
          | exact absurd ((nI_ltI (b := 14) (by omega) (by omega)).mpr hn) c31
theorem c_B_must_no (sc : am_S) (A : ST) (q : QS) (D : ST) (t : TS) (x : Int32) (b : bd A) (hx : ¬ (¬ x < 0 ∧ ¬ nI (x_nc A) ≤ x)) : AM sc m_B_must 1 [.ref 1, .int x] (hp A q D t) (some (.int 0)) (hp A q D t) := by
  refine AM.of (by decide) (Nat.le_of_ble_eq_true rfl) ?_
  show AW sc m_B_must 1 0 [some (.ref 1), some (.int x)] [] _ _ _
  refine aw_aload_n 0 q_B_must_0 rfl rfl ?_
  refine aw_get 0 q_B_must_1 fl_B_23 rfl rfl ?_
  refine aw_iload_n 1 q_B_must_4 rfl rfl ?_
  refine aw_V1 q_B_must_5 st_B_84 rfl (by omega) (Nat.le_of_ble_eq_true rfl) (c_W_isChoice _ _ _ _ _ _) ?_
  refine aw_if_eq 25 q_B_must_8 rfl (fun c8 => ?_) (fun c8 => ?_)
  · skip
    refine aw_iconst 0 q_B_must_25 rfl ?_
    exact aw_iret .boolean q_B_must_26 rfl rfl rfl rfl
  · skip
    exact (hx (of_decide_eq_true (zI_n0.mp c8))).elim
theorem c_B_must_was (sc : am_S) (A : ST) (q : QS) (D : ST) (t : TS) (c : Nat) (b : bd A) (hc : c < x_nc A) (hb : (x_mu A).testBit c = true) : AM sc m_B_must 1 [.ref 1, .int (nI c)] (hp A q D t) (some (.int 0)) (hp A q D t) := by
  refine AM.of (by decide) (Nat.le_of_ble_eq_true rfl) ?_
  show AW sc m_B_must 1 0 [some (.ref 1), some (.int (nI c))] [] _ _ _
  have b3 := b.2.2.1
  have bm := b.2.2.2.2.2.2.2.2.2.2.2.2.1
  refine aw_aload_n 0 q_B_must_0 rfl rfl ?_
  refine aw_get 0 q_B_must_1 fl_B_23 rfl rfl ?_
  refine aw_iload_n 1 q_B_must_4 rfl rfl ?_
  refine aw_V1 q_B_must_5 st_B_84 rfl (by omega) (Nat.le_of_ble_eq_true rfl) (c_W_isChoice _ _ _ _ _ _) ?_
  refine aw_if_eq 25 q_B_must_8 rfl (fun c8 => ?_) (fun c8 => ?_)
  · skip
    refine aw_iconst 0 q_B_must_25 rfl ?_
    exact aw_iret .boolean q_B_must_26 rfl rfl rfl rfl
  · skip
    refine aw_aload_n 0 q_B_must_11 rfl rfl ?_
    refine aw_get 0 q_B_must_12 fl_B_23 rfl rfl ?_
    refine aw_get 10 q_B_must_15 fl_B_87 rfl rfl ?_
    refine aw_iload_n 1 q_B_must_18 rfl rfl ?_
    refine aw_S2 q_B_must_19 st_B_90 (by omega) (Nat.le_of_ble_eq_true rfl) (c_B_isIn _ _ _ _ (by omega) (by omega)) ?_
    refine aw_if_eq 27 q_B_must_22 rfl (fun c22 => ?_) (fun c22 => ?_)
    · skip
      exact absurd (zI_0.mp c22) (by rw [hb]; decide)
    · skip
      refine aw_iconst 0 q_B_must_25 rfl ?_
      exact aw_iret .boolean q_B_must_26 rfl rfl rfl rfl
def muA (A : ST) (c : Nat) : ST := x_s_mu A (x_mu A ||| 2 ^ c)
theorem c_B_must (sc : am_S) (A : ST) (q : QS) (D : ST) (t : TS) (c : Nat) (b : bd A) (hc : c < x_nc A) (hb : (x_mu A).testBit c = false) : AM sc m_B_must 1 [.ref 1, .int (nI c)] (hp A q D t) (some (.int 1)) (hp (muA (fgA A) c) (fgq q) D t) := by
  refine AM.of (by decide) (Nat.le_of_ble_eq_true rfl) ?_
  show AW sc m_B_must 1 0 [some (.ref 1), some (.int (nI c))] [] _ _ _
  have b3 := b.2.2.1
  have bm := b.2.2.2.2.2.2.2.2.2.2.2.2.1
  refine aw_aload_n 0 q_B_must_0 rfl rfl ?_
  refine aw_get 0 q_B_must_1 fl_B_23 rfl rfl ?_
  refine aw_iload_n 1 q_B_must_4 rfl rfl ?_
  refine aw_V1 q_B_must_5 st_B_84 rfl (by omega) (Nat.le_of_ble_eq_true rfl) (c_W_isChoice _ _ _ _ _ _) ?_
  refine aw_if_eq 25 q_B_must_8 rfl (fun c8 => ?_) (fun c8 => ?_)
  · skip
    first
      | exact absurd (zI_0.mp c8) (by rw [isN hc (by omega)]; decide)
      | exact absurd (zI_n0.mp c22) (by rw [hb]; decide)
  · skip
    refine aw_aload_n 0 q_B_must_11 rfl rfl ?_
    refine aw_get 0 q_B_must_12 fl_B_23 rfl rfl ?_
    refine aw_get 10 q_B_must_15 fl_B_87 rfl rfl ?_
    refine aw_iload_n 1 q_B_must_18 rfl rfl ?_
    refine aw_S2 q_B_must_19 st_B_90 (by omega) (Nat.le_of_ble_eq_true rfl) (c_B_isIn _ _ _ _ (by omega) (by omega)) ?_
    refine aw_if_eq 27 q_B_must_22 rfl (fun c22 => ?_) (fun c22 => ?_)
    · skip
      refine aw_aload_n 0 q_B_must_27 rfl rfl ?_
      refine aw_V0v q_B_must_28 st_B_57 rfl (by omega) (Nat.le_of_ble_eq_true rfl) (c_B_forget _ _ _ _ _) ?_
      refine aw_aload_n 0 q_B_must_31 rfl rfl ?_
      refine aw_get 0 q_B_must_32 fl_B_23 rfl rfl ?_
      refine aw_dup q_B_must_35 rfl ?_
      refine aw_get 10 q_B_must_36 fl_B_87 rfl rfl ?_
      refine aw_iconst 1 q_B_must_39 rfl ?_
      refine aw_iload_n 1 q_B_must_40 rfl rfl ?_
      refine aw_ishl q_B_must_41 ?_
      refine aw_ior q_B_must_42 ?_
      rw [bt_one (by omega), nI_or]
      refine wp_W_10 _ q_B_must_43 fl_B_87 ?_
      refine aw_iconst 1 q_B_must_46 rfl ?_
      exact aw_iret .boolean q_B_must_47 rfl rfl rfl rfl
    · skip
      first
        | exact absurd (zI_0.mp c8) (by rw [isN hc (by omega)]; decide)
        | exact absurd (zI_n0.mp c22) (by rw [hb]; decide)
theorem c_B_budget_no (sc : am_S) (A : ST) (q : QS) (D : ST) (t : TS) (x : Int32) (v : Int64) (b : bd A) (hx : ¬ ((¬ x < 0 ∧ ¬ nI (x_ny A) ≤ x) ∧ (¬ v < 0 ∧ ¬ 100000000 < v))) : AM sc m_B_budget 1 [.ref 1, .int x, .long v] (hp A q D t) (some (.int 0)) (hp A q D t) := by
  refine AM.of (by decide) (Nat.le_of_ble_eq_true rfl) ?_
  show AW sc m_B_budget 1 0 [some (.ref 1), some (.int x), some (.long v), none] [] _ _ _
  refine aw_aload_n 0 q_B_budget_0 rfl rfl ?_
  refine aw_get 0 q_B_budget_1 fl_B_23 rfl rfl ?_
  refine aw_iload_n 1 q_B_budget_4 rfl rfl ?_
  refine aw_V1 q_B_budget_5 st_B_68 rfl (by omega) (Nat.le_of_ble_eq_true rfl) (c_W_isYear _ _ _ _ _ _) ?_
  refine aw_if_eq 21 q_B_budget_8 rfl (fun c8 => ?_) (fun c8 => ?_)
  · skip
    refine aw_iconst 0 q_B_budget_21 rfl ?_
    exact aw_iret .boolean q_B_budget_22 rfl rfl rfl rfl
  · skip
    refine aw_lload_n 2 q_B_budget_11 rfl rfl ?_
    refine aw_ldc2 100000000 q_B_budget_12 (am_in2 (i := 41) rfl rfl) ?_
    refine aw_S2 q_B_budget_15 st_B_76 (by omega) (Nat.le_of_ble_eq_true rfl) (c_B_isWithin _ _ _ _) ?_
    refine aw_if_ne 23 q_B_budget_18 rfl (fun c18 => ?_) (fun c18 => ?_)
    · skip
      exact (hx ⟨of_decide_eq_true (zI_n0.mp c8), of_decide_eq_true (zI_n0.mp c18)⟩).elim
    · skip
      refine aw_iconst 0 q_B_budget_21 rfl ?_
      exact aw_iret .boolean q_B_budget_22 rfl rfl rfl rfl
def buA (A : ST) (y : Nat) (v : Int) : ST := x_s_bu A (va_up (x_bu A) y v)
theorem c_B_budget (sc : am_S) (A : ST) (q : QS) (D : ST) (t : TS) (y : Nat) (v : Int) (b : bd A) (hy : y < x_ny A) (hv : 0 ≤ v ∧ v ≤ 100000000) : AM sc m_B_budget 1 [.ref 1, .int (nI y), .long (lZ v)] (hp A q D t) (some (.int 1)) (hp (buA (fgA A) y v) (fgq q) D t) := by
  refine AM.of (by decide) (Nat.le_of_ble_eq_true rfl) ?_
  show AW sc m_B_budget 1 0 [some (.ref 1), some (.int (nI y)), some (.long (lZ v)), none] [] _ _ _
  have b1 := b.1
  refine aw_aload_n 0 q_B_budget_0 rfl rfl ?_
  refine aw_get 0 q_B_budget_1 fl_B_23 rfl rfl ?_
  refine aw_iload_n 1 q_B_budget_4 rfl rfl ?_
  refine aw_V1 q_B_budget_5 st_B_68 rfl (by omega) (Nat.le_of_ble_eq_true rfl) (c_W_isYear _ _ _ _ _ _) ?_
  refine aw_if_eq 21 q_B_budget_8 rfl (fun c8 => ?_) (fun c8 => ?_)
  · skip
    first
      | exact absurd (zI_0.mp c8) (by rw [isN hy (by omega)]; decide)
      | exact absurd (zI_0.mp c18) (by rw [wiN hv.1 hv.2 (by omega)]; decide)
  · skip
    refine aw_lload_n 2 q_B_budget_11 rfl rfl ?_
    refine aw_ldc2 (lZ (100000000)) q_B_budget_12 (am_in2 (i := 41) rfl rfl) ?_
    refine aw_S2 q_B_budget_15 st_B_76 (by omega) (Nat.le_of_ble_eq_true rfl) (c_B_isWithin _ _ _ _) ?_
    refine aw_if_ne 23 q_B_budget_18 rfl (fun c18 => ?_) (fun c18 => ?_)
    · skip
      refine aw_aload_n 0 q_B_budget_23 rfl rfl ?_
      refine aw_V0v q_B_budget_24 st_B_57 rfl (by omega) (Nat.le_of_ble_eq_true rfl) (c_B_forget _ _ _ _ _) ?_
      refine aw_aload_n 0 q_B_budget_27 rfl rfl ?_
      refine aw_get 0 q_B_budget_28 fl_B_23 rfl rfl ?_
      refine aw_get 1 q_B_budget_31 fl_B_96 rfl rfl ?_
      refine aw_iload_n 1 q_B_budget_34 rfl rfl ?_
      refine aw_lload_n 2 q_B_budget_35 rfl rfl ?_
      refine wa_2 _ q_B_budget_36 (by omega) ?_
      refine aw_iconst 1 q_B_budget_37 rfl ?_
      exact aw_iret .boolean q_B_budget_38 rfl rfl rfl rfl
    · skip
      first
        | exact absurd (zI_0.mp c8) (by rw [isN hy (by omega)]; decide)
        | exact absurd (zI_0.mp c18) (by rw [wiN hv.1 hv.2 (by omega)]; decide)
theorem c_B_district_no (sc : am_S) (A : ST) (q : QS) (D : ST) (t : TS) (x y : Int32) (b : bd A) (hx : ¬ ((¬ x < 0 ∧ ¬ nI (x_nt A) ≤ x) ∧ (¬ y < 0 ∧ ¬ 4 ≤ y))) : AM sc m_B_district 1 [.ref 1, .int x, .int y] (hp A q D t) (some (.int 0)) (hp A q D t) := by
  refine AM.of (by decide) (Nat.le_of_ble_eq_true rfl) ?_
  show AW sc m_B_district 1 0 [some (.ref 1), some (.int x), some (.int y)] [] _ _ _
  refine aw_aload_n 0 q_B_district_0 rfl rfl ?_
  refine aw_get 0 q_B_district_1 fl_B_23 rfl rfl ?_
  refine aw_iload_n 1 q_B_district_4 rfl rfl ?_
  refine aw_V1 q_B_district_5 st_B_64 rfl (by omega) (Nat.le_of_ble_eq_true rfl) (c_W_isThing _ _ _ _ _ _) ?_
  refine aw_if_eq 18 q_B_district_8 rfl (fun c8 => ?_) (fun c8 => ?_)
  · skip
    refine aw_iconst 0 q_B_district_18 rfl ?_
    exact aw_iret .boolean q_B_district_19 rfl rfl rfl rfl
  · skip
    refine aw_iload_n 2 q_B_district_11 rfl rfl ?_
    refine aw_S1 q_B_district_12 st_B_110 (by omega) (Nat.le_of_ble_eq_true rfl) (c_B_isDistrict _ _ _) ?_
    refine aw_if_ne 20 q_B_district_15 rfl (fun c15 => ?_) (fun c15 => ?_)
    · skip
      exact (hx ⟨of_decide_eq_true (zI_n0.mp c8), of_decide_eq_true (zI_n0.mp c15)⟩).elim
    · skip
      refine aw_iconst 0 q_B_district_18 rfl ?_
      exact aw_iret .boolean q_B_district_19 rfl rfl rfl rfl
def diA (A : ST) (u d : Nat) : ST := x_s_di A (va_up (x_di A) u d)
theorem c_B_district (sc : am_S) (A : ST) (q : QS) (D : ST) (t : TS) (u d : Nat) (b : bd A) (hu : u < x_nt A) (hd : d < 4) : AM sc m_B_district 1 [.ref 1, .int (nI u), .int (nI d)] (hp A q D t) (some (.int 1)) (hp (diA (fgA A) u d) (fgq q) D t) := by
  refine AM.of (by decide) (Nat.le_of_ble_eq_true rfl) ?_
  show AW sc m_B_district 1 0 [some (.ref 1), some (.int (nI u)), some (.int (nI d))] [] _ _ _
  have b2 := b.2.1
  refine aw_aload_n 0 q_B_district_0 rfl rfl ?_
  refine aw_get 0 q_B_district_1 fl_B_23 rfl rfl ?_
  refine aw_iload_n 1 q_B_district_4 rfl rfl ?_
  refine aw_V1 q_B_district_5 st_B_64 rfl (by omega) (Nat.le_of_ble_eq_true rfl) (c_W_isThing _ _ _ _ _ _) ?_
  refine aw_if_eq 18 q_B_district_8 rfl (fun c8 => ?_) (fun c8 => ?_)
  · skip
    first
      | exact absurd (zI_0.mp c8) (by rw [isN hu (by omega)]; decide)
      | exact absurd (zI_0.mp c15) (by rw [show (4 : Int32) = nI 4 from rfl, isN hd (by omega)]; decide)
  · skip
    refine aw_iload_n 2 q_B_district_11 rfl rfl ?_
    refine aw_S1 q_B_district_12 st_B_110 (by omega) (Nat.le_of_ble_eq_true rfl) (c_B_isDistrict _ _ _) ?_
    refine aw_if_ne 20 q_B_district_15 rfl (fun c15 => ?_) (fun c15 => ?_)
    · skip
      refine aw_aload_n 0 q_B_district_20 rfl rfl ?_
      refine aw_V0v q_B_district_21 st_B_57 rfl (by omega) (Nat.le_of_ble_eq_true rfl) (c_B_forget _ _ _ _ _) ?_
      refine aw_aload_n 0 q_B_district_24 rfl rfl ?_
      refine aw_get 0 q_B_district_25 fl_B_23 rfl rfl ?_
      refine aw_get 4 q_B_district_28 fl_B_113 rfl rfl ?_
      refine aw_iload_n 1 q_B_district_31 rfl rfl ?_
      refine aw_iload_n 2 q_B_district_32 rfl rfl ?_
      refine wa_4 _ q_B_district_33 (by omega) ?_
      refine aw_iconst 1 q_B_district_34 rfl ?_
      exact aw_iret .boolean q_B_district_35 rfl rfl rfl rfl
    · skip
      first
        | exact absurd (zI_0.mp c8) (by rw [isN hu (by omega)]; decide)
        | exact absurd (zI_0.mp c15) (by rw [show (4 : Int32) = nI 4 from rfl, isN hd (by omega)]; decide)
theorem c_B_fair_no (sc : am_S) (A : ST) (q : QS) (D : ST) (t : TS) (v : Int64) (hx : 10000000 < v) : AM sc m_B_fair 1 [.ref 1, .long v] (hp A q D t) (some (.int 0)) (hp A q D t) := by
  refine AM.of (by decide) (Nat.le_of_ble_eq_true rfl) ?_
  show AW sc m_B_fair 1 0 [some (.ref 1), some (.long v), none] [] _ _ _
  refine aw_lload_n 1 q_B_fair_0 rfl rfl ?_
  refine aw_ldc2 10000000 q_B_fair_1 (am_in2 (i := 66) rfl rfl) ?_
  refine aw_lcmp_le 10 q_B_fair_4 q_B_fair_5 rfl (fun c4 => ?_) (fun c4 => ?_)
  · skip
    exact absurd c4 (Int64.not_le.mpr hx)
  · skip
    refine aw_iconst 0 q_B_fair_8 rfl ?_
    exact aw_iret .boolean q_B_fair_9 rfl rfl rfl rfl
def faA (A : ST) (v : Int) : ST := x_s_fa A (if v < 0 then -1 else v)
theorem c_B_fair (sc : am_S) (A : ST) (q : QS) (D : ST) (t : TS) (v : Int) (hv : -9223372036854775808 ≤ v ∧ v ≤ 10000000) : AM sc m_B_fair 1 [.ref 1, .long (lZ v)] (hp A q D t) (some (.int 1)) (hp (faA (fgA A) v) (fgq q) D t) := by
  refine AM.of (by decide) (Nat.le_of_ble_eq_true rfl) ?_
  show AW sc m_B_fair 1 0 [some (.ref 1), some (.long (lZ v)), none] [] _ _ _
  refine aw_lload_n 1 q_B_fair_0 rfl rfl ?_
  refine aw_ldc2 (lZ (10000000)) q_B_fair_1 (am_in2 (i := 66) rfl rfl) ?_
  refine aw_lcmp_le 10 q_B_fair_4 q_B_fair_5 rfl (fun c4 => ?_) (fun c4 => ?_)
  · skip
    refine aw_aload_n 0 q_B_fair_10 rfl rfl ?_
    refine aw_V0v q_B_fair_11 st_B_57 rfl (by omega) (Nat.le_of_ble_eq_true rfl) (c_B_forget _ _ _ _ _) ?_
    refine aw_aload_n 0 q_B_fair_14 rfl rfl ?_
    refine aw_get 0 q_B_fair_15 fl_B_23 rfl rfl ?_
    refine aw_lload_n 1 q_B_fair_18 rfl rfl ?_
    refine aw_lconst (lZ 0) q_B_fair_19 rfl ?_
    refine aw_lcmp_ge 30 q_B_fair_20 q_B_fair_21 rfl (fun c20 => ?_) (fun c20 => ?_)
    · skip
      refine aw_lload_n 1 q_B_fair_30 rfl rfl ?_
      refine wp_W_14 _ q_B_fair_31 fl_B_121 ?_
      refine aw_iconst 1 q_B_fair_34 rfl ?_
      exact aw_iret .boolean q_B_fair_35 rfl rfl rfl (by have e := (lZ_le (by omega) (by omega)).mp c20; unfold faA; rw [if_neg (by omega)])
    · skip
      refine aw_ldc2 (lZ (-1)) q_B_fair_24 (am_in2 (i := 67) rfl rfl) ?_
      refine aw_goto 31 q_B_fair_27 rfl ?_
      refine wp_W_14 _ q_B_fair_31 fl_B_121 ?_
      refine aw_iconst 1 q_B_fair_34 rfl ?_
      exact aw_iret .boolean q_B_fair_35 rfl rfl rfl (by have e := mt (lZ_le (by omega) (by omega)).mpr c20; unfold faA; rw [if_pos (by omega)])
  · skip
    exact absurd ((lZ_le (by omega) (by omega)).mpr hv.2) c4
