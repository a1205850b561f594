/-! CONTRACTS 25: the reference is told of choices and joins; it is asked small things -/
theorem c_M_choice_no (sc : am_S) (A : ST) (q : QS) (D : ST) (t : TS) (x y : Int32) (v w : Int64) (b : bd D) (hx : ¬ ((0 ≤ x.toInt ∧ x.toInt ≤ (x_nt D : Int) - 1) ∧ (0 ≤ y.toInt ∧ y.toInt ≤ (x_ny D : Int) - 1) ∧ (¬ v < lZ 0 ∧ ¬ lZ 1000000 < v) ∧ (¬ w < lZ 0 ∧ ¬ lZ 1000000 < w) ∧ x_nc D < 14)) : AM sc m_M_choice 1 [.ref 50, .int x, .int y, .long v, .long w] (hp A q D t) (some (.int (-1))) (hp A q D t) := by
  refine AM.of (by decide) (Nat.le_of_ble_eq_true rfl) ?_
  show AW sc m_M_choice 1 0 [some (.ref 50), some (.int x), some (.int y), some (.long v), none, some (.long w), none, none] [] _ _ _
  have b1 := b.1
  have b2 := b.2.1
  have b3 := b.2.2.1
  refine aw_iload_n 1 q_M_choice_0 rfl rfl ?_
  refine aw_i2l q_M_choice_1 ?_
  refine aw_lconst (lZ 0) q_M_choice_2 rfl ?_
  refine aw_aload_n 0 q_M_choice_3 rfl rfl ?_
  refine aw_get 1 q_M_choice_4 fl_M_76 rfl rfl ?_
  refine aw_i2l q_M_choice_7 ?_
  refine aw_lconst (lZ 1) q_M_choice_8 rfl ?_
  refine aw_lsub q_M_choice_9 ?_
  rw [nt_m1 _ (by omega)]
  refine aw_S3 q_M_choice_10 st_M_72 (by omega) (Nat.le_of_ble_eq_true rfl) (c_M_in _ _ _ _ _) ?_
  refine aw_if_eq 59 q_M_choice_13 rfl (fun c13 => ?_) (fun c13 => ?_)
  · skip
    refine aw_iconst 0 q_M_choice_59 rfl ?_
    refine aw_istore q_M_choice_60 rfl rfl ?_
    refine aw_iload q_M_choice_62 rfl ?_
    refine aw_if_eq 76 q_M_choice_64 rfl (fun c64 => ?_) (fun c64 => ?_)
    · skip
      refine aw_iconst (-1) q_M_choice_76 rfl ?_
      exact aw_iret .int q_M_choice_77 rfl rfl rfl rfl
    · skip
      refine aw_aload_n 0 q_M_choice_67 rfl rfl ?_
      refine aw_get 4 q_M_choice_68 fl_M_84 rfl rfl ?_
      refine aw_bipush 14 q_M_choice_71 rfl ?_
      refine aw_icmp_ne 78 q_M_choice_73 rfl (fun c73 => ?_) (fun c73 => ?_)
      · skip
        first
          | exact absurd rfl c64
          | exact (hx ⟨of_decide_eq_true (by rw [← i2l_in x (by omega) (by omega)]; exact zI_n0.mp c13), of_decide_eq_true (by rw [← i2l_in y (by omega) (by omega)]; exact zI_n0.mp c29), of_decide_eq_true (zI_n0.mp c40), of_decide_eq_true (zI_n0.mp c52), by have := nI_ne (b := 14) (by omega) (by omega) c73; omega⟩).elim
      · skip
        refine aw_iconst (-1) q_M_choice_76 rfl ?_
        exact aw_iret .int q_M_choice_77 rfl rfl rfl rfl
  · skip
    refine aw_iload_n 2 q_M_choice_16 rfl rfl ?_
    refine aw_i2l q_M_choice_17 ?_
    refine aw_lconst (lZ 0) q_M_choice_18 rfl ?_
    refine aw_aload_n 0 q_M_choice_19 rfl rfl ?_
    refine aw_get 0 q_M_choice_20 fl_M_63 rfl rfl ?_
    refine aw_i2l q_M_choice_23 ?_
    refine aw_lconst (lZ 1) q_M_choice_24 rfl ?_
    refine aw_lsub q_M_choice_25 ?_
    rw [nt_m1 _ (by omega)]
    refine aw_S3 q_M_choice_26 st_M_72 (by omega) (Nat.le_of_ble_eq_true rfl) (c_M_in _ _ _ _ _) ?_
    refine aw_if_eq 59 q_M_choice_29 rfl (fun c29 => ?_) (fun c29 => ?_)
    · skip
      refine aw_iconst 0 q_M_choice_59 rfl ?_
      refine aw_istore q_M_choice_60 rfl rfl ?_
      refine aw_iload q_M_choice_62 rfl ?_
      refine aw_if_eq 76 q_M_choice_64 rfl (fun c64 => ?_) (fun c64 => ?_)
      · skip
        refine aw_iconst (-1) q_M_choice_76 rfl ?_
        exact aw_iret .int q_M_choice_77 rfl rfl rfl rfl
      · skip
        refine aw_aload_n 0 q_M_choice_67 rfl rfl ?_
        refine aw_get 4 q_M_choice_68 fl_M_84 rfl rfl ?_
        refine aw_bipush 14 q_M_choice_71 rfl ?_
        refine aw_icmp_ne 78 q_M_choice_73 rfl (fun c73 => ?_) (fun c73 => ?_)
        · skip
          first
            | exact absurd rfl c64
            | exact (hx ⟨of_decide_eq_true (by rw [← i2l_in x (by omega) (by omega)]; exact zI_n0.mp c13), of_decide_eq_true (by rw [← i2l_in y (by omega) (by omega)]; exact zI_n0.mp c29), of_decide_eq_true (zI_n0.mp c40), of_decide_eq_true (zI_n0.mp c52), by have := nI_ne (b := 14) (by omega) (by omega) c73; omega⟩).elim
        · skip
          refine aw_iconst (-1) q_M_choice_76 rfl ?_
          exact aw_iret .int q_M_choice_77 rfl rfl rfl rfl
    · skip
      refine aw_lload_n 3 q_M_choice_32 rfl rfl ?_
      refine aw_lconst (lZ 0) q_M_choice_33 rfl ?_
      refine aw_ldc2 (lZ (1000000)) q_M_choice_34 (am_in3 (i := 214) rfl rfl) ?_
      refine aw_S3 q_M_choice_37 st_M_72 (by omega) (Nat.le_of_ble_eq_true rfl) (c_M_in _ _ _ _ _) ?_
      refine aw_if_eq 59 q_M_choice_40 rfl (fun c40 => ?_) (fun c40 => ?_)
      · skip
        refine aw_iconst 0 q_M_choice_59 rfl ?_
        refine aw_istore q_M_choice_60 rfl rfl ?_
        refine aw_iload q_M_choice_62 rfl ?_
        refine aw_if_eq 76 q_M_choice_64 rfl (fun c64 => ?_) (fun c64 => ?_)
        · skip
          refine aw_iconst (-1) q_M_choice_76 rfl ?_
          exact aw_iret .int q_M_choice_77 rfl rfl rfl rfl
        · skip
          refine aw_aload_n 0 q_M_choice_67 rfl rfl ?_
          refine aw_get 4 q_M_choice_68 fl_M_84 rfl rfl ?_
          refine aw_bipush 14 q_M_choice_71 rfl ?_
          refine aw_icmp_ne 78 q_M_choice_73 rfl (fun c73 => ?_) (fun c73 => ?_)
          · skip
            first
              | exact absurd rfl c64
              | exact (hx ⟨of_decide_eq_true (by rw [← i2l_in x (by omega) (by omega)]; exact zI_n0.mp c13), of_decide_eq_true (by rw [← i2l_in y (by omega) (by omega)]; exact zI_n0.mp c29), of_decide_eq_true (zI_n0.mp c40), of_decide_eq_true (zI_n0.mp c52), by have := nI_ne (b := 14) (by omega) (by omega) c73; omega⟩).elim
          · skip
            refine aw_iconst (-1) q_M_choice_76 rfl ?_
            exact aw_iret .int q_M_choice_77 rfl rfl rfl rfl
      · skip
        refine aw_lload q_M_choice_43 rfl ?_
        refine aw_lconst (lZ 0) q_M_choice_45 rfl ?_
        refine aw_ldc2 (lZ (1000000)) q_M_choice_46 (am_in3 (i := 214) rfl rfl) ?_
        refine aw_S3 q_M_choice_49 st_M_72 (by omega) (Nat.le_of_ble_eq_true rfl) (c_M_in _ _ _ _ _) ?_
        refine aw_if_eq 59 q_M_choice_52 rfl (fun c52 => ?_) (fun c52 => ?_)
        · skip
          refine aw_iconst 0 q_M_choice_59 rfl ?_
          refine aw_istore q_M_choice_60 rfl rfl ?_
          refine aw_iload q_M_choice_62 rfl ?_
          refine aw_if_eq 76 q_M_choice_64 rfl (fun c64 => ?_) (fun c64 => ?_)
          · skip
            refine aw_iconst (-1) q_M_choice_76 rfl ?_
            exact aw_iret .int q_M_choice_77 rfl rfl rfl rfl
          · skip
            refine aw_aload_n 0 q_M_choice_67 rfl rfl ?_
            refine aw_get 4 q_M_choice_68 fl_M_84 rfl rfl ?_
            refine aw_bipush 14 q_M_choice_71 rfl ?_
            refine aw_icmp_ne 78 q_M_choice_73 rfl (fun c73 => ?_) (fun c73 => ?_)
            · skip
              first
                | exact absurd rfl c64
                | exact (hx ⟨of_decide_eq_true (by rw [← i2l_in x (by omega) (by omega)]; exact zI_n0.mp c13), of_decide_eq_true (by rw [← i2l_in y (by omega) (by omega)]; exact zI_n0.mp c29), of_decide_eq_true (zI_n0.mp c40), of_decide_eq_true (zI_n0.mp c52), by have := nI_ne (b := 14) (by omega) (by omega) c73; omega⟩).elim
            · skip
              refine aw_iconst (-1) q_M_choice_76 rfl ?_
              exact aw_iret .int q_M_choice_77 rfl rfl rfl rfl
        · skip
          refine aw_iconst 1 q_M_choice_55 rfl ?_
          refine aw_goto 60 q_M_choice_56 rfl ?_
          refine aw_istore q_M_choice_60 rfl rfl ?_
          refine aw_iload q_M_choice_62 rfl ?_
          refine aw_if_eq 76 q_M_choice_64 rfl (fun c64 => ?_) (fun c64 => ?_)
          · skip
            refine aw_iconst (-1) q_M_choice_76 rfl ?_
            exact aw_iret .int q_M_choice_77 rfl rfl rfl rfl
          · skip
            refine aw_aload_n 0 q_M_choice_67 rfl rfl ?_
            refine aw_get 4 q_M_choice_68 fl_M_84 rfl rfl ?_
            refine aw_bipush 14 q_M_choice_71 rfl ?_
            refine aw_icmp_ne 78 q_M_choice_73 rfl (fun c73 => ?_) (fun c73 => ?_)
            · skip
              first
                | exact absurd rfl c64
                | exact (hx ⟨of_decide_eq_true (by rw [← i2l_in x (by omega) (by omega)]; exact zI_n0.mp c13), of_decide_eq_true (by rw [← i2l_in y (by omega) (by omega)]; exact zI_n0.mp c29), of_decide_eq_true (zI_n0.mp c40), of_decide_eq_true (zI_n0.mp c52), by have := nI_ne (b := 14) (by omega) (by omega) c73; omega⟩).elim
            · skip
              refine aw_iconst (-1) q_M_choice_76 rfl ?_
              exact aw_iret .int q_M_choice_77 rfl rfl rfl rfl
theorem c_M_choice (sc : am_S) (A : ST) (q : QS) (D : ST) (t : TS) (u y : Nat) (v w : Int) (b : bd D) (hu : u < x_nt D) (hy : y < x_ny D) (hn : x_nc D < 14) (hv : 0 ≤ v ∧ v ≤ 1000000) (hw : 0 ≤ w ∧ w ≤ 1000000) : AM sc m_M_choice 1 [.ref 50, .int (nI u), .int (nI y), .long (lZ v), .long (lZ w)] (hp A q D t) (some (.int (nI (x_nc D)))) (hp A q (fgA (chA D u y v w)) t) := by
  refine AM.of (by decide) (Nat.le_of_ble_eq_true rfl) ?_
  show AW sc m_M_choice 1 0 [some (.ref 50), some (.int (nI u)), some (.int (nI y)), some (.long (lZ v)), none, some (.long (lZ w)), none, none] [] _ _ _
  have b1 := b.1
  have b2 := b.2.1
  refine aw_iload_n 1 q_M_choice_0 rfl rfl ?_
  refine aw_i2l q_M_choice_1 ?_
  refine aw_lconst (lZ 0) q_M_choice_2 rfl ?_
  refine aw_aload_n 0 q_M_choice_3 rfl rfl ?_
  refine aw_get 1 q_M_choice_4 fl_M_76 rfl rfl ?_
  refine aw_i2l q_M_choice_7 ?_
  refine aw_lconst (lZ 1) q_M_choice_8 rfl ?_
  refine aw_lsub q_M_choice_9 ?_
  rw [nt_m1 _ (by omega)]
  refine aw_S3 q_M_choice_10 st_M_72 (by omega) (Nat.le_of_ble_eq_true rfl) (c_M_in _ _ _ _ _) ?_
  refine aw_if_eq 59 q_M_choice_13 rfl (fun c13 => ?_) (fun c13 => ?_)
  · skip
    first
      | exact absurd (zI_0.mp c13) (by rw [i2l_in _ (by omega) (by omega), nI_toInt (by omega)]; simp; omega)
      | exact absurd (zI_0.mp c29) (by rw [i2l_in _ (by omega) (by omega), nI_toInt (by omega)]; simp; omega)
      | exact absurd (zI_0.mp c40) (by rw [inN (by omega) (by omega) (by omega)]; simp; omega)
      | exact absurd (zI_0.mp c52) (by rw [inN (by omega) (by omega) (by omega)]; simp; omega)
  · skip
    refine aw_iload_n 2 q_M_choice_16 rfl rfl ?_
    refine aw_i2l q_M_choice_17 ?_
    refine aw_lconst (lZ 0) q_M_choice_18 rfl ?_
    refine aw_aload_n 0 q_M_choice_19 rfl rfl ?_
    refine aw_get 0 q_M_choice_20 fl_M_63 rfl rfl ?_
    refine aw_i2l q_M_choice_23 ?_
    refine aw_lconst (lZ 1) q_M_choice_24 rfl ?_
    refine aw_lsub q_M_choice_25 ?_
    rw [nt_m1 _ (by omega)]
    refine aw_S3 q_M_choice_26 st_M_72 (by omega) (Nat.le_of_ble_eq_true rfl) (c_M_in _ _ _ _ _) ?_
    refine aw_if_eq 59 q_M_choice_29 rfl (fun c29 => ?_) (fun c29 => ?_)
    · skip
      first
        | exact absurd (zI_0.mp c13) (by rw [i2l_in _ (by omega) (by omega), nI_toInt (by omega)]; simp; omega)
        | exact absurd (zI_0.mp c29) (by rw [i2l_in _ (by omega) (by omega), nI_toInt (by omega)]; simp; omega)
        | exact absurd (zI_0.mp c40) (by rw [inN (by omega) (by omega) (by omega)]; simp; omega)
        | exact absurd (zI_0.mp c52) (by rw [inN (by omega) (by omega) (by omega)]; simp; omega)
    · skip
      refine aw_lload_n 3 q_M_choice_32 rfl rfl ?_
      refine aw_lconst (lZ 0) q_M_choice_33 rfl ?_
      refine aw_ldc2 (lZ (1000000)) q_M_choice_34 (am_in3 (i := 214) rfl rfl) ?_
      refine aw_S3 q_M_choice_37 st_M_72 (by omega) (Nat.le_of_ble_eq_true rfl) (c_M_in _ _ _ _ _) ?_
      refine aw_if_eq 59 q_M_choice_40 rfl (fun c40 => ?_) (fun c40 => ?_)
      · skip
        first
          | exact absurd (zI_0.mp c13) (by rw [i2l_in _ (by omega) (by omega), nI_toInt (by omega)]; simp; omega)
          | exact absurd (zI_0.mp c29) (by rw [i2l_in _ (by omega) (by omega), nI_toInt (by omega)]; simp; omega)
          | exact absurd (zI_0.mp c40) (by rw [inN (by omega) (by omega) (by omega)]; simp; omega)
          | exact absurd (zI_0.mp c52) (by rw [inN (by omega) (by omega) (by omega)]; simp; omega)
      · skip
        refine aw_lload q_M_choice_43 rfl ?_
        refine aw_lconst (lZ 0) q_M_choice_45 rfl ?_
        refine aw_ldc2 (lZ (1000000)) q_M_choice_46 (am_in3 (i := 214) rfl rfl) ?_
        refine aw_S3 q_M_choice_49 st_M_72 (by omega) (Nat.le_of_ble_eq_true rfl) (c_M_in _ _ _ _ _) ?_
        refine aw_if_eq 59 q_M_choice_52 rfl (fun c52 => ?_) (fun c52 => ?_)
        · skip
          first
            | exact absurd (zI_0.mp c13) (by rw [i2l_in _ (by omega) (by omega), nI_toInt (by omega)]; simp; omega)
            | exact absurd (zI_0.mp c29) (by rw [i2l_in _ (by omega) (by omega), nI_toInt (by omega)]; simp; omega)
            | exact absurd (zI_0.mp c40) (by rw [inN (by omega) (by omega) (by omega)]; simp; omega)
            | exact absurd (zI_0.mp c52) (by rw [inN (by omega) (by omega) (by omega)]; simp; omega)
        · skip
          refine aw_iconst 1 q_M_choice_55 rfl ?_
          refine aw_goto 60 q_M_choice_56 rfl ?_
          refine aw_istore q_M_choice_60 rfl rfl ?_
          refine aw_iload q_M_choice_62 rfl ?_
          refine aw_if_eq 76 q_M_choice_64 rfl (fun c64 => ?_) (fun c64 => ?_)
          · skip
            first
              | exact absurd c64 (by decide)
              | exact absurd (nI_eq' (b := 14) (by omega) (by omega) c73) (by omega)
          · skip
            refine aw_aload_n 0 q_M_choice_67 rfl rfl ?_
            refine aw_get 4 q_M_choice_68 fl_M_84 rfl rfl ?_
            refine aw_bipush 14 q_M_choice_71 rfl ?_
            refine aw_icmp_ne 78 q_M_choice_73 rfl (fun c73 => ?_) (fun c73 => ?_)
            · skip
              refine aw_aload_n 0 q_M_choice_78 rfl rfl ?_
              refine aw_get 5 q_M_choice_79 fl_M_16 rfl rfl ?_
              refine aw_aload_n 0 q_M_choice_82 rfl rfl ?_
              refine aw_get 4 q_M_choice_83 fl_M_84 rfl rfl ?_
              refine aw_iload_n 1 q_M_choice_86 rfl rfl ?_
              refine wa_52 _ q_M_choice_87 (by omega) ?_
              refine aw_aload_n 0 q_M_choice_88 rfl rfl ?_
              refine aw_get 6 q_M_choice_89 fl_M_19 rfl rfl ?_
              refine aw_aload_n 0 q_M_choice_92 rfl rfl ?_
              refine aw_get 4 q_M_choice_93 fl_M_84 rfl rfl ?_
              try simp only [xg_nc_th, xg_nc_yr, xg_nc_co, xg_nc_wo, xg_yr_th, xg_co_th, xg_co_yr, xg_wo_th, xg_wo_yr, xg_wo_co]
              refine aw_iload_n 2 q_M_choice_96 rfl rfl ?_
              refine wa_53 _ q_M_choice_97 (by omega) ?_
              try simp only [xg_nc_th, xg_nc_yr, xg_nc_co, xg_nc_wo, xg_yr_th, xg_co_th, xg_co_yr, xg_wo_th, xg_wo_yr, xg_wo_co]
              refine aw_aload_n 0 q_M_choice_98 rfl rfl ?_
              refine aw_get 7 q_M_choice_99 fl_M_22 rfl rfl ?_
              refine aw_aload_n 0 q_M_choice_102 rfl rfl ?_
              refine aw_get 4 q_M_choice_103 fl_M_84 rfl rfl ?_
              try simp only [xg_nc_th, xg_nc_yr, xg_nc_co, xg_nc_wo, xg_yr_th, xg_co_th, xg_co_yr, xg_wo_th, xg_wo_yr, xg_wo_co]
              refine aw_lload_n 3 q_M_choice_106 rfl rfl ?_
              refine wa_54 _ q_M_choice_107 (by omega) ?_
              try simp only [xg_nc_th, xg_nc_yr, xg_nc_co, xg_nc_wo, xg_yr_th, xg_co_th, xg_co_yr, xg_wo_th, xg_wo_yr, xg_wo_co]
              refine aw_aload_n 0 q_M_choice_108 rfl rfl ?_
              refine aw_get 8 q_M_choice_109 fl_M_26 rfl rfl ?_
              refine aw_aload_n 0 q_M_choice_112 rfl rfl ?_
              refine aw_get 4 q_M_choice_113 fl_M_84 rfl rfl ?_
              try simp only [xg_nc_th, xg_nc_yr, xg_nc_co, xg_nc_wo, xg_yr_th, xg_co_th, xg_co_yr, xg_wo_th, xg_wo_yr, xg_wo_co]
              refine aw_lload q_M_choice_116 rfl ?_
              refine wa_55 _ q_M_choice_118 (by omega) ?_
              try simp only [xg_nc_th, xg_nc_yr, xg_nc_co, xg_nc_wo, xg_yr_th, xg_co_th, xg_co_yr, xg_wo_th, xg_wo_yr, xg_wo_co]
              refine aw_aload_n 0 q_M_choice_119 rfl rfl ?_
              refine aw_dup q_M_choice_120 rfl ?_
              refine aw_get 4 q_M_choice_121 fl_M_84 rfl rfl ?_
              try simp only [xg_nc_th, xg_nc_yr, xg_nc_co, xg_nc_wo, xg_yr_th, xg_co_th, xg_co_yr, xg_wo_th, xg_wo_yr, xg_wo_co]
              refine aw_iconst 1 q_M_choice_124 rfl ?_
              refine aw_iadd q_M_choice_125 ?_
              rw [nI_1]
              refine wp_M_4 _ q_M_choice_126 fl_M_84 ?_
              refine aw_aload_n 0 q_M_choice_129 rfl rfl ?_
              refine aw_V0v q_M_choice_130 st_M_79 rfl (by omega) (Nat.le_of_ble_eq_true rfl) (c_M_tell _ _ _ _ _) ?_
              refine aw_aload_n 0 q_M_choice_133 rfl rfl ?_
              refine aw_get 4 q_M_choice_134 fl_M_84 rfl rfl ?_
              simp only [fg_nc, xg_nc_nc]
              refine aw_iconst 1 q_M_choice_137 rfl ?_
              refine aw_isub q_M_choice_138 ?_
              rw [nI_pred]
              exact aw_iret .int q_M_choice_139 rfl rfl rfl rfl
            · skip
              first
                | exact absurd c64 (by decide)
                | exact absurd (nI_eq' (b := 14) (by omega) (by omega) c73) (by omega)
def jex (D : ST) (u v : Nat) : Nat → Bool
  | 0 => false
  | k + 1 => jex D u v k || (decide (x_ja D k = u) && decide (x_jb D k = v) || decide (x_ja D k = v) && decide (x_jb D k = u))
theorem jex_t {D : ST} {u v k : Nat} (h : (decide (x_ja D k = u) && decide (x_jb D k = v) || decide (x_ja D k = v) && decide (x_jb D k = u)) = true) : ∀ {n : Nat}, k < n → jex D u v n = true
  | 0, hn => by omega
  | n + 1, hn => by
    by_cases e : k = n
    · subst e
      simp only [jex, h, Bool.or_true]
    · simp only [jex, jex_t h (n := n) (by omega), Bool.true_or]
def jnM (D : ST) (u v : Nat) (s : Int) : ST := x_s_nj (x_s_js (x_s_jb (x_s_ja D (va_up (x_ja D) (x_nj D) u)) (va_up (x_jb D) (x_nj D) v)) (va_up (x_js D) (x_nj D) s)) (x_nj D + 1)
theorem c_M_join_no1 (sc : am_S) (A : ST) (q : QS) (D : ST) (t : TS) (x y : Int32) (v : Int64) (hx : ¬ ((¬ x < 0 ∧ ¬ nI (x_nc D) ≤ x) ∧ (¬ y < 0 ∧ ¬ nI (x_nc D) ≤ y) ∧ (¬ v < 0 ∧ ¬ 1000000 < v))) : AM sc m_M_join 1 [.ref 50, .int x, .int y, .long v] (hp A q D t) (some (.int 0)) (hp A q D t) := by
  refine AM.of (by decide) (Nat.le_of_ble_eq_true rfl) ?_
  show AW sc m_M_join 1 0 [some (.ref 50), some (.int x), some (.int y), some (.long v), none, none] [] _ _ _
  refine aw_aload_n 0 q_M_join_0 rfl rfl ?_
  refine aw_iload_n 1 q_M_join_1 rfl rfl ?_
  refine aw_V1 q_M_join_2 st_M_87 rfl (by omega) (Nat.le_of_ble_eq_true rfl) (c_M_isChoice _ _ _ _ _ _) ?_
  refine aw_if_eq 71 q_M_join_5 rfl (fun c5 => ?_) (fun c5 => ?_)
  · skip
    refine aw_iconst 0 q_M_join_71 rfl ?_
    exact aw_iret .boolean q_M_join_72 rfl rfl rfl rfl
  · skip
    refine aw_aload_n 0 q_M_join_8 rfl rfl ?_
    refine aw_iload_n 2 q_M_join_9 rfl rfl ?_
    refine aw_V1 q_M_join_10 st_M_87 rfl (by omega) (Nat.le_of_ble_eq_true rfl) (c_M_isChoice _ _ _ _ _ _) ?_
    refine aw_if_eq 71 q_M_join_13 rfl (fun c13 => ?_) (fun c13 => ?_)
    · skip
      refine aw_iconst 0 q_M_join_71 rfl ?_
      exact aw_iret .boolean q_M_join_72 rfl rfl rfl rfl
    · skip
      refine aw_lload_n 3 q_M_join_16 rfl rfl ?_
      refine aw_lconst 0 q_M_join_17 rfl ?_
      refine aw_ldc2 1000000 q_M_join_18 (am_in3 (i := 214) rfl rfl) ?_
      refine aw_S3 q_M_join_21 st_M_72 (by omega) (Nat.le_of_ble_eq_true rfl) (c_M_in _ _ _ _ _) ?_
      refine aw_if_eq 71 q_M_join_24 rfl (fun c24 => ?_) (fun c24 => ?_)
      · skip
        refine aw_iconst 0 q_M_join_71 rfl ?_
        exact aw_iret .boolean q_M_join_72 rfl rfl rfl rfl
      · skip
        exact (hx ⟨of_decide_eq_true (zI_n0.mp c5), of_decide_eq_true (zI_n0.mp c13), of_decide_eq_true (zI_n0.mp c24)⟩).elim
theorem l_M_join_hit (sc : am_S) (A : ST) (q : QS) (D : ST) (t : TS) (u v : Nat) (s : Int) (jd : jdo D) (b : bd D) (hu : u < x_nc D) (hv : v < x_nc D) (hj : jex D u v (x_nj D) = true) : ∀ (n i : Nat), x_nj D - i = n → i ≤ x_nj D → jex D u v i = false → AW sc m_M_join 1 76 [some (.ref 50), some (.int (nI u)), some (.int (nI v)), some (.long (lZ s)), none, some (.int (nI i))] [] (hp A q D t) (some (.int 0)) (hp A q D t) := by
  intro n
  induction n using Nat.strongRecOn with
  | _ n ih =>
    intro i hn hi
    intro hw
    have b3 := b.2.2.1
    have j0 := jd.1
    have jA := jd.2.1 i
    have jB := jd.2.2.1 i
    refine aw_iload q_M_join_76 rfl ?_
    refine aw_aload_n 0 q_M_join_78 rfl rfl ?_
    refine aw_get 11 q_M_join_79 fl_M_103 rfl rfl ?_
    refine aw_icmp_ge 137 q_M_join_82 rfl (fun c82 => ?_) (fun c82 => ?_)
    · skip
      rw [show i = x_nj D from Nat.le_antisymm hi (nge_ge c82 (by omega) (by omega)), hj] at hw
      cases hw
    · skip
      have hlt : i < x_nj D := nge_lt c82 (by omega) (by omega)
      refine aw_aload_n 0 q_M_join_85 rfl rfl ?_
      refine aw_get 12 q_M_join_86 fl_M_32 rfl rfl ?_
      refine aw_iload q_M_join_89 rfl ?_
      refine aw_ialdN q_M_join_91 rfl (by omega) rfl ?_
      refine aw_iload_n 1 q_M_join_92 rfl rfl ?_
      refine aw_icmp_ne 107 q_M_join_93 rfl (fun c93 => ?_) (fun c93 => ?_)
      · skip
        refine aw_aload_n 0 q_M_join_107 rfl rfl ?_
        refine aw_get 12 q_M_join_108 fl_M_32 rfl rfl ?_
        refine aw_iload q_M_join_111 rfl ?_
        refine aw_ialdN q_M_join_113 rfl (by omega) rfl ?_
        refine aw_iload_n 2 q_M_join_114 rfl rfl ?_
        refine aw_icmp_ne 131 q_M_join_115 rfl (fun c115 => ?_) (fun c115 => ?_)
        · skip
          refine aw_iinc _ q_M_join_131 rfl (am_inc _) rfl rfl ?_
          refine aw_goto 76 q_M_join_134 rfl ?_
          refine ih _ (by omega) (i + 1) rfl (by omega) ?_
          simp only [jex, hw, Bool.false_or]
          first
            | (have e1 := nI_ne (by omega) (by omega) c93; have e2 := nI_ne (by omega) (by omega) c115; simp [e1, e2])
            | (have e1 := nI_ne (by omega) (by omega) c93; have e2 := nI_ne (by omega) (by omega) c126; simp [e1, e2])
            | (have e1 := nI_ne (by omega) (by omega) c104; have e2 := nI_ne (by omega) (by omega) c115; simp [e1, e2])
            | (have e1 := nI_ne (by omega) (by omega) c104; have e2 := nI_ne (by omega) (by omega) c126; simp [e1, e2])
        · skip
          refine aw_aload_n 0 q_M_join_118 rfl rfl ?_
          refine aw_get 13 q_M_join_119 fl_M_35 rfl rfl ?_
          refine aw_iload q_M_join_122 rfl ?_
          refine aw_ialdN q_M_join_124 rfl (by omega) rfl ?_
          refine aw_iload_n 1 q_M_join_125 rfl rfl ?_
          refine aw_icmp_ne 131 q_M_join_126 rfl (fun c126 => ?_) (fun c126 => ?_)
          · skip
            refine aw_iinc _ q_M_join_131 rfl (am_inc _) rfl rfl ?_
            refine aw_goto 76 q_M_join_134 rfl ?_
            refine ih _ (by omega) (i + 1) rfl (by omega) ?_
            simp only [jex, hw, Bool.false_or]
            first
              | (have e1 := nI_ne (by omega) (by omega) c93; have e2 := nI_ne (by omega) (by omega) c115; simp [e1, e2])
              | (have e1 := nI_ne (by omega) (by omega) c93; have e2 := nI_ne (by omega) (by omega) c126; simp [e1, e2])
              | (have e1 := nI_ne (by omega) (by omega) c104; have e2 := nI_ne (by omega) (by omega) c115; simp [e1, e2])
              | (have e1 := nI_ne (by omega) (by omega) c104; have e2 := nI_ne (by omega) (by omega) c126; simp [e1, e2])
          · skip
            refine aw_iconst 0 q_M_join_129 rfl ?_
            exact aw_iret .boolean q_M_join_130 rfl rfl rfl rfl
      · skip
        refine aw_aload_n 0 q_M_join_96 rfl rfl ?_
        refine aw_get 13 q_M_join_97 fl_M_35 rfl rfl ?_
        refine aw_iload q_M_join_100 rfl ?_
        refine aw_ialdN q_M_join_102 rfl (by omega) rfl ?_
        refine aw_iload_n 2 q_M_join_103 rfl rfl ?_
        refine aw_icmp_eq 129 q_M_join_104 rfl (fun c104 => ?_) (fun c104 => ?_)
        · skip
          refine aw_iconst 0 q_M_join_129 rfl ?_
          exact aw_iret .boolean q_M_join_130 rfl rfl rfl rfl
        · skip
          refine aw_aload_n 0 q_M_join_107 rfl rfl ?_
          refine aw_get 12 q_M_join_108 fl_M_32 rfl rfl ?_
          refine aw_iload q_M_join_111 rfl ?_
          refine aw_ialdN q_M_join_113 rfl (by omega) rfl ?_
          refine aw_iload_n 2 q_M_join_114 rfl rfl ?_
          refine aw_icmp_ne 131 q_M_join_115 rfl (fun c115 => ?_) (fun c115 => ?_)
          · skip
            refine aw_iinc _ q_M_join_131 rfl (am_inc _) rfl rfl ?_
            refine aw_goto 76 q_M_join_134 rfl ?_
            refine ih _ (by omega) (i + 1) rfl (by omega) ?_
            simp only [jex, hw, Bool.false_or]
            first
              | (have e1 := nI_ne (by omega) (by omega) c93; have e2 := nI_ne (by omega) (by omega) c115; simp [e1, e2])
              | (have e1 := nI_ne (by omega) (by omega) c93; have e2 := nI_ne (by omega) (by omega) c126; simp [e1, e2])
              | (have e1 := nI_ne (by omega) (by omega) c104; have e2 := nI_ne (by omega) (by omega) c115; simp [e1, e2])
              | (have e1 := nI_ne (by omega) (by omega) c104; have e2 := nI_ne (by omega) (by omega) c126; simp [e1, e2])
          · skip
            refine aw_aload_n 0 q_M_join_118 rfl rfl ?_
            refine aw_get 13 q_M_join_119 fl_M_35 rfl rfl ?_
            refine aw_iload q_M_join_122 rfl ?_
            refine aw_ialdN q_M_join_124 rfl (by omega) rfl ?_
            refine aw_iload_n 1 q_M_join_125 rfl rfl ?_
            refine aw_icmp_ne 131 q_M_join_126 rfl (fun c126 => ?_) (fun c126 => ?_)
            · skip
              refine aw_iinc _ q_M_join_131 rfl (am_inc _) rfl rfl ?_
              refine aw_goto 76 q_M_join_134 rfl ?_
              refine ih _ (by omega) (i + 1) rfl (by omega) ?_
              simp only [jex, hw, Bool.false_or]
              first
                | (have e1 := nI_ne (by omega) (by omega) c93; have e2 := nI_ne (by omega) (by omega) c115; simp [e1, e2])
                | (have e1 := nI_ne (by omega) (by omega) c93; have e2 := nI_ne (by omega) (by omega) c126; simp [e1, e2])
                | (have e1 := nI_ne (by omega) (by omega) c104; have e2 := nI_ne (by omega) (by omega) c115; simp [e1, e2])
                | (have e1 := nI_ne (by omega) (by omega) c104; have e2 := nI_ne (by omega) (by omega) c126; simp [e1, e2])
            · skip
              refine aw_iconst 0 q_M_join_129 rfl ?_
              exact aw_iret .boolean q_M_join_130 rfl rfl rfl rfl
theorem l_M_join (sc : am_S) (A : ST) (q : QS) (D : ST) (t : TS) (u v : Nat) (s : Int) (jd : jdo D) (b : bd D) (hu : u < x_nc D) (hv : v < x_nc D) (hj : jex D u v (x_nj D) = false) (hz : List am_C) (kk : AW sc m_M_join 1 137 [some (.ref 50), some (.int (nI u)), some (.int (nI v)), some (.long (lZ s)), none, some (.int (nI (x_nj D)))] [] (hp A q D t) (some (.int 1)) hz) : ∀ (n i : Nat), x_nj D - i = n → i ≤ x_nj D →  AW sc m_M_join 1 76 [some (.ref 50), some (.int (nI u)), some (.int (nI v)), some (.long (lZ s)), none, some (.int (nI i))] [] (hp A q D t) (some (.int 1)) hz := by
  intro n
  induction n using Nat.strongRecOn with
  | _ n ih =>
    intro i hn hi
    have b3 := b.2.2.1
    have j0 := jd.1
    have jA := jd.2.1 i
    have jB := jd.2.2.1 i
    refine aw_iload q_M_join_76 rfl ?_
    refine aw_aload_n 0 q_M_join_78 rfl rfl ?_
    refine aw_get 11 q_M_join_79 fl_M_103 rfl rfl ?_
    refine aw_icmp_ge 137 q_M_join_82 rfl (fun c82 => ?_) (fun c82 => ?_)
    · skip
      rw [show i = x_nj D from Nat.le_antisymm hi (nge_ge c82 (by omega) (by omega))]
      exact kk
    · skip
      have hlt : i < x_nj D := nge_lt c82 (by omega) (by omega)
      refine aw_aload_n 0 q_M_join_85 rfl rfl ?_
      refine aw_get 12 q_M_join_86 fl_M_32 rfl rfl ?_
      refine aw_iload q_M_join_89 rfl ?_
      refine aw_ialdN q_M_join_91 rfl (by omega) rfl ?_
      refine aw_iload_n 1 q_M_join_92 rfl rfl ?_
      refine aw_icmp_ne 107 q_M_join_93 rfl (fun c93 => ?_) (fun c93 => ?_)
      · skip
        refine aw_aload_n 0 q_M_join_107 rfl rfl ?_
        refine aw_get 12 q_M_join_108 fl_M_32 rfl rfl ?_
        refine aw_iload q_M_join_111 rfl ?_
        refine aw_ialdN q_M_join_113 rfl (by omega) rfl ?_
        refine aw_iload_n 2 q_M_join_114 rfl rfl ?_
        refine aw_icmp_ne 131 q_M_join_115 rfl (fun c115 => ?_) (fun c115 => ?_)
        · skip
          refine aw_iinc _ q_M_join_131 rfl (am_inc _) rfl rfl ?_
          refine aw_goto 76 q_M_join_134 rfl ?_
          exact ih _ (by omega) (i + 1) rfl (by omega)
        · skip
          refine aw_aload_n 0 q_M_join_118 rfl rfl ?_
          refine aw_get 13 q_M_join_119 fl_M_35 rfl rfl ?_
          refine aw_iload q_M_join_122 rfl ?_
          refine aw_ialdN q_M_join_124 rfl (by omega) rfl ?_
          refine aw_iload_n 1 q_M_join_125 rfl rfl ?_
          refine aw_icmp_ne 131 q_M_join_126 rfl (fun c126 => ?_) (fun c126 => ?_)
          · skip
            refine aw_iinc _ q_M_join_131 rfl (am_inc _) rfl rfl ?_
            refine aw_goto 76 q_M_join_134 rfl ?_
            exact ih _ (by omega) (i + 1) rfl (by omega)
          · skip
            first
              | exact absurd (jex_t (D := D) (u := u) (v := v) (k := i) (by rw [nI_eq' (by omega) (by omega) c93, nI_eq' (by omega) (by omega) c104]; simp) hlt) (by rw [hj]; decide)
              | exact absurd (jex_t (D := D) (u := u) (v := v) (k := i) (by rw [nI_eq' (by omega) (by omega) c115, nI_eq' (by omega) (by omega) c126]; simp) hlt) (by rw [hj]; decide)
      · skip
        refine aw_aload_n 0 q_M_join_96 rfl rfl ?_
        refine aw_get 13 q_M_join_97 fl_M_35 rfl rfl ?_
        refine aw_iload q_M_join_100 rfl ?_
        refine aw_ialdN q_M_join_102 rfl (by omega) rfl ?_
        refine aw_iload_n 2 q_M_join_103 rfl rfl ?_
        refine aw_icmp_eq 129 q_M_join_104 rfl (fun c104 => ?_) (fun c104 => ?_)
        · skip
          first
            | exact absurd (jex_t (D := D) (u := u) (v := v) (k := i) (by rw [nI_eq' (by omega) (by omega) c93, nI_eq' (by omega) (by omega) c104]; simp) hlt) (by rw [hj]; decide)
            | exact absurd (jex_t (D := D) (u := u) (v := v) (k := i) (by rw [nI_eq' (by omega) (by omega) c115, nI_eq' (by omega) (by omega) c126]; simp) hlt) (by rw [hj]; decide)
        · skip
          refine aw_aload_n 0 q_M_join_107 rfl rfl ?_
          refine aw_get 12 q_M_join_108 fl_M_32 rfl rfl ?_
          refine aw_iload q_M_join_111 rfl ?_
          refine aw_ialdN q_M_join_113 rfl (by omega) rfl ?_
          refine aw_iload_n 2 q_M_join_114 rfl rfl ?_
          refine aw_icmp_ne 131 q_M_join_115 rfl (fun c115 => ?_) (fun c115 => ?_)
          · skip
            refine aw_iinc _ q_M_join_131 rfl (am_inc _) rfl rfl ?_
            refine aw_goto 76 q_M_join_134 rfl ?_
            exact ih _ (by omega) (i + 1) rfl (by omega)
          · skip
            refine aw_aload_n 0 q_M_join_118 rfl rfl ?_
            refine aw_get 13 q_M_join_119 fl_M_35 rfl rfl ?_
            refine aw_iload q_M_join_122 rfl ?_
            refine aw_ialdN q_M_join_124 rfl (by omega) rfl ?_
            refine aw_iload_n 1 q_M_join_125 rfl rfl ?_
            refine aw_icmp_ne 131 q_M_join_126 rfl (fun c126 => ?_) (fun c126 => ?_)
            · skip
              refine aw_iinc _ q_M_join_131 rfl (am_inc _) rfl rfl ?_
              refine aw_goto 76 q_M_join_134 rfl ?_
              exact ih _ (by omega) (i + 1) rfl (by omega)
            · skip
              first
                | exact absurd (jex_t (D := D) (u := u) (v := v) (k := i) (by rw [nI_eq' (by omega) (by omega) c93, nI_eq' (by omega) (by omega) c104]; simp) hlt) (by rw [hj]; decide)
                | exact absurd (jex_t (D := D) (u := u) (v := v) (k := i) (by rw [nI_eq' (by omega) (by omega) c115, nI_eq' (by omega) (by omega) c126]; simp) hlt) (by rw [hj]; decide)
theorem c_M_join_no2 (sc : am_S) (A : ST) (q : QS) (D : ST) (t : TS) (u v : Nat) (s : Int) (jd : jdo D) (b : bd D) (hu : u < x_nc D) (hv : v < x_nc D) (hs : 0 ≤ s ∧ s ≤ 1000000) (hx : ¬ ((¬ x_th D u = x_th D v ∧ x_yr D u = x_yr D v) ∧ x_nj D < 20 ∧ jex D u v (x_nj D) = false)) : AM sc m_M_join 1 [.ref 50, .int (nI u), .int (nI v), .long (lZ s)] (hp A q D t) (some (.int 0)) (hp A q D t) := by
  refine AM.of (by decide) (Nat.le_of_ble_eq_true rfl) ?_
  show AW sc m_M_join 1 0 [some (.ref 50), some (.int (nI u)), some (.int (nI v)), some (.long (lZ s)), none, none] [] _ _ _
  have b3 := b.2.2.1
  have j0 := jd.1
  have t1 := b.2.2.2.1 u
  have t2 := b.2.2.2.1 v
  have y1 := b.2.2.2.2.1 u
  have y2 := b.2.2.2.2.1 v
  refine aw_aload_n 0 q_M_join_0 rfl rfl ?_
  refine aw_iload_n 1 q_M_join_1 rfl rfl ?_
  refine aw_V1 q_M_join_2 st_M_87 rfl (by omega) (Nat.le_of_ble_eq_true rfl) (c_M_isChoice _ _ _ _ _ _) ?_
  refine aw_if_eq 71 q_M_join_5 rfl (fun c5 => ?_) (fun c5 => ?_)
  · skip
    refine aw_iconst 0 q_M_join_71 rfl ?_
    exact aw_iret .boolean q_M_join_72 rfl rfl rfl rfl
  · skip
    refine aw_aload_n 0 q_M_join_8 rfl rfl ?_
    refine aw_iload_n 2 q_M_join_9 rfl rfl ?_
    refine aw_V1 q_M_join_10 st_M_87 rfl (by omega) (Nat.le_of_ble_eq_true rfl) (c_M_isChoice _ _ _ _ _ _) ?_
    refine aw_if_eq 71 q_M_join_13 rfl (fun c13 => ?_) (fun c13 => ?_)
    · skip
      refine aw_iconst 0 q_M_join_71 rfl ?_
      exact aw_iret .boolean q_M_join_72 rfl rfl rfl rfl
    · skip
      refine aw_lload_n 3 q_M_join_16 rfl rfl ?_
      refine aw_lconst (lZ 0) q_M_join_17 rfl ?_
      refine aw_ldc2 (lZ (1000000)) q_M_join_18 (am_in3 (i := 214) rfl rfl) ?_
      refine aw_S3 q_M_join_21 st_M_72 (by omega) (Nat.le_of_ble_eq_true rfl) (c_M_in _ _ _ _ _) ?_
      refine aw_if_eq 71 q_M_join_24 rfl (fun c24 => ?_) (fun c24 => ?_)
      · skip
        refine aw_iconst 0 q_M_join_71 rfl ?_
        exact aw_iret .boolean q_M_join_72 rfl rfl rfl rfl
      · skip
        refine aw_iload_n 1 q_M_join_27 rfl rfl ?_
        refine aw_iload_n 2 q_M_join_28 rfl rfl ?_
        refine aw_icmp_eq 71 q_M_join_29 rfl (fun c29 => ?_) (fun c29 => ?_)
        · skip
          refine aw_iconst 0 q_M_join_71 rfl ?_
          exact aw_iret .boolean q_M_join_72 rfl rfl rfl rfl
        · skip
          refine aw_aload_n 0 q_M_join_32 rfl rfl ?_
          refine aw_get 6 q_M_join_33 fl_M_19 rfl rfl ?_
          refine aw_iload_n 1 q_M_join_36 rfl rfl ?_
          refine aw_ialdN q_M_join_37 rfl (by omega) rfl ?_
          refine aw_aload_n 0 q_M_join_38 rfl rfl ?_
          refine aw_get 6 q_M_join_39 fl_M_19 rfl rfl ?_
          refine aw_iload_n 2 q_M_join_42 rfl rfl ?_
          refine aw_ialdN q_M_join_43 rfl (by omega) rfl ?_
          refine aw_icmp_ne 71 q_M_join_44 rfl (fun c44 => ?_) (fun c44 => ?_)
          · skip
            refine aw_iconst 0 q_M_join_71 rfl ?_
            exact aw_iret .boolean q_M_join_72 rfl rfl rfl rfl
          · skip
            refine aw_aload_n 0 q_M_join_47 rfl rfl ?_
            refine aw_get 5 q_M_join_48 fl_M_16 rfl rfl ?_
            refine aw_iload_n 1 q_M_join_51 rfl rfl ?_
            refine aw_ialdN q_M_join_52 rfl (by omega) rfl ?_
            refine aw_aload_n 0 q_M_join_53 rfl rfl ?_
            refine aw_get 5 q_M_join_54 fl_M_16 rfl rfl ?_
            refine aw_iload_n 2 q_M_join_57 rfl rfl ?_
            refine aw_ialdN q_M_join_58 rfl (by omega) rfl ?_
            refine aw_icmp_eq 71 q_M_join_59 rfl (fun c59 => ?_) (fun c59 => ?_)
            · skip
              refine aw_iconst 0 q_M_join_71 rfl ?_
              exact aw_iret .boolean q_M_join_72 rfl rfl rfl rfl
            · skip
              refine aw_aload_n 0 q_M_join_62 rfl rfl ?_
              refine aw_get 11 q_M_join_63 fl_M_103 rfl rfl ?_
              refine aw_bipush 20 q_M_join_66 rfl ?_
              refine aw_icmp_ne 73 q_M_join_68 rfl (fun c68 => ?_) (fun c68 => ?_)
              · skip
                refine aw_iconst 0 q_M_join_73 rfl ?_
                refine aw_istore q_M_join_74 rfl rfl ?_
                exact l_M_join_hit sc A q D t u v s jd b hu hv (by
                  cases hj : jex D u v (x_nj D) with
                  | true => rfl
                  | false => exact (hx ⟨⟨nI_ne (by omega) (by omega) c59, nI_eq' (by omega) (by omega) c44⟩, by have := nI_ne (b := 20) (by omega) (by omega) c68; omega, hj⟩).elim) _ 0 rfl (by omega) rfl
              · skip
                refine aw_iconst 0 q_M_join_71 rfl ?_
                exact aw_iret .boolean q_M_join_72 rfl rfl rfl rfl
theorem c_M_join (sc : am_S) (A : ST) (q : QS) (D : ST) (t : TS) (u v : Nat) (s : Int) (jd : jdo D) (b : bd D) (hu : u < x_nc D) (hv : v < x_nc D) (hs : 0 ≤ s ∧ s ≤ 1000000) (hx : ¬ x_th D u = x_th D v ∧ x_yr D u = x_yr D v) (hn : x_nj D < 20) (hj : jex D u v (x_nj D) = false) : AM sc m_M_join 1 [.ref 50, .int (nI u), .int (nI v), .long (lZ s)] (hp A q D t) (some (.int 1)) (hp A q (fgA (jnM D u v s)) t) := by
  refine AM.of (by decide) (Nat.le_of_ble_eq_true rfl) ?_
  show AW sc m_M_join 1 0 [some (.ref 50), some (.int (nI u)), some (.int (nI v)), some (.long (lZ s)), none, none] [] _ _ _
  have b3 := b.2.2.1
  have j0 := jd.1
  have t1 := b.2.2.2.1 u
  have t2 := b.2.2.2.1 v
  have y1 := b.2.2.2.2.1 u
  have y2 := b.2.2.2.2.1 v
  refine aw_aload_n 0 q_M_join_0 rfl rfl ?_
  refine aw_iload_n 1 q_M_join_1 rfl rfl ?_
  refine aw_V1 q_M_join_2 st_M_87 rfl (by omega) (Nat.le_of_ble_eq_true rfl) (c_M_isChoice _ _ _ _ _ _) ?_
  refine aw_if_eq 71 q_M_join_5 rfl (fun c5 => ?_) (fun c5 => ?_)
  · skip
    first
      | exact absurd (zI_0.mp c5) (by rw [isN hu (by omega)]; decide)
      | exact absurd (zI_0.mp c13) (by rw [isN hv (by omega)]; decide)
      | exact absurd (zI_0.mp c24) (by rw [inN (by omega) (by omega) (by omega)]; simp; omega)
      | exact absurd (congrArg (x_th D) (nI_eq' (by omega) (by omega) c29)) hx.1
      | exact absurd hx.2 (nI_ne (by omega) (by omega) c44)
      | exact absurd (nI_eq' (by omega) (by omega) c59) hx.1
      | exact absurd (nI_eq' (b := 20) (by omega) (by omega) c68) (by omega)
  · skip
    refine aw_aload_n 0 q_M_join_8 rfl rfl ?_
    refine aw_iload_n 2 q_M_join_9 rfl rfl ?_
    refine aw_V1 q_M_join_10 st_M_87 rfl (by omega) (Nat.le_of_ble_eq_true rfl) (c_M_isChoice _ _ _ _ _ _) ?_
    refine aw_if_eq 71 q_M_join_13 rfl (fun c13 => ?_) (fun c13 => ?_)
    · skip
      first
        | exact absurd (zI_0.mp c5) (by rw [isN hu (by omega)]; decide)
        | exact absurd (zI_0.mp c13) (by rw [isN hv (by omega)]; decide)
        | exact absurd (zI_0.mp c24) (by rw [inN (by omega) (by omega) (by omega)]; simp; omega)
        | exact absurd (congrArg (x_th D) (nI_eq' (by omega) (by omega) c29)) hx.1
        | exact absurd hx.2 (nI_ne (by omega) (by omega) c44)
        | exact absurd (nI_eq' (by omega) (by omega) c59) hx.1
        | exact absurd (nI_eq' (b := 20) (by omega) (by omega) c68) (by omega)
    · skip
      refine aw_lload_n 3 q_M_join_16 rfl rfl ?_
      refine aw_lconst (lZ 0) q_M_join_17 rfl ?_
      refine aw_ldc2 (lZ (1000000)) q_M_join_18 (am_in3 (i := 214) rfl rfl) ?_
      refine aw_S3 q_M_join_21 st_M_72 (by omega) (Nat.le_of_ble_eq_true rfl) (c_M_in _ _ _ _ _) ?_
      refine aw_if_eq 71 q_M_join_24 rfl (fun c24 => ?_) (fun c24 => ?_)
      · skip
        first
          | exact absurd (zI_0.mp c5) (by rw [isN hu (by omega)]; decide)
          | exact absurd (zI_0.mp c13) (by rw [isN hv (by omega)]; decide)
          | exact absurd (zI_0.mp c24) (by rw [inN (by omega) (by omega) (by omega)]; simp; omega)
          | exact absurd (congrArg (x_th D) (nI_eq' (by omega) (by omega) c29)) hx.1
          | exact absurd hx.2 (nI_ne (by omega) (by omega) c44)
          | exact absurd (nI_eq' (by omega) (by omega) c59) hx.1
          | exact absurd (nI_eq' (b := 20) (by omega) (by omega) c68) (by omega)
      · skip
        refine aw_iload_n 1 q_M_join_27 rfl rfl ?_
        refine aw_iload_n 2 q_M_join_28 rfl rfl ?_
        refine aw_icmp_eq 71 q_M_join_29 rfl (fun c29 => ?_) (fun c29 => ?_)
        · skip
          first
            | exact absurd (zI_0.mp c5) (by rw [isN hu (by omega)]; decide)
            | exact absurd (zI_0.mp c13) (by rw [isN hv (by omega)]; decide)
            | exact absurd (zI_0.mp c24) (by rw [inN (by omega) (by omega) (by omega)]; simp; omega)
            | exact absurd (congrArg (x_th D) (nI_eq' (by omega) (by omega) c29)) hx.1
            | exact absurd hx.2 (nI_ne (by omega) (by omega) c44)
            | exact absurd (nI_eq' (by omega) (by omega) c59) hx.1
            | exact absurd (nI_eq' (b := 20) (by omega) (by omega) c68) (by omega)
        · skip
          refine aw_aload_n 0 q_M_join_32 rfl rfl ?_
          refine aw_get 6 q_M_join_33 fl_M_19 rfl rfl ?_
          refine aw_iload_n 1 q_M_join_36 rfl rfl ?_
          refine aw_ialdN q_M_join_37 rfl (by omega) rfl ?_
          refine aw_aload_n 0 q_M_join_38 rfl rfl ?_
          refine aw_get 6 q_M_join_39 fl_M_19 rfl rfl ?_
          refine aw_iload_n 2 q_M_join_42 rfl rfl ?_
          refine aw_ialdN q_M_join_43 rfl (by omega) rfl ?_
          refine aw_icmp_ne 71 q_M_join_44 rfl (fun c44 => ?_) (fun c44 => ?_)
          · skip
            first
              | exact absurd (zI_0.mp c5) (by rw [isN hu (by omega)]; decide)
              | exact absurd (zI_0.mp c13) (by rw [isN hv (by omega)]; decide)
              | exact absurd (zI_0.mp c24) (by rw [inN (by omega) (by omega) (by omega)]; simp; omega)
              | exact absurd (congrArg (x_th D) (nI_eq' (by omega) (by omega) c29)) hx.1
              | exact absurd hx.2 (nI_ne (by omega) (by omega) c44)
              | exact absurd (nI_eq' (by omega) (by omega) c59) hx.1
              | exact absurd (nI_eq' (b := 20) (by omega) (by omega) c68) (by omega)
          · skip
            refine aw_aload_n 0 q_M_join_47 rfl rfl ?_
            refine aw_get 5 q_M_join_48 fl_M_16 rfl rfl ?_
            refine aw_iload_n 1 q_M_join_51 rfl rfl ?_
            refine aw_ialdN q_M_join_52 rfl (by omega) rfl ?_
            refine aw_aload_n 0 q_M_join_53 rfl rfl ?_
            refine aw_get 5 q_M_join_54 fl_M_16 rfl rfl ?_
            refine aw_iload_n 2 q_M_join_57 rfl rfl ?_
            refine aw_ialdN q_M_join_58 rfl (by omega) rfl ?_
            refine aw_icmp_eq 71 q_M_join_59 rfl (fun c59 => ?_) (fun c59 => ?_)
            · skip
              first
                | exact absurd (zI_0.mp c5) (by rw [isN hu (by omega)]; decide)
                | exact absurd (zI_0.mp c13) (by rw [isN hv (by omega)]; decide)
                | exact absurd (zI_0.mp c24) (by rw [inN (by omega) (by omega) (by omega)]; simp; omega)
                | exact absurd (congrArg (x_th D) (nI_eq' (by omega) (by omega) c29)) hx.1
                | exact absurd hx.2 (nI_ne (by omega) (by omega) c44)
                | exact absurd (nI_eq' (by omega) (by omega) c59) hx.1
                | exact absurd (nI_eq' (b := 20) (by omega) (by omega) c68) (by omega)
            · skip
              refine aw_aload_n 0 q_M_join_62 rfl rfl ?_
              refine aw_get 11 q_M_join_63 fl_M_103 rfl rfl ?_
              refine aw_bipush 20 q_M_join_66 rfl ?_
              refine aw_icmp_ne 73 q_M_join_68 rfl (fun c68 => ?_) (fun c68 => ?_)
              · skip
                refine aw_iconst 0 q_M_join_73 rfl ?_
                refine aw_istore q_M_join_74 rfl rfl ?_
                refine l_M_join sc A q D t u v s jd b hu hv hj _ ?_ _ 0 rfl (by omega)
                refine aw_aload_n 0 q_M_join_137 rfl rfl ?_
                refine aw_get 12 q_M_join_138 fl_M_32 rfl rfl ?_
                refine aw_aload_n 0 q_M_join_141 rfl rfl ?_
                refine aw_get 11 q_M_join_142 fl_M_103 rfl rfl ?_
                refine aw_iload_n 1 q_M_join_145 rfl rfl ?_
                refine wa_57 _ q_M_join_146 (by omega) ?_
                refine aw_aload_n 0 q_M_join_147 rfl rfl ?_
                refine aw_get 13 q_M_join_148 fl_M_35 rfl rfl ?_
                refine aw_aload_n 0 q_M_join_151 rfl rfl ?_
                refine aw_get 11 q_M_join_152 fl_M_103 rfl rfl ?_
                try simp only [xg_nj_ja, xg_nj_jb, xg_nj_js, xg_jb_ja, xg_js_ja, xg_js_jb]
                refine aw_iload_n 2 q_M_join_155 rfl rfl ?_
                refine wa_58 _ q_M_join_156 (by omega) ?_
                try simp only [xg_nj_ja, xg_nj_jb, xg_nj_js, xg_jb_ja, xg_js_ja, xg_js_jb]
                refine aw_aload_n 0 q_M_join_157 rfl rfl ?_
                refine aw_get 14 q_M_join_158 fl_M_38 rfl rfl ?_
                refine aw_aload_n 0 q_M_join_161 rfl rfl ?_
                refine aw_get 11 q_M_join_162 fl_M_103 rfl rfl ?_
                try simp only [xg_nj_ja, xg_nj_jb, xg_nj_js, xg_jb_ja, xg_js_ja, xg_js_jb]
                refine aw_lload_n 3 q_M_join_165 rfl rfl ?_
                refine wa_59 _ q_M_join_166 (by omega) ?_
                try simp only [xg_nj_ja, xg_nj_jb, xg_nj_js, xg_jb_ja, xg_js_ja, xg_js_jb]
                refine aw_aload_n 0 q_M_join_167 rfl rfl ?_
                refine aw_dup q_M_join_168 rfl ?_
                refine aw_get 11 q_M_join_169 fl_M_103 rfl rfl ?_
                try simp only [xg_nj_ja, xg_nj_jb, xg_nj_js, xg_jb_ja, xg_js_ja, xg_js_jb]
                refine aw_iconst 1 q_M_join_172 rfl ?_
                refine aw_iadd q_M_join_173 ?_
                rw [nI_1]
                refine wp_M_11 _ q_M_join_174 fl_M_103 ?_
                refine aw_aload_n 0 q_M_join_177 rfl rfl ?_
                refine aw_V0v q_M_join_178 st_M_79 rfl (by omega) (Nat.le_of_ble_eq_true rfl) (c_M_tell _ _ _ _ _) ?_
                refine aw_iconst 1 q_M_join_181 rfl ?_
                exact aw_iret .boolean q_M_join_182 rfl rfl rfl rfl
              · skip
                first
                  | exact absurd (zI_0.mp c5) (by rw [isN hu (by omega)]; decide)
                  | exact absurd (zI_0.mp c13) (by rw [isN hv (by omega)]; decide)
                  | exact absurd (zI_0.mp c24) (by rw [inN (by omega) (by omega) (by omega)]; simp; omega)
                  | exact absurd (congrArg (x_th D) (nI_eq' (by omega) (by omega) c29)) hx.1
                  | exact absurd hx.2 (nI_ne (by omega) (by omega) c44)
                  | exact absurd (nI_eq' (by omega) (by omega) c59) hx.1
                  | exact absurd (nI_eq' (b := 20) (by omega) (by omega) c68) (by omega)
theorem pon_pI {D : ST} (h : ¬ pI (x_pn D) = -1) : pI (x_pn D) = nI (pon D) := by
  unfold pon
  cases e : x_pn D with
  | none => rw [e] at h; exact absurd rfl h
  | some m => rfl
theorem pon_0 {D : ST} (hp1 : pn14 D) (h : pI (x_pn D) = -1) : pon D = 0 := by
  unfold pon
  rw [(pn_eq hp1).mp h]
  rfl
theorem c_M_chosen (sc : am_S) (A : ST) (q : QS) (D : ST) (t : TS) (x : Int32) (b : bd D) (hp1 : pn14 D) : AM sc m_M_chosen 1 [.ref 50, .int x] (hp A q D t) (some (.int (zI (decide (¬ x < 0 ∧ ¬ nI (x_nc D) ≤ x) && (pon D).testBit x.toNatClampNeg)))) (hp A q D t) := by
  refine AM.of (by decide) (Nat.le_of_ble_eq_true rfl) ?_
  show AW sc m_M_chosen 1 0 [some (.ref 50), some (.int x)] [] _ _ _
  have b3 := b.2.2.1
  have hpl := pon_lt hp1
  refine aw_aload_n 0 q_M_chosen_0 rfl rfl ?_
  refine aw_iload_n 1 q_M_chosen_1 rfl rfl ?_
  refine aw_V1 q_M_chosen_2 st_M_87 rfl (by omega) (Nat.le_of_ble_eq_true rfl) (c_M_isChoice _ _ _ _ _ _) ?_
  refine aw_if_eq 31 q_M_chosen_5 rfl (fun c5 => ?_) (fun c5 => ?_)
  · skip
    refine aw_iconst 0 q_M_chosen_31 rfl ?_
    exact aw_iret .boolean q_M_chosen_32 rfl rfl (aw_rz0 (by rw [zI_0.mp c5]; rfl)) rfl
  · skip
    obtain ⟨c, hc, rfl⟩ : ∃ c, c < x_nc D ∧ x = nI c := by
      have h9 := zI_n0.mp c5
      simp at h9
      obtain ⟨c, h1, h2⟩ := nI_of (x := x) (by simpa using h9.1)
      refine ⟨c, ?_, h2⟩
      rw [h2] at h9
      exact (nI_ltI h1 (by omega)).mp (by simpa using h9.2)
    refine aw_aload_n 0 q_M_chosen_8 rfl rfl ?_
    refine aw_get 16 q_M_chosen_9 fl_M_47 rfl rfl ?_
    refine aw_iconst (-1) q_M_chosen_12 rfl ?_
    refine aw_icmp_eq 31 q_M_chosen_13 rfl (fun c13 => ?_) (fun c13 => ?_)
    · skip
      refine aw_iconst 0 q_M_chosen_31 rfl ?_
      exact aw_iret .boolean q_M_chosen_32 rfl rfl (aw_rz0 (by rw [pon_0 hp1 c13]; simp)) rfl
    · skip
      refine aw_aload_n 0 q_M_chosen_16 rfl rfl ?_
      refine aw_get 16 q_M_chosen_17 fl_M_47 rfl rfl ?_
      refine aw_iload_n 1 q_M_chosen_20 rfl rfl ?_
      rw [pon_pI c13]
      refine aw_S2 q_M_chosen_21 st_M_94 (by omega) (Nat.le_of_ble_eq_true rfl) (c_M_has _ _ _ _ (by omega) (by omega)) ?_
      refine aw_if_eq 31 q_M_chosen_24 rfl (fun c24 => ?_) (fun c24 => ?_)
      · skip
        refine aw_iconst 0 q_M_chosen_31 rfl ?_
        exact aw_iret .boolean q_M_chosen_32 rfl rfl (aw_rz0 (by rw [nI_clamp (by omega), zI_0.mp c24, Bool.and_false])) rfl
      · skip
        refine aw_iconst 1 q_M_chosen_27 rfl ?_
        refine aw_goto 32 q_M_chosen_28 rfl ?_
        exact aw_iret .boolean q_M_chosen_32 rfl rfl (aw_rz1 (by rw [zI_n0.mp c5, nI_clamp (by omega), zI_n0.mp c24]; rfl)) rfl
theorem c_M_worth (sc : am_S) (A : ST) (q : QS) (D : ST) (t : TS)  (b : bd D) (hp1 : pn14 D) : AM sc m_M_worth 2 [.ref 50] (hp A q D t) (some (.long (lZ (match x_pn D with | none => -1 | some m => wsum D m)))) (hp A q D t) := by
  refine AM.of (by decide) (Nat.le_of_ble_eq_true rfl) ?_
  show AW sc m_M_worth 2 0 [some (.ref 50)] [] _ _ _
  refine aw_aload_n 0 q_M_worth_0 rfl rfl ?_
  refine aw_get 16 q_M_worth_1 fl_M_47 rfl rfl ?_
  refine aw_iconst (-1) q_M_worth_4 rfl ?_
  refine aw_icmp_ne 14 q_M_worth_5 rfl (fun c5 => ?_) (fun c5 => ?_)
  · skip
    obtain ⟨m, hm⟩ : ∃ m, x_pn D = some m := Option.ne_none_iff_exists'.mp (mt (pn_eq hp1).mpr c5)
    have hm2 := hp1 m hm
    simp only [hm]
    refine aw_aload_n 0 q_M_worth_14 rfl rfl ?_
    refine aw_aload_n 0 q_M_worth_15 rfl rfl ?_
    refine aw_get 16 q_M_worth_16 fl_M_47 rfl rfl ?_
    rw [show pI (x_pn D) = nI m from by rw [hm]; rfl]
    refine aw_V1 q_M_worth_19 st_M_123 rfl (by omega) (Nat.le_of_ble_eq_true rfl) (c_M_worthOf _ _ _ _ _ _ b hm2) ?_
    exact aw_lret q_M_worth_22 rfl rfl rfl
  · skip
    refine aw_ldc2 (lZ (-1)) q_M_worth_8 (am_in3 (i := 127) rfl rfl) ?_
    refine aw_goto 22 q_M_worth_11 rfl ?_
    exact aw_lret q_M_worth_22 rfl (by rw [(pn_eq hp1).mp c5]) rfl
theorem c_M_holds_noy (sc : am_S) (A : ST) (q : QS) (D : ST) (t : TS) (x : Int32) (hx : ¬ (¬ x < 0 ∧ ¬ nI (x_ny D) ≤ x)) : AM sc m_M_holds 3 [.ref 50, .int x] (hp A q D t) (some (.int 0)) (hp A q D t) := by
  refine AM.of (by decide) (Nat.le_of_ble_eq_true rfl) ?_
  show AW sc m_M_holds 3 0 [some (.ref 50), some (.int x)] [] _ _ _
  refine aw_aload_n 0 q_M_holds_0 rfl rfl ?_
  refine aw_iload_n 1 q_M_holds_1 rfl rfl ?_
  refine aw_V1 q_M_holds_2 st_M_98 rfl (by omega) (Nat.le_of_ble_eq_true rfl) (c_M_isYear _ _ _ _ _ _) ?_
  refine aw_if_eq 39 q_M_holds_5 rfl (fun c5 => ?_) (fun c5 => ?_)
  · skip
    refine aw_iconst 0 q_M_holds_39 rfl ?_
    exact aw_iret .boolean q_M_holds_40 rfl rfl rfl rfl
  · skip
    exact (hx (of_decide_eq_true (zI_n0.mp c5))).elim
theorem c_M_holds_nop (sc : am_S) (A : ST) (q : QS) (D : ST) (t : TS) (x : Int32) (hp1 : x_pn D = none) : AM sc m_M_holds 3 [.ref 50, .int x] (hp A q D t) (some (.int 0)) (hp A q D t) := by
  refine AM.of (by decide) (Nat.le_of_ble_eq_true rfl) ?_
  show AW sc m_M_holds 3 0 [some (.ref 50), some (.int x)] [] _ _ _
  refine aw_aload_n 0 q_M_holds_0 rfl rfl ?_
  refine aw_iload_n 1 q_M_holds_1 rfl rfl ?_
  refine aw_V1 q_M_holds_2 st_M_98 rfl (by omega) (Nat.le_of_ble_eq_true rfl) (c_M_isYear _ _ _ _ _ _) ?_
  refine aw_if_eq 39 q_M_holds_5 rfl (fun c5 => ?_) (fun c5 => ?_)
  · skip
    refine aw_iconst 0 q_M_holds_39 rfl ?_
    exact aw_iret .boolean q_M_holds_40 rfl rfl rfl rfl
  · skip
    refine aw_aload_n 0 q_M_holds_8 rfl rfl ?_
    refine aw_get 16 q_M_holds_9 fl_M_47 rfl rfl ?_
    refine aw_iconst (-1) q_M_holds_12 rfl ?_
    refine aw_icmp_eq 39 q_M_holds_13 rfl (fun c13 => ?_) (fun c13 => ?_)
    · skip
      refine aw_iconst 0 q_M_holds_39 rfl ?_
      exact aw_iret .boolean q_M_holds_40 rfl rfl rfl rfl
    · skip
      exact absurd (by rw [hp1]; rfl) c13
theorem c_M_holds (sc : am_S) (A : ST) (q : QS) (D : ST) (t : TS) (y m : Nat) (b : bd D) (jd : jdo D) (hy : y < x_ny D) (hp1 : x_pn D = some m) (hm : m < 16384) : AM sc m_M_holds 3 [.ref 50, .int (nI y)] (hp A q D t) (some (.int (zI (decide (spM D m y ≤ x_bu D y))))) (hp A q D t) := by
  refine AM.of (by decide) (Nat.le_of_ble_eq_true rfl) ?_
  show AW sc m_M_holds 3 0 [some (.ref 50), some (.int (nI y))] [] _ _ _
  have b1 := b.1
  have e0 : pI (x_pn D) = nI m := by rw [hp1]; rfl
  refine aw_aload_n 0 q_M_holds_0 rfl rfl ?_
  refine aw_iload_n 1 q_M_holds_1 rfl rfl ?_
  refine aw_V1 q_M_holds_2 st_M_98 rfl (by omega) (Nat.le_of_ble_eq_true rfl) (c_M_isYear _ _ _ _ _ _) ?_
  refine aw_if_eq 39 q_M_holds_5 rfl (fun c5 => ?_) (fun c5 => ?_)
  · skip
    refine aw_iconst 0 q_M_holds_39 rfl ?_
    exact absurd (zI_0.mp c5) (by rw [isN hy (by omega)]; decide)
  · skip
    refine aw_aload_n 0 q_M_holds_8 rfl rfl ?_
    refine aw_get 16 q_M_holds_9 fl_M_47 rfl rfl ?_
    refine aw_iconst (-1) q_M_holds_12 rfl ?_
    refine aw_icmp_eq 39 q_M_holds_13 rfl (fun c13 => ?_) (fun c13 => ?_)
    · skip
      refine aw_iconst 0 q_M_holds_39 rfl ?_
      exact absurd c13 (by rw [hp1]; exact fun e => by have := (pI_eq (o := some m) (fun _ h => by cases h; omega)).mp e; cases this)
    · skip
      refine aw_aload_n 0 q_M_holds_16 rfl rfl ?_
      refine aw_aload_n 0 q_M_holds_17 rfl rfl ?_
      refine aw_get 16 q_M_holds_18 fl_M_47 rfl rfl ?_
      rw [e0]
      refine aw_iload_n 1 q_M_holds_21 rfl rfl ?_
      refine aw_V2 q_M_holds_22 st_M_113 rfl (by omega) (Nat.le_of_ble_eq_true rfl) (c_M_spentIn _ _ _ _ _ _ _ b jd hm (by omega)) ?_
      refine aw_aload_n 0 q_M_holds_25 rfl rfl ?_
      refine aw_get 10 q_M_holds_26 fl_M_29 rfl rfl ?_
      refine aw_iload_n 1 q_M_holds_29 rfl rfl ?_
      refine aw_laldN q_M_holds_30 rfl (by omega) rfl ?_
      refine aw_lcmp_gt 39 q_M_holds_31 q_M_holds_32 rfl (fun c31 => ?_) (fun c31 => ?_)
      · skip
        refine aw_iconst 0 q_M_holds_39 rfl ?_
        exact aw_iret .boolean q_M_holds_40 rfl rfl (aw_rz0 (by have := (spM_gt b jd m y).mp c31; simpa using this)) rfl
      · skip
        refine aw_iconst 1 q_M_holds_35 rfl ?_
        refine aw_goto 40 q_M_holds_36 rfl ?_
        exact aw_iret .boolean q_M_holds_40 rfl rfl (aw_rz1 (by have := mt (spM_gt b jd m y).mpr c31; simpa using this)) rfl
theorem c_M_earlier_noy (sc : am_S) (A : ST) (q : QS) (D : ST) (t : TS) (x : Int32) (hx : ¬ (¬ x < 0 ∧ ¬ nI (x_ny D) ≤ x)) : AM sc m_M_earlier 1 [.ref 50, .int x] (hp A q D t) (some (.int (-1))) (hp A q D t) := by
  refine AM.of (by decide) (Nat.le_of_ble_eq_true rfl) ?_
  show AW sc m_M_earlier 1 0 [some (.ref 50), some (.int x), none, none] [] _ _ _
  refine aw_aload_n 0 q_M_earlier_0 rfl rfl ?_
  refine aw_iload_n 1 q_M_earlier_1 rfl rfl ?_
  refine aw_V1 q_M_earlier_2 st_M_98 rfl (by omega) (Nat.le_of_ble_eq_true rfl) (c_M_isYear _ _ _ _ _ _) ?_
  refine aw_if_eq 16 q_M_earlier_5 rfl (fun c5 => ?_) (fun c5 => ?_)
  · skip
    refine aw_iconst (-1) q_M_earlier_16 rfl ?_
    exact aw_iret .int q_M_earlier_17 rfl rfl rfl rfl
  · skip
    exact (hx (of_decide_eq_true (zI_n0.mp c5))).elim
theorem c_M_earlier_nop (sc : am_S) (A : ST) (q : QS) (D : ST) (t : TS) (x : Int32) (hp1 : x_pn D = none) : AM sc m_M_earlier 1 [.ref 50, .int x] (hp A q D t) (some (.int (-1))) (hp A q D t) := by
  refine AM.of (by decide) (Nat.le_of_ble_eq_true rfl) ?_
  show AW sc m_M_earlier 1 0 [some (.ref 50), some (.int x), none, none] [] _ _ _
  refine aw_aload_n 0 q_M_earlier_0 rfl rfl ?_
  refine aw_iload_n 1 q_M_earlier_1 rfl rfl ?_
  refine aw_V1 q_M_earlier_2 st_M_98 rfl (by omega) (Nat.le_of_ble_eq_true rfl) (c_M_isYear _ _ _ _ _ _) ?_
  refine aw_if_eq 16 q_M_earlier_5 rfl (fun c5 => ?_) (fun c5 => ?_)
  · skip
    refine aw_iconst (-1) q_M_earlier_16 rfl ?_
    exact aw_iret .int q_M_earlier_17 rfl rfl rfl rfl
  · skip
    refine aw_aload_n 0 q_M_earlier_8 rfl rfl ?_
    refine aw_get 16 q_M_earlier_9 fl_M_47 rfl rfl ?_
    refine aw_iconst (-1) q_M_earlier_12 rfl ?_
    refine aw_icmp_ne 18 q_M_earlier_13 rfl (fun c13 => ?_) (fun c13 => ?_)
    · skip
      exact absurd (by rw [hp1]; rfl) c13
    · skip
      refine aw_iconst (-1) q_M_earlier_16 rfl ?_
      exact aw_iret .int q_M_earlier_17 rfl rfl rfl rfl
theorem nI_a0 (a : Nat) : nI a + 0 = nI a := by rw [show (0 : Int32) = nI 0 from rfl, nI_add]; rfl
theorem l_M_earlier (sc : am_S) (A : ST) (q : QS) (D : ST) (t : TS) (y m : Nat) (b : bd D) (hy : y < 6) (hp1 : x_pn D = some m) (hm : m < 16384) : ∀ (n i : Nat), x_nc D - i = n → i ≤ x_nc D →  AW sc m_M_earlier 1 22 [some (.ref 50), some (.int (nI y)), some (.int (nI (cnp (fun c => m.testBit c && decide (x_yr D c < y)) i))), some (.int (nI i))] [] (hp A q D t) (some (.int (nI (cnp (fun c => m.testBit c && decide (x_yr D c < y)) (x_nc D))))) (hp A q D t) := by
  intro n
  induction n using Nat.strongRecOn with
  | _ n ih =>
    intro i hn hi
    have b3 := b.2.2.1
    have b5 := b.2.2.2.2.1 i
    have e0 : pI (x_pn D) = nI m := by rw [hp1]; rfl
    refine aw_iload_n 3 q_M_earlier_22 rfl rfl ?_
    refine aw_aload_n 0 q_M_earlier_23 rfl rfl ?_
    refine aw_get 4 q_M_earlier_24 fl_M_84 rfl rfl ?_
    refine aw_icmp_ge 65 q_M_earlier_27 rfl (fun c27 => ?_) (fun c27 => ?_)
    · skip
      refine aw_iload_n 2 q_M_earlier_65 rfl rfl ?_
      exact aw_iret .int q_M_earlier_66 rfl rfl (by rw [show i = x_nc D from Nat.le_antisymm hi (nge_ge c27 (by omega) (by omega))]) rfl
    · skip
      have hlt : i < x_nc D := nge_lt c27 (by omega) (by omega)
      refine aw_iload_n 2 q_M_earlier_30 rfl rfl ?_
      refine aw_aload_n 0 q_M_earlier_31 rfl rfl ?_
      refine aw_get 16 q_M_earlier_32 fl_M_47 rfl rfl ?_
      refine aw_iload_n 3 q_M_earlier_35 rfl rfl ?_
      rw [e0]
      refine aw_S2 q_M_earlier_36 st_M_94 (by omega) (Nat.le_of_ble_eq_true rfl) (c_M_has _ _ _ _ (by omega) (by omega)) ?_
      refine aw_if_eq 56 q_M_earlier_39 rfl (fun c39 => ?_) (fun c39 => ?_)
      · skip
        refine aw_iconst 0 q_M_earlier_56 rfl ?_
        refine aw_iadd q_M_earlier_57 ?_
        refine aw_istore_n 2 q_M_earlier_58 rfl rfl rfl ?_
        first | refine aw_iinc _ q_M_earlier_59 rfl (am_inc _) rfl rfl ?_ | refine aw_iinc _ q_M_earlier_59 rfl rfl rfl rfl ?_
        refine aw_goto 22 q_M_earlier_62 rfl ?_
        first
          | (have h9 := zI_0.mp c39; have e9 : cnp (fun c => m.testBit c && decide (x_yr D c < y)) (i + 1) = cnp (fun c => m.testBit c && decide (x_yr D c < y)) i := by simp [cnp, h9]
             rw [nI_a0, ← e9]; exact ih _ (by omega) (i + 1) rfl (by omega))
          | (have h9 := nge_ge c49 (by omega) (by omega); have e9 : cnp (fun c => m.testBit c && decide (x_yr D c < y)) (i + 1) = cnp (fun c => m.testBit c && decide (x_yr D c < y)) i := by simp [cnp]; intros; omega
             rw [nI_a0, ← e9]; exact ih _ (by omega) (i + 1) rfl (by omega))
          | (have h9 := zI_n0.mp c39; have h8 := nge_lt c49 (by omega) (by omega); have e9 : cnp (fun c => m.testBit c && decide (x_yr D c < y)) (i + 1) = cnp (fun c => m.testBit c && decide (x_yr D c < y)) i + 1 := by simp [cnp, h9, h8]
             rw [nI_1, ← e9]; exact ih _ (by omega) (i + 1) rfl (by omega))
      · skip
        refine aw_aload_n 0 q_M_earlier_42 rfl rfl ?_
        refine aw_get 6 q_M_earlier_43 fl_M_19 rfl rfl ?_
        refine aw_iload_n 3 q_M_earlier_46 rfl rfl ?_
        refine aw_ialdN q_M_earlier_47 rfl (by omega) rfl ?_
        refine aw_iload_n 1 q_M_earlier_48 rfl rfl ?_
        refine aw_icmp_ge 56 q_M_earlier_49 rfl (fun c49 => ?_) (fun c49 => ?_)
        · skip
          refine aw_iconst 0 q_M_earlier_56 rfl ?_
          refine aw_iadd q_M_earlier_57 ?_
          refine aw_istore_n 2 q_M_earlier_58 rfl rfl rfl ?_
          first | refine aw_iinc _ q_M_earlier_59 rfl (am_inc _) rfl rfl ?_ | refine aw_iinc _ q_M_earlier_59 rfl rfl rfl rfl ?_
          refine aw_goto 22 q_M_earlier_62 rfl ?_
          first
            | (have h9 := zI_0.mp c39; have e9 : cnp (fun c => m.testBit c && decide (x_yr D c < y)) (i + 1) = cnp (fun c => m.testBit c && decide (x_yr D c < y)) i := by simp [cnp, h9]
               rw [nI_a0, ← e9]; exact ih _ (by omega) (i + 1) rfl (by omega))
            | (have h9 := nge_ge c49 (by omega) (by omega); have e9 : cnp (fun c => m.testBit c && decide (x_yr D c < y)) (i + 1) = cnp (fun c => m.testBit c && decide (x_yr D c < y)) i := by simp [cnp]; intros; omega
               rw [nI_a0, ← e9]; exact ih _ (by omega) (i + 1) rfl (by omega))
            | (have h9 := zI_n0.mp c39; have h8 := nge_lt c49 (by omega) (by omega); have e9 : cnp (fun c => m.testBit c && decide (x_yr D c < y)) (i + 1) = cnp (fun c => m.testBit c && decide (x_yr D c < y)) i + 1 := by simp [cnp, h9, h8]
               rw [nI_1, ← e9]; exact ih _ (by omega) (i + 1) rfl (by omega))
        · skip
          refine aw_iconst 1 q_M_earlier_52 rfl ?_
          refine aw_goto 57 q_M_earlier_53 rfl ?_
          refine aw_iadd q_M_earlier_57 ?_
          refine aw_istore_n 2 q_M_earlier_58 rfl rfl rfl ?_
          first | refine aw_iinc _ q_M_earlier_59 rfl (am_inc _) rfl rfl ?_ | refine aw_iinc _ q_M_earlier_59 rfl rfl rfl rfl ?_
          refine aw_goto 22 q_M_earlier_62 rfl ?_
          first
            | (have h9 := zI_0.mp c39; have e9 : cnp (fun c => m.testBit c && decide (x_yr D c < y)) (i + 1) = cnp (fun c => m.testBit c && decide (x_yr D c < y)) i := by simp [cnp, h9]
               rw [nI_a0, ← e9]; exact ih _ (by omega) (i + 1) rfl (by omega))
            | (have h9 := nge_ge c49 (by omega) (by omega); have e9 : cnp (fun c => m.testBit c && decide (x_yr D c < y)) (i + 1) = cnp (fun c => m.testBit c && decide (x_yr D c < y)) i := by simp [cnp]; intros; omega
               rw [nI_a0, ← e9]; exact ih _ (by omega) (i + 1) rfl (by omega))
            | (have h9 := zI_n0.mp c39; have h8 := nge_lt c49 (by omega) (by omega); have e9 : cnp (fun c => m.testBit c && decide (x_yr D c < y)) (i + 1) = cnp (fun c => m.testBit c && decide (x_yr D c < y)) i + 1 := by simp [cnp, h9, h8]
               rw [nI_1, ← e9]; exact ih _ (by omega) (i + 1) rfl (by omega))
theorem c_M_earlier (sc : am_S) (A : ST) (q : QS) (D : ST) (t : TS) (y m : Nat) (b : bd D) (hy : y < x_ny D) (hp1 : x_pn D = some m) (hm : m < 16384) : AM sc m_M_earlier 1 [.ref 50, .int (nI y)] (hp A q D t) (some (.int (nI (cnp (fun c => m.testBit c && decide (x_yr D c < y)) (x_nc D))))) (hp A q D t) := by
  refine AM.of (by decide) (Nat.le_of_ble_eq_true rfl) ?_
  show AW sc m_M_earlier 1 0 [some (.ref 50), some (.int (nI y)), none, none] [] _ _ _
  have b1 := b.1
  refine aw_aload_n 0 q_M_earlier_0 rfl rfl ?_
  refine aw_iload_n 1 q_M_earlier_1 rfl rfl ?_
  refine aw_V1 q_M_earlier_2 st_M_98 rfl (by omega) (Nat.le_of_ble_eq_true rfl) (c_M_isYear _ _ _ _ _ _) ?_
  refine aw_if_eq 16 q_M_earlier_5 rfl (fun c5 => ?_) (fun c5 => ?_)
  · skip
    first
      | exact absurd (zI_0.mp c5) (by rw [isN hy (by omega)]; decide)
      | exact absurd c13 (by rw [hp1]; exact fun e => by have := (pI_eq (o := some m) (fun _ h => by cases h; omega)).mp e; cases this)
  · skip
    refine aw_aload_n 0 q_M_earlier_8 rfl rfl ?_
    refine aw_get 16 q_M_earlier_9 fl_M_47 rfl rfl ?_
    refine aw_iconst (-1) q_M_earlier_12 rfl ?_
    refine aw_icmp_ne 18 q_M_earlier_13 rfl (fun c13 => ?_) (fun c13 => ?_)
    · skip
      refine aw_iconst 0 q_M_earlier_18 rfl ?_
      refine aw_istore_n 2 q_M_earlier_19 rfl rfl rfl ?_
      refine aw_iconst 0 q_M_earlier_20 rfl ?_
      refine aw_istore_n 3 q_M_earlier_21 rfl rfl rfl ?_
      exact l_M_earlier sc A q D t y m b (by omega) hp1 hm _ 0 rfl (by omega)
    · skip
      first
        | exact absurd (zI_0.mp c5) (by rw [isN hy (by omega)]; decide)
        | exact absurd c13 (by rw [hp1]; exact fun e => by have := (pI_eq (o := some m) (fun _ h => by cases h; omega)).mp e; cases this)
theorem c_M_old_no (sc : am_S) (A : ST) (q : QS) (D : ST) (t : TS) (x : Int32) (on : Bool) (hx : ¬ (¬ x < 0 ∧ ¬ nI (x_nc D) ≤ x)) : AM sc m_M_old 1 [.ref 50, .int x, .int (zI on)] (hp A q D t) (some (.int 0)) (hp A q D t) := by
  refine AM.of (by decide) (Nat.le_of_ble_eq_true rfl) ?_
  show AW sc m_M_old 1 0 [some (.ref 50), some (.int x), some (.int (zI on))] [] _ _ _
  refine aw_aload_n 0 q_M_old_0 rfl rfl ?_
  refine aw_iload_n 1 q_M_old_1 rfl rfl ?_
  refine aw_V1 q_M_old_2 st_M_87 rfl (by omega) (Nat.le_of_ble_eq_true rfl) (c_M_isChoice _ _ _ _ _ _) ?_
  refine aw_if_ne 10 q_M_old_5 rfl (fun c5 => ?_) (fun c5 => ?_)
  · skip
    exact (hx (of_decide_eq_true (zI_n0.mp c5))).elim
  · skip
    refine aw_iconst 0 q_M_old_8 rfl ?_
    exact aw_iret .boolean q_M_old_9 rfl rfl rfl rfl
theorem c_M_old (sc : am_S) (A : ST) (q : QS) (D : ST) (t : TS) (c : Nat) (on : Bool) (b : bd D) (hc : c < x_nc D) : AM sc m_M_old 1 [.ref 50, .int (nI c), .int (zI on)] (hp A q D t) (some (.int 1)) (hp A q (x_s_od D (odN D c on)) t) := by
  refine AM.of (by decide) (Nat.le_of_ble_eq_true rfl) ?_
  show AW sc m_M_old 1 0 [some (.ref 50), some (.int (nI c)), some (.int (zI on))] [] _ _ _
  have b3 := b.2.2.1
  refine aw_aload_n 0 q_M_old_0 rfl rfl ?_
  refine aw_iload_n 1 q_M_old_1 rfl rfl ?_
  refine aw_V1 q_M_old_2 st_M_87 rfl (by omega) (Nat.le_of_ble_eq_true rfl) (c_M_isChoice _ _ _ _ _ _) ?_
  refine aw_if_ne 10 q_M_old_5 rfl (fun c5 => ?_) (fun c5 => ?_)
  · skip
    refine aw_aload_n 0 q_M_old_10 rfl rfl ?_
    refine aw_iload_n 2 q_M_old_11 rfl rfl ?_
    refine aw_if_eq 26 q_M_old_12 rfl (fun c12 => ?_) (fun c12 => ?_)
    · skip
      refine aw_aload_n 0 q_M_old_26 rfl rfl ?_
      refine aw_get 17 q_M_old_27 fl_M_164 rfl rfl ?_
      refine aw_iconst 1 q_M_old_30 rfl ?_
      refine aw_iload_n 1 q_M_old_31 rfl rfl ?_
      refine aw_ishl q_M_old_32 ?_
      refine aw_iconst (-1) q_M_old_33 rfl ?_
      refine aw_ixor q_M_old_34 ?_
      refine aw_iand q_M_old_35 ?_
      first
        | (rw [bt_one (by omega), clr_nI]
           rw [show clr (x_od D) c = odN D c on from by simp [odN, zI_0.mp c12]])
        | skip
      refine wp_M_17 _ q_M_old_36 fl_M_164 ?_
      refine aw_iconst 1 q_M_old_39 rfl ?_
      exact aw_iret .boolean q_M_old_40 rfl rfl rfl rfl
    · skip
      refine aw_aload_n 0 q_M_old_15 rfl rfl ?_
      refine aw_get 17 q_M_old_16 fl_M_164 rfl rfl ?_
      refine aw_iconst 1 q_M_old_19 rfl ?_
      refine aw_iload_n 1 q_M_old_20 rfl rfl ?_
      refine aw_ishl q_M_old_21 ?_
      rw [bt_one (by omega)]
      refine aw_ior q_M_old_22 ?_
      rw [nI_or]
      rw [show x_od D ||| 2 ^ c = odN D c on from by simp [odN, zI_n0.mp c12]]
      refine aw_goto 36 q_M_old_23 rfl ?_
      first
        | (rw [bt_one (by omega), clr_nI]
           rw [show clr (x_od D) c = odN D c on from by simp [odN, zI_0.mp c12]])
        | skip
      refine wp_M_17 _ q_M_old_36 fl_M_164 ?_
      refine aw_iconst 1 q_M_old_39 rfl ?_
      exact aw_iret .boolean q_M_old_40 rfl rfl rfl rfl
  · skip
    exact absurd (zI_0.mp c5) (by rw [isN hc (by omega)]; decide)
theorem c_M_changed_no (sc : am_S) (A : ST) (q : QS) (D : ST) (t : TS) (x : Int32) (b : bd D) (hp1 : x_pn D = none) : AM sc m_M_changed 1 [.ref 50, .int x] (hp A q D t) (some (.int (-1))) (hp A q D t) := by
  refine AM.of (by decide) (Nat.le_of_ble_eq_true rfl) ?_
  show AW sc m_M_changed 1 0 [some (.ref 50), some (.int x), none, none] [] _ _ _
  refine aw_iconst 0 q_M_changed_0 rfl ?_
  refine aw_istore_n 2 q_M_changed_1 rfl rfl rfl ?_
  refine aw_iconst 0 q_M_changed_2 rfl ?_
  refine aw_istore_n 3 q_M_changed_3 rfl rfl rfl ?_
  refine aw_iload_n 3 q_M_changed_4 rfl rfl ?_
  refine aw_aload_n 0 q_M_changed_5 rfl rfl ?_
  refine aw_get 4 q_M_changed_6 fl_M_84 rfl rfl ?_
  refine aw_icmp_ge 52 q_M_changed_9 rfl (fun c9 => ?_) (fun c9 => ?_)
  · skip
    refine aw_iconst (-1) q_M_changed_52 rfl ?_
    exact aw_iret .int q_M_changed_53 rfl rfl rfl rfl
  · skip
    refine aw_aload_n 0 q_M_changed_12 rfl rfl ?_
    refine aw_get 16 q_M_changed_13 fl_M_47 rfl rfl ?_
    refine aw_iconst (-1) q_M_changed_16 rfl ?_
    refine aw_icmp_eq 52 q_M_changed_17 rfl (fun c17 => ?_) (fun c17 => ?_)
    · skip
      refine aw_iconst (-1) q_M_changed_52 rfl ?_
      exact aw_iret .int q_M_changed_53 rfl rfl rfl rfl
    · skip
      exact absurd (by rw [hp1]; rfl) c17
theorem l_M_changed (sc : am_S) (A : ST) (q : QS) (D : ST) (t : TS) (x : Int32) (m : Nat) (b : bd D) (hp1 : x_pn D = some m) (hm : m < 16384) (ho : x_od D < 16384) : ∀ (n i : Nat), x_nc D - i = n → i ≤ x_nc D → fnd (mbp (m ^^^ x_od D) x) i = none → AW sc m_M_changed 1 4 [some (.ref 50), some (.int x), some (.int (nI (cnp (fun c => (m ^^^ x_od D).testBit c) i))), some (.int (nI i))] [] (hp A q D t) (some (.int (pI (fnd (mbp (m ^^^ x_od D) x) (x_nc D))))) (hp A q D t) := by
  intro n
  induction n using Nat.strongRecOn with
  | _ n ih =>
    intro i hn hi
    intro hw
    have b3 := b.2.2.1
    have e0 : pI (x_pn D) = nI m := by rw [hp1]; rfl
    have hx := Nat.xor_lt_two_pow (n := 14) hm ho
    refine aw_iload_n 3 q_M_changed_4 rfl rfl ?_
    refine aw_aload_n 0 q_M_changed_5 rfl rfl ?_
    refine aw_get 4 q_M_changed_6 fl_M_84 rfl rfl ?_
    refine aw_icmp_ge 52 q_M_changed_9 rfl (fun c9 => ?_) (fun c9 => ?_)
    · skip
      refine aw_iconst (-1) q_M_changed_52 rfl ?_
      exact aw_iret .int q_M_changed_53 rfl rfl (by rw [show i = x_nc D from Nat.le_antisymm hi (nge_ge c9 (by omega) (by omega))] at hw; rw [hw]; rfl) rfl
    · skip
      have hlt : i < x_nc D := nge_lt c9 (by omega) (by omega)
      refine aw_aload_n 0 q_M_changed_12 rfl rfl ?_
      refine aw_get 16 q_M_changed_13 fl_M_47 rfl rfl ?_
      refine aw_iconst (-1) q_M_changed_16 rfl ?_
      refine aw_icmp_eq 52 q_M_changed_17 rfl (fun c17 => ?_) (fun c17 => ?_)
      · skip
        refine aw_iconst (-1) q_M_changed_52 rfl ?_
        exact absurd c17 (by rw [hp1]; exact fun e => by have := (pI_eq (o := some m) (fun _ h => by cases h; omega)).mp e; cases this)
      · skip
        refine aw_aload_n 0 q_M_changed_20 rfl rfl ?_
        refine aw_get 16 q_M_changed_21 fl_M_47 rfl rfl ?_
        refine aw_aload_n 0 q_M_changed_24 rfl rfl ?_
        refine aw_get 17 q_M_changed_25 fl_M_164 rfl rfl ?_
        rw [e0]
        refine aw_ixor q_M_changed_28 ?_
        rw [nI_xor]
        refine aw_iload_n 3 q_M_changed_29 rfl rfl ?_
        refine aw_S2 q_M_changed_30 st_M_94 (by omega) (Nat.le_of_ble_eq_true rfl) (c_M_has _ _ _ _ (by omega) (by omega)) ?_
        refine aw_if_eq 46 q_M_changed_33 rfl (fun c33 => ?_) (fun c33 => ?_)
        · skip
          first | refine aw_iinc _ q_M_changed_46 rfl (am_inc _) rfl rfl ?_ | refine aw_iinc _ q_M_changed_46 rfl rfl rfl rfl ?_
          refine aw_goto 4 q_M_changed_49 rfl ?_
          first
            | (have h9 := zI_0.mp c33; have e9 : cnp (fun c => (m ^^^ x_od D).testBit c) (i + 1) = cnp (fun c => (m ^^^ x_od D).testBit c) i := by simp only [cnp, h9]; rfl
               rw [← e9]; exact ih _ (by omega) (i + 1) rfl (by omega) (fnd_miss hw (by simp only [mbp, h9]; rfl)))
            | (have h9 := zI_n0.mp c33; have e9 : cnp (fun c => (m ^^^ x_od D).testBit c) (i + 1) = cnp (fun c => (m ^^^ x_od D).testBit c) i + 1 := by simp only [cnp, h9]; rfl
               rw [← e9]; exact ih _ (by omega) (i + 1) rfl (by omega) (fnd_miss hw (by simp only [mbp, c38, decide_false, Bool.and_false])))
        · skip
          refine aw_iload_n 2 q_M_changed_36 rfl rfl ?_
          refine aw_iload_n 1 q_M_changed_37 rfl rfl ?_
          refine aw_icmp_ne 43 q_M_changed_38 rfl (fun c38 => ?_) (fun c38 => ?_)
          · skip
            first | refine aw_iinc _ q_M_changed_43 rfl (am_inc _) rfl rfl ?_ | refine aw_iinc _ q_M_changed_43 rfl rfl rfl rfl ?_
            first | refine aw_iinc _ q_M_changed_46 rfl (am_inc _) rfl rfl ?_ | refine aw_iinc _ q_M_changed_46 rfl rfl rfl rfl ?_
            refine aw_goto 4 q_M_changed_49 rfl ?_
            first
              | (have h9 := zI_0.mp c33; have e9 : cnp (fun c => (m ^^^ x_od D).testBit c) (i + 1) = cnp (fun c => (m ^^^ x_od D).testBit c) i := by simp only [cnp, h9]; rfl
                 rw [← e9]; exact ih _ (by omega) (i + 1) rfl (by omega) (fnd_miss hw (by simp only [mbp, h9]; rfl)))
              | (have h9 := zI_n0.mp c33; have e9 : cnp (fun c => (m ^^^ x_od D).testBit c) (i + 1) = cnp (fun c => (m ^^^ x_od D).testBit c) i + 1 := by simp only [cnp, h9]; rfl
                 rw [← e9]; exact ih _ (by omega) (i + 1) rfl (by omega) (fnd_miss hw (by simp only [mbp, c38, decide_false, Bool.and_false])))
          · skip
            refine aw_iload_n 3 q_M_changed_41 rfl rfl ?_
            exact aw_iret .int q_M_changed_42 rfl rfl (by rw [fnd_hit hw (by simp only [mbp, zI_n0.mp c33, c38]; rfl) hlt]; rfl) rfl
theorem c_M_changed (sc : am_S) (A : ST) (q : QS) (D : ST) (t : TS) (x : Int32) (m : Nat) (b : bd D) (hp1 : x_pn D = some m) (hm : m < 16384) (ho : x_od D < 16384) : AM sc m_M_changed 1 [.ref 50, .int x] (hp A q D t) (some (.int (pI (fnd (mbp (m ^^^ x_od D) x) (x_nc D))))) (hp A q D t) := by
  refine AM.of (by decide) (Nat.le_of_ble_eq_true rfl) ?_
  show AW sc m_M_changed 1 0 [some (.ref 50), some (.int x), none, none] [] _ _ _
  refine aw_iconst 0 q_M_changed_0 rfl ?_
  refine aw_istore_n 2 q_M_changed_1 rfl rfl rfl ?_
  refine aw_iconst 0 q_M_changed_2 rfl ?_
  refine aw_istore_n 3 q_M_changed_3 rfl rfl rfl ?_
  exact l_M_changed sc A q D t x m b hp1 hm ho _ 0 rfl (by omega) rfl
