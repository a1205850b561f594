/-! CONTRACTS 32: the reference: comesBefore, planBy, policy, compare -/
theorem gb_y {A : ST} {u v : Nat} (h : ¬ x_yr A u = x_yr A v) : gb A 2 u v = decide (x_yr A u < x_yr A v) := by
  have e : gbl A 2 u v = (x_yr A v : Int) - x_yr A u := by simp [gbl, h]
  unfold gb
  rw [e, if_neg (by omega)]
  exact decide_eq_decide.mpr (by omega)
theorem gb_w {A : ST} {k u v : Nat} (h1 : ¬ k = 1) (h : ¬ (k = 2 ∧ ¬ x_yr A u = x_yr A v)) : gb A k u v = if x_wo A u = x_wo A v then decide (u < v) else decide (x_wo A v < x_wo A u) := by
  have e : gbl A k u v = x_wo A u - x_wo A v := by unfold gbl; rw [if_neg h1, if_neg h]
  unfold gb
  rw [e]
  by_cases h2 : x_wo A u = x_wo A v
  · rw [if_pos (by omega), if_pos h2]
  · rw [if_neg (by omega), if_neg h2]
    exact decide_eq_decide.mpr (by omega)
theorem gb_z {A : ST} (b : bd A) {u v : Nat} (h : x_co A u = 0 ∨ x_co A v = 0) : gb A 1 u v = if x_co A u = x_co A v then decide (u < v) else decide (x_co A u = 0) := by
  have h1 := b.2.2.2.2.2.2.2.1 u
  have h2 := b.2.2.2.2.2.2.2.1 v
  have e : gbl A 1 u v = (if x_co A u ≤ x_co A v then (if x_co A v = x_co A u then 0 else 1) else -1) := by simp only [gbl, ldw, if_pos h, if_true]
  unfold gb
  rw [e]
  by_cases h3 : x_co A u = x_co A v
  · rw [if_pos (show x_co A u ≤ x_co A v by omega), if_pos h3.symm, if_pos rfl, if_pos h3]
  · rw [if_neg h3]
    by_cases h4 : x_co A u ≤ x_co A v
    · rw [if_pos h4, show (if x_co A v = x_co A u then (0 : Int) else 1) = 1 from if_neg (fun e => h3 e.symm), if_neg (by decide)]
      rw [decide_eq_true (show x_co A u = 0 by omega)]; rfl
    · rw [if_neg h4, if_neg (by decide)]
      rw [decide_eq_false (show ¬ x_co A u = 0 by omega)]; rfl
theorem gb_r {A : ST} {u v : Nat} (h : ¬ (x_co A u = 0 ∨ x_co A v = 0)) : gb A 1 u v = if x_wo A u * x_co A v = x_wo A v * x_co A u then decide (u < v) else decide (x_wo A v * x_co A u < x_wo A u * x_co A v) := by
  have e : gbl A 1 u v = x_wo A u * x_co A v - x_wo A v * x_co A u := by simp only [gbl, ldw, if_neg h, if_true]
  unfold gb
  rw [e]
  by_cases h2 : x_wo A u * x_co A v = x_wo A v * x_co A u
  · rw [if_pos (by omega), if_pos h2]
  · rw [if_neg (by omega), if_neg h2]
    exact decide_eq_decide.mpr (by omega)
theorem g_M_cb179 (sc : am_S) (A : ST) (q : QS) (D : ST) (t : TS) (k u v : Nat) (b : bd D) (hk : k < 3) (hu : u < 14) (hv : v < 14) (hg : gb D k u v = if x_wo D u = x_wo D v then decide (u < v) else decide (x_wo D v < x_wo D u)) : AW sc m_M_comesBefore 1 179 [some (.ref 50), some (.int (nI k)), some (.int (nI u)), some (.int (nI v)), none, none, none, none] [] (hp A q D t) (some (.int (zI (gb D k u v)))) (hp A q D t) := by
  have w1 := b.2.2.2.2.2.2.2.2.1 u
  have w2 := b.2.2.2.2.2.2.2.2.1 v
  have o1 := b.2.2.2.2.2.2.2.1 u
  have o2 := b.2.2.2.2.2.2.2.1 v
  have y1 := b.2.2.2.2.1 u
  have y2 := b.2.2.2.2.1 v
  refine aw_aload_n 0 q_M_comesBefore_179 rfl rfl ?_
  refine aw_get 8 q_M_comesBefore_180 fl_M_26 rfl rfl ?_
  refine aw_iload_n 2 q_M_comesBefore_183 rfl rfl ?_
  refine aw_laldN q_M_comesBefore_184 rfl (by omega) rfl ?_
  refine aw_aload_n 0 q_M_comesBefore_185 rfl rfl ?_
  refine aw_get 8 q_M_comesBefore_186 fl_M_26 rfl rfl ?_
  refine aw_iload_n 3 q_M_comesBefore_189 rfl rfl ?_
  refine aw_laldN q_M_comesBefore_190 rfl (by omega) rfl ?_
  refine aw_lcmp_eq 219 q_M_comesBefore_191 q_M_comesBefore_192 rfl (fun c191 => ?_) (fun c191 => ?_)
  · skip
    refine aw_iload_n 2 q_M_comesBefore_219 rfl rfl ?_
    refine aw_iload_n 3 q_M_comesBefore_220 rfl rfl ?_
    refine aw_icmp_ge 228 q_M_comesBefore_221 rfl (fun c221 => ?_) (fun c221 => ?_)
    · skip
      refine aw_iconst 0 q_M_comesBefore_228 rfl ?_
      exact aw_iret .boolean q_M_comesBefore_229 rfl rfl (aw_rz0 (by rw [hg, if_pos ((lZ_eq (a := x_wo D u) (b := x_wo D v) (by omega) (by omega)).mp c191)]; have := nge_ge c221 (by omega) (by omega); simp; omega)) rfl
    · skip
      refine aw_iconst 1 q_M_comesBefore_224 rfl ?_
      refine aw_goto 229 q_M_comesBefore_225 rfl ?_
      exact aw_iret .boolean q_M_comesBefore_229 rfl rfl (aw_rz1 (by rw [hg, if_pos ((lZ_eq (a := x_wo D u) (b := x_wo D v) (by omega) (by omega)).mp c191)]; have := nge_lt c221 (by omega) (by omega); simp; omega)) rfl
  · skip
    refine aw_aload_n 0 q_M_comesBefore_195 rfl rfl ?_
    refine aw_get 8 q_M_comesBefore_196 fl_M_26 rfl rfl ?_
    refine aw_iload_n 2 q_M_comesBefore_199 rfl rfl ?_
    refine aw_laldN q_M_comesBefore_200 rfl (by omega) rfl ?_
    refine aw_aload_n 0 q_M_comesBefore_201 rfl rfl ?_
    refine aw_get 8 q_M_comesBefore_202 fl_M_26 rfl rfl ?_
    refine aw_iload_n 3 q_M_comesBefore_205 rfl rfl ?_
    refine aw_laldN q_M_comesBefore_206 rfl (by omega) rfl ?_
    refine aw_lcmp_le 215 q_M_comesBefore_207 q_M_comesBefore_208 rfl (fun c207 => ?_) (fun c207 => ?_)
    · skip
      refine aw_iconst 0 q_M_comesBefore_215 rfl ?_
      refine aw_goto 229 q_M_comesBefore_216 rfl ?_
      exact aw_iret .boolean q_M_comesBefore_229 rfl rfl (aw_rz0 (by rw [hg, if_neg (mt (lZ_eq (a := x_wo D u) (b := x_wo D v) (by omega) (by omega)).mpr c191)]; have := (lZ_le (by omega) (by omega)).mp c207; simp; omega)) rfl
    · skip
      refine aw_iconst 1 q_M_comesBefore_211 rfl ?_
      refine aw_goto 229 q_M_comesBefore_212 rfl ?_
      exact aw_iret .boolean q_M_comesBefore_229 rfl rfl (aw_rz1 (by rw [hg, if_neg (mt (lZ_eq (a := x_wo D u) (b := x_wo D v) (by omega) (by omega)).mpr c191)]; have := mt (lZ_le (by omega) (by omega)).mpr c207; simp; omega)) rfl
theorem g_M_cb114 (sc : am_S) (A : ST) (q : QS) (D : ST) (t : TS) (k u v : Nat) (b : bd D) (hk : k < 3) (hu : u < 14) (hv : v < 14) (hg : gb D k u v = if x_wo D u * x_co D v = x_wo D v * x_co D u then decide (u < v) else decide (x_wo D v * x_co D u < x_wo D u * x_co D v)) : AW sc m_M_comesBefore 1 114 [some (.ref 50), some (.int (nI k)), some (.int (nI u)), some (.int (nI v)), none, none, none, none] [] (hp A q D t) (some (.int (zI (gb D k u v)))) (hp A q D t) := by
  have w1 := b.2.2.2.2.2.2.2.2.1 u
  have w2 := b.2.2.2.2.2.2.2.2.1 v
  have o1 := b.2.2.2.2.2.2.2.1 u
  have o2 := b.2.2.2.2.2.2.2.1 v
  have y1 := b.2.2.2.2.1 u
  have y2 := b.2.2.2.2.1 v
  have m1 := mul_bd w1 o2
  have m2 := mul_bd w2 o1
  refine aw_aload_n 0 q_M_comesBefore_114 rfl rfl ?_
  refine aw_get 8 q_M_comesBefore_115 fl_M_26 rfl rfl ?_
  refine aw_iload_n 2 q_M_comesBefore_118 rfl rfl ?_
  refine aw_laldN q_M_comesBefore_119 rfl (by omega) rfl ?_
  refine aw_aload_n 0 q_M_comesBefore_120 rfl rfl ?_
  refine aw_get 7 q_M_comesBefore_121 fl_M_22 rfl rfl ?_
  refine aw_iload_n 3 q_M_comesBefore_124 rfl rfl ?_
  refine aw_laldN q_M_comesBefore_125 rfl (by omega) rfl ?_
  refine aw_lmul q_M_comesBefore_126 ?_
  rw [lZ_mul]
  refine aw_lstore q_M_comesBefore_127 rfl rfl ?_
  refine aw_aload_n 0 q_M_comesBefore_129 rfl rfl ?_
  refine aw_get 8 q_M_comesBefore_130 fl_M_26 rfl rfl ?_
  refine aw_iload_n 3 q_M_comesBefore_133 rfl rfl ?_
  refine aw_laldN q_M_comesBefore_134 rfl (by omega) rfl ?_
  refine aw_aload_n 0 q_M_comesBefore_135 rfl rfl ?_
  refine aw_get 7 q_M_comesBefore_136 fl_M_22 rfl rfl ?_
  refine aw_iload_n 2 q_M_comesBefore_139 rfl rfl ?_
  refine aw_laldN q_M_comesBefore_140 rfl (by omega) rfl ?_
  refine aw_lmul q_M_comesBefore_141 ?_
  rw [lZ_mul]
  refine aw_lstore q_M_comesBefore_142 rfl rfl ?_
  refine aw_lload q_M_comesBefore_144 rfl ?_
  refine aw_lload q_M_comesBefore_146 rfl ?_
  refine aw_lcmp_eq 168 q_M_comesBefore_148 q_M_comesBefore_149 rfl (fun c148 => ?_) (fun c148 => ?_)
  · skip
    refine aw_iload_n 2 q_M_comesBefore_168 rfl rfl ?_
    refine aw_iload_n 3 q_M_comesBefore_169 rfl rfl ?_
    refine aw_icmp_ge 177 q_M_comesBefore_170 rfl (fun c170 => ?_) (fun c170 => ?_)
    · skip
      refine aw_iconst 0 q_M_comesBefore_177 rfl ?_
      exact aw_iret .boolean q_M_comesBefore_178 rfl rfl (aw_rz0 (by rw [hg, if_pos ((lZ_eq (a := x_wo D u * x_co D v) (b := x_wo D v * x_co D u) (by omega) (by omega)).mp c148)]; have := nge_ge c170 (by omega) (by omega); simp; omega)) rfl
    · skip
      refine aw_iconst 1 q_M_comesBefore_173 rfl ?_
      refine aw_goto 178 q_M_comesBefore_174 rfl ?_
      exact aw_iret .boolean q_M_comesBefore_178 rfl rfl (aw_rz1 (by rw [hg, if_pos ((lZ_eq (a := x_wo D u * x_co D v) (b := x_wo D v * x_co D u) (by omega) (by omega)).mp c148)]; have := nge_lt c170 (by omega) (by omega); simp; omega)) rfl
  · skip
    refine aw_lload q_M_comesBefore_152 rfl ?_
    refine aw_lload q_M_comesBefore_154 rfl ?_
    refine aw_lcmp_le 164 q_M_comesBefore_156 q_M_comesBefore_157 rfl (fun c156 => ?_) (fun c156 => ?_)
    · skip
      refine aw_iconst 0 q_M_comesBefore_164 rfl ?_
      refine aw_goto 178 q_M_comesBefore_165 rfl ?_
      exact aw_iret .boolean q_M_comesBefore_178 rfl rfl (aw_rz0 (by rw [hg, if_neg (mt (lZ_eq (a := x_wo D u * x_co D v) (b := x_wo D v * x_co D u) (by omega) (by omega)).mpr c148)]; have := (lZ_le (by omega) (by omega)).mp c156; simp; omega)) rfl
    · skip
      refine aw_iconst 1 q_M_comesBefore_160 rfl ?_
      refine aw_goto 178 q_M_comesBefore_161 rfl ?_
      exact aw_iret .boolean q_M_comesBefore_178 rfl rfl (aw_rz1 (by rw [hg, if_neg (mt (lZ_eq (a := x_wo D u * x_co D v) (b := x_wo D v * x_co D u) (by omega) (by omega)).mpr c148)]; have := mt (lZ_le (by omega) (by omega)).mpr c156; simp; omega)) rfl
theorem g_M_cb68 (sc : am_S) (A : ST) (q : QS) (D : ST) (t : TS) (k u v : Nat) (b : bd D) (hk : k < 3) (hu : u < 14) (hv : v < 14) (hg : gb D k u v = if x_co D u = x_co D v then decide (u < v) else decide (x_co D u = 0)) : AW sc m_M_comesBefore 1 68 [some (.ref 50), some (.int (nI k)), some (.int (nI u)), some (.int (nI v)), none, none, none, none] [] (hp A q D t) (some (.int (zI (gb D k u v)))) (hp A q D t) := by
  have w1 := b.2.2.2.2.2.2.2.2.1 u
  have w2 := b.2.2.2.2.2.2.2.2.1 v
  have o1 := b.2.2.2.2.2.2.2.1 u
  have o2 := b.2.2.2.2.2.2.2.1 v
  have y1 := b.2.2.2.2.1 u
  have y2 := b.2.2.2.2.1 v
  refine aw_aload_n 0 q_M_comesBefore_68 rfl rfl ?_
  refine aw_get 7 q_M_comesBefore_69 fl_M_22 rfl rfl ?_
  refine aw_iload_n 2 q_M_comesBefore_72 rfl rfl ?_
  refine aw_laldN q_M_comesBefore_73 rfl (by omega) rfl ?_
  refine aw_aload_n 0 q_M_comesBefore_74 rfl rfl ?_
  refine aw_get 7 q_M_comesBefore_75 fl_M_22 rfl rfl ?_
  refine aw_iload_n 3 q_M_comesBefore_78 rfl rfl ?_
  refine aw_laldN q_M_comesBefore_79 rfl (by omega) rfl ?_
  refine aw_lcmp_ne 97 q_M_comesBefore_80 q_M_comesBefore_81 rfl (fun c80 => ?_) (fun c80 => ?_)
  · skip
    refine aw_aload_n 0 q_M_comesBefore_97 rfl rfl ?_
    refine aw_get 7 q_M_comesBefore_98 fl_M_22 rfl rfl ?_
    refine aw_iload_n 2 q_M_comesBefore_101 rfl rfl ?_
    refine aw_laldN q_M_comesBefore_102 rfl (by omega) rfl ?_
    refine aw_lconst (lZ 0) q_M_comesBefore_103 rfl ?_
    refine aw_lcmp_ne 112 q_M_comesBefore_104 q_M_comesBefore_105 rfl (fun c104 => ?_) (fun c104 => ?_)
    · skip
      refine aw_iconst 0 q_M_comesBefore_112 rfl ?_
      exact aw_iret .boolean q_M_comesBefore_113 rfl rfl (aw_rz0 (by rw [hg, if_neg (mt (lZ_eq (a := x_co D u) (b := x_co D v) (by omega) (by omega)).mpr c80)]; have := mt (lZ_eq (a := x_co D u) (b := 0) (by omega) (by omega)).mpr c104; simp; omega)) rfl
    · skip
      refine aw_iconst 1 q_M_comesBefore_108 rfl ?_
      refine aw_goto 113 q_M_comesBefore_109 rfl ?_
      exact aw_iret .boolean q_M_comesBefore_113 rfl rfl (aw_rz1 (by rw [hg, if_neg (mt (lZ_eq (a := x_co D u) (b := x_co D v) (by omega) (by omega)).mpr c80)]; have := (lZ_eq (a := x_co D u) (b := 0) (by omega) (by omega)).mp c104; simp; omega)) rfl
  · skip
    refine aw_iload_n 2 q_M_comesBefore_84 rfl rfl ?_
    refine aw_iload_n 3 q_M_comesBefore_85 rfl rfl ?_
    refine aw_icmp_ge 93 q_M_comesBefore_86 rfl (fun c86 => ?_) (fun c86 => ?_)
    · skip
      refine aw_iconst 0 q_M_comesBefore_93 rfl ?_
      refine aw_goto 113 q_M_comesBefore_94 rfl ?_
      exact aw_iret .boolean q_M_comesBefore_113 rfl rfl (aw_rz0 (by rw [hg, if_pos ((lZ_eq (a := x_co D u) (b := x_co D v) (by omega) (by omega)).mp c80)]; have := nge_ge c86 (by omega) (by omega); simp; omega)) rfl
    · skip
      refine aw_iconst 1 q_M_comesBefore_89 rfl ?_
      refine aw_goto 113 q_M_comesBefore_90 rfl ?_
      exact aw_iret .boolean q_M_comesBefore_113 rfl rfl (aw_rz1 (by rw [hg, if_pos ((lZ_eq (a := x_co D u) (b := x_co D v) (by omega) (by omega)).mp c80)]; have := nge_lt c86 (by omega) (by omega); simp; omega)) rfl
theorem g_M_cb41 (sc : am_S) (A : ST) (q : QS) (D : ST) (t : TS) (k u v : Nat) (b : bd D) (hk : k < 3) (hu : u < 14) (hv : v < 14) (hh : ¬ (k = 2 ∧ ¬ x_yr D u = x_yr D v)) : AW sc m_M_comesBefore 1 41 [some (.ref 50), some (.int (nI k)), some (.int (nI u)), some (.int (nI v)), none, none, none, none] [] (hp A q D t) (some (.int (zI (gb D k u v)))) (hp A q D t) := by
  have w1 := b.2.2.2.2.2.2.2.2.1 u
  have w2 := b.2.2.2.2.2.2.2.2.1 v
  have o1 := b.2.2.2.2.2.2.2.1 u
  have o2 := b.2.2.2.2.2.2.2.1 v
  have y1 := b.2.2.2.2.1 u
  have y2 := b.2.2.2.2.1 v
  refine aw_iload_n 1 q_M_comesBefore_41 rfl rfl ?_
  refine aw_iconst 1 q_M_comesBefore_42 rfl ?_
  refine aw_icmp_ne 179 q_M_comesBefore_43 rfl (fun c43 => ?_) (fun c43 => ?_)
  · skip
    exact g_M_cb179 sc A q D t k u v b hk hu hv (gb_w (nI_ne (b := 1) (by omega) (by omega) c43) hh)
  · skip
    refine aw_aload_n 0 q_M_comesBefore_46 rfl rfl ?_
    refine aw_get 7 q_M_comesBefore_47 fl_M_22 rfl rfl ?_
    refine aw_iload_n 2 q_M_comesBefore_50 rfl rfl ?_
    refine aw_laldN q_M_comesBefore_51 rfl (by omega) rfl ?_
    refine aw_lconst (lZ 0) q_M_comesBefore_52 rfl ?_
    refine aw_lcmp_eq 68 q_M_comesBefore_53 q_M_comesBefore_54 rfl (fun c53 => ?_) (fun c53 => ?_)
    · skip
      have k1 : k = 1 := nI_eq' (b := 1) (by omega) (by omega) c43
      refine g_M_cb68 sc A q D t k u v b hk hu hv ?_
      rw [k1]
      refine gb_z b ?_
      first
        | exact Or.inl ((lZ_eq (a := x_co D u) (b := 0) (by omega) (by omega)).mp c53)
        | exact Or.inr ((lZ_eq (a := x_co D v) (b := 0) (by omega) (by omega)).mp c64)
    · skip
      refine aw_aload_n 0 q_M_comesBefore_57 rfl rfl ?_
      refine aw_get 7 q_M_comesBefore_58 fl_M_22 rfl rfl ?_
      refine aw_iload_n 3 q_M_comesBefore_61 rfl rfl ?_
      refine aw_laldN q_M_comesBefore_62 rfl (by omega) rfl ?_
      refine aw_lconst (lZ 0) q_M_comesBefore_63 rfl ?_
      refine aw_lcmp_ne 114 q_M_comesBefore_64 q_M_comesBefore_65 rfl (fun c64 => ?_) (fun c64 => ?_)
      · skip
        have k1 : k = 1 := nI_eq' (b := 1) (by omega) (by omega) c43
        refine g_M_cb114 sc A q D t k u v b hk hu hv ?_
        rw [k1]
        refine gb_r ?_
        have e1 := mt (lZ_eq (a := x_co D u) (b := 0) (by omega) (by omega)).mpr c53
        have e2 := mt (lZ_eq (a := x_co D v) (b := 0) (by omega) (by omega)).mpr c64
        omega
      · skip
        have k1 : k = 1 := nI_eq' (b := 1) (by omega) (by omega) c43
        refine g_M_cb68 sc A q D t k u v b hk hu hv ?_
        rw [k1]
        refine gb_z b ?_
        first
          | exact Or.inl ((lZ_eq (a := x_co D u) (b := 0) (by omega) (by omega)).mp c53)
          | exact Or.inr ((lZ_eq (a := x_co D v) (b := 0) (by omega) (by omega)).mp c64)
theorem c_M_comesBefore (sc : am_S) (A : ST) (q : QS) (D : ST) (t : TS) (k u v : Nat) (b : bd D) (hk : k < 3) (hu : u < 14) (hv : v < 14) : AM sc m_M_comesBefore 1 [.ref 50, .int (nI k), .int (nI u), .int (nI v)] (hp A q D t) (some (.int (zI (gb D k u v)))) (hp A q D t) := by
  refine AM.of (by decide) (Nat.le_of_ble_eq_true rfl) ?_
  show AW sc m_M_comesBefore 1 0 [some (.ref 50), some (.int (nI k)), some (.int (nI u)), some (.int (nI v)), none, none, none, none] [] _ _ _
  have y1 := b.2.2.2.2.1 u
  have y2 := b.2.2.2.2.1 v
  refine aw_iload_n 1 q_M_comesBefore_0 rfl rfl ?_
  refine aw_iconst 2 q_M_comesBefore_1 rfl ?_
  refine aw_icmp_ne 41 q_M_comesBefore_2 rfl (fun c2 => ?_) (fun c2 => ?_)
  · skip
    first
      | exact g_M_cb41 sc A q D t k u v b hk hu hv (fun z => nI_ne (b := 2) (by omega) (by omega) c2 z.1)
      | exact g_M_cb41 sc A q D t k u v b hk hu hv (fun z => z.2 (nI_eq' (by omega) (by omega) c17))
  · skip
    refine aw_aload_n 0 q_M_comesBefore_5 rfl rfl ?_
    refine aw_get 6 q_M_comesBefore_6 fl_M_19 rfl rfl ?_
    refine aw_iload_n 2 q_M_comesBefore_9 rfl rfl ?_
    refine aw_ialdN q_M_comesBefore_10 rfl (by omega) rfl ?_
    refine aw_aload_n 0 q_M_comesBefore_11 rfl rfl ?_
    refine aw_get 6 q_M_comesBefore_12 fl_M_19 rfl rfl ?_
    refine aw_iload_n 3 q_M_comesBefore_15 rfl rfl ?_
    refine aw_ialdN q_M_comesBefore_16 rfl (by omega) rfl ?_
    refine aw_icmp_eq 41 q_M_comesBefore_17 rfl (fun c17 => ?_) (fun c17 => ?_)
    · skip
      first
        | exact g_M_cb41 sc A q D t k u v b hk hu hv (fun z => nI_ne (b := 2) (by omega) (by omega) c2 z.1)
        | exact g_M_cb41 sc A q D t k u v b hk hu hv (fun z => z.2 (nI_eq' (by omega) (by omega) c17))
    · skip
      have k2 : k = 2 := nI_eq' (b := 2) (by omega) (by omega) c2
      have n2 := nI_ne (by omega) (by omega) c17
      rw [k2, gb_y n2]
      refine aw_aload_n 0 q_M_comesBefore_20 rfl rfl ?_
      refine aw_get 6 q_M_comesBefore_21 fl_M_19 rfl rfl ?_
      refine aw_iload_n 2 q_M_comesBefore_24 rfl rfl ?_
      refine aw_ialdN q_M_comesBefore_25 rfl (by omega) rfl ?_
      refine aw_aload_n 0 q_M_comesBefore_26 rfl rfl ?_
      refine aw_get 6 q_M_comesBefore_27 fl_M_19 rfl rfl ?_
      refine aw_iload_n 3 q_M_comesBefore_30 rfl rfl ?_
      refine aw_ialdN q_M_comesBefore_31 rfl (by omega) rfl ?_
      refine aw_icmp_ge 39 q_M_comesBefore_32 rfl (fun c32 => ?_) (fun c32 => ?_)
      · skip
        refine aw_iconst 0 q_M_comesBefore_39 rfl ?_
        exact aw_iret .boolean q_M_comesBefore_40 rfl rfl (aw_rz0 (by have := nge_ge c32 (by omega) (by omega); simp; omega)) rfl
      · skip
        refine aw_iconst 1 q_M_comesBefore_35 rfl ?_
        refine aw_goto 40 q_M_comesBefore_36 rfl ?_
        exact aw_iret .boolean q_M_comesBefore_40 rfl rfl (aw_rz1 (by have := nge_lt c32 (by omega) (by omega); simp; omega)) rfl
/-- one step of an insertion: n goes to its place among the first places of f -/
def insI (D : ST) (k n : Nat) : (Nat → Nat) → Nat → (Nat → Nat)
  | f, 0 => va_up f 0 n
  | f, a + 1 => if gb D k n (f a) = true then insI D k n (va_up f (a + 1) (f a)) a else va_up f (a + 1) n
def insO (D : ST) (k : Nat) (f : Nat → Nat) : Nat → (Nat → Nat)
  | 0 => f
  | n + 1 => insI D k n (insO D k f n) n
theorem insI_lt {D : ST} {k n : Nat} (hn : n < 14) : ∀ (a : Nat) (f : Nat → Nat), a ≤ n → (∀ j, j < n + 1 → j ≠ a → f j < 14) → ∀ j, j < n + 1 → insI D k n f a j < 14
  | 0, f, ha, hf, j, hj => by
    unfold insI va_up
    split
    · exact hn
    · rename_i h; exact hf j hj h
  | a + 1, f, ha, hf, j, hj => by
    unfold insI
    split
    · refine insI_lt hn a _ (by omega) (fun i hi hia => ?_) j hj
      unfold va_up
      split
      · exact hf a (by omega) (by omega)
      · rename_i h; exact hf i hi h
    · unfold va_up
      split
      · exact hn
      · rename_i h; exact hf j hj h
theorem insO_lt {D : ST} {k : Nat} {f : Nat → Nat} : ∀ n, n ≤ 14 → ∀ j, j < n → insO D k f n j < 14
  | 0, _, j, hj => by omega
  | n + 1, hn, j, hj => insI_lt (by omega) n _ (Nat.le_refl _) (fun i hi hia => insO_lt n (by omega) i (by omega)) j hj
def pM (D : ST) (f : Nat → Nat) : Nat → Nat
  | 0 => x_mu D
  | i + 1 => if ftm D (pM D f i ||| 2 ^ f i) (x_ny D) = true then pM D f i ||| 2 ^ f i else pM D f i
theorem pM_lt {D : ST} (b : bd D) {f : Nat → Nat} : ∀ n, (∀ j, j < n → f j < 14) → pM D f n < 16384
  | 0, _ => mu_b b
  | i + 1, hf => by
    have h := pM_lt b (f := f) i (fun j hj => hf j (by omega))
    unfold pM
    split
    · exact or14 h (hf i (by omega))
    · exact h
theorem l_M_planBy1 (sc : am_S) (A : ST) (q : QS) (D : ST) (t : TS) (k n s : Nat) (b : bd D) (hk : k < 3) (hn : n < 14) (r : Option Value) (hz : List am_C) : ∀ (a : Nat) (f : Nat → Nat), a ≤ n → (∀ j, j < a → f j < 14) → AW sc m_M_planBy 3 84 [some (.ref 50), some (.int (nI k)), some (.int (nI s)), some (.int (nI n)), none] [] (hp A q D (t_s_or t (insI D k n f a))) r hz → AW sc m_M_planBy 3 31 [some (.ref 50), some (.int (nI k)), some (.int (nI s)), some (.int (nI n)), some (.int (nI a))] [] (hp A q D (t_s_or t f)) r hz := by
  intro a
  induction a with
  | zero =>
    intro f ha hf kk
    refine aw_iload q_M_planBy_31 rfl ?_
    refine aw_if_le 76 q_M_planBy_33 rfl (fun c33 => ?_) (fun c33 => ?_)
    · skip
      refine aw_aload_n 0 q_M_planBy_76 rfl rfl ?_
      refine aw_get 21 q_M_planBy_77 fl_M_57 rfl rfl ?_
      refine aw_iload q_M_planBy_80 rfl ?_
      refine aw_iload_n 3 q_M_planBy_82 rfl rfl ?_
      refine wa_62 _ q_M_planBy_83 (by omega) ?_
      exact aw_kill [4] kk
    · skip
      exact absurd (show nI 0 ≤ nI 0 from (nI_leI (by omega) (by omega)).mpr (Nat.le_refl 0)) c33
  | succ a ih =>
    intro f ha hf kk
    have hfa := hf a (by omega)
    refine aw_iload q_M_planBy_31 rfl ?_
    refine aw_if_le 76 q_M_planBy_33 rfl (fun c33 => ?_) (fun c33 => ?_)
    · skip
      first
        | exact absurd ((nI_leI (b := 0) (by omega) (by omega)).mp c33) (by omega)
        | (have h9 : gb D k n (f a) = false := zI_0.mp c51
           rw [insI, if_neg (by rw [h9]; decide)] at kk
           refine aw_aload_n 0 q_M_planBy_76 rfl rfl ?_
           refine aw_get 21 q_M_planBy_77 fl_M_57 rfl rfl ?_
           refine aw_iload q_M_planBy_80 rfl ?_
           refine aw_iload_n 3 q_M_planBy_82 rfl rfl ?_
           refine wa_62 _ q_M_planBy_83 (by omega) ?_
           exact aw_kill [4] kk)
    · skip
      have c33' := c33
      refine aw_aload_n 0 q_M_planBy_36 rfl rfl ?_
      refine aw_iload_n 1 q_M_planBy_37 rfl rfl ?_
      refine aw_iload_n 3 q_M_planBy_38 rfl rfl ?_
      refine aw_aload_n 0 q_M_planBy_39 rfl rfl ?_
      refine aw_get 21 q_M_planBy_40 fl_M_57 rfl rfl ?_
      refine aw_iload q_M_planBy_43 rfl ?_
      refine aw_iconst 1 q_M_planBy_45 rfl ?_
      refine aw_isub q_M_planBy_46 ?_
      rw [nI_pred]
      refine aw_ialdN q_M_planBy_47 rfl (by omega) rfl ?_
      refine aw_V3 q_M_planBy_48 st_M_170 rfl (by omega) (Nat.le_of_ble_eq_true rfl) (c_M_comesBefore _ _ _ _ _ _ _ _ b hk (by omega) hfa) ?_
      refine aw_if_eq 76 q_M_planBy_51 rfl (fun c51 => ?_) (fun c51 => ?_)
      · skip
        first
          | exact absurd ((nI_leI (b := 0) (by omega) (by omega)).mp c33) (by omega)
          | (have h9 : gb D k n (f a) = false := zI_0.mp c51
             rw [insI, if_neg (by rw [h9]; decide)] at kk
             refine aw_aload_n 0 q_M_planBy_76 rfl rfl ?_
             refine aw_get 21 q_M_planBy_77 fl_M_57 rfl rfl ?_
             refine aw_iload q_M_planBy_80 rfl ?_
             refine aw_iload_n 3 q_M_planBy_82 rfl rfl ?_
             refine wa_62 _ q_M_planBy_83 (by omega) ?_
             exact aw_kill [4] kk)
      · skip
        refine aw_aload_n 0 q_M_planBy_54 rfl rfl ?_
        refine aw_get 21 q_M_planBy_55 fl_M_57 rfl rfl ?_
        refine aw_iload q_M_planBy_58 rfl ?_
        refine aw_aload_n 0 q_M_planBy_60 rfl rfl ?_
        refine aw_get 21 q_M_planBy_61 fl_M_57 rfl rfl ?_
        refine aw_iload q_M_planBy_64 rfl ?_
        refine aw_iconst 1 q_M_planBy_66 rfl ?_
        refine aw_isub q_M_planBy_67 ?_
        rw [nI_pred]
        refine aw_ialdN q_M_planBy_68 rfl (by omega) rfl ?_
        refine wa_62 _ q_M_planBy_69 (by omega) ?_
        have h9 : gb D k n (f a) = true := zI_n0.mp c51
        refine aw_iinc _ q_M_planBy_70 rfl (am_dec1 _) rfl rfl ?_
        refine aw_goto 31 q_M_planBy_73 rfl ?_
        rw [insI, if_pos h9] at kk
        rw [nI_pred]
        refine ih _ (by omega) ?_ kk
        intro j hj
        unfold va_up
        rw [if_neg (by omega)]
        exact hf j (by omega)
theorem l_M_planBy3 (sc : am_S) (A : ST) (q : QS) (D : ST) (t : TS) (k : Nat) (f : Nat → Nat) (b : bd D) (jd : jdo D) (hf : ∀ j, j < x_nc D → f j < 14) : ∀ (n i : Nat), x_nc D - i = n → i ≤ x_nc D →  AW sc m_M_planBy 3 92 [some (.ref 50), some (.int (nI k)), some (.int (nI (pM D f i))), some (.int (nI i)), none] [] (hp A q D (t_s_or t f)) (some (.int (nI (pM D f (x_nc D))))) (hp A q D (t_s_or t f)) := by
  intro n
  induction n using Nat.strongRecOn with
  | _ n ih =>
    intro i hn hi
    have b3 := b.2.2.1
    have hpm := pM_lt b (f := f) i (fun j hj => hf j (by omega))
    refine aw_iload_n 3 q_M_planBy_92 rfl rfl ?_
    refine aw_aload_n 0 q_M_planBy_93 rfl rfl ?_
    refine aw_get 4 q_M_planBy_94 fl_M_84 rfl rfl ?_
    refine aw_icmp_ge 134 q_M_planBy_97 rfl (fun c97 => ?_) (fun c97 => ?_)
    · skip
      refine aw_iload_n 2 q_M_planBy_134 rfl rfl ?_
      exact aw_iret .int q_M_planBy_135 rfl rfl (by rw [show i = x_nc D from Nat.le_antisymm hi (nge_ge c97 (by omega) (by omega))]) rfl
    · skip
      have hlt : i < x_nc D := nge_lt c97 (by omega) (by omega)
      have hfi := hf i hlt
      have hor := or14 hpm hfi
      refine aw_iload_n 2 q_M_planBy_100 rfl rfl ?_
      refine aw_iconst 1 q_M_planBy_101 rfl ?_
      refine aw_aload_n 0 q_M_planBy_102 rfl rfl ?_
      refine aw_get 21 q_M_planBy_103 fl_M_57 rfl rfl ?_
      refine aw_iload_n 3 q_M_planBy_106 rfl rfl ?_
      refine aw_ialdN q_M_planBy_107 rfl (by omega) rfl ?_
      rw [show t_or (t_s_or t f) i = f i from rfl]
      refine aw_ishl q_M_planBy_108 ?_
      rw [bt_one (by omega)]
      refine aw_ior q_M_planBy_109 ?_
      rw [nI_or]
      refine aw_istore q_M_planBy_110 rfl rfl ?_
      refine aw_aload_n 0 q_M_planBy_112 rfl rfl ?_
      refine aw_iload q_M_planBy_113 rfl ?_
      refine aw_V1 q_M_planBy_115 st_M_120 rfl (by omega) (Nat.le_of_ble_eq_true rfl) (c_M_fits _ _ _ _ _ _ b jd hor) ?_
      refine aw_if_eq 126 q_M_planBy_118 rfl (fun c118 => ?_) (fun c118 => ?_)
      · skip
        refine aw_iload_n 2 q_M_planBy_126 rfl rfl ?_
        refine aw_istore_n 2 q_M_planBy_127 rfl rfl rfl ?_
        first | refine aw_iinc _ q_M_planBy_128 rfl (am_inc _) rfl rfl ?_ | refine aw_iinc _ q_M_planBy_128 rfl rfl rfl rfl ?_
        refine aw_goto 92 q_M_planBy_131 rfl ?_
        first
          | (have h9 := zI_0.mp c118
             have g := ih _ (by omega) (i + 1) rfl (by omega)
             rw [show pM D f (i + 1) = pM D f i from by rw [pM, if_neg (by rw [h9]; decide)]] at g
             exact aw_kill [4] g)
          | (have h9 := zI_n0.mp c118
             have g := ih _ (by omega) (i + 1) rfl (by omega)
             rw [show pM D f (i + 1) = pM D f i ||| 2 ^ f i from by rw [pM, if_pos h9]] at g
             exact aw_kill [4] g)
      · skip
        refine aw_iload q_M_planBy_121 rfl ?_
        refine aw_goto 127 q_M_planBy_123 rfl ?_
        refine aw_istore_n 2 q_M_planBy_127 rfl rfl rfl ?_
        first | refine aw_iinc _ q_M_planBy_128 rfl (am_inc _) rfl rfl ?_ | refine aw_iinc _ q_M_planBy_128 rfl rfl rfl rfl ?_
        refine aw_goto 92 q_M_planBy_131 rfl ?_
        first
          | (have h9 := zI_0.mp c118
             have g := ih _ (by omega) (i + 1) rfl (by omega)
             rw [show pM D f (i + 1) = pM D f i from by rw [pM, if_neg (by rw [h9]; decide)]] at g
             exact aw_kill [4] g)
          | (have h9 := zI_n0.mp c118
             have g := ih _ (by omega) (i + 1) rfl (by omega)
             rw [show pM D f (i + 1) = pM D f i ||| 2 ^ f i from by rw [pM, if_pos h9]] at g
             exact aw_kill [4] g)
theorem l_M_planBy2 (sc : am_S) (A : ST) (q : QS) (D : ST) (t : TS) (k : Nat) (b : bd D) (jd : jdo D) (hk : k < 3) : ∀ (n i : Nat), x_nc D - i = n → i ≤ x_nc D →  AW sc m_M_planBy 3 20 [some (.ref 50), some (.int (nI k)), some (.int (nI (x_mu D))), some (.int (nI i)), none] [] (hp A q D (t_s_or t (insO D k (t_or t) i))) (some (.int (nI (pM D (insO D k (t_or t) (x_nc D)) (x_nc D))))) (hp A q D (t_s_or t (insO D k (t_or t) (x_nc D)))) := by
  intro n
  induction n using Nat.strongRecOn with
  | _ n ih =>
    intro i hn hi
    have b3 := b.2.2.1
    refine aw_iload_n 3 q_M_planBy_20 rfl rfl ?_
    refine aw_aload_n 0 q_M_planBy_21 rfl rfl ?_
    refine aw_get 4 q_M_planBy_22 fl_M_84 rfl rfl ?_
    refine aw_icmp_ge 90 q_M_planBy_25 rfl (fun c25 => ?_) (fun c25 => ?_)
    · skip
      rw [show i = x_nc D from Nat.le_antisymm hi (nge_ge c25 (by omega) (by omega))]
      refine aw_iconst 0 q_M_planBy_90 rfl ?_
      refine aw_istore_n 3 q_M_planBy_91 rfl rfl rfl ?_
      exact l_M_planBy3 sc A q D t k _ b jd (insO_lt _ b3) _ 0 rfl (by omega)
    · skip
      have hlt : i < x_nc D := nge_lt c25 (by omega) (by omega)
      refine aw_iload_n 3 q_M_planBy_28 rfl rfl ?_
      refine aw_istore q_M_planBy_29 rfl rfl ?_
      refine l_M_planBy1 sc A q D t k i _ b hk (by omega) _ _ i _ (Nat.le_refl _) (insO_lt i (by omega)) ?_
      first | refine aw_iinc _ q_M_planBy_84 rfl (am_inc _) rfl rfl ?_ | refine aw_iinc _ q_M_planBy_84 rfl rfl rfl rfl ?_
      refine aw_goto 20 q_M_planBy_87 rfl ?_
      exact ih _ (by omega) (i + 1) rfl (by omega)
def plM (D : ST) (t : TS) (k : Nat) : Option Nat := if ftm D (x_mu D) (x_ny D) = true then some (pM D (insO D k (t_or t) (x_nc D)) (x_nc D)) else none
def plT (D : ST) (t : TS) (k : Nat) : TS := if ftm D (x_mu D) (x_ny D) = true then t_s_or t (insO D k (t_or t) (x_nc D)) else t
theorem plM_lt {D : ST} (b : bd D) {t : TS} {k m : Nat} (h : plM D t k = some m) : m < 16384 := by
  unfold plM at h
  split at h
  · cases h
    exact pM_lt b _ (insO_lt _ b.2.2.1)
  · cases h
theorem c_M_planBy (sc : am_S) (A : ST) (q : QS) (D : ST) (t : TS) (k : Nat) (b : bd D) (jd : jdo D) (hk : k < 3) : AM sc m_M_planBy 3 [.ref 50, .int (nI k)] (hp A q D t) (some (.int (pI (plM D t k)))) (hp A q D (plT D t k)) := by
  refine AM.of (by decide) (Nat.le_of_ble_eq_true rfl) ?_
  show AW sc m_M_planBy 3 0 [some (.ref 50), some (.int (nI k)), none, none, none] [] _ _ _
  refine aw_aload_n 0 q_M_planBy_0 rfl rfl ?_
  refine aw_aload_n 0 q_M_planBy_1 rfl rfl ?_
  refine aw_get 9 q_M_planBy_2 fl_M_91 rfl rfl ?_
  refine aw_V1 q_M_planBy_5 st_M_120 rfl (by omega) (Nat.le_of_ble_eq_true rfl) (c_M_fits _ _ _ _ _ _ b jd (mu_b b)) ?_
  refine aw_if_ne 13 q_M_planBy_8 rfl (fun c8 => ?_) (fun c8 => ?_)
  · skip
    refine aw_aload_n 0 q_M_planBy_13 rfl rfl ?_
    refine aw_get 9 q_M_planBy_14 fl_M_91 rfl rfl ?_
    refine aw_istore_n 2 q_M_planBy_17 rfl rfl rfl ?_
    refine aw_iconst 0 q_M_planBy_18 rfl ?_
    refine aw_istore_n 3 q_M_planBy_19 rfl rfl rfl ?_
    have hs := zI_n0.mp c8
    have g := l_M_planBy2 sc A q D t k b jd hk _ 0 rfl (by omega)
    rw [show plM D t k = some (pM D (insO D k (t_or t) (x_nc D)) (x_nc D)) from by unfold plM; rw [if_pos hs], show plT D t k = t_s_or t (insO D k (t_or t) (x_nc D)) from by unfold plT; rw [if_pos hs]]
    exact g
  · skip
    refine aw_iconst (-1) q_M_planBy_11 rfl ?_
    exact aw_iret .int q_M_planBy_12 rfl rfl (by unfold plM; rw [if_neg (by rw [zI_0.mp c8]; decide)]; rfl) (by unfold plT; rw [if_neg (by rw [zI_0.mp c8]; decide)])
theorem c_M_policy_no (sc : am_S) (A : ST) (q : QS) (D : ST) (t : TS) (x : Int32) (hx : ¬ (¬ x < 0 ∧ x ≤ 2)) : AM sc m_M_policy 4 [.ref 50, .int x] (hp A q D t) (some (.int (-1))) (hp A q (x_s_pn D none) t) := by
  refine AM.of (by decide) (Nat.le_of_ble_eq_true rfl) ?_
  show AW sc m_M_policy 4 0 [some (.ref 50), some (.int x)] [] _ _ _
  refine aw_iload_n 1 q_M_policy_0 rfl rfl ?_
  refine aw_if_lt 9 q_M_policy_1 rfl (fun c1 => ?_) (fun c1 => ?_)
  · skip
    refine aw_aload_n 0 q_M_policy_9 rfl rfl ?_
    refine aw_iconst (-1) q_M_policy_10 rfl ?_
    refine wp_M_16 none q_M_policy_11 fl_M_47 ?_
    refine aw_iconst (-1) q_M_policy_14 rfl ?_
    exact aw_iret .int q_M_policy_15 rfl rfl rfl rfl
  · skip
    refine aw_iload_n 1 q_M_policy_4 rfl rfl ?_
    refine aw_iconst 2 q_M_policy_5 rfl ?_
    refine aw_icmp_le 16 q_M_policy_6 rfl (fun c6 => ?_) (fun c6 => ?_)
    · skip
      exact (hx ⟨c1, c6⟩).elim
    · skip
      refine aw_aload_n 0 q_M_policy_9 rfl rfl ?_
      refine aw_iconst (-1) q_M_policy_10 rfl ?_
      refine wp_M_16 none q_M_policy_11 fl_M_47 ?_
      refine aw_iconst (-1) q_M_policy_14 rfl ?_
      exact aw_iret .int q_M_policy_15 rfl rfl rfl rfl
theorem c_M_policy (sc : am_S) (A : ST) (q : QS) (D : ST) (t : TS) (k : Nat) (b : bd D) (jd : jdo D) (hk : k < 3) : AM sc m_M_policy 4 [.ref 50, .int (nI k)] (hp A q D t) (some (.int (plv D (plM D t k)))) (hp A q (x_s_pn D (plM D t k)) (plT D t k)) := by
  refine AM.of (by decide) (Nat.le_of_ble_eq_true rfl) ?_
  show AW sc m_M_policy 4 0 [some (.ref 50), some (.int (nI k))] [] _ _ _
  have e0 := pI_eq (o := plM D t k) (fun m h => by have := plM_lt b h; omega)
  refine aw_iload_n 1 q_M_policy_0 rfl rfl ?_
  refine aw_if_lt 9 q_M_policy_1 rfl (fun c1 => ?_) (fun c1 => ?_)
  · skip
    first
      | exact absurd ((nI_ltI (b := 0) (by omega) (by omega)).mp c1) (by omega)
      | exact absurd ((nI_leI (b := 2) (by omega) (by omega)).mpr (by omega)) c6
  · skip
    refine aw_iload_n 1 q_M_policy_4 rfl rfl ?_
    refine aw_iconst 2 q_M_policy_5 rfl ?_
    refine aw_icmp_le 16 q_M_policy_6 rfl (fun c6 => ?_) (fun c6 => ?_)
    · skip
      refine aw_aload_n 0 q_M_policy_16 rfl rfl ?_
      refine aw_aload_n 0 q_M_policy_17 rfl rfl ?_
      refine aw_iload_n 1 q_M_policy_18 rfl rfl ?_
      refine aw_V1 q_M_policy_19 st_M_174 rfl (by omega) (Nat.le_of_ble_eq_true rfl) (c_M_planBy _ _ _ _ _ _ b jd hk) ?_
      refine wp_M_16 _ q_M_policy_22 fl_M_47 ?_
      refine aw_aload_n 0 q_M_policy_25 rfl rfl ?_
      refine aw_get 16 q_M_policy_26 fl_M_47 rfl rfl ?_
      simp only [xg_pn_pn]
      refine aw_iconst (-1) q_M_policy_29 rfl ?_
      refine aw_icmp_ne 37 q_M_policy_30 rfl (fun c30 => ?_) (fun c30 => ?_)
      · skip
        obtain ⟨m, hm⟩ := Option.ne_none_iff_exists'.mp (mt e0.mpr c30)
        have hm2 := plM_lt b hm
        refine aw_aload_n 0 q_M_policy_37 rfl rfl ?_
        refine aw_aload_n 0 q_M_policy_38 rfl rfl ?_
        refine aw_get 16 q_M_policy_39 fl_M_47 rfl rfl ?_
        simp only [xg_pn_pn]
        rw [show pI (plM D t k) = nI m from by rw [hm]; rfl]
        refine aw_V1 q_M_policy_42 st_M_123 rfl (by omega) (Nat.le_of_ble_eq_true rfl) (c_M_worthOf _ _ _ (x_s_pn D (plM D t k)) _ m b hm2) ?_
        refine aw_l2i q_M_policy_45 ?_
        exact aw_iret .int q_M_policy_46 rfl rfl (by rw [hm]; rfl) rfl
      · skip
        refine aw_iconst (-1) q_M_policy_33 rfl ?_
        refine aw_goto 46 q_M_policy_34 rfl ?_
        exact aw_iret .int q_M_policy_46 rfl rfl (by rw [e0.mp c30]; rfl) rfl
    · skip
      first
        | exact absurd ((nI_ltI (b := 0) (by omega) (by omega)).mp c1) (by omega)
        | exact absurd ((nI_leI (b := 2) (by omega) (by omega)).mpr (by omega)) c6
theorem c_M_compare_no (sc : am_S) (A : ST) (q : QS) (D : ST) (t : TS) (x z : Int32) (hx : ¬ ((¬ x < 0 ∧ x ≤ 2) ∧ (¬ z < 0 ∧ z ≤ 2))) : AM sc m_M_compare 4 [.ref 50, .int x, .int z] (hp A q D t) (some (.long (lZ (-1)))) (hp A q D t) := by
  refine AM.of (by decide) (Nat.le_of_ble_eq_true rfl) ?_
  show AW sc m_M_compare 4 0 [some (.ref 50), some (.int x), some (.int z), none, none] [] _ _ _
  refine aw_iload_n 1 q_M_compare_0 rfl rfl ?_
  refine aw_if_lt 18 q_M_compare_1 rfl (fun c1 => ?_) (fun c1 => ?_)
  · skip
    refine aw_ldc2 (lZ (-1)) q_M_compare_18 (am_in3 (i := 127) rfl rfl) ?_
    exact aw_lret q_M_compare_21 rfl rfl rfl
  · skip
    refine aw_iload_n 1 q_M_compare_4 rfl rfl ?_
    refine aw_iconst 2 q_M_compare_5 rfl ?_
    refine aw_icmp_gt 18 q_M_compare_6 rfl (fun c6 => ?_) (fun c6 => ?_)
    · skip
      refine aw_ldc2 (lZ (-1)) q_M_compare_18 (am_in3 (i := 127) rfl rfl) ?_
      exact aw_lret q_M_compare_21 rfl rfl rfl
    · skip
      refine aw_iload_n 2 q_M_compare_9 rfl rfl ?_
      refine aw_if_lt 18 q_M_compare_10 rfl (fun c10 => ?_) (fun c10 => ?_)
      · skip
        refine aw_ldc2 (lZ (-1)) q_M_compare_18 (am_in3 (i := 127) rfl rfl) ?_
        exact aw_lret q_M_compare_21 rfl rfl rfl
      · skip
        refine aw_iload_n 2 q_M_compare_13 rfl rfl ?_
        refine aw_iconst 2 q_M_compare_14 rfl ?_
        refine aw_icmp_le 22 q_M_compare_15 rfl (fun c15 => ?_) (fun c15 => ?_)
        · skip
          exact (hx ⟨⟨c1, by first | exact c6 | exact Int32.not_lt.mp c6⟩, ⟨c10, c15⟩⟩).elim
        · skip
          refine aw_ldc2 (lZ (-1)) q_M_compare_18 (am_in3 (i := 127) rfl rfl) ?_
          exact aw_lret q_M_compare_21 rfl rfl rfl
theorem c_M_compare (sc : am_S) (A : ST) (q : QS) (D : ST) (t : TS) (k l : Nat) (b : bd D) (jd : jdo D) (hk : k < 3) (hl : l < 3) : AM sc m_M_compare 4 [.ref 50, .int (nI k), .int (nI l)] (hp A q D t) (some (.long (lZ (cmv D (plM D t k) (plM D (plT D t k) l))))) (hp A q D (plT D (plT D t k) l)) := by
  refine AM.of (by decide) (Nat.le_of_ble_eq_true rfl) ?_
  show AW sc m_M_compare 4 0 [some (.ref 50), some (.int (nI k)), some (.int (nI l)), none, none] [] _ _ _
  have e0 := pI_eq (o := plM D t k) (fun m h => by have := plM_lt b h; omega)
  have e1 := pI_eq (o := plM D (plT D t k) l) (fun m h => by have := plM_lt b h; omega)
  refine aw_iload_n 1 q_M_compare_0 rfl rfl ?_
  refine aw_if_lt 18 q_M_compare_1 rfl (fun c1 => ?_) (fun c1 => ?_)
  · skip
    first
      | exact absurd ((nI_ltI (b := 0) (by omega) (by omega)).mp c1) (by omega)
      | exact absurd ((nI_ltI (a := 2) (by omega) (by omega)).mp c6) (by omega)
      | exact absurd ((nI_ltI (b := 0) (by omega) (by omega)).mp c10) (by omega)
      | exact absurd ((nI_leI (b := 2) (by omega) (by omega)).mpr (by omega)) c15
  · skip
    refine aw_iload_n 1 q_M_compare_4 rfl rfl ?_
    refine aw_iconst 2 q_M_compare_5 rfl ?_
    refine aw_icmp_gt 18 q_M_compare_6 rfl (fun c6 => ?_) (fun c6 => ?_)
    · skip
      first
        | exact absurd ((nI_ltI (b := 0) (by omega) (by omega)).mp c1) (by omega)
        | exact absurd ((nI_ltI (a := 2) (by omega) (by omega)).mp c6) (by omega)
        | exact absurd ((nI_ltI (b := 0) (by omega) (by omega)).mp c10) (by omega)
        | exact absurd ((nI_leI (b := 2) (by omega) (by omega)).mpr (by omega)) c15
    · skip
      refine aw_iload_n 2 q_M_compare_9 rfl rfl ?_
      refine aw_if_lt 18 q_M_compare_10 rfl (fun c10 => ?_) (fun c10 => ?_)
      · skip
        first
          | exact absurd ((nI_ltI (b := 0) (by omega) (by omega)).mp c1) (by omega)
          | exact absurd ((nI_ltI (a := 2) (by omega) (by omega)).mp c6) (by omega)
          | exact absurd ((nI_ltI (b := 0) (by omega) (by omega)).mp c10) (by omega)
          | exact absurd ((nI_leI (b := 2) (by omega) (by omega)).mpr (by omega)) c15
      · skip
        refine aw_iload_n 2 q_M_compare_13 rfl rfl ?_
        refine aw_iconst 2 q_M_compare_14 rfl ?_
        refine aw_icmp_le 22 q_M_compare_15 rfl (fun c15 => ?_) (fun c15 => ?_)
        · skip
          refine aw_aload_n 0 q_M_compare_22 rfl rfl ?_
          refine aw_iload_n 1 q_M_compare_23 rfl rfl ?_
          refine aw_V1 q_M_compare_24 st_M_174 rfl (by omega) (Nat.le_of_ble_eq_true rfl) (c_M_planBy _ _ _ _ _ _ b jd hk) ?_
          refine aw_istore_n 3 q_M_compare_27 rfl rfl rfl ?_
          refine aw_aload_n 0 q_M_compare_28 rfl rfl ?_
          refine aw_iload_n 2 q_M_compare_29 rfl rfl ?_
          refine aw_V1 q_M_compare_30 st_M_174 rfl (by omega) (Nat.le_of_ble_eq_true rfl) (c_M_planBy _ _ _ _ _ _ b jd hl) ?_
          refine aw_istore q_M_compare_33 rfl rfl ?_
          refine aw_iload_n 3 q_M_compare_35 rfl rfl ?_
          refine aw_iconst (-1) q_M_compare_36 rfl ?_
          refine aw_icmp_eq 46 q_M_compare_37 rfl (fun c37 => ?_) (fun c37 => ?_)
          · skip
            refine aw_ldc2 (lZ (-1)) q_M_compare_46 (am_in3 (i := 127) rfl rfl) ?_
            refine aw_goto 64 q_M_compare_49 rfl ?_
            try rw [lZ_sub]
            exact aw_lret q_M_compare_64 rfl (by rw [e0.mp c37]; rfl) rfl
          · skip
            refine aw_iload q_M_compare_40 rfl ?_
            refine aw_iconst (-1) q_M_compare_42 rfl ?_
            refine aw_icmp_ne 52 q_M_compare_43 rfl (fun c43 => ?_) (fun c43 => ?_)
            · skip
              obtain ⟨m, hm⟩ := Option.ne_none_iff_exists'.mp (mt e0.mpr c37)
              obtain ⟨n, hn⟩ := Option.ne_none_iff_exists'.mp (mt e1.mpr c43)
              have hm2 := plM_lt b hm
              have hn2 := plM_lt b hn
              rw [hm, hn]
              refine aw_aload_n 0 q_M_compare_52 rfl rfl ?_
              refine aw_iload_n 3 q_M_compare_53 rfl rfl ?_
              rw [show pI (some m) = nI m from rfl]
              refine aw_V1 q_M_compare_54 st_M_123 rfl (by omega) (Nat.le_of_ble_eq_true rfl) (c_M_worthOf _ _ _ _ _ _ b (by assumption)) ?_
              refine aw_aload_n 0 q_M_compare_57 rfl rfl ?_
              refine aw_iload q_M_compare_58 rfl ?_
              rw [show pI (some n) = nI n from rfl]
              refine aw_V1 q_M_compare_60 st_M_123 rfl (by omega) (Nat.le_of_ble_eq_true rfl) (c_M_worthOf _ _ _ _ _ _ b (by assumption)) ?_
              refine aw_lsub q_M_compare_63 ?_
              try rw [lZ_sub]
              exact aw_lret q_M_compare_64 rfl rfl rfl
            · skip
              refine aw_ldc2 (lZ (-1)) q_M_compare_46 (am_in3 (i := 127) rfl rfl) ?_
              refine aw_goto 64 q_M_compare_49 rfl ?_
              try rw [lZ_sub]
              exact aw_lret q_M_compare_64 rfl (by rw [e1.mp c43]; cases plM D t k <;> rfl) rfl
        · skip
          first
            | exact absurd ((nI_ltI (b := 0) (by omega) (by omega)).mp c1) (by omega)
            | exact absurd ((nI_ltI (a := 2) (by omega) (by omega)).mp c6) (by omega)
            | exact absurd ((nI_ltI (b := 0) (by omega) (by omega)).mp c10) (by omega)
            | exact absurd ((nI_leI (b := 2) (by omega) (by omega)).mpr (by omega)) c15
