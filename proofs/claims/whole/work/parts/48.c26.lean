/-! CONTRACTS 26: the reference: fair, what holds -/
def pz (t : TS) (i : Nat) : Nat → Int := fun y => if y < i then 0 else t_pa t y
def dsi (D : ST) (m d i : Nat) : Int := sm i (fun c => if m.testBit c = true ∧ x_di D (x_th D c) = d then x_wo D c else 0)
def gpt (D : ST) (m : Nat) (t : TS) (i : Nat) : Nat → Int := fun d => pz t 4 d + dsi D m d i
theorem pz_0 (t : TS) : t_s_pa t (pz t 0) = t := by
  have : pz t 0 = t_pa t := by funext y; simp [pz]
  rw [this]
  rfl
theorem pz_s (t : TS) (i : Nat) : t_s_pa (t_s_pa t (pz t i)) (va_up (t_pa (t_s_pa t (pz t i))) i 0) = t_s_pa t (pz t (i + 1)) := by
  have : va_up (pz t i) i 0 = pz t (i + 1) := by
    funext y
    unfold va_up pz
    by_cases h : y = i
    · subst h; simp
    · rw [if_neg h]
      by_cases h2 : y < i
      · rw [if_pos h2, if_pos (by omega)]
      · rw [if_neg h2, if_neg (by omega)]
  rw [← this]
  rfl
theorem gpt_0 (D : ST) (m : Nat) (t : TS) : gpt D m t 0 = pz t 4 := by
  funext d
  simp [gpt, dsi, sm]
theorem gpt_t {D : ST} {m i : Nat} (t : TS) (h : m.testBit i = true) : t_s_pa (t_s_pa t (gpt D m t i)) (va_up (t_pa (t_s_pa t (gpt D m t i))) (x_di D (x_th D i)) (gpt D m t i (x_di D (x_th D i)) + x_wo D i)) = t_s_pa t (gpt D m t (i + 1)) := by
  have : va_up (gpt D m t i) (x_di D (x_th D i)) (gpt D m t i (x_di D (x_th D i)) + x_wo D i) = gpt D m t (i + 1) := by
    funext d
    unfold va_up
    by_cases e : d = x_di D (x_th D i)
    · subst e
      rw [if_pos rfl]
      simp only [gpt, dsi, sm]
      simp only [h, and_self, if_true]
      omega
    · rw [if_neg e]
      simp only [gpt, dsi, sm]
      rw [if_neg (fun z => e z.2.symm)]
      omega
  rw [← this]
  rfl
theorem gpt_f {D : ST} {m i : Nat} (t : TS) (h : m.testBit i = false) : t_s_pa (t_s_pa t (gpt D m t i)) (va_up (t_pa (t_s_pa t (gpt D m t i))) (x_di D (x_th D i)) (gpt D m t i (x_di D (x_th D i)) + 0)) = t_s_pa t (gpt D m t (i + 1)) := by
  have : va_up (gpt D m t i) (x_di D (x_th D i)) (gpt D m t i (x_di D (x_th D i)) + 0) = gpt D m t (i + 1) := by
    funext d
    unfold va_up
    by_cases e : d = x_di D (x_th D i)
    · subst e
      rw [if_pos rfl]
      simp only [gpt, dsi, sm, h]
      simp
    · rw [if_neg e]
      simp only [gpt, dsi, sm, h]
      simp
  rw [← this]
  rfl
theorem gpt_d {D : ST} {m : Nat} {t : TS} {d : Nat} (h : d < 4) : t_pa (t_s_pa t (gpt D m t (x_nc D))) d = dsum D m d := by
  show gpt D m t (x_nc D) d = _
  simp only [gpt, pz, if_pos h, dsi, dsum, Int.zero_add]
/-- the least and the most of the districts that have things -/
def lmf (g : Nat → Int) (ud : Nat) : Nat → Int × Int
  | 0 => (-1, 0)
  | i + 1 => if ud.testBit i = true then (if (lmf g ud i).1 < 0 ∨ g i < (lmf g ud i).1 then g i else (lmf g ud i).1, if (lmf g ud i).2 < g i then g i else (lmf g ud i).2) else lmf g ud i
theorem lmf_bd {D : ST} (b : bd D) (m ud : Nat) : ∀ i, (-1 ≤ (lmf (dsum D m) ud i).1 ∧ (lmf (dsum D m) ud i).1 ≤ 14000000) ∧ 0 ≤ (lmf (dsum D m) ud i).2 ∧ (lmf (dsum D m) ud i).2 ≤ 14000000
  | 0 => by simp [lmf]
  | i + 1 => by
    have h := lmf_bd b m ud i
    have h2 := dsum_bd b m i
    unfold lmf
    split
    · refine ⟨?_, ?_⟩
      · show (-1 ≤ ite _ _ _) ∧ (ite _ _ _ ≤ 14000000)
        split <;> omega
      · show (0 ≤ ite _ _ _) ∧ (ite _ _ _ ≤ 14000000)
        split <;> omega
    · exact h
def lmv (D : ST) (m : Nat) : Int × Int := lmf (dsum D m) (udm D (x_nt D)) 4
def fiM (D : ST) (m : Nat) : Bool := decide (x_fa D < 0) || (decide ((lmv D m).1 < 0) || decide ((lmv D m).2 - (lmv D m).1 ≤ x_fa D))
def tfr (D : ST) (m : Nat) (t : TS) : TS := if x_fa D < 0 then t else t_s_pa t (gpt D m t (x_nc D))
theorem lmf_s1 {g : Nat → Int} {ud i : Nat} (h : ud.testBit i = true) {u v : Int} (h1 : (if (lmf g ud i).1 < 0 ∨ g i < (lmf g ud i).1 then g i else (lmf g ud i).1) = u) (h2 : (if (lmf g ud i).2 < g i then g i else (lmf g ud i).2) = v) : (lmf g ud (i + 1)).1 = u ∧ (lmf g ud (i + 1)).2 = v := by
  unfold lmf
  rw [if_pos h]
  exact ⟨h1, h2⟩
theorem lmf_s0 {g : Nat → Int} {ud i : Nat} (h : ud.testBit i = false) : lmf g ud (i + 1) = lmf g ud i := by
  simp [lmf, h]
theorem l_M_isFair4 (sc : am_S) (A : ST) (q : QS) (D : ST) (t : TS) (m : Nat) (b : bd D) (hm : m < 16384) (hfa : 0 ≤ x_fa D ∧ x_fa D ≤ 10000000) (hg : ∀ d, d < 4 → t_pa t d = dsum D m d) : ∀ (n i : Nat), 4 - i = n → i ≤ 4 →  AW sc m_M_isFair 1 123 [some (.ref 50), some (.int (nI m)), some (.int (nI (udm D (x_nt D)))), some (.long (lZ (lmf (dsum D m) (udm D (x_nt D)) i).1)), none, some (.long (lZ (lmf (dsum D m) (udm D (x_nt D)) i).2)), none, some (.int (nI i))] [] (hp A q D t) (some (.int (zI (fiM D m)))) (hp A q D t) := by
  intro n
  induction n using Nat.strongRecOn with
  | _ n ih =>
    intro i hn hi
    have hu := udm_lt b (x_nt D)
    have hl := lmf_bd b m (udm D (x_nt D)) i
    have hd := dsum_bd b m i
    refine aw_iload q_M_isFair_123 rfl ?_
    refine aw_iconst 4 q_M_isFair_125 rfl ?_
    refine aw_icmp_ge 201 q_M_isFair_126 rfl (fun c126 => ?_) (fun c126 => ?_)
    · skip
      have he : i = 4 := Nat.le_antisymm hi (nge_ge (b := 4) c126 (by omega) (by omega))
      rw [he] at hl
      rw [he]
      refine aw_lload_n 3 q_M_isFair_201 rfl rfl ?_
      refine aw_lconst (lZ 0) q_M_isFair_202 rfl ?_
      refine aw_lcmp_lt 219 q_M_isFair_203 q_M_isFair_204 rfl (fun c203 => ?_) (fun c203 => ?_)
      · skip
        refine aw_iconst 1 q_M_isFair_219 rfl ?_
        refine aw_goto 224 q_M_isFair_220 rfl ?_
        exact aw_iret .boolean q_M_isFair_224 rfl rfl (aw_rz1 (by have k := (lZ_lt (a := (lmf (dsum D m) (udm D (x_nt D)) 4).1) (b := 0) (by omega) (by omega)).mp c203; unfold fiM lmv; simp only [Bool.or_eq_true, decide_eq_true_eq]; omega)) rfl
      · skip
        refine aw_lload q_M_isFair_207 rfl ?_
        refine aw_lload_n 3 q_M_isFair_209 rfl rfl ?_
        refine aw_lsub q_M_isFair_210 ?_
        rw [lZ_sub]
        refine aw_aload_n 0 q_M_isFair_211 rfl rfl ?_
        refine aw_get 15 q_M_isFair_212 fl_M_43 rfl rfl ?_
        refine aw_lcmp_gt 223 q_M_isFair_215 q_M_isFair_216 rfl (fun c215 => ?_) (fun c215 => ?_)
        · skip
          refine aw_iconst 0 q_M_isFair_223 rfl ?_
          exact aw_iret .boolean q_M_isFair_224 rfl rfl (aw_rz0 (by have k0 := mt (lZ_lt (a := (lmf (dsum D m) (udm D (x_nt D)) 4).1) (b := 0) (by omega) (by omega)).mpr c203; have k1 := (lZ_lt (by omega) (by omega)).mp c215; unfold fiM lmv; simp only [Bool.or_eq_false_iff, decide_eq_false_iff_not]; omega)) rfl
        · skip
          refine aw_iconst 1 q_M_isFair_219 rfl ?_
          refine aw_goto 224 q_M_isFair_220 rfl ?_
          exact aw_iret .boolean q_M_isFair_224 rfl rfl (aw_rz1 (by have k1 := mt (lZ_lt (by omega) (by omega)).mpr c215; unfold fiM lmv; simp only [Bool.or_eq_true, decide_eq_true_eq]; omega)) rfl
    · skip
      have hlt : i < 4 := nge_lt (b := 4) c126 (by omega) (by omega)
      refine aw_iload_n 2 q_M_isFair_129 rfl rfl ?_
      refine aw_iload q_M_isFair_130 rfl ?_
      refine aw_S2 q_M_isFair_132 st_M_94 (by omega) (Nat.le_of_ble_eq_true rfl) (c_M_has _ _ _ _ (by omega) (by omega)) ?_
      refine aw_if_eq 195 q_M_isFair_135 rfl (fun c135 => ?_) (fun c135 => ?_)
      · skip
        first | refine aw_iinc _ q_M_isFair_195 rfl (am_inc _) rfl rfl ?_ | refine aw_iinc _ q_M_isFair_195 rfl rfl rfl rfl ?_
        refine aw_goto 123 q_M_isFair_198 rfl ?_
        first
          | (have h9 := zI_0.mp c135
             have g := ih _ (by omega) (i + 1) rfl (by omega)
             rw [lmf_s0 h9] at g
             exact g)
          | (have h9 := zI_n0.mp c135
             have e9 := lmf_s1 (g := dsum D m) (ud := udm D (x_nt D)) (i := i) h9 (u := dsum D m i) (v := (lmf (dsum D m) (udm D (x_nt D)) i).2) (by have k1 := (lZ_lt (a := (lmf (dsum D m) (udm D (x_nt D)) i).1) (b := 0) (by omega) (by omega)).mp c140; rw [if_pos (Or.inl (by omega))]) (by have k2 := (lZ_le (a := dsum D m i) (b := (lmf (dsum D m) (udm D (x_nt D)) i).2) (by omega) (by omega)).mp c177; rw [if_neg (by omega)])
             have g := ih _ (by omega) (i + 1) rfl (by omega)
             rw [e9.1, e9.2] at g
             exact g)
          | (have h9 := zI_n0.mp c135
             have e9 := lmf_s1 (g := dsum D m) (ud := udm D (x_nt D)) (i := i) h9 (u := dsum D m i) (v := dsum D m i) (by have k1 := (lZ_lt (a := (lmf (dsum D m) (udm D (x_nt D)) i).1) (b := 0) (by omega) (by omega)).mp c140; rw [if_pos (Or.inl (by omega))]) (by have k2 := mt (lZ_le (a := dsum D m i) (b := (lmf (dsum D m) (udm D (x_nt D)) i).2) (by omega) (by omega)).mpr c177; rw [if_pos (by omega)])
             have g := ih _ (by omega) (i + 1) rfl (by omega)
             rw [e9.1, e9.2] at g
             exact g)
          | (have h9 := zI_n0.mp c135
             have e9 := lmf_s1 (g := dsum D m) (ud := udm D (x_nt D)) (i := i) h9 (u := dsum D m i) (v := (lmf (dsum D m) (udm D (x_nt D)) i).2) (by have k1 := mt (lZ_le (a := (lmf (dsum D m) (udm D (x_nt D)) i).1) (b := dsum D m i) (by omega) (by omega)).mpr c152; rw [if_pos (Or.inr (by omega))]) (by have k2 := (lZ_le (a := dsum D m i) (b := (lmf (dsum D m) (udm D (x_nt D)) i).2) (by omega) (by omega)).mp c177; rw [if_neg (by omega)])
             have g := ih _ (by omega) (i + 1) rfl (by omega)
             rw [e9.1, e9.2] at g
             exact g)
          | (have h9 := zI_n0.mp c135
             have e9 := lmf_s1 (g := dsum D m) (ud := udm D (x_nt D)) (i := i) h9 (u := dsum D m i) (v := dsum D m i) (by have k1 := mt (lZ_le (a := (lmf (dsum D m) (udm D (x_nt D)) i).1) (b := dsum D m i) (by omega) (by omega)).mpr c152; rw [if_pos (Or.inr (by omega))]) (by have k2 := mt (lZ_le (a := dsum D m i) (b := (lmf (dsum D m) (udm D (x_nt D)) i).2) (by omega) (by omega)).mpr c177; rw [if_pos (by omega)])
             have g := ih _ (by omega) (i + 1) rfl (by omega)
             rw [e9.1, e9.2] at g
             exact g)
          | (have h9 := zI_n0.mp c135
             have e9 := lmf_s1 (g := dsum D m) (ud := udm D (x_nt D)) (i := i) h9 (u := (lmf (dsum D m) (udm D (x_nt D)) i).1) (v := (lmf (dsum D m) (udm D (x_nt D)) i).2) (by have k0 := mt (lZ_lt (a := (lmf (dsum D m) (udm D (x_nt D)) i).1) (b := 0) (by omega) (by omega)).mpr c140; have k1 := (lZ_le (a := (lmf (dsum D m) (udm D (x_nt D)) i).1) (b := dsum D m i) (by omega) (by omega)).mp c152; rw [if_neg (by omega)]) (by have k2 := (lZ_le (a := dsum D m i) (b := (lmf (dsum D m) (udm D (x_nt D)) i).2) (by omega) (by omega)).mp c177; rw [if_neg (by omega)])
             have g := ih _ (by omega) (i + 1) rfl (by omega)
             rw [e9.1, e9.2] at g
             exact g)
          | (have h9 := zI_n0.mp c135
             have e9 := lmf_s1 (g := dsum D m) (ud := udm D (x_nt D)) (i := i) h9 (u := (lmf (dsum D m) (udm D (x_nt D)) i).1) (v := dsum D m i) (by have k0 := mt (lZ_lt (a := (lmf (dsum D m) (udm D (x_nt D)) i).1) (b := 0) (by omega) (by omega)).mpr c140; have k1 := (lZ_le (a := (lmf (dsum D m) (udm D (x_nt D)) i).1) (b := dsum D m i) (by omega) (by omega)).mp c152; rw [if_neg (by omega)]) (by have k2 := mt (lZ_le (a := dsum D m i) (b := (lmf (dsum D m) (udm D (x_nt D)) i).2) (by omega) (by omega)).mpr c177; rw [if_pos (by omega)])
             have g := ih _ (by omega) (i + 1) rfl (by omega)
             rw [e9.1, e9.2] at g
             exact g)
      · skip
        refine aw_lload_n 3 q_M_isFair_138 rfl rfl ?_
        refine aw_lconst (lZ 0) q_M_isFair_139 rfl ?_
        refine aw_lcmp_lt 156 q_M_isFair_140 q_M_isFair_141 rfl (fun c140 => ?_) (fun c140 => ?_)
        · skip
          refine aw_aload_n 0 q_M_isFair_156 rfl rfl ?_
          refine aw_get 20 q_M_isFair_157 fl_M_54 rfl rfl ?_
          refine aw_iload q_M_isFair_160 rfl ?_
          refine aw_laldN q_M_isFair_162 rfl (by omega) rfl ?_
          rw [hg i hlt]
          refine aw_goto 167 q_M_isFair_163 rfl ?_
          refine aw_lstore_n 3 q_M_isFair_167 rfl rfl rfl ?_
          refine aw_aload_n 0 q_M_isFair_168 rfl rfl ?_
          refine aw_get 20 q_M_isFair_169 fl_M_54 rfl rfl ?_
          refine aw_iload q_M_isFair_172 rfl ?_
          refine aw_laldN q_M_isFair_174 rfl (by omega) rfl ?_
          rw [hg i hlt]
          refine aw_lload q_M_isFair_175 rfl ?_
          refine aw_lcmp_le 191 q_M_isFair_177 q_M_isFair_178 rfl (fun c177 => ?_) (fun c177 => ?_)
          · skip
            refine aw_lload q_M_isFair_191 rfl ?_
            refine aw_lstore q_M_isFair_193 rfl rfl ?_
            first | refine aw_iinc _ q_M_isFair_195 rfl (am_inc _) rfl rfl ?_ | refine aw_iinc _ q_M_isFair_195 rfl rfl rfl rfl ?_
            refine aw_goto 123 q_M_isFair_198 rfl ?_
            first
              | (have h9 := zI_0.mp c135
                 have g := ih _ (by omega) (i + 1) rfl (by omega)
                 rw [lmf_s0 h9] at g
                 exact g)
              | (have h9 := zI_n0.mp c135
                 have e9 := lmf_s1 (g := dsum D m) (ud := udm D (x_nt D)) (i := i) h9 (u := dsum D m i) (v := (lmf (dsum D m) (udm D (x_nt D)) i).2) (by have k1 := (lZ_lt (a := (lmf (dsum D m) (udm D (x_nt D)) i).1) (b := 0) (by omega) (by omega)).mp c140; rw [if_pos (Or.inl (by omega))]) (by have k2 := (lZ_le (a := dsum D m i) (b := (lmf (dsum D m) (udm D (x_nt D)) i).2) (by omega) (by omega)).mp c177; rw [if_neg (by omega)])
                 have g := ih _ (by omega) (i + 1) rfl (by omega)
                 rw [e9.1, e9.2] at g
                 exact g)
              | (have h9 := zI_n0.mp c135
                 have e9 := lmf_s1 (g := dsum D m) (ud := udm D (x_nt D)) (i := i) h9 (u := dsum D m i) (v := dsum D m i) (by have k1 := (lZ_lt (a := (lmf (dsum D m) (udm D (x_nt D)) i).1) (b := 0) (by omega) (by omega)).mp c140; rw [if_pos (Or.inl (by omega))]) (by have k2 := mt (lZ_le (a := dsum D m i) (b := (lmf (dsum D m) (udm D (x_nt D)) i).2) (by omega) (by omega)).mpr c177; rw [if_pos (by omega)])
                 have g := ih _ (by omega) (i + 1) rfl (by omega)
                 rw [e9.1, e9.2] at g
                 exact g)
              | (have h9 := zI_n0.mp c135
                 have e9 := lmf_s1 (g := dsum D m) (ud := udm D (x_nt D)) (i := i) h9 (u := dsum D m i) (v := (lmf (dsum D m) (udm D (x_nt D)) i).2) (by have k1 := mt (lZ_le (a := (lmf (dsum D m) (udm D (x_nt D)) i).1) (b := dsum D m i) (by omega) (by omega)).mpr c152; rw [if_pos (Or.inr (by omega))]) (by have k2 := (lZ_le (a := dsum D m i) (b := (lmf (dsum D m) (udm D (x_nt D)) i).2) (by omega) (by omega)).mp c177; rw [if_neg (by omega)])
                 have g := ih _ (by omega) (i + 1) rfl (by omega)
                 rw [e9.1, e9.2] at g
                 exact g)
              | (have h9 := zI_n0.mp c135
                 have e9 := lmf_s1 (g := dsum D m) (ud := udm D (x_nt D)) (i := i) h9 (u := dsum D m i) (v := dsum D m i) (by have k1 := mt (lZ_le (a := (lmf (dsum D m) (udm D (x_nt D)) i).1) (b := dsum D m i) (by omega) (by omega)).mpr c152; rw [if_pos (Or.inr (by omega))]) (by have k2 := mt (lZ_le (a := dsum D m i) (b := (lmf (dsum D m) (udm D (x_nt D)) i).2) (by omega) (by omega)).mpr c177; rw [if_pos (by omega)])
                 have g := ih _ (by omega) (i + 1) rfl (by omega)
                 rw [e9.1, e9.2] at g
                 exact g)
              | (have h9 := zI_n0.mp c135
                 have e9 := lmf_s1 (g := dsum D m) (ud := udm D (x_nt D)) (i := i) h9 (u := (lmf (dsum D m) (udm D (x_nt D)) i).1) (v := (lmf (dsum D m) (udm D (x_nt D)) i).2) (by have k0 := mt (lZ_lt (a := (lmf (dsum D m) (udm D (x_nt D)) i).1) (b := 0) (by omega) (by omega)).mpr c140; have k1 := (lZ_le (a := (lmf (dsum D m) (udm D (x_nt D)) i).1) (b := dsum D m i) (by omega) (by omega)).mp c152; rw [if_neg (by omega)]) (by have k2 := (lZ_le (a := dsum D m i) (b := (lmf (dsum D m) (udm D (x_nt D)) i).2) (by omega) (by omega)).mp c177; rw [if_neg (by omega)])
                 have g := ih _ (by omega) (i + 1) rfl (by omega)
                 rw [e9.1, e9.2] at g
                 exact g)
              | (have h9 := zI_n0.mp c135
                 have e9 := lmf_s1 (g := dsum D m) (ud := udm D (x_nt D)) (i := i) h9 (u := (lmf (dsum D m) (udm D (x_nt D)) i).1) (v := dsum D m i) (by have k0 := mt (lZ_lt (a := (lmf (dsum D m) (udm D (x_nt D)) i).1) (b := 0) (by omega) (by omega)).mpr c140; have k1 := (lZ_le (a := (lmf (dsum D m) (udm D (x_nt D)) i).1) (b := dsum D m i) (by omega) (by omega)).mp c152; rw [if_neg (by omega)]) (by have k2 := mt (lZ_le (a := dsum D m i) (b := (lmf (dsum D m) (udm D (x_nt D)) i).2) (by omega) (by omega)).mpr c177; rw [if_pos (by omega)])
                 have g := ih _ (by omega) (i + 1) rfl (by omega)
                 rw [e9.1, e9.2] at g
                 exact g)
          · skip
            refine aw_aload_n 0 q_M_isFair_181 rfl rfl ?_
            refine aw_get 20 q_M_isFair_182 fl_M_54 rfl rfl ?_
            refine aw_iload q_M_isFair_185 rfl ?_
            refine aw_laldN q_M_isFair_187 rfl (by omega) rfl ?_
            rw [hg i hlt]
            refine aw_goto 193 q_M_isFair_188 rfl ?_
            refine aw_lstore q_M_isFair_193 rfl rfl ?_
            first | refine aw_iinc _ q_M_isFair_195 rfl (am_inc _) rfl rfl ?_ | refine aw_iinc _ q_M_isFair_195 rfl rfl rfl rfl ?_
            refine aw_goto 123 q_M_isFair_198 rfl ?_
            first
              | (have h9 := zI_0.mp c135
                 have g := ih _ (by omega) (i + 1) rfl (by omega)
                 rw [lmf_s0 h9] at g
                 exact g)
              | (have h9 := zI_n0.mp c135
                 have e9 := lmf_s1 (g := dsum D m) (ud := udm D (x_nt D)) (i := i) h9 (u := dsum D m i) (v := (lmf (dsum D m) (udm D (x_nt D)) i).2) (by have k1 := (lZ_lt (a := (lmf (dsum D m) (udm D (x_nt D)) i).1) (b := 0) (by omega) (by omega)).mp c140; rw [if_pos (Or.inl (by omega))]) (by have k2 := (lZ_le (a := dsum D m i) (b := (lmf (dsum D m) (udm D (x_nt D)) i).2) (by omega) (by omega)).mp c177; rw [if_neg (by omega)])
                 have g := ih _ (by omega) (i + 1) rfl (by omega)
                 rw [e9.1, e9.2] at g
                 exact g)
              | (have h9 := zI_n0.mp c135
                 have e9 := lmf_s1 (g := dsum D m) (ud := udm D (x_nt D)) (i := i) h9 (u := dsum D m i) (v := dsum D m i) (by have k1 := (lZ_lt (a := (lmf (dsum D m) (udm D (x_nt D)) i).1) (b := 0) (by omega) (by omega)).mp c140; rw [if_pos (Or.inl (by omega))]) (by have k2 := mt (lZ_le (a := dsum D m i) (b := (lmf (dsum D m) (udm D (x_nt D)) i).2) (by omega) (by omega)).mpr c177; rw [if_pos (by omega)])
                 have g := ih _ (by omega) (i + 1) rfl (by omega)
                 rw [e9.1, e9.2] at g
                 exact g)
              | (have h9 := zI_n0.mp c135
                 have e9 := lmf_s1 (g := dsum D m) (ud := udm D (x_nt D)) (i := i) h9 (u := dsum D m i) (v := (lmf (dsum D m) (udm D (x_nt D)) i).2) (by have k1 := mt (lZ_le (a := (lmf (dsum D m) (udm D (x_nt D)) i).1) (b := dsum D m i) (by omega) (by omega)).mpr c152; rw [if_pos (Or.inr (by omega))]) (by have k2 := (lZ_le (a := dsum D m i) (b := (lmf (dsum D m) (udm D (x_nt D)) i).2) (by omega) (by omega)).mp c177; rw [if_neg (by omega)])
                 have g := ih _ (by omega) (i + 1) rfl (by omega)
                 rw [e9.1, e9.2] at g
                 exact g)
              | (have h9 := zI_n0.mp c135
                 have e9 := lmf_s1 (g := dsum D m) (ud := udm D (x_nt D)) (i := i) h9 (u := dsum D m i) (v := dsum D m i) (by have k1 := mt (lZ_le (a := (lmf (dsum D m) (udm D (x_nt D)) i).1) (b := dsum D m i) (by omega) (by omega)).mpr c152; rw [if_pos (Or.inr (by omega))]) (by have k2 := mt (lZ_le (a := dsum D m i) (b := (lmf (dsum D m) (udm D (x_nt D)) i).2) (by omega) (by omega)).mpr c177; rw [if_pos (by omega)])
                 have g := ih _ (by omega) (i + 1) rfl (by omega)
                 rw [e9.1, e9.2] at g
                 exact g)
              | (have h9 := zI_n0.mp c135
                 have e9 := lmf_s1 (g := dsum D m) (ud := udm D (x_nt D)) (i := i) h9 (u := (lmf (dsum D m) (udm D (x_nt D)) i).1) (v := (lmf (dsum D m) (udm D (x_nt D)) i).2) (by have k0 := mt (lZ_lt (a := (lmf (dsum D m) (udm D (x_nt D)) i).1) (b := 0) (by omega) (by omega)).mpr c140; have k1 := (lZ_le (a := (lmf (dsum D m) (udm D (x_nt D)) i).1) (b := dsum D m i) (by omega) (by omega)).mp c152; rw [if_neg (by omega)]) (by have k2 := (lZ_le (a := dsum D m i) (b := (lmf (dsum D m) (udm D (x_nt D)) i).2) (by omega) (by omega)).mp c177; rw [if_neg (by omega)])
                 have g := ih _ (by omega) (i + 1) rfl (by omega)
                 rw [e9.1, e9.2] at g
                 exact g)
              | (have h9 := zI_n0.mp c135
                 have e9 := lmf_s1 (g := dsum D m) (ud := udm D (x_nt D)) (i := i) h9 (u := (lmf (dsum D m) (udm D (x_nt D)) i).1) (v := dsum D m i) (by have k0 := mt (lZ_lt (a := (lmf (dsum D m) (udm D (x_nt D)) i).1) (b := 0) (by omega) (by omega)).mpr c140; have k1 := (lZ_le (a := (lmf (dsum D m) (udm D (x_nt D)) i).1) (b := dsum D m i) (by omega) (by omega)).mp c152; rw [if_neg (by omega)]) (by have k2 := mt (lZ_le (a := dsum D m i) (b := (lmf (dsum D m) (udm D (x_nt D)) i).2) (by omega) (by omega)).mpr c177; rw [if_pos (by omega)])
                 have g := ih _ (by omega) (i + 1) rfl (by omega)
                 rw [e9.1, e9.2] at g
                 exact g)
        · skip
          refine aw_aload_n 0 q_M_isFair_144 rfl rfl ?_
          refine aw_get 20 q_M_isFair_145 fl_M_54 rfl rfl ?_
          refine aw_iload q_M_isFair_148 rfl ?_
          refine aw_laldN q_M_isFair_150 rfl (by omega) rfl ?_
          rw [hg i hlt]
          refine aw_lload_n 3 q_M_isFair_151 rfl rfl ?_
          refine aw_lcmp_ge 166 q_M_isFair_152 q_M_isFair_153 rfl (fun c152 => ?_) (fun c152 => ?_)
          · skip
            refine aw_lload_n 3 q_M_isFair_166 rfl rfl ?_
            refine aw_lstore_n 3 q_M_isFair_167 rfl rfl rfl ?_
            refine aw_aload_n 0 q_M_isFair_168 rfl rfl ?_
            refine aw_get 20 q_M_isFair_169 fl_M_54 rfl rfl ?_
            refine aw_iload q_M_isFair_172 rfl ?_
            refine aw_laldN q_M_isFair_174 rfl (by omega) rfl ?_
            rw [hg i hlt]
            refine aw_lload q_M_isFair_175 rfl ?_
            refine aw_lcmp_le 191 q_M_isFair_177 q_M_isFair_178 rfl (fun c177 => ?_) (fun c177 => ?_)
            · skip
              refine aw_lload q_M_isFair_191 rfl ?_
              refine aw_lstore q_M_isFair_193 rfl rfl ?_
              first | refine aw_iinc _ q_M_isFair_195 rfl (am_inc _) rfl rfl ?_ | refine aw_iinc _ q_M_isFair_195 rfl rfl rfl rfl ?_
              refine aw_goto 123 q_M_isFair_198 rfl ?_
              first
                | (have h9 := zI_0.mp c135
                   have g := ih _ (by omega) (i + 1) rfl (by omega)
                   rw [lmf_s0 h9] at g
                   exact g)
                | (have h9 := zI_n0.mp c135
                   have e9 := lmf_s1 (g := dsum D m) (ud := udm D (x_nt D)) (i := i) h9 (u := dsum D m i) (v := (lmf (dsum D m) (udm D (x_nt D)) i).2) (by have k1 := (lZ_lt (a := (lmf (dsum D m) (udm D (x_nt D)) i).1) (b := 0) (by omega) (by omega)).mp c140; rw [if_pos (Or.inl (by omega))]) (by have k2 := (lZ_le (a := dsum D m i) (b := (lmf (dsum D m) (udm D (x_nt D)) i).2) (by omega) (by omega)).mp c177; rw [if_neg (by omega)])
                   have g := ih _ (by omega) (i + 1) rfl (by omega)
                   rw [e9.1, e9.2] at g
                   exact g)
                | (have h9 := zI_n0.mp c135
                   have e9 := lmf_s1 (g := dsum D m) (ud := udm D (x_nt D)) (i := i) h9 (u := dsum D m i) (v := dsum D m i) (by have k1 := (lZ_lt (a := (lmf (dsum D m) (udm D (x_nt D)) i).1) (b := 0) (by omega) (by omega)).mp c140; rw [if_pos (Or.inl (by omega))]) (by have k2 := mt (lZ_le (a := dsum D m i) (b := (lmf (dsum D m) (udm D (x_nt D)) i).2) (by omega) (by omega)).mpr c177; rw [if_pos (by omega)])
                   have g := ih _ (by omega) (i + 1) rfl (by omega)
                   rw [e9.1, e9.2] at g
                   exact g)
                | (have h9 := zI_n0.mp c135
                   have e9 := lmf_s1 (g := dsum D m) (ud := udm D (x_nt D)) (i := i) h9 (u := dsum D m i) (v := (lmf (dsum D m) (udm D (x_nt D)) i).2) (by have k1 := mt (lZ_le (a := (lmf (dsum D m) (udm D (x_nt D)) i).1) (b := dsum D m i) (by omega) (by omega)).mpr c152; rw [if_pos (Or.inr (by omega))]) (by have k2 := (lZ_le (a := dsum D m i) (b := (lmf (dsum D m) (udm D (x_nt D)) i).2) (by omega) (by omega)).mp c177; rw [if_neg (by omega)])
                   have g := ih _ (by omega) (i + 1) rfl (by omega)
                   rw [e9.1, e9.2] at g
                   exact g)
                | (have h9 := zI_n0.mp c135
                   have e9 := lmf_s1 (g := dsum D m) (ud := udm D (x_nt D)) (i := i) h9 (u := dsum D m i) (v := dsum D m i) (by have k1 := mt (lZ_le (a := (lmf (dsum D m) (udm D (x_nt D)) i).1) (b := dsum D m i) (by omega) (by omega)).mpr c152; rw [if_pos (Or.inr (by omega))]) (by have k2 := mt (lZ_le (a := dsum D m i) (b := (lmf (dsum D m) (udm D (x_nt D)) i).2) (by omega) (by omega)).mpr c177; rw [if_pos (by omega)])
                   have g := ih _ (by omega) (i + 1) rfl (by omega)
                   rw [e9.1, e9.2] at g
                   exact g)
                | (have h9 := zI_n0.mp c135
                   have e9 := lmf_s1 (g := dsum D m) (ud := udm D (x_nt D)) (i := i) h9 (u := (lmf (dsum D m) (udm D (x_nt D)) i).1) (v := (lmf (dsum D m) (udm D (x_nt D)) i).2) (by have k0 := mt (lZ_lt (a := (lmf (dsum D m) (udm D (x_nt D)) i).1) (b := 0) (by omega) (by omega)).mpr c140; have k1 := (lZ_le (a := (lmf (dsum D m) (udm D (x_nt D)) i).1) (b := dsum D m i) (by omega) (by omega)).mp c152; rw [if_neg (by omega)]) (by have k2 := (lZ_le (a := dsum D m i) (b := (lmf (dsum D m) (udm D (x_nt D)) i).2) (by omega) (by omega)).mp c177; rw [if_neg (by omega)])
                   have g := ih _ (by omega) (i + 1) rfl (by omega)
                   rw [e9.1, e9.2] at g
                   exact g)
                | (have h9 := zI_n0.mp c135
                   have e9 := lmf_s1 (g := dsum D m) (ud := udm D (x_nt D)) (i := i) h9 (u := (lmf (dsum D m) (udm D (x_nt D)) i).1) (v := dsum D m i) (by have k0 := mt (lZ_lt (a := (lmf (dsum D m) (udm D (x_nt D)) i).1) (b := 0) (by omega) (by omega)).mpr c140; have k1 := (lZ_le (a := (lmf (dsum D m) (udm D (x_nt D)) i).1) (b := dsum D m i) (by omega) (by omega)).mp c152; rw [if_neg (by omega)]) (by have k2 := mt (lZ_le (a := dsum D m i) (b := (lmf (dsum D m) (udm D (x_nt D)) i).2) (by omega) (by omega)).mpr c177; rw [if_pos (by omega)])
                   have g := ih _ (by omega) (i + 1) rfl (by omega)
                   rw [e9.1, e9.2] at g
                   exact g)
            · skip
              refine aw_aload_n 0 q_M_isFair_181 rfl rfl ?_
              refine aw_get 20 q_M_isFair_182 fl_M_54 rfl rfl ?_
              refine aw_iload q_M_isFair_185 rfl ?_
              refine aw_laldN q_M_isFair_187 rfl (by omega) rfl ?_
              rw [hg i hlt]
              refine aw_goto 193 q_M_isFair_188 rfl ?_
              refine aw_lstore q_M_isFair_193 rfl rfl ?_
              first | refine aw_iinc _ q_M_isFair_195 rfl (am_inc _) rfl rfl ?_ | refine aw_iinc _ q_M_isFair_195 rfl rfl rfl rfl ?_
              refine aw_goto 123 q_M_isFair_198 rfl ?_
              first
                | (have h9 := zI_0.mp c135
                   have g := ih _ (by omega) (i + 1) rfl (by omega)
                   rw [lmf_s0 h9] at g
                   exact g)
                | (have h9 := zI_n0.mp c135
                   have e9 := lmf_s1 (g := dsum D m) (ud := udm D (x_nt D)) (i := i) h9 (u := dsum D m i) (v := (lmf (dsum D m) (udm D (x_nt D)) i).2) (by have k1 := (lZ_lt (a := (lmf (dsum D m) (udm D (x_nt D)) i).1) (b := 0) (by omega) (by omega)).mp c140; rw [if_pos (Or.inl (by omega))]) (by have k2 := (lZ_le (a := dsum D m i) (b := (lmf (dsum D m) (udm D (x_nt D)) i).2) (by omega) (by omega)).mp c177; rw [if_neg (by omega)])
                   have g := ih _ (by omega) (i + 1) rfl (by omega)
                   rw [e9.1, e9.2] at g
                   exact g)
                | (have h9 := zI_n0.mp c135
                   have e9 := lmf_s1 (g := dsum D m) (ud := udm D (x_nt D)) (i := i) h9 (u := dsum D m i) (v := dsum D m i) (by have k1 := (lZ_lt (a := (lmf (dsum D m) (udm D (x_nt D)) i).1) (b := 0) (by omega) (by omega)).mp c140; rw [if_pos (Or.inl (by omega))]) (by have k2 := mt (lZ_le (a := dsum D m i) (b := (lmf (dsum D m) (udm D (x_nt D)) i).2) (by omega) (by omega)).mpr c177; rw [if_pos (by omega)])
                   have g := ih _ (by omega) (i + 1) rfl (by omega)
                   rw [e9.1, e9.2] at g
                   exact g)
                | (have h9 := zI_n0.mp c135
                   have e9 := lmf_s1 (g := dsum D m) (ud := udm D (x_nt D)) (i := i) h9 (u := dsum D m i) (v := (lmf (dsum D m) (udm D (x_nt D)) i).2) (by have k1 := mt (lZ_le (a := (lmf (dsum D m) (udm D (x_nt D)) i).1) (b := dsum D m i) (by omega) (by omega)).mpr c152; rw [if_pos (Or.inr (by omega))]) (by have k2 := (lZ_le (a := dsum D m i) (b := (lmf (dsum D m) (udm D (x_nt D)) i).2) (by omega) (by omega)).mp c177; rw [if_neg (by omega)])
                   have g := ih _ (by omega) (i + 1) rfl (by omega)
                   rw [e9.1, e9.2] at g
                   exact g)
                | (have h9 := zI_n0.mp c135
                   have e9 := lmf_s1 (g := dsum D m) (ud := udm D (x_nt D)) (i := i) h9 (u := dsum D m i) (v := dsum D m i) (by have k1 := mt (lZ_le (a := (lmf (dsum D m) (udm D (x_nt D)) i).1) (b := dsum D m i) (by omega) (by omega)).mpr c152; rw [if_pos (Or.inr (by omega))]) (by have k2 := mt (lZ_le (a := dsum D m i) (b := (lmf (dsum D m) (udm D (x_nt D)) i).2) (by omega) (by omega)).mpr c177; rw [if_pos (by omega)])
                   have g := ih _ (by omega) (i + 1) rfl (by omega)
                   rw [e9.1, e9.2] at g
                   exact g)
                | (have h9 := zI_n0.mp c135
                   have e9 := lmf_s1 (g := dsum D m) (ud := udm D (x_nt D)) (i := i) h9 (u := (lmf (dsum D m) (udm D (x_nt D)) i).1) (v := (lmf (dsum D m) (udm D (x_nt D)) i).2) (by have k0 := mt (lZ_lt (a := (lmf (dsum D m) (udm D (x_nt D)) i).1) (b := 0) (by omega) (by omega)).mpr c140; have k1 := (lZ_le (a := (lmf (dsum D m) (udm D (x_nt D)) i).1) (b := dsum D m i) (by omega) (by omega)).mp c152; rw [if_neg (by omega)]) (by have k2 := (lZ_le (a := dsum D m i) (b := (lmf (dsum D m) (udm D (x_nt D)) i).2) (by omega) (by omega)).mp c177; rw [if_neg (by omega)])
                   have g := ih _ (by omega) (i + 1) rfl (by omega)
                   rw [e9.1, e9.2] at g
                   exact g)
                | (have h9 := zI_n0.mp c135
                   have e9 := lmf_s1 (g := dsum D m) (ud := udm D (x_nt D)) (i := i) h9 (u := (lmf (dsum D m) (udm D (x_nt D)) i).1) (v := dsum D m i) (by have k0 := mt (lZ_lt (a := (lmf (dsum D m) (udm D (x_nt D)) i).1) (b := 0) (by omega) (by omega)).mpr c140; have k1 := (lZ_le (a := (lmf (dsum D m) (udm D (x_nt D)) i).1) (b := dsum D m i) (by omega) (by omega)).mp c152; rw [if_neg (by omega)]) (by have k2 := mt (lZ_le (a := dsum D m i) (b := (lmf (dsum D m) (udm D (x_nt D)) i).2) (by omega) (by omega)).mpr c177; rw [if_pos (by omega)])
                   have g := ih _ (by omega) (i + 1) rfl (by omega)
                   rw [e9.1, e9.2] at g
                   exact g)
          · skip
            refine aw_aload_n 0 q_M_isFair_156 rfl rfl ?_
            refine aw_get 20 q_M_isFair_157 fl_M_54 rfl rfl ?_
            refine aw_iload q_M_isFair_160 rfl ?_
            refine aw_laldN q_M_isFair_162 rfl (by omega) rfl ?_
            rw [hg i hlt]
            refine aw_goto 167 q_M_isFair_163 rfl ?_
            refine aw_lstore_n 3 q_M_isFair_167 rfl rfl rfl ?_
            refine aw_aload_n 0 q_M_isFair_168 rfl rfl ?_
            refine aw_get 20 q_M_isFair_169 fl_M_54 rfl rfl ?_
            refine aw_iload q_M_isFair_172 rfl ?_
            refine aw_laldN q_M_isFair_174 rfl (by omega) rfl ?_
            rw [hg i hlt]
            refine aw_lload q_M_isFair_175 rfl ?_
            refine aw_lcmp_le 191 q_M_isFair_177 q_M_isFair_178 rfl (fun c177 => ?_) (fun c177 => ?_)
            · skip
              refine aw_lload q_M_isFair_191 rfl ?_
              refine aw_lstore q_M_isFair_193 rfl rfl ?_
              first | refine aw_iinc _ q_M_isFair_195 rfl (am_inc _) rfl rfl ?_ | refine aw_iinc _ q_M_isFair_195 rfl rfl rfl rfl ?_
              refine aw_goto 123 q_M_isFair_198 rfl ?_
              first
                | (have h9 := zI_0.mp c135
                   have g := ih _ (by omega) (i + 1) rfl (by omega)
                   rw [lmf_s0 h9] at g
                   exact g)
                | (have h9 := zI_n0.mp c135
                   have e9 := lmf_s1 (g := dsum D m) (ud := udm D (x_nt D)) (i := i) h9 (u := dsum D m i) (v := (lmf (dsum D m) (udm D (x_nt D)) i).2) (by have k1 := (lZ_lt (a := (lmf (dsum D m) (udm D (x_nt D)) i).1) (b := 0) (by omega) (by omega)).mp c140; rw [if_pos (Or.inl (by omega))]) (by have k2 := (lZ_le (a := dsum D m i) (b := (lmf (dsum D m) (udm D (x_nt D)) i).2) (by omega) (by omega)).mp c177; rw [if_neg (by omega)])
                   have g := ih _ (by omega) (i + 1) rfl (by omega)
                   rw [e9.1, e9.2] at g
                   exact g)
                | (have h9 := zI_n0.mp c135
                   have e9 := lmf_s1 (g := dsum D m) (ud := udm D (x_nt D)) (i := i) h9 (u := dsum D m i) (v := dsum D m i) (by have k1 := (lZ_lt (a := (lmf (dsum D m) (udm D (x_nt D)) i).1) (b := 0) (by omega) (by omega)).mp c140; rw [if_pos (Or.inl (by omega))]) (by have k2 := mt (lZ_le (a := dsum D m i) (b := (lmf (dsum D m) (udm D (x_nt D)) i).2) (by omega) (by omega)).mpr c177; rw [if_pos (by omega)])
                   have g := ih _ (by omega) (i + 1) rfl (by omega)
                   rw [e9.1, e9.2] at g
                   exact g)
                | (have h9 := zI_n0.mp c135
                   have e9 := lmf_s1 (g := dsum D m) (ud := udm D (x_nt D)) (i := i) h9 (u := dsum D m i) (v := (lmf (dsum D m) (udm D (x_nt D)) i).2) (by have k1 := mt (lZ_le (a := (lmf (dsum D m) (udm D (x_nt D)) i).1) (b := dsum D m i) (by omega) (by omega)).mpr c152; rw [if_pos (Or.inr (by omega))]) (by have k2 := (lZ_le (a := dsum D m i) (b := (lmf (dsum D m) (udm D (x_nt D)) i).2) (by omega) (by omega)).mp c177; rw [if_neg (by omega)])
                   have g := ih _ (by omega) (i + 1) rfl (by omega)
                   rw [e9.1, e9.2] at g
                   exact g)
                | (have h9 := zI_n0.mp c135
                   have e9 := lmf_s1 (g := dsum D m) (ud := udm D (x_nt D)) (i := i) h9 (u := dsum D m i) (v := dsum D m i) (by have k1 := mt (lZ_le (a := (lmf (dsum D m) (udm D (x_nt D)) i).1) (b := dsum D m i) (by omega) (by omega)).mpr c152; rw [if_pos (Or.inr (by omega))]) (by have k2 := mt (lZ_le (a := dsum D m i) (b := (lmf (dsum D m) (udm D (x_nt D)) i).2) (by omega) (by omega)).mpr c177; rw [if_pos (by omega)])
                   have g := ih _ (by omega) (i + 1) rfl (by omega)
                   rw [e9.1, e9.2] at g
                   exact g)
                | (have h9 := zI_n0.mp c135
                   have e9 := lmf_s1 (g := dsum D m) (ud := udm D (x_nt D)) (i := i) h9 (u := (lmf (dsum D m) (udm D (x_nt D)) i).1) (v := (lmf (dsum D m) (udm D (x_nt D)) i).2) (by have k0 := mt (lZ_lt (a := (lmf (dsum D m) (udm D (x_nt D)) i).1) (b := 0) (by omega) (by omega)).mpr c140; have k1 := (lZ_le (a := (lmf (dsum D m) (udm D (x_nt D)) i).1) (b := dsum D m i) (by omega) (by omega)).mp c152; rw [if_neg (by omega)]) (by have k2 := (lZ_le (a := dsum D m i) (b := (lmf (dsum D m) (udm D (x_nt D)) i).2) (by omega) (by omega)).mp c177; rw [if_neg (by omega)])
                   have g := ih _ (by omega) (i + 1) rfl (by omega)
                   rw [e9.1, e9.2] at g
                   exact g)
                | (have h9 := zI_n0.mp c135
                   have e9 := lmf_s1 (g := dsum D m) (ud := udm D (x_nt D)) (i := i) h9 (u := (lmf (dsum D m) (udm D (x_nt D)) i).1) (v := dsum D m i) (by have k0 := mt (lZ_lt (a := (lmf (dsum D m) (udm D (x_nt D)) i).1) (b := 0) (by omega) (by omega)).mpr c140; have k1 := (lZ_le (a := (lmf (dsum D m) (udm D (x_nt D)) i).1) (b := dsum D m i) (by omega) (by omega)).mp c152; rw [if_neg (by omega)]) (by have k2 := mt (lZ_le (a := dsum D m i) (b := (lmf (dsum D m) (udm D (x_nt D)) i).2) (by omega) (by omega)).mpr c177; rw [if_pos (by omega)])
                   have g := ih _ (by omega) (i + 1) rfl (by omega)
                   rw [e9.1, e9.2] at g
                   exact g)
            · skip
              refine aw_aload_n 0 q_M_isFair_181 rfl rfl ?_
              refine aw_get 20 q_M_isFair_182 fl_M_54 rfl rfl ?_
              refine aw_iload q_M_isFair_185 rfl ?_
              refine aw_laldN q_M_isFair_187 rfl (by omega) rfl ?_
              rw [hg i hlt]
              refine aw_goto 193 q_M_isFair_188 rfl ?_
              refine aw_lstore q_M_isFair_193 rfl rfl ?_
              first | refine aw_iinc _ q_M_isFair_195 rfl (am_inc _) rfl rfl ?_ | refine aw_iinc _ q_M_isFair_195 rfl rfl rfl rfl ?_
              refine aw_goto 123 q_M_isFair_198 rfl ?_
              first
                | (have h9 := zI_0.mp c135
                   have g := ih _ (by omega) (i + 1) rfl (by omega)
                   rw [lmf_s0 h9] at g
                   exact g)
                | (have h9 := zI_n0.mp c135
                   have e9 := lmf_s1 (g := dsum D m) (ud := udm D (x_nt D)) (i := i) h9 (u := dsum D m i) (v := (lmf (dsum D m) (udm D (x_nt D)) i).2) (by have k1 := (lZ_lt (a := (lmf (dsum D m) (udm D (x_nt D)) i).1) (b := 0) (by omega) (by omega)).mp c140; rw [if_pos (Or.inl (by omega))]) (by have k2 := (lZ_le (a := dsum D m i) (b := (lmf (dsum D m) (udm D (x_nt D)) i).2) (by omega) (by omega)).mp c177; rw [if_neg (by omega)])
                   have g := ih _ (by omega) (i + 1) rfl (by omega)
                   rw [e9.1, e9.2] at g
                   exact g)
                | (have h9 := zI_n0.mp c135
                   have e9 := lmf_s1 (g := dsum D m) (ud := udm D (x_nt D)) (i := i) h9 (u := dsum D m i) (v := dsum D m i) (by have k1 := (lZ_lt (a := (lmf (dsum D m) (udm D (x_nt D)) i).1) (b := 0) (by omega) (by omega)).mp c140; rw [if_pos (Or.inl (by omega))]) (by have k2 := mt (lZ_le (a := dsum D m i) (b := (lmf (dsum D m) (udm D (x_nt D)) i).2) (by omega) (by omega)).mpr c177; rw [if_pos (by omega)])
                   have g := ih _ (by omega) (i + 1) rfl (by omega)
                   rw [e9.1, e9.2] at g
                   exact g)
                | (have h9 := zI_n0.mp c135
                   have e9 := lmf_s1 (g := dsum D m) (ud := udm D (x_nt D)) (i := i) h9 (u := dsum D m i) (v := (lmf (dsum D m) (udm D (x_nt D)) i).2) (by have k1 := mt (lZ_le (a := (lmf (dsum D m) (udm D (x_nt D)) i).1) (b := dsum D m i) (by omega) (by omega)).mpr c152; rw [if_pos (Or.inr (by omega))]) (by have k2 := (lZ_le (a := dsum D m i) (b := (lmf (dsum D m) (udm D (x_nt D)) i).2) (by omega) (by omega)).mp c177; rw [if_neg (by omega)])
                   have g := ih _ (by omega) (i + 1) rfl (by omega)
                   rw [e9.1, e9.2] at g
                   exact g)
                | (have h9 := zI_n0.mp c135
                   have e9 := lmf_s1 (g := dsum D m) (ud := udm D (x_nt D)) (i := i) h9 (u := dsum D m i) (v := dsum D m i) (by have k1 := mt (lZ_le (a := (lmf (dsum D m) (udm D (x_nt D)) i).1) (b := dsum D m i) (by omega) (by omega)).mpr c152; rw [if_pos (Or.inr (by omega))]) (by have k2 := mt (lZ_le (a := dsum D m i) (b := (lmf (dsum D m) (udm D (x_nt D)) i).2) (by omega) (by omega)).mpr c177; rw [if_pos (by omega)])
                   have g := ih _ (by omega) (i + 1) rfl (by omega)
                   rw [e9.1, e9.2] at g
                   exact g)
                | (have h9 := zI_n0.mp c135
                   have e9 := lmf_s1 (g := dsum D m) (ud := udm D (x_nt D)) (i := i) h9 (u := (lmf (dsum D m) (udm D (x_nt D)) i).1) (v := (lmf (dsum D m) (udm D (x_nt D)) i).2) (by have k0 := mt (lZ_lt (a := (lmf (dsum D m) (udm D (x_nt D)) i).1) (b := 0) (by omega) (by omega)).mpr c140; have k1 := (lZ_le (a := (lmf (dsum D m) (udm D (x_nt D)) i).1) (b := dsum D m i) (by omega) (by omega)).mp c152; rw [if_neg (by omega)]) (by have k2 := (lZ_le (a := dsum D m i) (b := (lmf (dsum D m) (udm D (x_nt D)) i).2) (by omega) (by omega)).mp c177; rw [if_neg (by omega)])
                   have g := ih _ (by omega) (i + 1) rfl (by omega)
                   rw [e9.1, e9.2] at g
                   exact g)
                | (have h9 := zI_n0.mp c135
                   have e9 := lmf_s1 (g := dsum D m) (ud := udm D (x_nt D)) (i := i) h9 (u := (lmf (dsum D m) (udm D (x_nt D)) i).1) (v := dsum D m i) (by have k0 := mt (lZ_lt (a := (lmf (dsum D m) (udm D (x_nt D)) i).1) (b := 0) (by omega) (by omega)).mpr c140; have k1 := (lZ_le (a := (lmf (dsum D m) (udm D (x_nt D)) i).1) (b := dsum D m i) (by omega) (by omega)).mp c152; rw [if_neg (by omega)]) (by have k2 := mt (lZ_le (a := dsum D m i) (b := (lmf (dsum D m) (udm D (x_nt D)) i).2) (by omega) (by omega)).mpr c177; rw [if_pos (by omega)])
                   have g := ih _ (by omega) (i + 1) rfl (by omega)
                   rw [e9.1, e9.2] at g
                   exact g)
theorem l_M_isFair3 (sc : am_S) (A : ST) (q : QS) (D : ST) (t : TS) (m : Nat) (b : bd D) (hm : m < 16384) (hfa : 0 ≤ x_fa D ∧ x_fa D ≤ 10000000) : ∀ (n i : Nat), x_nc D - i = n → i ≤ x_nc D →  AW sc m_M_isFair 1 62 [some (.ref 50), some (.int (nI m)), some (.int (nI (udm D (x_nt D)))), some (.int (nI i)), none, none, none, none] [] (hp A q D (t_s_pa t (gpt D m t i))) (some (.int (zI (fiM D m)))) (hp A q D (t_s_pa t (gpt D m t (x_nc D)))) := by
  intro n
  induction n using Nat.strongRecOn with
  | _ n ih =>
    intro i hn hi
    have b3 := b.2.2.1
    have b4 := b.2.2.2.1 i
    have b6 := b.2.2.2.2.2.1 (x_th D i)
    refine aw_iload_n 3 q_M_isFair_62 rfl rfl ?_
    refine aw_aload_n 0 q_M_isFair_63 rfl rfl ?_
    refine aw_get 4 q_M_isFair_64 fl_M_84 rfl rfl ?_
    refine aw_icmp_ge 113 q_M_isFair_67 rfl (fun c67 => ?_) (fun c67 => ?_)
    · skip
      refine aw_ldc2 (lZ (-1)) q_M_isFair_113 (am_in3 (i := 127) rfl rfl) ?_
      refine aw_lstore_n 3 q_M_isFair_116 rfl rfl rfl ?_
      refine aw_lconst (lZ 0) q_M_isFair_117 rfl ?_
      refine aw_lstore q_M_isFair_118 rfl rfl ?_
      refine aw_iconst 0 q_M_isFair_120 rfl ?_
      refine aw_istore q_M_isFair_121 rfl rfl ?_
      rw [show i = x_nc D from Nat.le_antisymm hi (nge_ge c67 (by omega) (by omega))]
      exact l_M_isFair4 sc A q D _ m b hm hfa (fun d hd => gpt_d hd) _ 0 rfl (by omega)
    · skip
      have hlt : i < x_nc D := nge_lt c67 (by omega) (by omega)
      refine aw_aload_n 0 q_M_isFair_70 rfl rfl ?_
      refine aw_get 20 q_M_isFair_71 fl_M_54 rfl rfl ?_
      refine aw_aload_n 0 q_M_isFair_74 rfl rfl ?_
      refine aw_get 3 q_M_isFair_75 fl_M_13 rfl rfl ?_
      refine aw_aload_n 0 q_M_isFair_78 rfl rfl ?_
      refine aw_get 5 q_M_isFair_79 fl_M_16 rfl rfl ?_
      refine aw_iload_n 3 q_M_isFair_82 rfl rfl ?_
      refine aw_ialdN q_M_isFair_83 rfl (by omega) rfl ?_
      refine aw_ialdN q_M_isFair_84 rfl (by omega) rfl ?_
      refine aw_dup2_11 q_M_isFair_85 rfl rfl ?_
      refine aw_laldN q_M_isFair_86 rfl (by omega) rfl ?_
      refine aw_iload_n 1 q_M_isFair_87 rfl rfl ?_
      refine aw_iload_n 3 q_M_isFair_88 rfl rfl ?_
      refine aw_S2 q_M_isFair_89 st_M_94 (by omega) (Nat.le_of_ble_eq_true rfl) (c_M_has _ _ _ _ (by omega) (by omega)) ?_
      refine aw_if_eq 104 q_M_isFair_92 rfl (fun c92 => ?_) (fun c92 => ?_)
      · skip
        refine aw_lconst (lZ 0) q_M_isFair_104 rfl ?_
        refine aw_ladd q_M_isFair_105 ?_
        rw [lZ_add]
        refine wa_61 _ q_M_isFair_106 (by omega) ?_
        first | refine aw_iinc _ q_M_isFair_107 rfl (am_inc _) rfl rfl ?_ | refine aw_iinc _ q_M_isFair_107 rfl rfl rfl rfl ?_
        refine aw_goto 62 q_M_isFair_110 rfl ?_
        first
          | (have h9 := zI_0.mp c92
             have e9 := gpt_f (D := D) (m := m) (i := i) t h9
             have g := ih _ (by omega) (i + 1) rfl (by omega)
             rw [← e9] at g
             exact g)
          | (have h9 := zI_n0.mp c92
             have e9 := gpt_t (D := D) (m := m) (i := i) t h9
             have g := ih _ (by omega) (i + 1) rfl (by omega)
             rw [← e9] at g
             exact g)
      · skip
        refine aw_aload_n 0 q_M_isFair_95 rfl rfl ?_
        refine aw_get 8 q_M_isFair_96 fl_M_26 rfl rfl ?_
        refine aw_iload_n 3 q_M_isFair_99 rfl rfl ?_
        refine aw_laldN q_M_isFair_100 rfl (by omega) rfl ?_
        refine aw_goto 105 q_M_isFair_101 rfl ?_
        refine aw_ladd q_M_isFair_105 ?_
        rw [lZ_add]
        refine wa_61 _ q_M_isFair_106 (by omega) ?_
        first | refine aw_iinc _ q_M_isFair_107 rfl (am_inc _) rfl rfl ?_ | refine aw_iinc _ q_M_isFair_107 rfl rfl rfl rfl ?_
        refine aw_goto 62 q_M_isFair_110 rfl ?_
        first
          | (have h9 := zI_0.mp c92
             have e9 := gpt_f (D := D) (m := m) (i := i) t h9
             have g := ih _ (by omega) (i + 1) rfl (by omega)
             rw [← e9] at g
             exact g)
          | (have h9 := zI_n0.mp c92
             have e9 := gpt_t (D := D) (m := m) (i := i) t h9
             have g := ih _ (by omega) (i + 1) rfl (by omega)
             rw [← e9] at g
             exact g)
theorem l_M_isFair2 (sc : am_S) (A : ST) (q : QS) (D : ST) (t : TS) (m : Nat) (b : bd D) (hm : m < 16384) (hfa : 0 ≤ x_fa D ∧ x_fa D ≤ 10000000) : ∀ (n i : Nat), x_nt D - i = n → i ≤ x_nt D →  AW sc m_M_isFair 1 35 [some (.ref 50), some (.int (nI m)), some (.int (nI (udm D i))), some (.int (nI i)), none, none, none, none] [] (hp A q D (t_s_pa t (gpt D m t 0))) (some (.int (zI (fiM D m)))) (hp A q D (t_s_pa t (gpt D m t (x_nc D)))) := by
  intro n
  induction n using Nat.strongRecOn with
  | _ n ih =>
    intro i hn hi
    have b2 := b.2.1
    have b6 := b.2.2.2.2.2.1 i
    refine aw_iload_n 3 q_M_isFair_35 rfl rfl ?_
    refine aw_aload_n 0 q_M_isFair_36 rfl rfl ?_
    refine aw_get 1 q_M_isFair_37 fl_M_76 rfl rfl ?_
    refine aw_icmp_ge 60 q_M_isFair_40 rfl (fun c40 => ?_) (fun c40 => ?_)
    · skip
      refine aw_iconst 0 q_M_isFair_60 rfl ?_
      refine aw_istore_n 3 q_M_isFair_61 rfl rfl rfl ?_
      rw [show i = x_nt D from Nat.le_antisymm hi (nge_ge c40 (by omega) (by omega))]
      exact l_M_isFair3 sc A q D t m b hm hfa _ 0 rfl (by omega)
    · skip
      have hlt : i < x_nt D := nge_lt c40 (by omega) (by omega)
      refine aw_iload_n 2 q_M_isFair_43 rfl rfl ?_
      refine aw_iconst 1 q_M_isFair_44 rfl ?_
      refine aw_aload_n 0 q_M_isFair_45 rfl rfl ?_
      refine aw_get 3 q_M_isFair_46 fl_M_13 rfl rfl ?_
      refine aw_iload_n 3 q_M_isFair_49 rfl rfl ?_
      refine aw_ialdN q_M_isFair_50 rfl (by omega) rfl ?_
      refine aw_ishl q_M_isFair_51 ?_
      rw [bt_one (by omega)]
      refine aw_ior q_M_isFair_52 ?_
      rw [nI_or]
      refine aw_istore_n 2 q_M_isFair_53 rfl rfl rfl ?_
      first | refine aw_iinc _ q_M_isFair_54 rfl (am_inc _) rfl rfl ?_ | refine aw_iinc _ q_M_isFair_54 rfl rfl rfl rfl ?_
      refine aw_goto 35 q_M_isFair_57 rfl ?_
      exact ih _ (by omega) (i + 1) rfl (by omega)
theorem l_M_isFair1 (sc : am_S) (A : ST) (q : QS) (D : ST) (t : TS) (m : Nat) (b : bd D) (hm : m < 16384) (hfa : 0 ≤ x_fa D ∧ x_fa D ≤ 10000000) : ∀ (n i : Nat), 4 - i = n → i ≤ 4 →  AW sc m_M_isFair 1 15 [some (.ref 50), some (.int (nI m)), some (.int (nI 0)), some (.int (nI i)), none, none, none, none] [] (hp A q D (t_s_pa t (pz t i))) (some (.int (zI (fiM D m)))) (hp A q D (t_s_pa t (gpt D m t (x_nc D)))) := by
  intro n
  induction n using Nat.strongRecOn with
  | _ n ih =>
    intro i hn hi
    refine aw_iload_n 3 q_M_isFair_15 rfl rfl ?_
    refine aw_iconst 4 q_M_isFair_16 rfl ?_
    refine aw_icmp_ge 33 q_M_isFair_17 rfl (fun c17 => ?_) (fun c17 => ?_)
    · skip
      refine aw_iconst 0 q_M_isFair_33 rfl ?_
      refine aw_istore_n 3 q_M_isFair_34 rfl rfl rfl ?_
      rw [show i = 4 from Nat.le_antisymm hi (nge_ge (b := 4) c17 (by omega) (by omega)), ← gpt_0 D m t]
      exact l_M_isFair2 sc A q D t m b hm hfa _ 0 rfl (by omega)
    · skip
      have hlt : i < 4 := nge_lt (b := 4) c17 (by omega) (by omega)
      refine aw_aload_n 0 q_M_isFair_20 rfl rfl ?_
      refine aw_get 20 q_M_isFair_21 fl_M_54 rfl rfl ?_
      refine aw_iload_n 3 q_M_isFair_24 rfl rfl ?_
      refine aw_lconst (lZ 0) q_M_isFair_25 rfl ?_
      refine wa_61 0 q_M_isFair_26 (by omega) ?_
      first | refine aw_iinc _ q_M_isFair_27 rfl (am_inc _) rfl rfl ?_ | refine aw_iinc _ q_M_isFair_27 rfl rfl rfl rfl ?_
      refine aw_goto 15 q_M_isFair_30 rfl ?_
      have g := ih _ (by omega) (i + 1) rfl (by omega)
      rw [← pz_s] at g
      exact g
theorem c_M_isFair (sc : am_S) (A : ST) (q : QS) (D : ST) (t : TS) (m : Nat) (b : bd D) (hm : m < 16384) (hfa : -1 ≤ x_fa D ∧ x_fa D ≤ 10000000) : AM sc m_M_isFair 1 [.ref 50, .int (nI m)] (hp A q D t) (some (.int (zI (fiM D m)))) (hp A q D (tfr D m t)) := by
  refine AM.of (by decide) (Nat.le_of_ble_eq_true rfl) ?_
  show AW sc m_M_isFair 1 0 [some (.ref 50), some (.int (nI m)), none, none, none, none, none, none] [] _ _ _
  refine aw_aload_n 0 q_M_isFair_0 rfl rfl ?_
  refine aw_get 15 q_M_isFair_1 fl_M_43 rfl rfl ?_
  refine aw_lconst (lZ 0) q_M_isFair_4 rfl ?_
  refine aw_lcmp_ge 11 q_M_isFair_5 q_M_isFair_6 rfl (fun c5 => ?_) (fun c5 => ?_)
  · skip
    have k := (lZ_le (a := 0) (b := x_fa D) (by omega) (by omega)).mp c5
    refine aw_iconst 0 q_M_isFair_11 rfl ?_
    refine aw_istore_n 2 q_M_isFair_12 rfl rfl rfl ?_
    refine aw_iconst 0 q_M_isFair_13 rfl ?_
    refine aw_istore_n 3 q_M_isFair_14 rfl rfl rfl ?_
    have g := l_M_isFair1 sc A q D t m b hm ⟨k, hfa.2⟩ _ 0 rfl (by omega)
    rw [pz_0] at g
    rw [show tfr D m t = t_s_pa t (gpt D m t (x_nc D)) from by unfold tfr; rw [if_neg (by omega)]]
    exact g
  · skip
    have k := mt (lZ_le (a := 0) (b := x_fa D) (by omega) (by omega)).mpr c5
    refine aw_iconst 1 q_M_isFair_9 rfl ?_
    exact aw_iret .boolean q_M_isFair_10 rfl rfl (aw_rz1 (by simp only [fiM]; rw [show decide (x_fa D < 0) = true from decide_eq_true (by omega)]; simp)) (by unfold tfr; rw [if_pos (by omega)])
def hwM (D : ST) (w m : Nat) : Bool := decide (m &&& w = w) && pln D m (x_nc D) && fiM D m && ftm D m (x_ny D)
def tH (D : ST) (w m : Nat) (t : TS) : TS := if m &&& w = w ∧ pln D m (x_nc D) = true then tfr D m t else t
theorem c_M_holdsWith (sc : am_S) (A : ST) (q : QS) (D : ST) (t : TS) (m w : Nat) (b : bd D) (jd : jdo D) (hm : m < 16384) (hw : w < 16384) (hfa : -1 ≤ x_fa D ∧ x_fa D ≤ 10000000) : AM sc m_M_holdsWith 3 [.ref 50, .int (nI m), .int (nI w)] (hp A q D t) (some (.int (zI (hwM D w m)))) (hp A q D (tH D w m t)) := by
  refine AM.of (by decide) (Nat.le_of_ble_eq_true rfl) ?_
  show AW sc m_M_holdsWith 3 0 [some (.ref 50), some (.int (nI m)), some (.int (nI w))] [] _ _ _
  have hmw := and_lt (b := w) 16384 hm
  refine aw_iload_n 1 q_M_holdsWith_0 rfl rfl ?_
  refine aw_iload_n 2 q_M_holdsWith_1 rfl rfl ?_
  refine aw_iand q_M_holdsWith_2 ?_
  rw [nI_and]
  refine aw_iload_n 2 q_M_holdsWith_3 rfl rfl ?_
  refine aw_icmp_ne 35 q_M_holdsWith_4 rfl (fun c4 => ?_) (fun c4 => ?_)
  · skip
    refine aw_iconst 0 q_M_holdsWith_35 rfl ?_
    exact aw_iret .boolean q_M_holdsWith_36 rfl rfl (aw_rz0 (by have k1 := nI_ne (by omega) (by omega) c4; simp [hwM, k1])) (by have k1 := nI_ne (by omega) (by omega) c4; unfold tH; rw [if_neg (fun z => k1 z.1)])
  · skip
    refine aw_aload_n 0 q_M_holdsWith_7 rfl rfl ?_
    refine aw_iload_n 1 q_M_holdsWith_8 rfl rfl ?_
    refine aw_V1 q_M_holdsWith_9 st_M_110 rfl (by omega) (Nat.le_of_ble_eq_true rfl) (c_M_isPlan _ _ _ _ _ _ b hm) ?_
    refine aw_if_eq 35 q_M_holdsWith_12 rfl (fun c12 => ?_) (fun c12 => ?_)
    · skip
      refine aw_iconst 0 q_M_holdsWith_35 rfl ?_
      exact aw_iret .boolean q_M_holdsWith_36 rfl rfl (aw_rz0 (by have k2 := zI_0.mp c12; simp [hwM, k2])) (by have k2 := zI_0.mp c12; unfold tH; rw [if_neg (by rw [k2]; simp)])
    · skip
      have k1 := nI_eq' (by omega) (by omega) c4
      have k2 := zI_n0.mp c12
      have e9 : tH D w m t = tfr D m t := by unfold tH; rw [if_pos ⟨k1, k2⟩]
      rw [e9]
      refine aw_aload_n 0 q_M_holdsWith_15 rfl rfl ?_
      refine aw_iload_n 1 q_M_holdsWith_16 rfl rfl ?_
      refine aw_V1 q_M_holdsWith_17 st_M_117 rfl (by omega) (Nat.le_of_ble_eq_true rfl) (c_M_isFair _ _ _ _ _ _ b hm hfa) ?_
      refine aw_if_eq 35 q_M_holdsWith_20 rfl (fun c20 => ?_) (fun c20 => ?_)
      · skip
        refine aw_iconst 0 q_M_holdsWith_35 rfl ?_
        exact aw_iret .boolean q_M_holdsWith_36 rfl rfl (aw_rz0 (by have k3 := zI_0.mp c20; simp [hwM, k3])) rfl
      · skip
        refine aw_aload_n 0 q_M_holdsWith_23 rfl rfl ?_
        refine aw_iload_n 1 q_M_holdsWith_24 rfl rfl ?_
        refine aw_V1 q_M_holdsWith_25 st_M_120 rfl (by omega) (Nat.le_of_ble_eq_true rfl) (c_M_fits _ _ _ _ _ _ b jd hm) ?_
        refine aw_if_eq 35 q_M_holdsWith_28 rfl (fun c28 => ?_) (fun c28 => ?_)
        · skip
          refine aw_iconst 0 q_M_holdsWith_35 rfl ?_
          exact aw_iret .boolean q_M_holdsWith_36 rfl rfl (aw_rz0 (by have k4 := zI_0.mp c28; simp [hwM, k4])) rfl
        · skip
          refine aw_iconst 1 q_M_holdsWith_31 rfl ?_
          refine aw_goto 36 q_M_holdsWith_32 rfl ?_
          exact aw_iret .boolean q_M_holdsWith_36 rfl rfl (aw_rz1 (by have k3 := zI_n0.mp c20; have k4 := zI_n0.mp c28; simp [hwM, k1, k2, k3, k4])) rfl
