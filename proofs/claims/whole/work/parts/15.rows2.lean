/-! ROWS BY NUMBERS: arrays of naturals and integers, constants of the JDK's pool, new long[n][m] -/
theorem up_nI (f : Nat → Nat) (j x : Nat) : upd (fun i => nI (f i)) j (nI x) = fun i => nI (va_up f j x i) := by
  funext i
  by_cases h : i = j
  · subst h; simp [upd, va_up]
  · simp [upd, va_up, h]
theorem up_lZ (f : Nat → Int) (j : Nat) (x : Int) : vp_updL (fun i => lZ (f i)) j (lZ x) = fun i => lZ (va_up f j x i) := by
  funext i
  by_cases h : i = j
  · subst h; simp [vp_updL, va_up]
  · simp [vp_updL, va_up, h]
theorem zI_t {b : Bool} (h : b = true) : zI b = 1 := zI_1.mpr h
theorem zI_f {b : Bool} (h : b = false) : zI b = 0 := zI_0.mpr h
theorem aw_rz1 {b : Bool} (h : b = true) : some (Value.int (zI b)) = some (Value.int 1) := by rw [zI_t h]
theorem aw_rz0 {b : Bool} (h : b = false) : some (Value.int (zI b)) = some (Value.int 0) := by rw [zI_f h]
section AMN
variable {sc : am_S} {M : am_M} {d pc : Nat} {L : List (Option Value)} {st : List Value} {h : List am_C} {r : Option Value} {h' : List am_C}
theorem aw_ialdN {o n j : Nat} {f : Nat → Nat} (hd : decode M.2.1 pc = .ok (.iaload, 1)) (ho : h[o]? = some (aI n f)) (hj : j < n) (hn : Nat.blt n 2147483648 = true) (kk : AW sc M d (pc + 1) L (.int (nI (f j)) :: st) h r h') : AW sc M d pc L (.int (nI j) :: .ref (o + 1) :: st) h r h' := by
  have hn' : n < 2 ^ 31 := Nat.blt_eq.mp hn
  refine aw_iald hd rfl ho (vp_in_nI hj hn') ?_
  rw [nI_clamp (Nat.lt_trans hj hn')]
  exact kk
theorem aw_laldN {o n j : Nat} {f : Nat → Int} (hd : decode M.2.1 pc = .ok (.laload, 1)) (ho : h[o]? = some (aL n f)) (hj : j < n) (hn : Nat.blt n 2147483648 = true) (kk : AW sc M d (pc + 1) L (.long (lZ (f j)) :: st) h r h') : AW sc M d pc L (.int (nI j) :: .ref (o + 1) :: st) h r h' := by
  have hn' : n < 2 ^ 31 := Nat.blt_eq.mp hn
  refine aw_lald hd rfl ho (vp_in_nI hj hn') ?_
  rw [nI_clamp (Nat.lt_trans hj hn')]
  exact kk
theorem aw_aaldN {o n b j : Nat} (hd : decode M.2.1 pc = .ok (.aaload, 1)) (ho : h[o]? = some (aA n b)) (hj : j < n) (hn : Nat.blt n 2147483648 = true) (kk : AW sc M d (pc + 1) L (.ref ((b + j) + 1) :: st) h r h') : AW sc M d pc L (.int (nI j) :: .ref (o + 1) :: st) h r h' := by
  have hn' : n < 2 ^ 31 := Nat.blt_eq.mp hn
  refine aw_aald (ty := .array .long) hd rfl rfl ho (vp_in_nI hj hn') ?_
  rw [nI_clamp (Nat.lt_trans hj hn'), if_pos hj]
  exact kk
theorem aw_iastN {o n j x : Nat} {f : Nat → Nat} (hd : decode M.2.1 pc = .ok (.iastore, 1)) (ho : h[o]? = some (aI n f)) (hj : j < n) (hn : Nat.blt n 2147483648 = true) (kk : AW sc M d (pc + 1) L st (h.set o (aI n (va_up f j x))) r h') : AW sc M d pc L (.int (nI x) :: .int (nI j) :: .ref (o + 1) :: st) h r h' := by
  have hn' : n < 2 ^ 31 := Nat.blt_eq.mp hn
  refine aw_iast hd rfl ho (vp_in_nI hj hn') ?_
  rw [nI_clamp (Nat.lt_trans hj hn'), up_nI]
  exact kk
theorem aw_lastN {o n j : Nat} {x : Int} {f : Nat → Int} (hd : decode M.2.1 pc = .ok (.lastore, 1)) (ho : h[o]? = some (aL n f)) (hj : j < n) (hn : Nat.blt n 2147483648 = true) (kk : AW sc M d (pc + 1) L st (h.set o (aL n (va_up f j x))) r h') : AW sc M d pc L (.long (lZ x) :: .int (nI j) :: .ref (o + 1) :: st) h r h' := by
  have hn' : n < 2 ^ 31 := Nat.blt_eq.mp hn
  refine aw_last hd rfl ho (vp_in_nI hj hn') ?_
  rw [nI_clamp (Nat.lt_trans hj hn'), up_lZ]
  exact kk
theorem aw_ldcw {idx : Nat} (v : Int32) (hd : decode M.2.1 pc = .ok (.ldc_w idx, 3)) (hw : Cond.constant M.1.cls idx v ∈ am_T) (kk : AW sc M d (pc + 3) L (.int v :: st) h r h') : AW sc M d pc L (st) h r h' := by
  refine ⟨kk.1, ?_⟩
  intro E mc ms p l e R s m args below meth c Z ok H locs cells slots ls hl hH hF hc hs
  exact lv_ldcw ok.1 ok.2.1 ok.2.2.2.1 (ok.2.2.2.2.2.1 _ hw) hd (kk.2 E mc ms p l e R s m args below meth c Z ok H locs cells slots ls hl hH hF hc hs)
theorem aw_is {L' : List (Option Value)} {st' : List Value} {hx : List am_C} (e1 : L = L') (e2 : st = st') (e3 : h = hx) (kk : AW sc M d pc L' st' hx r h') : AW sc M d pc L st h r h' := by
  subst e1; subst e2; subst e3
  exact kk
theorem aw_maxI {idx : Nat} {x y : Int32} (hd : decode M.2.1 pc = .ok (.invokestatic idx, 3)) (hlk : Cond.methodLink M.1.cls idx Lib.Math.max.name ∈ am_T) (hd1 : 1 ≤ d) (hcat : (st.map fun v => v.category).sum ≤ 8) (kk : AW sc M d (pc + 3) L (.int (if x < y then y else x) :: st) h r h') : AW sc M d pc L (.int y :: .int x :: st) h r h' := by
  refine ⟨kk.1, ?_⟩
  have hk1 := kk.1
  intro E mc ms p l e R s m args below meth c Z ok H locs cells slots ls hl hH hF hc hs
  obtain ⟨hx, hb, hml, hown, hin, hts, hK, hX, hR, hZ⟩ := id ok
  have hk : am_k ≤ am_k * d := Nat.le_mul_of_pos_right am_k hd1
  have hk0 : 30 ≤ am_k := by decide
  have hcat' : ((st.map (am_v E)).map fun v => v.category).sum ≤ 8 := by rw [am_cats]; exact hcat
  obtain ⟨hl1, hl2⟩ := hk1
  exact va_mmax hx hb (by rw [hml]; exact hl.2.1.symm) hown (hts _ hlk) (hts _ (am_in1 (i := 24) rfl rfl)) (hts _ (am_in1 (i := 3) rfl rfl)) (hts _ (am_in1 (i := 25) rfl rfl)) (by omega) (by omega) (by omega) (by omega) hd (kk.2 E mc ms p l e R s m args below meth c Z ok H locs cells slots ls hl hH hF hc hs)
theorem aw_minI {idx : Nat} {x y : Int32} (hd : decode M.2.1 pc = .ok (.invokestatic idx, 3)) (hlk : Cond.methodLink M.1.cls idx Lib.Math.min.name ∈ am_T) (hd1 : 1 ≤ d) (hcat : (st.map fun v => v.category).sum ≤ 8) (kk : AW sc M d (pc + 3) L (.int (if y < x then y else x) :: st) h r h') : AW sc M d pc L (.int y :: .int x :: st) h r h' := by
  refine ⟨kk.1, ?_⟩
  have hk1 := kk.1
  intro E mc ms p l e R s m args below meth c Z ok H locs cells slots ls hl hH hF hc hs
  obtain ⟨hx, hb, hml, hown, hin, hts, hK, hX, hR, hZ⟩ := id ok
  have hk : am_k ≤ am_k * d := Nat.le_mul_of_pos_right am_k hd1
  have hk0 : 30 ≤ am_k := by decide
  have hcat' : ((st.map (am_v E)).map fun v => v.category).sum ≤ 8 := by rw [am_cats]; exact hcat
  obtain ⟨hl1, hl2⟩ := hk1
  exact va_mmin hx hb (by rw [hml]; exact hl.2.1.symm) hown (hts _ hlk) (hts _ (am_in1 (i := 21) rfl rfl)) (hts _ (am_in1 (i := 3) rfl rfl)) (hts _ (am_in1 (i := 22) rfl rfl)) (by omega) (by omega) (by omega) (by omega) hd (kk.2 E mc ms p l e R s m args below meth c Z ok H locs cells slots ls hl hH hF hc hs)
theorem aw_maxL {idx : Nat} {x y : Int64} (hd : decode M.2.1 pc = .ok (.invokestatic idx, 3)) (hlk : Cond.methodLink M.1.cls idx Lib.MathLoose.max_long.x ∈ am_T) (hd1 : 1 ≤ d) (hcat : (st.map fun v => v.category).sum ≤ 8) (kk : AW sc M d (pc + 3) L (.long (if y < x then x else y) :: st) h r h') : AW sc M d pc L (.long y :: .long x :: st) h r h' := by
  refine ⟨kk.1, ?_⟩
  have hk1 := kk.1
  intro E mc ms p l e R s m args below meth c Z ok H locs cells slots ls hl hH hF hc hs
  obtain ⟨hx, hb, hml, hown, hin, hts, hK, hX, hR, hZ⟩ := id ok
  have hk : am_k ≤ am_k * d := Nat.le_mul_of_pos_right am_k hd1
  have hk0 : 30 ≤ am_k := by decide
  have hcat' : ((st.map (am_v E)).map fun v => v.category).sum ≤ 8 := by rw [am_cats]; exact hcat
  obtain ⟨hl1, hl2⟩ := hk1
  exact va_mmax_long hx hb (by rw [hml]; exact hl.2.1.symm) hown (hts _ hlk) (hts _ (am_in2 (i := 185) rfl rfl)) (hts _ (am_in1 (i := 3) rfl rfl)) (hts _ (am_in2 (i := 186) rfl rfl)) (by omega) (by omega) (by omega) (by omega) hd (kk.2 E mc ms p l e R s m args below meth c Z ok H locs cells slots ls hl hH hF hc hs)
theorem aw_minL {idx : Nat} {x y : Int64} (hd : decode M.2.1 pc = .ok (.invokestatic idx, 3)) (hlk : Cond.methodLink M.1.cls idx Lib.MathLoose.min_long.x ∈ am_T) (hd1 : 1 ≤ d) (hcat : (st.map fun v => v.category).sum ≤ 8) (kk : AW sc M d (pc + 3) L (.long (if y < x then y else x) :: st) h r h') : AW sc M d pc L (.long y :: .long x :: st) h r h' := by
  refine ⟨kk.1, ?_⟩
  have hk1 := kk.1
  intro E mc ms p l e R s m args below meth c Z ok H locs cells slots ls hl hH hF hc hs
  obtain ⟨hx, hb, hml, hown, hin, hts, hK, hX, hR, hZ⟩ := id ok
  have hk : am_k ≤ am_k * d := Nat.le_mul_of_pos_right am_k hd1
  have hk0 : 30 ≤ am_k := by decide
  have hcat' : ((st.map (am_v E)).map fun v => v.category).sum ≤ 8 := by rw [am_cats]; exact hcat
  obtain ⟨hl1, hl2⟩ := hk1
  exact va_mmin_long hx hb (by rw [hml]; exact hl.2.1.symm) hown (hts _ hlk) (hts _ (am_in2 (i := 206) rfl rfl)) (hts _ (am_in1 (i := 3) rfl rfl)) (hts _ (am_in2 (i := 207) rfl rfl)) (by omega) (by omega) (by omega) (by omega) hd (kk.2 E mc ms p l e R s m args below meth c Z ok H locs cells slots ls hl hH hF hc hs)
end AMN
