/-! ROWS 4: an array of rows of longs -/
theorem am_sz_apps (a b : List am_C) : am_sz (a ++ b) = am_sz a + am_sz b := by
  induction a with
  | nil => simp [am_sz]
  | cons x a ih => simp only [List.cons_append, am_sz, ih]; omega
theorem am_sz_rep (c : am_C) : ∀ n, am_sz (List.replicate n c) = n * am_s1 c
  | 0 => by simp [am_sz]
  | n + 1 => by
    rw [List.replicate_succ, am_sz, am_sz_rep c n, Nat.succ_mul]
    omega
theorem am_out (c : ClassId) (N h0 : Nat) (i : Nat) : Jvm.Free.Multi.outerC c N h0 i = arrV c N (fun j => va_rf (if j < i then some (h0 + 1 + j) else none)) := by
  induction i with
  | zero =>
    show ({ cls := c, slots := Array.replicate N .null, vm := .none } : Cell) = _
    rw [arrV_new]
    congr 1
  | succ i ih =>
    show (Jvm.Free.Multi.outerC c N h0 i).setSlot i (.ref (h0 + 1 + i)) = _
    rw [ih, arrV_store]
    congr 1
    funext j
    unfold updV
    by_cases e : j = i
    · subst e
      rw [if_pos rfl, if_pos (by omega)]
      rfl
    · rw [if_neg e]
      show va_rf (if j < i then some (h0 + 1 + j) else none) = _
      by_cases h : j < i
      · rw [if_pos h, if_pos (by omega)]
      · rw [if_neg h, if_neg (by omega)]
theorem am_inn (c : ClassId) (K : Nat) : Jvm.Free.Multi.innerC c K (defaultValue .long) = vp_cell c (K, .inr (.inl (fun _ => 0))) := by
  rw [vp_cell_l]
  show ({ cls := c, slots := Array.replicate K (.long 0), vm := .none } : Cell) = _
  rw [arrV_new]
abbrev aZ (K : Nat) : am_C := .inl (1, K, .inr (.inl (fun _ => 0)))
section AMM
variable {sc : am_S} {M : am_M} {d pc : Nat} {L : List (Option Value)} {st : List Value} {h : List am_C} {r : Option Value} {h' : List am_C}
theorem aw_mna {idx N K : Nat} {n k : Int32} (z : Nat) (hd : decode M.2.1 pc = .ok (.multianewarray idx 2, 4)) (hcl : Cond.classLink M.1.cls idx "[[J" ∈ am_T) (hla : Cond.arrayClass .long ∈ am_T) (hn : ¬ n < 0) (hk : ¬ k < 0) (hN : n.toNatClampNeg = N) (hM : k.toNatClampNeg = K) (hb1 : N * 4 ≤ 536870912) (hb2 : K * 8 ≤ 536870912) (hlen : h.length = z)
    (kk : AW sc M d (pc + 4) L (.ref (z + 1) :: st) (h ++ aA N (z + 1) :: List.replicate N (aZ K)) r h') : AW sc M d pc L (.int k :: .int n :: st) h r h' := by
  subst hlen
  subst hN
  subst hM
  have l1 := kk.1.1
  have l2 := kk.1.2
  rw [List.length_append, List.length_cons, List.length_replicate] at l1
  rw [am_sz_apps] at l2
  simp only [am_sz] at l2
  rw [am_sz_rep] at l2
  simp only [am_s1] at l2
  refine ⟨⟨by omega, by omega⟩, ?_⟩
  intro E mc ms p l e R s m args below meth c Z ok H locs cells slots ls hl hH hF hc hs
  obtain ⟨hx, hb, hml, hown, hin, hts, hK, hX, hR, hZ⟩ := id ok
  intro T hT Xs
  have hover : (Cond.arrayOver (.array .long)).before args s = true := hK.2.2.2.2
  obtain ⟨vm1, cA, comp, -, fA, fC, hO, -, X1, step⟩ := Xs.multianewarray2F hx hown (hts _ hcl) hover (hts _ hla) (g := F0 m pc ls (.int k :: .int n :: st.map (am_v E))) rfl (by rw [hb]; exact hd) rfl hn hk hb1 (by show k.toNatClampNeg * 8 ≤ _; exact hb2) (by omega) rfl rfl (by omega) (by omega)
  have e1 : comp = E.2.2.2 1 := Option.some.inj (fC.symm.trans (hK.2.1 1 .long rfl).2)
  have e2 : cA = E.2.2.2 2 := Option.some.inj (fA.symm.trans (hK.2.1 2 (.array .long) rfl).2)
  subst e1
  subst e2
  generalize hG : Jvm.Free.Multi.fill (T.setVm vm1) (E.2.2.2 2) (E.2.2.2 1) n.toNatClampNeg k.toNatClampNeg (defaultValue .long) n.toNatClampNeg = F at X1 step
  have hTh : (T.setVm vm1).heap = H := hT
  obtain ⟨f1, f2, -, -⟩ := Jvm.Free.Multi.fill_facts (T.setVm vm1) (E.2.2.2 2) (E.2.2.2 1) n.toNatClampNeg k.toNatClampNeg (defaultValue .long) n.toNatClampNeg
  rw [hG, hTh] at f1 f2
  have hold : ∀ x : Nat, x < H.size → F.heap[x]? = H[x]? := fun x hx => by
    have := Jvm.Free.Multi.fill_old (T.setVm vm1) (E.2.2.2 2) (E.2.2.2 1) n.toNatClampNeg k.toNatClampNeg (defaultValue .long) (a := x) (by rw [hTh]; exact hx) n.toNatClampNeg
    rw [hG, hTh] at this
    exact this
  have hrow : ∀ j : Nat, j < n.toNatClampNeg → F.heap[H.size + 1 + j]? = some (vp_cell (E.2.2.2 1) (k.toNatClampNeg, .inr (.inl (fun _ => 0)))) := fun j hj => by
    have := Jvm.Free.Multi.fill_inner (T.setVm vm1) (E.2.2.2 2) (E.2.2.2 1) n.toNatClampNeg k.toNatClampNeg (defaultValue .long) n.toNatClampNeg j hj
    rw [hG, hTh, am_inn] at this
    exact this
  have hsz := hH.1
  have hH2 : am_H E (h ++ aA n.toNatClampNeg (h.length + 1) :: List.replicate n.toNatClampNeg (aZ k.toNatClampNeg)) F.heap := by
    refine ⟨by rw [f1, hsz, List.length_append, List.length_cons, List.length_replicate]; omega, fun j c' hj => ?_⟩
    by_cases h1 : j < h.length
    · rw [List.getElem?_append_left h1] at hj
      exact (hH.2 j c' hj).kept (hold _ (by omega))
    · rw [List.getElem?_append_right (by omega)] at hj
      by_cases h2 : j = h.length
      · subst h2
        rw [Nat.sub_self, List.getElem?_cons_zero] at hj
        cases hj
        show F.heap[E.2.1 + h.length]? = some (vp_cell (E.2.2.2 2) (am_g E _))
        rw [← hsz, f2, am_out]
        congr 1
        show _ = vp_cell (E.2.2.2 2) (n.toNatClampNeg, .inr (.inr (.inr (.inr (fun j => Option.map (am_a E) (if j < n.toNatClampNeg then some ((h.length + 1 + j) + 1) else none))))))
        rw [vp_cell_q]
        congr 1
        funext i
        by_cases hi : i < n.toNatClampNeg
        · rw [if_pos hi, if_pos hi]
          have e9 : H.size + 1 + i = E.2.1 + (h.length + 1 + i) := by omega
          exact congrArg Value.ref e9
        · rw [if_neg hi, if_neg hi]
          rfl
      · obtain ⟨i, hi⟩ : ∃ i, j - h.length = i + 1 := ⟨j - h.length - 1, by omega⟩
        rw [hi, List.getElem?_cons_succ, List.getElem?_replicate] at hj
        by_cases h3 : i < n.toNatClampNeg
        · rw [if_pos h3] at hj
          cases hj
          show F.heap[E.2.1 + j]? = some (vp_cell (E.2.2.2 1) (k.toNatClampNeg, .inr (.inl (fun _ => 0))))
          rw [show E.2.1 + j = H.size + 1 + i by omega]
          exact hrow i h3
        · rw [if_neg h3] at hj
          cases hj
  have g := kk.2 E mc ms p l e R s m args below meth c Z ok F.heap locs (cells + 1 + n.toNatClampNeg) (slots + n.toNatClampNeg + n.toNatClampNeg * k.toNatClampNeg) ls hl hH2 (hF.push (fun q hq => hold q hq) (by omega)) (by rw [List.length_append, List.length_cons, List.length_replicate]; omega) (by rw [am_sz_apps]; simp only [am_sz]; rw [am_sz_rep]; simp only [am_s1]; omega)
  obtain ⟨t, a1, b1⟩ := g F rfl X1
  refine ⟨t, step t ?_, b1⟩
  have e3 : T.heap.size = E.2.1 + h.length := by rw [hT]; exact hsz
  rw [e3]
  exact a1
end AMM
theorem ob_B {idx : Nat} (h : idx = 3) : Cond.methodLink "WorksBudget" idx objectInit ∈ am_T := by
  subst h
  exact am_in1 (i := 15) rfl rfl
theorem ob_W {idx : Nat} (h : idx = 3) : Cond.methodLink "WorksBudget$Works" idx objectInit ∈ am_T := by
  subst h
  exact am_in1 (i := 29) rfl rfl
theorem ob_S {idx : Nat} (h : idx = 3) : Cond.methodLink "WorksBudget$Search" idx objectInit ∈ am_T := by
  subst h
  exact am_in1 (i := 114) rfl rfl
theorem ob_N {idx : Nat} (h : idx = 1) : Cond.methodLink "WorksBudget$Bounds" idx objectInit ∈ am_T := by
  subst h
  exact am_in1 (i := 182) rfl rfl
theorem ob_P {idx : Nat} (h : idx = 3) : Cond.methodLink "WorksBudget$Policies" idx objectInit ∈ am_T := by
  subst h
  exact am_in1 (i := 192) rfl rfl
theorem ob_M {idx : Nat} (h : idx = 1) : Cond.methodLink "WorksBudgetModel" idx objectInit ∈ am_T := by
  subst h
  exact am_in3 (i := 126) rfl rfl
theorem ob_i : Cond.instanceMethod objectInit ∈ am_T := am_in1 (i := 16) rfl rfl
theorem ob_c : Cond.code objectInit ⟨#[0xb1]⟩ 1 none ∈ am_T := am_in1 (i := 17) rfl rfl
theorem ac_l : Cond.arrayClass .long ∈ am_T := am_in1 (i := 107) rfl rfl
theorem ac_i : Cond.arrayClass .int ∈ am_T := am_in1 (i := 108) rfl rfl
theorem jj_W : Cond.classLink "WorksBudget$Works" 37 "[[J" ∈ am_T := am_in1 (i := 30) rfl rfl
theorem jj_S : Cond.classLink "WorksBudget$Search" 15 "[[J" ∈ am_T := am_in1 (i := 115) rfl rfl
