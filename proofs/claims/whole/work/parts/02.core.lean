/-! AM: AN ABSTRACT MACHINE OVER THE KIT'S ROWS. A reference is a number: 0 the script, k + 1 the k-th cell made since the law began.
A heap is a list of cells. AW sc M d pc L st h r h': from the pc of the method M, with locals L, stack st and heap h, M returns r with heap h'
(d: the depth of calls that it needs). AM: the same of a call. -/
abbrev am_M : Type := MethodName × ByteArray × Nat × Option FieldType
abbrev am_C : Type := (Nat × vp_A) ⊕ (Nat × List Value)
abbrev am_S : Type := Nat × (Nat → Int32)
abbrev am_E : Type := Nat × Nat × va_G × (Nat → ClassId)
def am_a (E : am_E) : Nat → Nat
  | 0 => E.1
  | k + 1 => E.2.1 + k
def am_v (E : am_E) : Value → Value
  | .ref k => .ref (am_a E k)
  | .int x => .int x
  | .long x => .long x
  | .float x => .float x
  | .double x => .double x
  | .null => .null
  | .retAddr q => .retAddr q
theorem am_v_cat (E : am_E) (v : Value) : (am_v E v).category = v.category := by cases v <;> rfl
theorem am_v_rf (E : am_E) (x : Option Nat) : va_rf (x.map (am_a E)) = am_v E (va_rf x) := by cases x <;> rfl
theorem am_v_def (E : am_E) (t : FieldType) : am_v E (defaultValue t) = defaultValue t := by cases t <;> rfl
theorem am_cats (E : am_E) (st : List Value) : ((st.map (am_v E)).map fun v => v.category).sum = (st.map fun v => v.category).sum := by
  rw [List.map_map]
  congr 1
  exact List.map_congr_left (fun v _ => am_v_cat E v)
def am_g (E : am_E) (x : vp_A) : vp_A := (x.1, match x.2 with
  | .inl f => .inl f
  | .inr (.inl f) => .inr (.inl f)
  | .inr (.inr (.inl f)) => .inr (.inr (.inl f))
  | .inr (.inr (.inr (.inl f))) => .inr (.inr (.inr (.inl f)))
  | .inr (.inr (.inr (.inr f))) => .inr (.inr (.inr (.inr (fun j => (f j).map (am_a E))))))
def am_at (E : am_E) (a : Nat) (c : am_C) (H : Heap) : Prop := match c with
  | .inl x => H[a]? = some (vp_cell (E.2.2.2 x.1) (am_g E x.2))
  | .inr o => ∃ r : vw_C, am_cl[o.1]? = some r ∧ o.2.length = r.2.2 ∧ t_OB a (E.2.2.1.1 o.1) r.2.2 (E.2.2.1.2 o.1) H (vp_V (o.2.map (am_v E)))
def am_H (E : am_E) (h : List am_C) (H : Heap) : Prop := H.size = E.2.1 + h.length ∧ ∀ (k : Nat) (c : am_C), h[k]? = some c → am_at E (E.2.1 + k) c H
def am_s1 (c : am_C) : Nat := match c with
  | .inl x => x.2.1
  | .inr o => o.2.length
def am_sz : List am_C → Nat
  | [] => 0
  | c :: h => am_s1 c + am_sz h
theorem am_sz_app (h : List am_C) (c : am_C) : am_sz (h ++ [c]) = am_sz h + am_s1 c := by
  induction h with
  | nil => simp [am_sz]
  | cons a t ih => simp only [List.cons_append, am_sz, ih]; omega
theorem am_sz_set (h : List am_C) (k : Nat) (c c0 : am_C) (hk : h[k]? = some c0) (e : am_s1 c = am_s1 c0) : am_sz (h.set k c) = am_sz h := by
  induction h generalizing k with
  | nil => rfl
  | cons a t ih =>
    cases k with
    | zero =>
      rw [List.getElem?_cons_zero] at hk
      cases hk
      simp only [List.set_cons_zero, am_sz, e]
    | succ k =>
      rw [List.getElem?_cons_succ] at hk
      simp only [List.set_cons_succ, am_sz, ih k hk]
theorem am_at.kept {E : am_E} {a : Nat} {c : am_C} {H H1 : Heap} (h : am_at E a c H) (hq : H1[a]? = H[a]?) : am_at E a c H1 := by
  cases c with
  | inl x => exact hq.trans h
  | inr o =>
    obtain ⟨r, h1, h2, h3⟩ := h
    exact ⟨r, h1, h2, h3.kept hq⟩
theorem am_H.put {E : am_E} {h : List am_C} {H H1 : Heap} {k : Nat} {c c0 : am_C} (hH : am_H E h H) (hk : h[k]? = some c0) (hz : H1.size = H.size) (he : am_at E (E.2.1 + k) c H1) (oq : ∀ q : Nat, q ≠ E.2.1 + k → H1[q]? = H[q]?) : am_H E (h.set k c) H1 := by
  have hl := (List.getElem?_eq_some_iff.mp hk).1
  refine ⟨by rw [hz, hH.1, List.length_set], fun j c' hj => ?_⟩
  by_cases hjk : j = k
  · subst hjk
    rw [List.getElem?_set_self hl] at hj
    cases hj
    exact he
  · rw [List.getElem?_set_ne (Ne.symm hjk)] at hj
    exact (hH.2 j c' hj).kept (oq _ (by omega))
theorem am_H.push {E : am_E} {h : List am_C} {H H1 : Heap} {c : am_C} (hH : am_H E h H) (hz : H1.size = H.size + 1) (he : am_at E H.size c H1) (oq : ∀ q : Nat, q < H.size → H1[q]? = H[q]?) : am_H E (h ++ [c]) H1 := by
  have e0 := hH.1
  refine ⟨by rw [hz, e0, List.length_append]; simp; omega, fun j c' hj => ?_⟩
  by_cases hjl : j < h.length
  · rw [List.getElem?_append_left hjl] at hj
    exact (hH.2 j c' hj).kept (oq _ (by omega))
  · rw [List.getElem?_append_right (by omega)] at hj
    have hz1 : j - h.length < 1 := (List.getElem?_eq_some_iff.mp hj).1
    have e1 : j = h.length := by omega
    subst e1
    rw [Nat.sub_self] at hj
    cases hj
    rw [← e0]
    exact he
/-- the class of the arrays of rows of longs -/
def am_ao (U : State) : Prop := (Cond.arrayOver (.array .long)).before #[] U = true
theorem am_ao.moved {u U : State} (hvm : u.vm.Alike U.vm) (h : am_ao u) : am_ao U := by
  obtain ⟨comp, c, k, h1, h2, h3, h4, h5⟩ := arrayOverA_spec h
  obtain ⟨k2, hk2, he⟩ := hvm.2.2 _ _ h3
  have hi := va_idx_bare U.vm comp
  rw [hvm.bare_eq, va_idx_bare] at hi
  have hi2 := hi.symm.trans h2
  have f1 : U.vm.findClass (FieldType.array .long).toString = some comp := by rw [hvm.findClass]; exact h1
  have f2 : U.vm.findClass ("[" ++ (FieldType.array .long).toString) = some c := by rw [hvm.findClass]; exact h5
  have f3 : k2.kind = .array comp (.array .long) := by rw [he]; exact h4
  unfold am_ao Cond.before Cond.holds
  simp only [Cond.value]
  rw [f1, Option.bind_some]
  generalize hx : Array.findIdx? _ U.vm.classes = o
  have ho : o = some c := hx.symm.trans hi2
  subst ho
  rw [Option.bind_some, hk2]
  simp [f3, f2]
def am_K (E : am_E) (U : State) : Prop := (∀ (c : Nat) (q : vw_C), am_cl[c]? = some q → u_Kn U q.1 q.2.1 q.2.2 (E.2.2.1.1 c) (E.2.2.1.2 c)) ∧ (∀ (t : Nat) (ty : FieldType), am_ty[t]? = some ty → ArrOfT U (E.2.2.2 t) ty ∧ U.vm.findClass ("[" ++ ty.toString) = some (E.2.2.2 t)) ∧
  (∀ q ∈ am_nm, va_Nw (.methodLinkNest q.1 q.2.1 q.2.2.1 q.2.2.2) U) ∧ (∀ q ∈ am_nf, va_Nw (.fieldLinkNest q.1 q.2.1 q.2.2.1 q.2.2.2.1 q.2.2.2.2.1 q.2.2.2.2.2) U) ∧ am_ao U
theorem am_K.warm {E : am_E} {s U : State} (hW : s.WarmedH U.vm) (h : am_K E s) : am_K E U := by
  have hvm := hW.alike
  exact ⟨fun c q hq => u_Kn_moved hvm (h.1 c q hq), fun t ty ht => ⟨arrOfT_moved hvm (h.2.1 t ty ht).1, by rw [hvm.findClass]; exact (h.2.1 t ty ht).2⟩, fun q hq => (h.2.2.1 q hq).warmM hW, fun q hq => (h.2.2.2.1 q hq).warmF hW, h.2.2.2.2.moved hvm⟩
theorem am_K.same {E : am_E} {s U : State} (e : s.vm = U.vm) (h : am_K E s) : am_K E U := by
  have hvm : s.vm.Alike U.vm := by rw [e]; exact Vm.Alike.refl _
  exact ⟨fun c q hq => u_Kn_moved hvm (h.1 c q hq), fun t ty ht => ⟨arrOfT_moved hvm (h.2.1 t ty ht).1, by rw [hvm.findClass]; exact (h.2.1 t ty ht).2⟩, fun q hq => (h.2.2.1 q hq).same rfl e, fun q hq => (h.2.2.2.1 q hq).same rfl e, h.2.2.2.2.moved hvm⟩
def am_F (E : am_E) (s : State) (H : Heap) (locs : List Loc) : Prop := (∀ q : Nat, q < E.2.1 → H[q]? = s.heap[q]?) ∧ ∀ q ∈ locs, E.2.1 ≤ q.base
theorem am_F.put {E : am_E} {s : State} {H H1 : Heap} {locs : List Loc} {a i : Nat} (h : am_F E s H locs) (oq : ∀ q : Nat, q ≠ a → H1[q]? = H[q]?) (ha : E.2.1 ≤ a) : am_F E s H1 (locs ++ [⟨a, i⟩]) := by
  refine ⟨fun q hq => (oq q (by omega)).trans (h.1 q hq), fun q hq => ?_⟩
  rcases List.mem_append.mp hq with h1 | h1
  · exact h.2 q h1
  · rw [List.mem_singleton.mp h1]; exact ha
theorem am_F.push {E : am_E} {s : State} {H H1 : Heap} {locs : List Loc} (h : am_F E s H locs) (oq : ∀ q : Nat, q < H.size → H1[q]? = H[q]?) (hB : E.2.1 ≤ H.size) : am_F E s H1 locs := ⟨fun q hq => (oq q (by omega)).trans (h.1 q hq), h.2⟩
/-! the locals: by their places; 'none' is a place of which nothing is known -/
def am_L (E : am_E) (nL : Nat) (L : List (Option Value)) (ls : Array Slot) : Prop := L.length = nL ∧ ls.size = nL ∧ lv_wf ls ∧ ∀ (i : Nat) (v : Value), L[i]? = some (some v) → ls[i]? = some (.val (am_v E v))
def am_pl (E : am_E) (L : List (Option Value)) : List (Nat × Value) := (List.range L.length).filterMap fun i => match L[i]? with
  | some (some v) => some (i, am_v E v)
  | _ => none
theorem am_pl_in {E : am_E} {L : List (Option Value)} {i : Nat} {v : Value} (h : L[i]? = some (some v)) : (i, am_v E v) ∈ am_pl E L := by
  refine List.mem_filterMap.mpr ⟨i, List.mem_range.mpr (List.getElem?_eq_some_iff.mp h).1, ?_⟩
  rw [h]
theorem am_pl_of {E : am_E} {L : List (Option Value)} {q : Nat × Value} (h : q ∈ am_pl E L) : ∃ v, L[q.1]? = some (some v) ∧ q.2 = am_v E v := by
  obtain ⟨i, -, hi⟩ := List.mem_filterMap.mp h
  revert hi
  cases hL : L[i]? with
  | none => intro hi; cases hi
  | some o =>
    cases o with
    | none => intro hi; cases hi
    | some v =>
      intro hi
      cases hi
      exact ⟨v, hL, rfl⟩
theorem am_L.has {E : am_E} {nL : Nat} {L : List (Option Value)} {ls : Array Slot} (h : am_L E nL L ls) : lv_has ls nL (am_pl E L) := by
  refine ⟨h.2.1, h.2.2.1, fun q hq => ?_⟩
  obtain ⟨v, h1, h2⟩ := am_pl_of hq
  rw [h2]
  exact h.2.2.2 q.1 v h1
def am_low (L : List (Option Value)) (i : Nat) : Bool := match i with
  | 0 => true
  | j + 1 => match L[j]? with
    | some (some v) => v.category != 2
    | _ => true
theorem am_low_ne {L : List (Option Value)} {i j : Nat} {v : Value} (h : am_low L i = true) (hj : j + 1 = i) (hv : L[j]? = some (some v)) : ¬ v.category = 2 := by
  subst hj
  simp only [am_low, hv] at h
  simpa using h
theorem am_st1 {E : am_E} {nL : Nat} {L : List (Option Value)} {ls ls' : Array Slot} {i : Nat} {v : Value} (h : am_L E nL L ls) (low : am_low L i = true)
    (h' : lv_has ls' nL ((i, am_v E v) :: (am_pl E L).filter (fun q => !(q.1 == i) && !(q.1 + 1 == i && q.2.category == 2)))) : am_L E nL (L.set i (some v)) ls' := by
  refine ⟨by rw [List.length_set]; exact h.1, h'.1, h'.2.1, fun j w hj => ?_⟩
  by_cases hji : j = i
  · subst hji
    have hl : j < L.length := by
      have := (List.getElem?_eq_some_iff.mp hj).1
      rwa [List.length_set] at this
    rw [List.getElem?_set_self hl] at hj
    cases hj
    exact h'.2.2 _ List.mem_cons_self
  · rw [List.getElem?_set_ne (Ne.symm hji)] at hj
    refine h'.2.2 (j, am_v E w) (List.mem_cons_of_mem _ (List.mem_filter.mpr ⟨am_pl_in hj, ?_⟩))
    simp only [Bool.and_eq_true, Bool.not_eq_true', beq_eq_false_iff_ne, ne_eq, Bool.and_eq_false_iff, am_v_cat]
    refine ⟨hji, ?_⟩
    by_cases hj1 : j + 1 = i
    · exact Or.inr (am_low_ne low hj1 hj)
    · exact Or.inl hj1
theorem am_st2 {E : am_E} {nL : Nat} {L : List (Option Value)} {ls ls' : Array Slot} {i : Nat} {v : Value} (h : am_L E nL L ls) (low : am_low L i = true)
    (h' : lv_has ls' nL ((i, am_v E v) :: (am_pl E L).filter (fun q => !(q.1 == i) && (!(q.1 == i + 1) && !(q.1 + 1 == i && q.2.category == 2))))) : am_L E nL ((L.set i (some v)).set (i + 1) none) ls' := by
  refine ⟨by rw [List.length_set, List.length_set]; exact h.1, h'.1, h'.2.1, fun j w hj => ?_⟩
  by_cases hj2 : j = i + 1
  · subst hj2
    have hl : i + 1 < (L.set i (some v)).length := by
      have := (List.getElem?_eq_some_iff.mp hj).1
      rwa [List.length_set] at this
    rw [List.getElem?_set_self hl] at hj
    cases hj
  · rw [List.getElem?_set_ne (Ne.symm hj2)] at hj
    by_cases hji : j = i
    · subst hji
      have hl : j < L.length := by
        have := (List.getElem?_eq_some_iff.mp hj).1
        rwa [List.length_set] at this
      rw [List.getElem?_set_self hl] at hj
      cases hj
      exact h'.2.2 _ List.mem_cons_self
    · rw [List.getElem?_set_ne (Ne.symm hji)] at hj
      refine h'.2.2 (j, am_v E w) (List.mem_cons_of_mem _ (List.mem_filter.mpr ⟨am_pl_in hj, ?_⟩))
      simp only [Bool.and_eq_true, Bool.not_eq_true', beq_eq_false_iff_ne, ne_eq, Bool.and_eq_false_iff, am_v_cat]
      refine ⟨hji, hj2, ?_⟩
      by_cases hj1 : j + 1 = i
      · exact Or.inr (am_low_ne low hj1 hj)
      · exact Or.inl hj1
def am_kill (L : List (Option Value)) : List Nat → List (Option Value)
  | [] => L
  | k :: ks => am_kill (L.set k none) ks
theorem am_L.kill {E : am_E} {nL : Nat} {ls : Array Slot} (ks : List Nat) : ∀ {L : List (Option Value)}, am_L E nL L ls → am_L E nL (am_kill L ks) ls := by
  induction ks with
  | nil => exact fun h => h
  | cons k ks ih =>
    intro L h
    refine ih ⟨by rw [List.length_set]; exact h.1, h.2.1, h.2.2.1, fun i v hi => ?_⟩
    by_cases hik : i = k
    · subst hik
      have hl : i < L.length := by
        have := (List.getElem?_eq_some_iff.mp hi).1
        rwa [List.length_set] at this
      rw [List.getElem?_set_self hl] at hi
      cases hi
    · rw [List.getElem?_set_ne (Ne.symm hik)] at hi
      exact h.2.2.2 i v hi
/-! the judgement -/
def am_rt (M : am_M) (r : Option Value) (pc : Nat) : Prop := match r with
  | none => M.2.2.2 = none ∧ decode M.2.1 pc = .ok (.return_, 1)
  | some (.int v) => ∃ ty : FieldType, M.2.2.2 = some ty ∧ narrow ty (.int v) = .int v ∧ decode M.2.1 pc = .ok (.ireturn, 1)
  | some (.long _) => M.2.2.2 = some .long ∧ decode M.2.1 pc = .ok (.lreturn, 1)
  | _ => False
def am_ok (sc : am_S) (M : am_M) (d : Nat) (E : am_E) (mc ms : Nat) (r : Option Value) (h' : List am_C) (p : Program) (l : Launch) (e : Env) (R : Room) (s : State) (m : MethodId) (args : Array Value) (below : List Frame) (meth : Method) (c : Code) (Z : State → Prop) : Prop :=
  p.tables.exec = Jvm.exec ∧ c.code = M.2.1 ∧ c.maxLocals = M.2.2.1 ∧ s.vm.findClass M.1.cls = some m.cls ∧ meth.name = M.1.name ∧ (∀ w ∈ am_T, w.before args s = true) ∧ am_K E s ∧
  (va_X E.1 sc.1 sc.2 s s.heap ∧ E.1 < E.2.1 ∧ E.2.1 ≤ s.heap.size) ∧ (d ≤ R.frames ∧ am_k * d ≤ R.locals ∧ mc ≤ R.cells ∧ ms ≤ R.slots) ∧
  ∀ (H : Heap) (locs : List Loc) (pc : Nat) (ls : Array Slot), am_H E h' H → am_F E s H locs → am_rt M r pc → W p l e R s m args below meth c H locs mc ms Z (F0 m pc ls (r.toList.map (am_v E)))
def am_le (h h' : List am_C) : Prop := h.length ≤ h'.length ∧ am_sz h ≤ am_sz h'
theorem am_le.rf (h : List am_C) : am_le h h := ⟨Nat.le_refl _, Nat.le_refl _⟩
theorem am_le.tr {a b c : List am_C} (h1 : am_le a b) (h2 : am_le b c) : am_le a c := ⟨Nat.le_trans h1.1 h2.1, Nat.le_trans h1.2 h2.2⟩
theorem am_le.put {h h' : List am_C} {k : Nat} {c c0 : am_C} (hk : h[k]? = some c0) (e : am_s1 c = am_s1 c0) (hl : am_le (h.set k c) h') : am_le h h' := ⟨by have := hl.1; rwa [List.length_set] at this, by have := hl.2; rwa [am_sz_set _ _ _ _ hk e] at this⟩
theorem am_le.push {h h' : List am_C} {c : am_C} (hl : am_le (h ++ [c]) h') : h.length + 1 ≤ h'.length ∧ am_sz h + am_s1 c ≤ am_sz h' := ⟨by have := hl.1; rw [List.length_append] at this; simpa using this, by have := hl.2; rwa [am_sz_app] at this⟩
theorem am_le.pop {h h' : List am_C} {c : am_C} (hl : am_le (h ++ [c]) h') : am_le h h' := ⟨by have := hl.push.1; omega, by have := hl.push.2; omega⟩
theorem am_le.br {c : Prop} {h h' : List am_C} (kt : c → am_le h h') (kf : ¬ c → am_le h h') : am_le h h' := (Classical.em c).elim kt kf
def AW (sc : am_S) (M : am_M) (d pc : Nat) (L : List (Option Value)) (st : List Value) (h : List am_C) (r : Option Value) (h' : List am_C) : Prop := am_le h h' ∧
  ∀ (E : am_E) (mc ms : Nat) (p : Program) (l : Launch) (e : Env) (R : Room) (s : State) (m : MethodId) (args : Array Value) (below : List Frame) (meth : Method) (c : Code) (Z : State → Prop), am_ok sc M d E mc ms r h' p l e R s m args below meth c Z →
  ∀ (H : Heap) (locs : List Loc) (cells slots : Nat) (ls : Array Slot), am_L E M.2.2.1 L ls → am_H E h H → am_F E s H locs → cells + h'.length ≤ h.length + mc → slots + am_sz h' ≤ am_sz h + ms →
    W p l e R s m args below meth c H locs cells slots Z (F0 m pc ls (st.map (am_v E)))
/-! a call -/
def am_ws (M : am_M) : List Cond := .code M.1 M.2.1 M.2.2.1 M.2.2.2 :: am_T
abbrev am_rm (d mc ms : Nat) : Room := { frames := d, cells := mc, slots := ms, locals := am_k * d }
def am_B (sc : am_S) (E : am_E) (h : List am_C) (U : State) : Prop := am_K E U ∧ (va_X E.1 sc.1 sc.2 U U.heap ∧ E.1 < E.2.1) ∧ am_H E h U.heap
def am_Q (E : am_E) (r : Option Value) (h' : List am_C) : Array Value → State → Outcome → State → Prop := fun _ st oc t => oc = .returned (r.map (am_v E)) ∧ am_H E h' t.heap ∧ ∀ q : Nat, q < E.2.1 → t.heap[q]? = st.heap[q]?
def AM (sc : am_S) (M : am_M) (d : Nat) (as : List Value) (h : List am_C) (r : Option Value) (h' : List am_C) : Prop :=
  am_le h h' ∧ ∀ (l : Launch) (E : am_E), Met l M.1 (am_ws M) (am_rm d (h'.length - h.length) (am_sz h' - am_sz h)) (va_Pc (as.map (am_v E)) (am_B sc E h)) (am_Q E r h') (h'.length - h.length) (am_sz h' - am_sz h) (fun q => E.2.1 ≤ q)
theorem am_blind {sc : am_S} {E : am_E} {as : List Value} {h : List am_C} : FrameBlind (va_Pc as (am_B sc E h)) := by
  intro a U g mk q
  obtain ⟨h1, h2, h3, h4⟩ := q
  exact ⟨h1, h2.same rfl, ⟨va_X.moved (Vm.Alike.refl U.vm) h3.1, h3.2⟩, h4⟩
def am_ent : Nat → List Value → List (Option Value)
  | n, [] => List.replicate n none
  | n, v :: vs => if v.category = 2 then some v :: none :: am_ent (n - 2) vs else some v :: am_ent (n - 1) vs
theorem am_sl_cons (v : Value) (vs : List Value) : lg_sl (v :: vs) = (if v.category = 2 then [.val v, .second] else [.val v]) ++ lg_sl vs := rfl
theorem am_sl_map (E : am_E) (vs : List Value) : (lg_sl (vs.map (am_v E))).length = (lg_sl vs).length := by
  induction vs with
  | nil => rfl
  | cons v vs ih =>
    rw [List.map_cons, am_sl_cons, am_sl_cons, List.length_append, List.length_append, ih, am_v_cat]
    split <;> rfl
theorem am_ent_len : ∀ (vs : List Value) (n : Nat), (lg_sl vs).length ≤ n → (am_ent n vs).length = n
  | [], n, _ => by simp [am_ent]
  | v :: vs, n, h => by
    rw [am_sl_cons, List.length_append] at h
    unfold am_ent
    by_cases hc : v.category = 2
    · rw [if_pos hc] at h ⊢
      have h1 : (2 : Nat) + (lg_sl vs).length ≤ n := h
      rw [List.length_cons, List.length_cons, am_ent_len vs (n - 2) (by omega)]
      omega
    · rw [if_neg hc] at h ⊢
      have h1 : (1 : Nat) + (lg_sl vs).length ≤ n := h
      rw [List.length_cons, am_ent_len vs (n - 1) (by omega)]
      omega
theorem am_ent_in (E : am_E) : ∀ (vs : List Value) (n a i : Nat) (v : Value), (am_ent n vs)[i]? = some (some v) → (a + i, am_v E v) ∈ lv_args a (vs.map (am_v E))
  | [], n, a, i, v, h => by
    have h1 := List.mem_of_getElem? h
    have h2 := List.eq_of_mem_replicate h1
    cases h2
  | w :: vs, n, a, i, v, h => by
    unfold am_ent at h
    rw [List.map_cons]
    unfold lv_args
    rw [am_v_cat]
    by_cases hc : w.category = 2
    · rw [if_pos hc] at h
      rw [if_pos hc]
      match i, h with
      | 0, h =>
        rw [List.getElem?_cons_zero] at h
        cases h
        exact List.mem_cons_self
      | 1, h =>
        rw [List.getElem?_cons_succ, List.getElem?_cons_zero] at h
        cases h
      | i + 2, h =>
        rw [List.getElem?_cons_succ, List.getElem?_cons_succ] at h
        have := am_ent_in E vs (n - 2) (a + 2) i v h
        rw [show a + 2 + i = a + (i + 2) by omega] at this
        exact List.mem_cons_of_mem _ this
    · rw [if_neg hc] at h
      rw [if_neg hc]
      match i, h with
      | 0, h =>
        rw [List.getElem?_cons_zero] at h
        cases h
        exact List.mem_cons_self
      | i + 1, h =>
        rw [List.getElem?_cons_succ] at h
        have := am_ent_in E vs (n - 1) (a + 1) i v h
        rw [show a + 1 + i = a + (i + 1) by omega] at this
        exact List.mem_cons_of_mem _ this
theorem am_entry {E : am_E} {as : List Value} {n : Nat} (hn : (lg_sl as).length ≤ n) : am_L E n (am_ent n as) ((lg_sl (as.map (am_v E)) ++ List.replicate (n - (lg_sl (as.map (am_v E))).length) Slot.unset).toArray) := by
  have h := lv_entry (as.map (am_v E)) (n := n) (by rw [am_sl_map]; exact hn)
  refine ⟨am_ent_len as n hn, h.1, h.2.1, fun i v hi => ?_⟩
  have := am_ent_in E as n 0 i v hi
  rw [Nat.zero_add] at this
  exact h.2.2 _ this
/-- a method's contract out of the walk of its body -/
theorem AM.of {sc : am_S} {M : am_M} {d : Nat} {as : List Value} {h : List am_C} {r : Option Value} {h' : List am_C} (hy : plainName M.1.cls = true) (hn : (lg_sl as).length ≤ M.2.2.1)
    (body : AW sc M d 0 (am_ent M.2.2.1 as) [] h r h') : AM sc M d as h r h' := by
  obtain ⟨⟨h1, h2⟩, body⟩ := body
  refine ⟨⟨h1, h2⟩, fun l E => ?_⟩
  refine Met.ofW (cc := M.2.1) (maxL := M.2.2.1) (ret := M.2.2.2) (ws' := am_T) hy rfl ?_
  intro p e s m args below meth c s₁ B hml hv
  obtain ⟨rfl, hK, hX, hH⟩ := hv
  have hx := B.exec
  have hb := B.bytes
  have hr := B.returns
  have hts := atoms_spec (ws := am_ws M) B.pre
  have hown : s.vm.findClass M.1.cls = some m.cls := findClass_of_methodNamed B.named
  have hlocks := B.notSynchronized
  have hin : meth.name = M.1.name := (name_of_methodNamed B.named B.method).1
  rw [lg_entry_eq]
  have hl := am_entry (E := E) (as := as) hn
  refine body E (h'.length - h.length) (am_sz h' - am_sz h) p l e (headSpec (am_ws M) (am_rm d (h'.length - h.length) (am_sz h' - am_sz h))).room s m _ below meth c _
    ⟨hx, hb, hml, hown, hin, fun w hw => hts w (List.mem_cons_of_mem _ hw), hK, ⟨hX.1, hX.2, by rw [hH.1]; omega⟩, ⟨Nat.le_refl _, Nat.le_refl _, Nat.le_refl _, Nat.le_refl _⟩, ?_⟩
    s.heap [] 0 0 _ hl hH ⟨fun _ _ => rfl, fun _ h => by cases h⟩ (by omega) (by omega)
  intro H locs pc ls hH' hF' hrt
  have hq : ∀ t : State, t.heap = H → s.WarmedH t.vm → am_Q E r h' (as.map (am_v E)).toArray s (.returned (r.map (am_v E))) t := fun t ht _ => ⟨rfl, by rw [ht]; exact hH', fun q hq => by rw [ht]; exact hF'.1 q hq⟩
  match r, hrt, hq with
  | none, hrt, hq => exact W.vret hx hb (by rw [hr]; exact hrt.1) hq hF'.2 hrt.2
  | some (.int v), hrt, hq =>
    obtain ⟨ty, t1, t2, t3⟩ := hrt
    exact W.zret (ty := ty) hx hb (by rw [hr]; exact t1) t2 hq hF'.2 t3
  | some (.long v), hrt, hq => exact W.lret hx hb (by rw [hr]; exact hrt.1) hq hF'.2 hrt.2
/-- behind a call -/
theorem am_go {sc : am_S} {p : Program} {l : Launch} {e : Env} {R : Room} {s : State} {m : MethodId} {args : Array Value} {below : List Frame} {meth : Method} {c : Code} {H : Heap} {locs : List Loc} {cells slots mc1 ms1 pc : Nat} {Z : State → Prop} {E : am_E} {r1 : Option Value} {h1 : List am_C} {ls : Array Slot} {st0 rest : List Value} {a : Array Value}
    (hr : va_Run p l e R s m args below meth c H locs cells slots mc1 ms1 (F0 m pc ls st0) rest (am_Q E r1 h1 a) (fun q => E.2.1 ≤ q)) (hF : am_F E s H locs)
    (kk : ∀ (H1 : Heap) (locs1 : List Loc), am_H E h1 H1 → am_F E s H1 locs1 → W p l e R s m args below meth c H1 locs1 (cells + mc1) (slots + ms1) Z (F0 m (pc + 3) ls ((r1.map (am_v E)).toList ++ rest))) : W p l e R s m args below meth c H locs cells slots Z (F0 m pc ls st0) := by
  intro T hT X
  obtain ⟨v, st₀, t, T', L, h0, X', hL, e1, e2, ⟨hv, hp, hk⟩, st⟩ := hr T hT X
  cases hv
  rw [h0] at hk
  obtain ⟨t2, a1, b1⟩ := kk T'.heap (locs ++ L) (by rw [e1]; exact hp) ⟨fun q hq => by rw [e1, hk q hq]; exact hF.1 q hq, fun q hq => by
      rcases List.mem_append.mp hq with h | h
      · exact hF.2 q h
      · exact hL q h⟩ T' rfl X'
  exact ⟨t2, st t2 a1, b1⟩
