/-! THE AM's ROWS: fields, arrays, new, calls -/
theorem am_nar (E : am_E) (ty : FieldType) (v : Value) (h : narrow ty v = v) : narrow ty (am_v E v) = am_v E v := by
  cases v with
  | ref k => cases ty <;> rfl
  | _ => exact h
theorem am_fit (E : am_E) (ty : FieldType) (v : Value) (h : fits ty v = true) : fits ty (am_v E v) = true := by
  cases v with
  | ref k => cases ty <;> first | rfl | exact h
  | _ => exact h
def am_fl (own : String) (idx ci k : Nat) : Prop := ∃ (C : String) (T : u_T) (N : Nat), am_cl[ci]? = some (C, T, N) ∧ k < N ∧ (∀ w ∈ u_ws C T N, w ∈ am_T) ∧ Cond.fieldLink own idx C (T k).2.1 (T k).2.2.1 ∈ am_T ∧ (T k).1 = C
def am_fn (own : String) (idx ci k : Nat) : Prop := ∃ (C : String) (T : u_T) (N : Nat) (host : String), am_cl[ci]? = some (C, T, N) ∧ k < N ∧ (∀ w ∈ u_ws C T N, w ∈ am_T) ∧ (own, idx, C, (T k).2.1, (T k).2.2.1, host) ∈ am_nf ∧ (T k).1 = C
/-- what a class's table gives: its types, its names apart -/
def am_tb (ci : Nat) (ty0 : Nat → FieldType) : Prop := ∃ (C : String) (T : u_T) (N : Nat), am_cl[ci]? = some (C, T, N) ∧ (∀ w ∈ u_ws C T N, w ∈ am_T) ∧ (∀ k, k < N → parseFieldDescriptor (T k).2.2.1 = some (ty0 k)) ∧ ∀ a, a < N → ∀ b, b < N → a ≠ b → (T a).2.1 ≠ (T b).2.1
def am_fin (ci k : Nat) (fin : Bool) : Prop := ∃ (C : String) (T : u_T) (N : Nat), am_cl[ci]? = some (C, T, N) ∧ (T k).2.2.2 = fin
theorem am_one {E : am_E} {o ci : Nat} {fs : List Value} {H : Heap} {h : List am_C} (hH : am_H E h H) (ho : h[o]? = some (.inr (ci, fs))) : va_P E.2.2.1 am_cl [(E.2.1 + o, .inr (ci, fs.map (am_v E)))] H := by
  obtain ⟨rr, q1, q2, q3⟩ := hH.2 o _ ho
  intro j q hj
  match j, hj with
  | 0, hj => cases hj; exact ⟨rr, q1, q3⟩
  | j + 1, hj => simp at hj
theorem am_oneA {E : am_E} {o t : Nat} {x : vp_A} {H : Heap} {h : List am_C} (hH : am_H E h H) (ho : h[o]? = some (.inl (t, x))) : va_P E.2.2.1 am_cl [(E.2.1 + o, .inl (E.2.2.2 t, am_g E x))] H := by
  have h0 := hH.2 o _ ho
  intro j q hj
  match j, hj with
  | 0, hj => cases hj; exact h0
  | j + 1, hj => simp at hj
theorem am_KA {E : am_E} {U : State} {t : Nat} {ty : FieldType} (hK : am_K E U) (ht : am_ty[t]? = some ty) : ArrOfT U (E.2.2.2 t) ty := (hK.2.1 t ty ht).1
theorem am_rcv {E : am_E} {s : State} {H : Heap} {h : List am_C} {o ci NN : Nat} {fs : List Value} {T : u_T} {C : String} (hK : am_K E s) (hH : am_H E h H) (ho : h[o]? = some (.inr (ci, fs))) (hci : am_cl[ci]? = some (C, T, NN)) : ∃ cell : Cell, H[E.2.1 + o]? = some cell ∧ cell.vm.isStatics = false ∧ s.vm.findClass C = some cell.cls :=
  va_recv (D := E.2.2.1) (cl := am_cl) (tys := []) (q := (C, T, NN)) (q0 := 0) ⟨hK.1, fun _ _ h => by simp at h⟩ (am_one hH ho) hci rfl
section AMH
variable {sc : am_S} {M : am_M} {d pc : Nat} {L : List (Option Value)} {st : List Value} {h : List am_C} {r : Option Value} {h' : List am_C}
theorem aw_get {idx ci o : Nat} {fs : List Value} {v : Value} (k : Nat) (hd : decode M.2.1 pc = .ok (.getfield idx, 3)) (hf : am_fl M.1.cls idx ci k) (ho : h[o]? = some (.inr (ci, fs))) (hv : fs[k]? = some v) (kk : AW sc M d (pc + 3) L (v :: st) h r h') : AW sc M d pc L (.ref (o + 1) :: st) h r h' := by
  refine ⟨kk.1, ?_⟩
  intro E mc ms p l e R s m args below meth c Z ok H locs cells slots ls hl hH hF hc hs
  obtain ⟨hx, hb, hml, hown, hin, hts, hK, hX, hR, hZ⟩ := id ok
  obtain ⟨C, T, N, f1, f2, f3, f4, f5⟩ := hf
  refine va_get (D := E.2.2.1) (cl := am_cl) (tys := []) (ci := ci) (C := C) (T := T) (N := N) (ref := C) (fs := fs.map (am_v E)) (v := am_v E v) hx hb hts f3 hown ⟨hK.1, fun _ _ h => by simp at h⟩ (am_one hH ho) 0 rfl f1 k f2 (hts _ f4) (fun x h => by rw [f5] at h; exact h) (by rw [List.getElem?_map, hv]; rfl) hd ?_
  exact kk.2 E mc ms p l e R s m args below meth c Z ok H locs cells slots ls hl hH hF hc hs
theorem aw_getN {idx ci o : Nat} {fs : List Value} {v : Value} (k : Nat) (hd : decode M.2.1 pc = .ok (.getfield idx, 3)) (hf : am_fn M.1.cls idx ci k) (ho : h[o]? = some (.inr (ci, fs))) (hv : fs[k]? = some v) (kk : AW sc M d (pc + 3) L (v :: st) h r h') : AW sc M d pc L (.ref (o + 1) :: st) h r h' := by
  refine ⟨kk.1, ?_⟩
  intro E mc ms p l e R s m args below meth c Z ok H locs cells slots ls hl hH hF hc hs
  obtain ⟨hx, hb, hml, hown, hin, hts, hK, hX, hR, hZ⟩ := id ok
  obtain ⟨C, T, N, host, f1, f2, f3, f4, f5⟩ := hf
  refine va_getN (D := E.2.2.1) (cl := am_cl) (tys := []) (ci := ci) (C := C) (T := T) (N := N) (ref := C) (host := host) (fs := fs.map (am_v E)) (v := am_v E v) hx hb hts f3 hown ⟨hK.1, fun _ _ h => by simp at h⟩ (am_one hH ho) 0 rfl f1 k f2 ((hK.2.2.2.1 _ f4).use rfl) (fun x h => by rw [f5] at h; exact h) (by rw [List.getElem?_map, hv]; rfl) hd ?_
  exact kk.2 E mc ms p l e R s m args below meth c Z ok H locs cells slots ls hl hH hF hc hs
theorem aw_put {idx ci o : Nat} {fs : List Value} {v : Value} (k : Nat) {ty0 : Nat → FieldType} (hd : decode M.2.1 pc = .ok (.putfield idx, 3)) (hf : am_fl M.1.cls idx ci k) (hT : am_tb ci ty0) (hfin : am_fin ci k false) (hn : narrow (ty0 k) v = v) (hfit : fits (ty0 k) v = true) (ho : h[o]? = some (.inr (ci, fs))) (kk : AW sc M d (pc + 3) L st (h.set o (.inr (ci, fs.set k v))) r h') : AW sc M d pc L (v :: .ref (o + 1) :: st) h r h' := by
  refine ⟨kk.1.put ho (by simp [am_s1]), ?_⟩
  intro E mc ms p l e R s m args below meth c Z ok H locs cells slots ls hl hH hF hc hs
  obtain ⟨hx, hb, hml, hown, hin, hts, hK, hX, hR, hZ⟩ := id ok
  obtain ⟨C, T, N, f1, f2, f3, f4, f5⟩ := hf
  obtain ⟨C1, T1, N1, g1, -, hty, hnm⟩ := hT
  cases f1.symm.trans g1
  obtain ⟨C2, T2, N2, g2, hfi⟩ := hfin
  cases f1.symm.trans g2
  obtain ⟨rr, q1, q2, cell, w1, w2, w3, w4⟩ := hH.2 o _ ho
  cases f1.symm.trans q1
  have hap := va_apart (own := M.1.cls) (D := E.2.2.1) (cl := am_cl) (tys := []) hts f3 ty0 hty hnm ⟨hK.1, fun _ _ h => by simp at h⟩ f1
  obtain ⟨hS, hfc, kC, hkC, hkind⟩ := hK.1 ci _ f1
  obtain ⟨cf, kf, fi, f, hi', hsl⟩ := hS k f2
  have hlay := hts _ (f3 _ (u_in_lay f2))
  unfold u_lay at hlay
  rw [if_neg (by rw [hfi]; decide)] at hlay
  have hst := (u_facts hfc hkC (u_lays hts f3 f2) hi').1
  have hi2 : s.fieldFound? C (T k).2.1 (T k).2.2.1 = some (cf, kf, fi, f) := by rw [f5] at hi'; exact hi'
  have hlen : k < fs.length := by
    have e0 : fs.length = N := q2
    omega
  have h6 := u_store hfc hkC hkind hlay hi' (hty k f2) (am_nar E _ _ hn) (am_fit E _ _ hfit)
  refine W.putK hx hb (f := f) ⟨hown, hts _ f4, ⟨_, _, _, hi2⟩, hst⟩ (by rw [w2]; exact h6) w1 w3 (by rw [hsl]; exact k2_hasslot (w4 k f2)) rfl rfl hd fun H' e1 e2 e3 => ?_
  rw [hsl] at e1
  have hat : am_at E (E.2.1 + o) (.inr (ci, fs.set k v)) H' := ⟨_, f1, by rw [List.length_set]; exact q2, t_OB.to (V := updV (vp_V (fs.map (am_v E))) k (am_v E v)) ⟨_, e1, w2, w3, t_set w4 hap f2 _⟩ (fun j _ => by rw [vp_updV_set (by rw [List.length_map]; exact hlen), List.map_set])⟩
  exact kk.2 E mc ms p l e R s m args below meth c Z ok H' _ cells slots ls hl (hH.put ho e2 hat e3) (hF.put e3 (Nat.le_add_right _ _)) (by rw [List.length_set]; exact hc) (by rw [am_sz_set _ _ _ _ ho (by simp [am_s1])]; exact hs)
theorem aw_putF {idx ci o : Nat} {fs : List Value} {v : Value} (k : Nat) {ty0 : Nat → FieldType} (hd : decode M.2.1 pc = .ok (.putfield idx, 3)) (hf : am_fl M.1.cls idx ci k) (hT : am_tb ci ty0) (hfin : am_fin ci k true) (hi : M.1.name = "<init>") (how : ∀ (C : String) (T : u_T) (N : Nat), am_cl[ci]? = some (C, T, N) → C = M.1.cls) (hn : narrow (ty0 k) v = v) (hfit : fits (ty0 k) v = true) (ho : h[o]? = some (.inr (ci, fs))) (kk : AW sc M d (pc + 3) L st (h.set o (.inr (ci, fs.set k v))) r h') : AW sc M d pc L (v :: .ref (o + 1) :: st) h r h' := by
  refine ⟨kk.1.put ho (by simp [am_s1]), ?_⟩
  intro E mc ms p l e R s m args below meth c Z ok H locs cells slots ls hl hH hF hc hs
  obtain ⟨hx, hb, hml, hown, hin, hts, hK, hX, hR, hZ⟩ := id ok
  obtain ⟨C, T, N, f1, f2, f3, f4, f5⟩ := hf
  obtain ⟨C1, T1, N1, g1, -, hty, hnm⟩ := hT
  cases f1.symm.trans g1
  obtain ⟨C2, T2, N2, g2, hfi⟩ := hfin
  cases f1.symm.trans g2
  obtain ⟨rr, q1, q2, cell, w1, w2, w3, w4⟩ := hH.2 o _ ho
  cases f1.symm.trans q1
  have hap := va_apart (own := M.1.cls) (D := E.2.2.1) (cl := am_cl) (tys := []) hts f3 ty0 hty hnm ⟨hK.1, fun _ _ h => by simp at h⟩ f1
  obtain ⟨hS, hfc, kC, hkC, hkind⟩ := hK.1 ci _ f1
  obtain ⟨cf, kf, fi, f, hi', hsl⟩ := hS k f2
  have hlay := hts _ (f3 _ (u_in_lay f2))
  unfold u_lay at hlay
  rw [if_pos hfi] at hlay
  have hst := (u_facts hfc hkC (u_lays hts f3 f2) hi').1
  have hi2 : s.fieldFound? C (T k).2.1 (T k).2.2.1 = some (cf, kf, fi, f) := by rw [f5] at hi'; exact hi'
  have hlen : k < fs.length := by
    have e0 : fs.length = N := q2
    omega
  have hcf : m.cls = cf := by
    obtain ⟨_, _, c', _, _, _, -, -, hf', -, -, -, hown2, -⟩ := Cond.laysFinal_spec hlay
    have e1 : c' = cf := by have := hi'.symm.trans hf'; simp at this; exact this.1.symm
    rw [f5, how C T N f1] at hown2
    rw [← e1]; exact Option.some.inj (hown.symm.trans hown2)
  have h6 := u_fits hfc hkC hkind (Or.inr hlay) hi' (hty k f2) (am_nar E _ _ hn) (am_fit E _ _ hfit)
  refine W.putFinK hx hb hown (hts _ f4) hi2 hst hcf (hin.trans hi) (by rw [w2]; exact h6) w1 w3 (by rw [hsl]; exact k2_hasslot (w4 k f2)) rfl rfl hd fun H' e1 e2 e3 => ?_
  rw [hsl] at e1
  have hat : am_at E (E.2.1 + o) (.inr (ci, fs.set k v)) H' := ⟨_, f1, by rw [List.length_set]; exact q2, t_OB.to (V := updV (vp_V (fs.map (am_v E))) k (am_v E v)) ⟨_, e1, w2, w3, t_set w4 hap f2 _⟩ (fun j _ => by rw [vp_updV_set (by rw [List.length_map]; exact hlen), List.map_set])⟩
  exact kk.2 E mc ms p l e R s m args below meth c Z ok H' _ cells slots ls hl (hH.put ho e2 hat e3) (hF.put e3 (Nat.le_add_right _ _)) (by rw [List.length_set]; exact hc) (by rw [am_sz_set _ _ _ _ ho (by simp [am_s1])]; exact hs)
theorem aw_putN {idx ci o : Nat} {fs : List Value} {v : Value} (k : Nat) {ty0 : Nat → FieldType} (hd : decode M.2.1 pc = .ok (.putfield idx, 3)) (hf : am_fn M.1.cls idx ci k) (hT : am_tb ci ty0) (hfin : am_fin ci k false) (hn : narrow (ty0 k) v = v) (hfit : fits (ty0 k) v = true) (ho : h[o]? = some (.inr (ci, fs))) (kk : AW sc M d (pc + 3) L st (h.set o (.inr (ci, fs.set k v))) r h') : AW sc M d pc L (v :: .ref (o + 1) :: st) h r h' := by
  refine ⟨kk.1.put ho (by simp [am_s1]), ?_⟩
  intro E mc ms p l e R s m args below meth c Z ok H locs cells slots ls hl hH hF hc hs
  obtain ⟨hx, hb, hml, hown, hin, hts, hK, hX, hR, hZ⟩ := id ok
  obtain ⟨C, T, N, host, f1, f2, f3, f4, f5⟩ := hf
  obtain ⟨C1, T1, N1, g1, -, hty, hnm⟩ := hT
  cases f1.symm.trans g1
  obtain ⟨C2, T2, N2, g2, hfi⟩ := hfin
  cases f1.symm.trans g2
  obtain ⟨rr, q1, q2, cell, w1, w2, w3, w4⟩ := hH.2 o _ ho
  cases f1.symm.trans q1
  have hap := va_apart (own := M.1.cls) (D := E.2.2.1) (cl := am_cl) (tys := []) hts f3 ty0 hty hnm ⟨hK.1, fun _ _ h => by simp at h⟩ f1
  obtain ⟨hS, hfc, kC, hkC, hkind⟩ := hK.1 ci _ f1
  obtain ⟨cf, kf, fi, f, hi', hsl⟩ := hS k f2
  have hlay := hts _ (f3 _ (u_in_lay f2))
  unfold u_lay at hlay
  rw [if_neg (by rw [hfi]; decide)] at hlay
  have hst := (u_facts hfc hkC (u_lays hts f3 f2) hi').1
  have hi2 : s.fieldFound? C (T k).2.1 (T k).2.2.1 = some (cf, kf, fi, f) := by rw [f5] at hi'; exact hi'
  have hlen : k < fs.length := by
    have e0 : fs.length = N := q2
    omega
  have h6 := u_store hfc hkC hkind hlay hi' (hty k f2) (am_nar E _ _ hn) (am_fit E _ _ hfit)
  refine va_WputK hx hb (f := f) (host := host) hown ((hK.2.2.2.1 _ f4).use rfl) hi2 hst (by rw [w2]; exact h6) w1 w3 (by rw [hsl]; exact k2_hasslot (w4 k f2)) rfl rfl hd fun H' e1 e2 e3 => ?_
  rw [hsl] at e1
  have hat : am_at E (E.2.1 + o) (.inr (ci, fs.set k v)) H' := ⟨_, f1, by rw [List.length_set]; exact q2, t_OB.to (V := updV (vp_V (fs.map (am_v E))) k (am_v E v)) ⟨_, e1, w2, w3, t_set w4 hap f2 _⟩ (fun j _ => by rw [vp_updV_set (by rw [List.length_map]; exact hlen), List.map_set])⟩
  exact kk.2 E mc ms p l e R s m args below meth c Z ok H' _ cells slots ls hl (hH.put ho e2 hat e3) (hF.put e3 (Nat.le_add_right _ _)) (by rw [List.length_set]; exact hc) (by rw [am_sz_set _ _ _ _ ho (by simp [am_s1])]; exact hs)
theorem aw_iald {o n t : Nat} {f : Nat → Int32} {i : Int32} (hd : decode M.2.1 pc = .ok (.iaload, 1)) (ht : am_ty[t]? = some .int) (ho : h[o]? = some (.inl (t, n, .inl f))) (hi : vp_in i n) (kk : AW sc M d (pc + 1) L (.int (f i.toNatClampNeg) :: st) h r h') : AW sc M d pc L (.int i :: .ref (o + 1) :: st) h r h' := by
  refine ⟨kk.1, ?_⟩
  intro E mc ms p l e R s m args below meth c Z ok H locs cells slots ls hl hH hF hc hs
  obtain ⟨hx, hb, hml, hown, hin, hts, hK, hX, hR, hZ⟩ := id ok
  refine va_iald (D := E.2.2.1) (cl := am_cl) (tys := [(E.2.2.2 t, .int)]) hx hb ⟨hK.1, fun k q hk => ?_⟩ (am_oneA hH ho) 0 0 rfl rfl hi hd ?_
  · match k, hk with
    | 0, hk => cases hk; exact ⟨am_KA hK ht, (hK.2.1 t _ ht).2⟩
    | k + 1, hk => simp at hk
  · exact kk.2 E mc ms p l e R s m args below meth c Z ok H locs cells slots ls hl hH hF hc hs
theorem aw_zald {o n t : Nat} {f : Nat → Int32} {i : Int32} (hd : decode M.2.1 pc = .ok (.baload, 1)) (ht : am_ty[t]? = some .boolean) (ho : h[o]? = some (.inl (t, n, .inl f))) (hi : vp_in i n) (kk : AW sc M d (pc + 1) L (.int (f i.toNatClampNeg) :: st) h r h') : AW sc M d pc L (.int i :: .ref (o + 1) :: st) h r h' := by
  refine ⟨kk.1, ?_⟩
  intro E mc ms p l e R s m args below meth c Z ok H locs cells slots ls hl hH hF hc hs
  obtain ⟨hx, hb, hml, hown, hin, hts, hK, hX, hR, hZ⟩ := id ok
  refine va_zald (D := E.2.2.1) (cl := am_cl) (tys := [(E.2.2.2 t, .boolean)]) hx hb ⟨hK.1, fun k q hk => ?_⟩ (am_oneA hH ho) 0 0 rfl rfl hi hd ?_
  · match k, hk with
    | 0, hk => cases hk; exact ⟨am_KA hK ht, (hK.2.1 t _ ht).2⟩
    | k + 1, hk => simp at hk
  · exact kk.2 E mc ms p l e R s m args below meth c Z ok H locs cells slots ls hl hH hF hc hs
theorem aw_lald {o n t : Nat} {f : Nat → Int64} {i : Int32} (hd : decode M.2.1 pc = .ok (.laload, 1)) (ht : am_ty[t]? = some .long) (ho : h[o]? = some (.inl (t, n, .inr (.inl f)))) (hi : vp_in i n) (kk : AW sc M d (pc + 1) L (.long (f i.toNatClampNeg) :: st) h r h') : AW sc M d pc L (.int i :: .ref (o + 1) :: st) h r h' := by
  refine ⟨kk.1, ?_⟩
  intro E mc ms p l e R s m args below meth c Z ok H locs cells slots ls hl hH hF hc hs
  obtain ⟨hx, hb, hml, hown, hin, hts, hK, hX, hR, hZ⟩ := id ok
  refine va_lald (D := E.2.2.1) (cl := am_cl) (tys := [(E.2.2.2 t, .long)]) hx hb ⟨hK.1, fun k q hk => ?_⟩ (am_oneA hH ho) 0 0 rfl rfl hi hd ?_
  · match k, hk with
    | 0, hk => cases hk; exact ⟨am_KA hK ht, (hK.2.1 t _ ht).2⟩
    | k + 1, hk => simp at hk
  · exact kk.2 E mc ms p l e R s m args below meth c Z ok H locs cells slots ls hl hH hF hc hs
theorem aw_aald {o n t : Nat} {f : Nat → Option Nat} {i : Int32} {ty : FieldType} (hd : decode M.2.1 pc = .ok (.aaload, 1)) (ht : am_ty[t]? = some ty) (href : ty.isReference = true) (ho : h[o]? = some (.inl (t, n, .inr (.inr (.inr (.inr f)))))) (hi : vp_in i n) (kk : AW sc M d (pc + 1) L (va_rf (f i.toNatClampNeg) :: st) h r h') : AW sc M d pc L (.int i :: .ref (o + 1) :: st) h r h' := by
  refine ⟨kk.1, ?_⟩
  intro E mc ms p l e R s m args below meth c Z ok H locs cells slots ls hl hH hF hc hs
  obtain ⟨hx, hb, hml, hown, hin, hts, hK, hX, hR, hZ⟩ := id ok
  have hcell : H[E.2.1 + o]? = some (vp_cell (E.2.2.2 t) (n, .inr (.inr (.inr (.inr (fun j => (f j).map (am_a E))))))) := hH.2 o _ ho
  have hlt : i.toNatClampNeg < n := Nat.not_le.mp fun q => hi (Or.inr q)
  refine W.aald (v := am_v E (va_rf (f i.toNatClampNeg))) (ty := ty) hx hb hcell (am_KA hK ht n _) href (fun q => by cases q) (by show ¬ (i < 0 ∨ (arrV _ _ _).slots.size ≤ _); rw [arrV_size]; exact hi) (by show (arrV _ _ _).slots[_]? = _; rw [arrV_read _ _ hlt, am_v_rf]) rfl rfl hd ?_
  exact kk.2 E mc ms p l e R s m args below meth c Z ok H locs cells slots ls hl hH hF hc hs
theorem aw_iast {o n t : Nat} {f : Nat → Int32} {i : Int32} {x : Int32} (hd : decode M.2.1 pc = .ok (.iastore, 1)) (ht : am_ty[t]? = some .int) (ho : h[o]? = some (.inl (t, n, .inl f))) (hi : vp_in i n) (kk : AW sc M d (pc + 1) L st (h.set o (.inl (t, n, .inl (upd f i.toNatClampNeg x)))) r h') : AW sc M d pc L (.int x :: .int i :: .ref (o + 1) :: st) h r h' := by
  refine ⟨am_le.put (c := .inl (t, n, .inl (upd f i.toNatClampNeg x))) ho rfl kk.1, ?_⟩
  intro E mc ms p l e R s m args below meth c Z ok H locs cells slots ls hl hH hF hc hs
  obtain ⟨hx, hb, hml, hown, hin, hts, hK, hX, hR, hZ⟩ := id ok
  have hcell : H[E.2.1 + o]? = some (vp_cell (E.2.2.2 t) (n, .inl f)) := hH.2 o _ ho
  refine W.iast hx hb hcell (am_KA hK ht n _) (fun q => by cases q) (by show ¬ (i < 0 ∨ (arrV _ _ _).slots.size ≤ _); rw [arrV_size]; exact hi) rfl rfl hd fun H1 e1 e2 e3 => ?_
  have hat : am_at E (E.2.1 + o) (.inl (t, n, .inl (upd f i.toNatClampNeg x))) H1 := by
    show H1[E.2.1 + o]? = some (vp_cell (E.2.2.2 t) (n, .inl (upd f i.toNatClampNeg x)))
    rw [e1, vp_cell_i, vp_cell_i, arrV_store]
    congr 2
    funext q
    by_cases hq : q = i.toNatClampNeg
    · subst hq
      simp [updV, upd]
    · simp [updV, upd, hq]
  exact kk.2 E mc ms p l e R s m args below meth c Z ok H1 _ cells slots ls hl (hH.put ho e2 hat e3) (hF.put e3 (Nat.le_add_right _ _)) (by rw [List.length_set]; exact hc) (by rw [am_sz_set _ _ (.inl (t, n, .inl (upd f i.toNatClampNeg x))) _ ho rfl]; exact hs)
theorem aw_last {o n t : Nat} {f : Nat → Int64} {i : Int32} {x : Int64} (hd : decode M.2.1 pc = .ok (.lastore, 1)) (ht : am_ty[t]? = some .long) (ho : h[o]? = some (.inl (t, n, .inr (.inl f)))) (hi : vp_in i n) (kk : AW sc M d (pc + 1) L st (h.set o (.inl (t, n, .inr (.inl (vp_updL f i.toNatClampNeg x))))) r h') : AW sc M d pc L (.long x :: .int i :: .ref (o + 1) :: st) h r h' := by
  refine ⟨am_le.put (c := .inl (t, n, .inr (.inl (vp_updL f i.toNatClampNeg x)))) ho rfl kk.1, ?_⟩
  intro E mc ms p l e R s m args below meth c Z ok H locs cells slots ls hl hH hF hc hs
  obtain ⟨hx, hb, hml, hown, hin, hts, hK, hX, hR, hZ⟩ := id ok
  have hcell : H[E.2.1 + o]? = some (vp_cell (E.2.2.2 t) (n, .inr (.inl f))) := hH.2 o _ ho
  refine W.last hx hb hcell (am_KA hK ht n _) (fun q => by cases q) (by show ¬ (i < 0 ∨ (arrV _ _ _).slots.size ≤ _); rw [arrV_size]; exact hi) rfl rfl hd fun H1 e1 e2 e3 => ?_
  have hat : am_at E (E.2.1 + o) (.inl (t, n, .inr (.inl (vp_updL f i.toNatClampNeg x)))) H1 := by
    show H1[E.2.1 + o]? = some (vp_cell (E.2.2.2 t) (n, .inr (.inl (vp_updL f i.toNatClampNeg x))))
    rw [e1, vp_cell_l, vp_cell_l, arrV_store]
    congr 2
    funext q
    by_cases hq : q = i.toNatClampNeg
    · subst hq
      simp [updV, vp_updL]
    · simp [updV, vp_updL, hq]
  exact kk.2 E mc ms p l e R s m args below meth c Z ok H1 _ cells slots ls hl (hH.put ho e2 hat e3) (hF.put e3 (Nat.le_add_right _ _)) (by rw [List.length_set]; exact hc) (by rw [am_sz_set _ _ (.inl (t, n, .inr (.inl (vp_updL f i.toNatClampNeg x)))) _ ho rfl]; exact hs)
theorem aw_zast {o n t : Nat} {f : Nat → Int32} {i : Int32} {x : Int32} (hd : decode M.2.1 pc = .ok (.bastore, 1)) (ht : am_ty[t]? = some .boolean) (ho : h[o]? = some (.inl (t, n, .inl f))) (hi : vp_in i n) (hnx : narrow .boolean (.int x) = .int x) (kk : AW sc M d (pc + 1) L st (h.set o (.inl (t, n, .inl (upd f i.toNatClampNeg x)))) r h') : AW sc M d pc L (.int x :: .int i :: .ref (o + 1) :: st) h r h' := by
  refine ⟨am_le.put (c := .inl (t, n, .inl (upd f i.toNatClampNeg x))) ho rfl kk.1, ?_⟩
  intro E mc ms p l e R s m args below meth c Z ok H locs cells slots ls hl hH hF hc hs
  obtain ⟨hx, hb, hml, hown, hin, hts, hK, hX, hR, hZ⟩ := id ok
  have hcell : H[E.2.1 + o]? = some (vp_cell (E.2.2.2 t) (n, .inl f)) := hH.2 o _ ho
  refine W.zast hx hb hcell (am_KA hK ht n _) (fun q => by cases q) (by show ¬ (i < 0 ∨ (arrV _ _ _).slots.size ≤ _); rw [arrV_size]; exact hi) rfl rfl hd fun H1 e1 e2 e3 => ?_
  rw [hnx] at e1
  have hat : am_at E (E.2.1 + o) (.inl (t, n, .inl (upd f i.toNatClampNeg x))) H1 := by
    show H1[E.2.1 + o]? = some (vp_cell (E.2.2.2 t) (n, .inl (upd f i.toNatClampNeg x)))
    rw [e1, vp_cell_i, vp_cell_i, arrV_store]
    congr 2
    funext q
    by_cases hq : q = i.toNatClampNeg
    · subst hq
      simp [updV, upd]
    · simp [updV, upd, hq]
  exact kk.2 E mc ms p l e R s m args below meth c Z ok H1 _ cells slots ls hl (hH.put ho e2 hat e3) (hF.put e3 (Nat.le_add_right _ _)) (by rw [List.length_set]; exact hc) (by rw [am_sz_set _ _ (.inl (t, n, .inl (upd f i.toNatClampNeg x))) _ ho rfl]; exact hs)
theorem aw_alen {o t : Nat} {x : vp_A} {ty : FieldType} (v : Int32) (hd : decode M.2.1 pc = .ok (.arraylength, 1)) (ht : am_ty[t]? = some ty) (ho : h[o]? = some (.inl (t, x))) (hv : Int32.ofNat x.1 = v) (kk : AW sc M d (pc + 1) L (.int v :: st) h r h') : AW sc M d pc L (.ref (o + 1) :: st) h r h' := by
  refine ⟨kk.1, ?_⟩
  intro E mc ms p l e R s m args below meth c Z ok H locs cells slots ls hl hH hF hc hs
  obtain ⟨hx, hb, hml, hown, hin, hts, hK, hX, hR, hZ⟩ := id ok
  have hcell : H[E.2.1 + o]? = some (vp_cell (E.2.2.2 t) (am_g E x)) := hH.2 o _ ho
  have hcv : ∃ z : Nat → Value, vp_cell (E.2.2.2 t) (am_g E x) = arrV (E.2.2.2 t) x.1 z := by
    obtain ⟨n, y⟩ := x
    rcases y with f | f | f | f | f <;> first | exact ⟨_, vp_cell_i _ _ _⟩ | exact ⟨_, vp_cell_l _ _ _⟩ | exact ⟨_, vp_cell_f _ _ _⟩ | exact ⟨_, vp_cell_d _ _ _⟩ | exact ⟨_, vp_cell_q _ _ _⟩
  obtain ⟨z, hz⟩ := hcv
  rw [hz] at hcell
  refine W.alen (n := v) hx hb hcell (am_KA hK ht x.1 z) (by rw [arrV_size]; exact hv) rfl rfl hd ?_
  exact kk.2 E mc ms p l e R s m args below meth c Z ok H locs cells slots ls hl hH hF hc hs
theorem aw_sld {i : Int32} (hd : decode M.2.1 pc = .ok (.iaload, 1)) (hi : vp_in i sc.1) (kk : AW sc M d (pc + 1) L (.int (sc.2 i.toNatClampNeg) :: st) h r h') : AW sc M d pc L (.int i :: .ref 0 :: st) h r h' := by
  refine ⟨kk.1, ?_⟩
  intro E mc ms p l e R s m args below meth c Z ok H locs cells slots ls hl hH hF hc hs
  obtain ⟨hx, hb, hml, hown, hin, hts, hK, hX, hR, hZ⟩ := id ok
  obtain ⟨scr, k1, k2, k3, k4, k5⟩ := hX.1.kept (hF.1 _ hX.2.1)
  have hlt : i.toNatClampNeg < sc.1 := Nat.not_le.mp fun q => hi (Or.inr q)
  exact W.iald (v := .int (sc.2 i.toNatClampNeg)) hx hb k1 k2 k3 (by rw [k4]; exact hi) (k5 _ hlt) rfl rfl hd (kk.2 E mc ms p l e R s m args below meth c Z ok H locs cells slots ls hl hH hF hc hs)
theorem aw_slen (hd : decode M.2.1 pc = .ok (.arraylength, 1)) (kk : AW sc M d (pc + 1) L (.int (Int32.ofNat sc.1) :: st) h r h') : AW sc M d pc L (.ref 0 :: st) h r h' := by
  refine ⟨kk.1, ?_⟩
  intro E mc ms p l e R s m args below meth c Z ok H locs cells slots ls hl hH hF hc hs
  obtain ⟨hx, hb, hml, hown, hin, hts, hK, hX, hR, hZ⟩ := id ok
  obtain ⟨scr, k1, k2, k3, k4, k5⟩ := hX.1.kept (hF.1 _ hX.2.1)
  exact W.alen (n := Int32.ofNat sc.1) hx hb k1 k2 (by rw [k4]) rfl rfl hd (kk.2 E mc ms p l e R s m args below meth c Z ok H locs cells slots ls hl hH hF hc hs)
def am_fc (own : String) (idx ci : Nat) (fs : List Value) : Prop := ∃ (C : String) (T : u_T) (N : Nat) (ty0 : Nat → FieldType), am_cl[ci]? = some (C, T, N) ∧ (∀ w ∈ u_ws C T N, w ∈ am_T) ∧ (∀ k, k < N → parseFieldDescriptor (T k).2.2.1 = some (ty0 k)) ∧ Cond.classLink own idx C ∈ am_T ∧ Cond.instantiable C N ∈ am_T ∧ Cond.initialized C ∈ am_T ∧ fs = (List.range N).map (fun j => defaultValue (ty0 j))
theorem am_defs (E : am_E) (N : Nat) (ty0 : Nat → FieldType) : ((List.range N).map (fun j => defaultValue (ty0 j))).map (am_v E) = (List.range N).map (fun j => defaultValue (ty0 j)) := by
  rw [List.map_map]
  exact List.map_congr_left (fun j _ => am_v_def E (ty0 j))
theorem aw_new {idx ci : Nat} {fs : List Value} (n : Nat) (hd : decode M.2.1 pc = .ok (.new idx, 3)) (hf : am_fc M.1.cls idx ci fs) (hlen : h.length = n) (kk : AW sc M d (pc + 3) L (.ref (n + 1) :: st) (h ++ [.inr (ci, fs)]) r h') : AW sc M d pc L st h r h' := by
  subst hlen
  obtain ⟨h1, h2⟩ := kk.1.push
  simp only [am_s1] at h2
  refine ⟨kk.1.pop, ?_⟩
  intro E mc ms p l e R s m args below meth c Z ok H locs cells slots ls hl hH hF hc hs
  obtain ⟨hx, hb, hml, hown, hin, hts, hK, hX, hR, hZ⟩ := id ok
  obtain ⟨C, T, N, ty0, f1, f3, hty, f4, f5, f6, f7⟩ := hf
  have hfl : fs.length = N := by rw [f7, List.length_map, List.length_range]
  have hKn := hK.1 ci _ f1
  refine W.newcK hx hb hown (hts _ f4) (hts _ f5) (hts _ f6) rfl hd (by omega) (by omega) hKn.2.1 hH.1 fun H1 kC hkC e1 z1 o1 => ?_
  have z2 : H1.size = H.size + 1 := by rw [z1, hH.1]
  have hat : am_at E H.size (.inr (ci, fs)) H1 := by
    refine ⟨_, f1, hfl, ?_⟩
    rw [hH.1]
    refine (u_born ty0 hts f3 hKn hkC e1 hty).to (fun j hj => ?_)
    rw [f7, am_defs]
    simp [vp_V, hj]
  exact kk.2 E mc ms p l e R s m args below meth c Z ok H1 locs (cells + 1) (slots + N) ls hl (hH.push z2 hat (fun q hq => o1 q (by rw [← hH.1]; exact hq))) (hF.push (fun q hq => o1 q (by rw [← hH.1]; exact hq)) (by rw [hH.1]; omega)) (by rw [List.length_append]; simp; omega) (by rw [am_sz_app]; simp only [am_s1]; omega)
theorem aw_newi {t N : Nat} {i : Int32} (n : Nat) (hd : decode M.2.1 pc = .ok (.newarray .int, 2)) (hw : Cond.arrayClass .int ∈ am_T) (ht : am_ty[t]? = some .int) (hi : ¬ i < 0) (hN : i.toNatClampNeg = N) (hb0 : N * 8 ≤ 536870912) (hlen : h.length = n) (kk : AW sc M d (pc + 2) L (.ref (n + 1) :: st) (h ++ [.inl (t, N, .inl (fun _ => 0))]) r h') : AW sc M d pc L (.int i :: st) h r h' := by
  subst hlen
  obtain ⟨h1, h2⟩ := kk.1.push
  simp only [am_s1] at h2
  refine ⟨kk.1.pop, ?_⟩
  intro E mc ms p l e R s m args below meth c Z ok H locs cells slots ls hl hH hF hc hs
  obtain ⟨hx, hb, hml, hown, hin, hts, hK, hX, hR, hZ⟩ := id ok
  refine va_newaK (atype := .int) hx hb (hts _ hw) rfl hd rfl hi hN (by show N * _ ≤ _; exact Nat.le_trans (Nat.mul_le_mul_left N (by decide)) hb0) (by omega) (by omega) hH.1 fun H1 cA e1 z1 o1 hAr hfc => ?_
  have z2 : H1.size = H.size + 1 := by rw [z1, hH.1]
  have hcA : cA = E.2.2.2 t := Option.some.inj (hfc.symm.trans (hK.2.1 t _ ht).2)
  subst hcA
  have hat : am_at E H.size (.inl (t, N, .inl (fun _ => 0))) H1 := by
    show H1[H.size]? = some (vp_cell (E.2.2.2 t) (N, .inl (fun _ => 0)))
    rw [hH.1]
    exact e1
  exact kk.2 E mc ms p l e R s m args below meth c Z ok H1 locs (cells + 1) (slots + N) ls hl (hH.push z2 hat (fun q hq => o1 q (by rw [← hH.1]; exact hq))) (hF.push (fun q hq => o1 q (by rw [← hH.1]; exact hq)) (by rw [hH.1]; omega)) (by rw [List.length_append]; simp; omega) (by rw [am_sz_app]; simp only [am_s1]; omega)
theorem aw_newl {t N : Nat} {i : Int32} (n : Nat) (hd : decode M.2.1 pc = .ok (.newarray .long, 2)) (hw : Cond.arrayClass .long ∈ am_T) (ht : am_ty[t]? = some .long) (hi : ¬ i < 0) (hN : i.toNatClampNeg = N) (hb0 : N * 8 ≤ 536870912) (hlen : h.length = n) (kk : AW sc M d (pc + 2) L (.ref (n + 1) :: st) (h ++ [.inl (t, N, .inr (.inl (fun _ => 0)))]) r h') : AW sc M d pc L (.int i :: st) h r h' := by
  subst hlen
  obtain ⟨h1, h2⟩ := kk.1.push
  simp only [am_s1] at h2
  refine ⟨kk.1.pop, ?_⟩
  intro E mc ms p l e R s m args below meth c Z ok H locs cells slots ls hl hH hF hc hs
  obtain ⟨hx, hb, hml, hown, hin, hts, hK, hX, hR, hZ⟩ := id ok
  refine va_newaK (atype := .long) hx hb (hts _ hw) rfl hd rfl hi hN (by show N * _ ≤ _; exact Nat.le_trans (Nat.mul_le_mul_left N (by decide)) hb0) (by omega) (by omega) hH.1 fun H1 cA e1 z1 o1 hAr hfc => ?_
  have z2 : H1.size = H.size + 1 := by rw [z1, hH.1]
  have hcA : cA = E.2.2.2 t := Option.some.inj (hfc.symm.trans (hK.2.1 t _ ht).2)
  subst hcA
  have hat : am_at E H.size (.inl (t, N, .inr (.inl (fun _ => 0)))) H1 := by
    show H1[H.size]? = some (vp_cell (E.2.2.2 t) (N, .inr (.inl (fun _ => 0))))
    rw [hH.1]
    exact e1
  exact kk.2 E mc ms p l e R s m args below meth c Z ok H1 locs (cells + 1) (slots + N) ls hl (hH.push z2 hat (fun q hq => o1 q (by rw [← hH.1]; exact hq))) (hF.push (fun q hq => o1 q (by rw [← hH.1]; exact hq)) (by rw [hH.1]; omega)) (by rw [List.length_append]; simp; omega) (by rw [am_sz_app]; simp only [am_s1]; omega)
theorem aw_newz {t N : Nat} {i : Int32} (n : Nat) (hd : decode M.2.1 pc = .ok (.newarray .boolean, 2)) (hw : Cond.arrayClass .boolean ∈ am_T) (ht : am_ty[t]? = some .boolean) (hi : ¬ i < 0) (hN : i.toNatClampNeg = N) (hb0 : N * 8 ≤ 536870912) (hlen : h.length = n) (kk : AW sc M d (pc + 2) L (.ref (n + 1) :: st) (h ++ [.inl (t, N, .inl (fun _ => 0))]) r h') : AW sc M d pc L (.int i :: st) h r h' := by
  subst hlen
  obtain ⟨h1, h2⟩ := kk.1.push
  simp only [am_s1] at h2
  refine ⟨kk.1.pop, ?_⟩
  intro E mc ms p l e R s m args below meth c Z ok H locs cells slots ls hl hH hF hc hs
  obtain ⟨hx, hb, hml, hown, hin, hts, hK, hX, hR, hZ⟩ := id ok
  refine va_newaK (atype := .boolean) hx hb (hts _ hw) rfl hd rfl hi hN (by show N * _ ≤ _; exact Nat.le_trans (Nat.mul_le_mul_left N (by decide)) hb0) (by omega) (by omega) hH.1 fun H1 cA e1 z1 o1 hAr hfc => ?_
  have z2 : H1.size = H.size + 1 := by rw [z1, hH.1]
  have hcA : cA = E.2.2.2 t := Option.some.inj (hfc.symm.trans (hK.2.1 t _ ht).2)
  subst hcA
  have hat : am_at E H.size (.inl (t, N, .inl (fun _ => 0))) H1 := by
    show H1[H.size]? = some (vp_cell (E.2.2.2 t) (N, .inl (fun _ => 0)))
    rw [hH.1]
    exact e1
  exact kk.2 E mc ms p l e R s m args below meth c Z ok H1 locs (cells + 1) (slots + N) ls hl (hH.push z2 hat (fun q hq => o1 q (by rw [← hH.1]; exact hq))) (hF.push (fun q hq => o1 q (by rw [← hH.1]; exact hq)) (by rw [hH.1]; omega)) (by rw [List.length_append]; simp; omega) (by rw [am_sz_app]; simp only [am_s1]; omega)
theorem aw_obj {idx : Nat} {o : Nat} (hd : decode M.2.1 pc = .ok (.invokespecial idx, 3)) (hw : Cond.methodLink M.1.cls idx objectInit ∈ am_T) (hw2 : Cond.instanceMethod objectInit ∈ am_T) (hw3 : Cond.code objectInit ⟨#[0xb1]⟩ 1 none ∈ am_T) (hd1 : 1 ≤ d) (hst : (st.map fun v => v.category).sum ≤ 8) (kk : AW sc M d (pc + 3) L st h r h') : AW sc M d pc L (.ref o :: st) h r h' := by
  refine ⟨kk.1, ?_⟩
  intro E mc ms p l e R s m args below meth c Z ok H locs cells slots ls hl hH hF hc hs
  obtain ⟨hx, hb, hml, hown, hin, hts, hK, hX, hR, hZ⟩ := id ok
  have hk : am_k ≤ am_k * d := Nat.le_mul_of_pos_right am_k hd1
  have hk0 : 20 ≤ am_k := by decide
  refine W.objInit hx hb hown (hts _ hw) (hts _ hw2) (hts _ hw3) rfl (by rw [hml]; exact hl.2.1) rfl hd (by omega) ?_ ?_
  · have h8 := lv_room (m := m) (pc := pc) (ls := ls) (rest := (Value.ref o :: st).map (am_v E)) (st := st.map (am_v E)) (by rw [am_cats]; exact hst)
    exact Nat.le_trans (Nat.add_le_add_right h8 12) (by omega)
  · exact kk.2 E mc ms p l e R s m args below meth c Z ok H locs cells slots ls hl hH hF hc hs
end AMH
/-! calls: what a call site rests on -/
def am_cB (own : String) (idx : Nat) (M1 : am_M) (n : Nat) : Prop := Cond.code M1.1 M1.2.1 M1.2.2.1 M1.2.2.2 ∈ am_T ∧ Cond.initialized M1.1.cls ∈ am_T ∧ (M1.1.cls ≠ "java/lang/invoke/MethodHandle" ∧ M1.1.cls ≠ "java/lang/invoke/VarHandle" ∧ (parseMethodDescriptor M1.1.desc).map (fun d => d.parameters.length) = some n) ∧ 8 + (M1.2.2.1 + 11) ≤ am_k
def am_cL (own : String) (idx : Nat) (M1 : am_M) : Prop := Cond.methodLink own idx M1.1 ∈ am_T
def am_cN (own : String) (idx : Nat) (M1 : am_M) : Prop := ∃ host : String, (own, idx, M1.1, host) ∈ am_nm
theorem am_goods (M1 : am_M) (hc : Cond.code M1.1 M1.2.1 M1.2.2.1 M1.2.2.2 ∈ am_T) : GoodIn am_T (am_ws M1) := by
  intro w hw
  rcases List.mem_cons.mp hw with rfl | hw
  · exact ⟨hc, am_good _ hc⟩
  · exact ⟨hw, am_good _ hw⟩
theorem am_len {M1 : am_M} {n : Nat} (h : (parseMethodDescriptor M1.1.desc).map (fun d => d.parameters.length) = some n) : ∀ sig, parseMethodDescriptor M1.1.desc = some sig → n = sig.parameters.length := by
  intro sig hs
  rw [hs] at h
  exact (Option.some.inj h).symm
theorem am_room {R : Room} {d d1 mL : Nat} (hd : d1 + 1 ≤ d) (h1 : d ≤ R.frames) (h2 : am_k * d ≤ R.locals) (hk : 8 + (mL + 11) ≤ am_k) : d1 + 1 ≤ R.frames ∧ 8 + (mL + 11) + am_k * d1 ≤ R.locals := by
  have h3 := Nat.mul_le_mul_left am_k hd
  rw [Nat.mul_succ] at h3
  omega
section AMCALL
variable {sc : am_S} {M M1 : am_M} {d d1 pc n : Nat} {L : List (Option Value)} {st As : List Value} {h h1 : List am_C} {r r1 : Option Value} {h' : List am_C}
theorem aw_callV {o ci : Nat} {fs : List Value} {T : u_T} {NN : Nat} {idx : Nat} {st0 : List Value} (hd : decode M.2.1 pc = .ok (.invokevirtual idx, 3)) (hB : am_cB M.1.cls idx M1 n) (hlk : am_cL M.1.cls idx M1) (hv : Cond.instanceMethod M1.1 ∈ am_T ∧ Cond.selects M1.1.cls M1.1 M1.1 ∈ am_T) (hci : am_cl[ci]? = some (M1.1.cls, T, NN)) (ho : h[o]? = some (.inr (ci, fs))) (hd1 : d1 + 1 ≤ d) (hA : As.length = n) (hst : st0 = As.reverse ++ .ref (o + 1) :: st) (hcat : (st.map fun v => v.category).sum ≤ 8) (hM : AM sc M1 d1 (.ref (o + 1) :: As) h r1 h1) (kk : AW sc M d (pc + 3) L (r1.toList ++ st) h1 r h') : AW sc M d pc L st0 h r h' := by
  obtain ⟨hh1, hh2⟩ := kk.1
  refine ⟨hM.1.tr kk.1, ?_⟩
  intro E mc ms p l e R s m args below meth c Z ok H locs cells slots ls hl hH hF hc hs
  obtain ⟨hx, hb, hml, hown, hin, hts, hK, hX, hR, hZ⟩ := id ok
  obtain ⟨c1, c2, c3, c4⟩ := hB
  obtain ⟨⟨g1, g2⟩, hMet⟩ := hM
  have hroom := am_room hd1 hR.1 hR.2.1 c4
  have hrl : ((st.map (am_v E)).map fun v => v.category).sum ≤ 8 := by rw [am_cats]; exact hcat
  refine am_go (sc := sc) (E := E) (r1 := r1) (h1 := h1) (va_runV (As := As.map (am_v E)) (rest := st.map (am_v E)) (bytes := M1.2.1) (maxL := M1.2.2.1) (ret := M1.2.2.2) (b := E.2.1 + o) (C := M1.1.cls) (n := n) (Ts := am_T) (own := M.1.cls) ⟨hx, hb, hml, hown, hts⟩ (hMet l E) ⟨⟨rfl, rfl, hroom.1, hroom.2, pay_in hts (am_goods M1 c1), List.mem_cons_self, hts _ c1, hts _ c2, ⟨c3.1, c3.2.1⟩, am_len c3.2.2, hts _ hlk⟩, hts _ hv.1, hts _ hv.2⟩ ⟨am_blind, am_rcv hK hH ho hci, fun U hU hW => ⟨rfl, hK.warm hW, ⟨va_X.moved hW.alike (by rw [hU]; exact hX.1.kept (hF.1 _ hX.2.1)), hX.2.1⟩, by rw [hU]; exact hH⟩⟩ rfl (by rw [List.length_map]; exact hA) hl.2.1 (by rw [hst, List.map_append, List.map_reverse]; rfl) (lv_room hrl) hd ⟨by omega, by omega⟩) hF (fun H1 locs1 hH1 hF1 => ?_)
  · have e3 : (r1.map (am_v E)).toList ++ st.map (am_v E) = (r1.toList ++ st).map (am_v E) := by cases r1 <;> rfl
    rw [e3]
    exact kk.2 E mc ms p l e R s m args below meth c Z ok H1 locs1 _ _ ls hl hH1 hF1 (by omega) (by omega)
theorem aw_callS {idx : Nat} {st0 : List Value} (hd : decode M.2.1 pc = .ok (.invokestatic idx, 3)) (hB : am_cB M.1.cls idx M1 n) (hlk : am_cL M.1.cls idx M1) (hv : Cond.static M1.1 ∈ am_T) (hd1 : d1 + 1 ≤ d) (hA : As.length = n) (hst : st0 = As.reverse ++ st) (hcat : (st.map fun v => v.category).sum ≤ 8) (hM : AM sc M1 d1 As h r1 h1) (kk : AW sc M d (pc + 3) L (r1.toList ++ st) h1 r h') : AW sc M d pc L st0 h r h' := by
  obtain ⟨hh1, hh2⟩ := kk.1
  refine ⟨hM.1.tr kk.1, ?_⟩
  intro E mc ms p l e R s m args below meth c Z ok H locs cells slots ls hl hH hF hc hs
  obtain ⟨hx, hb, hml, hown, hin, hts, hK, hX, hR, hZ⟩ := id ok
  obtain ⟨c1, c2, c3, c4⟩ := hB
  obtain ⟨⟨g1, g2⟩, hMet⟩ := hM
  have hroom := am_room hd1 hR.1 hR.2.1 c4
  have hrl : ((st.map (am_v E)).map fun v => v.category).sum ≤ 8 := by rw [am_cats]; exact hcat
  refine am_go (sc := sc) (E := E) (r1 := r1) (h1 := h1) (va_runS (As := As.map (am_v E)) (rest := st.map (am_v E)) (bytes := M1.2.1) (maxL := M1.2.2.1) (ret := M1.2.2.2) (n := n) (Ts := am_T) (own := M.1.cls) ⟨hx, hb, hml, hown, hts⟩ (hMet l E) ⟨⟨rfl, rfl, hroom.1, hroom.2, pay_in hts (am_goods M1 c1), List.mem_cons_self, hts _ c1, hts _ c2, ⟨c3.1, c3.2.1⟩, am_len c3.2.2, hts _ hlk⟩, hts _ hv⟩ ⟨am_blind, fun U hU hW => ⟨rfl, hK.warm hW, ⟨va_X.moved hW.alike (by rw [hU]; exact hX.1.kept (hF.1 _ hX.2.1)), hX.2.1⟩, by rw [hU]; exact hH⟩⟩ rfl (by rw [List.length_map]; exact hA) hl.2.1 (by rw [hst, List.map_append, List.map_reverse]) (lv_room hrl) hd ⟨by omega, by omega⟩) hF (fun H1 locs1 hH1 hF1 => ?_)
  · have e3 : (r1.map (am_v E)).toList ++ st.map (am_v E) = (r1.toList ++ st).map (am_v E) := by cases r1 <;> rfl
    rw [e3]
    exact kk.2 E mc ms p l e R s m args below meth c Z ok H1 locs1 _ _ ls hl hH1 hF1 (by omega) (by omega)
theorem aw_callI {o : Nat} {idx : Nat} {st0 : List Value} (hd : decode M.2.1 pc = .ok (.invokespecial idx, 3)) (hB : am_cB M.1.cls idx M1 n) (hlk : am_cL M.1.cls idx M1) (hv : M1.1.name = "<init>" ∧ Cond.instanceMethod M1.1 ∈ am_T) (hret : M1.2.2.2 = none) (hd1 : d1 + 1 ≤ d) (hA : As.length = n) (hst : st0 = As.reverse ++ .ref (o + 1) :: st) (hcat : (st.map fun v => v.category).sum ≤ 8) (hM : AM sc M1 d1 (.ref (o + 1) :: As) h r1 h1) (kk : AW sc M d (pc + 3) L (r1.toList ++ st) h1 r h') : AW sc M d pc L st0 h r h' := by
  obtain ⟨hh1, hh2⟩ := kk.1
  refine ⟨hM.1.tr kk.1, ?_⟩
  intro E mc ms p l e R s m args below meth c Z ok H locs cells slots ls hl hH hF hc hs
  obtain ⟨hx, hb, hml, hown, hin, hts, hK, hX, hR, hZ⟩ := id ok
  obtain ⟨c1, c2, c3, c4⟩ := hB
  obtain ⟨⟨g1, g2⟩, hMet⟩ := hM
  have hroom := am_room hd1 hR.1 hR.2.1 c4
  have hrl : ((st.map (am_v E)).map fun v => v.category).sum ≤ 8 := by rw [am_cats]; exact hcat
  have hretc : Cond.code M1.1 M1.2.1 M1.2.2.1 none ∈ am_ws M1 := by rw [← hret]; exact List.mem_cons_self
  have c1' : Cond.code M1.1 M1.2.1 M1.2.2.1 none ∈ am_T := by rw [← hret]; exact c1
  refine am_go (sc := sc) (E := E) (r1 := r1) (h1 := h1) (va_runI (As := As.map (am_v E)) (rest := st.map (am_v E)) (bytes := M1.2.1) (maxL := M1.2.2.1) (b := E.2.1 + o) (n := n) (Ts := am_T) (own := M.1.cls) ⟨hx, hb, hml, hown, hts⟩ (hMet l E) ⟨⟨rfl, rfl, hroom.1, hroom.2, pay_in hts (am_goods M1 c1), hretc, hts _ c1', hts _ c2, ⟨c3.1, c3.2.1⟩, am_len c3.2.2, hts _ hlk⟩, hv.1, hts _ hv.2⟩ ⟨am_blind, fun U hU hW => ⟨rfl, hK.warm hW, ⟨va_X.moved hW.alike (by rw [hU]; exact hX.1.kept (hF.1 _ hX.2.1)), hX.2.1⟩, by rw [hU]; exact hH⟩⟩ rfl (by rw [List.length_map]; exact hA) hl.2.1 (by rw [hst, List.map_append, List.map_reverse]; rfl) (lv_room hrl) hd ⟨by omega, by omega⟩) hF (fun H1 locs1 hH1 hF1 => ?_)
  · have e3 : (r1.map (am_v E)).toList ++ st.map (am_v E) = (r1.toList ++ st).map (am_v E) := by cases r1 <;> rfl
    rw [e3]
    exact kk.2 E mc ms p l e R s m args below meth c Z ok H1 locs1 _ _ ls hl hH1 hF1 (by omega) (by omega)
theorem aw_callVN {o ci : Nat} {fs : List Value} {T : u_T} {NN : Nat} {idx : Nat} {st0 : List Value} (hd : decode M.2.1 pc = .ok (.invokevirtual idx, 3)) (hB : am_cB M.1.cls idx M1 n) (hlk : am_cN M.1.cls idx M1) (hv : Cond.instanceMethod M1.1 ∈ am_T ∧ Cond.selects M1.1.cls M1.1 M1.1 ∈ am_T) (hci : am_cl[ci]? = some (M1.1.cls, T, NN)) (ho : h[o]? = some (.inr (ci, fs))) (hd1 : d1 + 1 ≤ d) (hA : As.length = n) (hst : st0 = As.reverse ++ .ref (o + 1) :: st) (hcat : (st.map fun v => v.category).sum ≤ 8) (hM : AM sc M1 d1 (.ref (o + 1) :: As) h r1 h1) (kk : AW sc M d (pc + 3) L (r1.toList ++ st) h1 r h') : AW sc M d pc L st0 h r h' := by
  obtain ⟨hh1, hh2⟩ := kk.1
  refine ⟨hM.1.tr kk.1, ?_⟩
  intro E mc ms p l e R s m args below meth c Z ok H locs cells slots ls hl hH hF hc hs
  obtain ⟨hx, hb, hml, hown, hin, hts, hK, hX, hR, hZ⟩ := id ok
  obtain ⟨c1, c2, c3, c4⟩ := hB
  obtain ⟨host, hlk⟩ := hlk
  obtain ⟨⟨g1, g2⟩, hMet⟩ := hM
  have hroom := am_room hd1 hR.1 hR.2.1 c4
  have hrl : ((st.map (am_v E)).map fun v => v.category).sum ≤ 8 := by rw [am_cats]; exact hcat
  refine am_go (sc := sc) (E := E) (r1 := r1) (h1 := h1) (va_runVN (As := As.map (am_v E)) (rest := st.map (am_v E)) (bytes := M1.2.1) (maxL := M1.2.2.1) (ret := M1.2.2.2) (b := E.2.1 + o) (C := M1.1.cls) (n := n) (Ts := am_T) (own := M.1.cls) ⟨hx, hb, hml, hown, hts⟩ (hMet l E) ⟨⟨⟨rfl, rfl, hroom.1, hroom.2, pay_in hts (am_goods M1 c1), List.mem_cons_self⟩, hts _ c1, hts _ c2, ⟨c3.1, c3.2.1⟩, am_len c3.2.2, (hK.2.2.1 _ hlk).use rfl⟩, hts _ hv.1, hts _ hv.2⟩ ⟨am_blind, am_rcv hK hH ho hci, fun U hU hW => ⟨rfl, hK.warm hW, ⟨va_X.moved hW.alike (by rw [hU]; exact hX.1.kept (hF.1 _ hX.2.1)), hX.2.1⟩, by rw [hU]; exact hH⟩⟩ rfl (by rw [List.length_map]; exact hA) hl.2.1 (by rw [hst, List.map_append, List.map_reverse]; rfl) (lv_room hrl) hd ⟨by omega, by omega⟩) hF (fun H1 locs1 hH1 hF1 => ?_)
  · have e3 : (r1.map (am_v E)).toList ++ st.map (am_v E) = (r1.toList ++ st).map (am_v E) := by cases r1 <;> rfl
    rw [e3]
    exact kk.2 E mc ms p l e R s m args below meth c Z ok H1 locs1 _ _ ls hl hH1 hF1 (by omega) (by omega)
theorem aw_callSN {idx : Nat} {st0 : List Value} (hd : decode M.2.1 pc = .ok (.invokestatic idx, 3)) (hB : am_cB M.1.cls idx M1 n) (hlk : am_cN M.1.cls idx M1) (hv : Cond.static M1.1 ∈ am_T) (hd1 : d1 + 1 ≤ d) (hA : As.length = n) (hst : st0 = As.reverse ++ st) (hcat : (st.map fun v => v.category).sum ≤ 8) (hM : AM sc M1 d1 As h r1 h1) (kk : AW sc M d (pc + 3) L (r1.toList ++ st) h1 r h') : AW sc M d pc L st0 h r h' := by
  obtain ⟨hh1, hh2⟩ := kk.1
  refine ⟨hM.1.tr kk.1, ?_⟩
  intro E mc ms p l e R s m args below meth c Z ok H locs cells slots ls hl hH hF hc hs
  obtain ⟨hx, hb, hml, hown, hin, hts, hK, hX, hR, hZ⟩ := id ok
  obtain ⟨c1, c2, c3, c4⟩ := hB
  obtain ⟨host, hlk⟩ := hlk
  obtain ⟨⟨g1, g2⟩, hMet⟩ := hM
  have hroom := am_room hd1 hR.1 hR.2.1 c4
  have hrl : ((st.map (am_v E)).map fun v => v.category).sum ≤ 8 := by rw [am_cats]; exact hcat
  refine am_go (sc := sc) (E := E) (r1 := r1) (h1 := h1) (va_runSN (As := As.map (am_v E)) (rest := st.map (am_v E)) (bytes := M1.2.1) (maxL := M1.2.2.1) (ret := M1.2.2.2) (n := n) (Ts := am_T) (own := M.1.cls) ⟨hx, hb, hml, hown, hts⟩ (hMet l E) ⟨⟨⟨rfl, rfl, hroom.1, hroom.2, pay_in hts (am_goods M1 c1), List.mem_cons_self⟩, hts _ c1, hts _ c2, ⟨c3.1, c3.2.1⟩, am_len c3.2.2, (hK.2.2.1 _ hlk).use rfl⟩, hts _ hv, trivial⟩ ⟨am_blind, fun U hU hW => ⟨rfl, hK.warm hW, ⟨va_X.moved hW.alike (by rw [hU]; exact hX.1.kept (hF.1 _ hX.2.1)), hX.2.1⟩, by rw [hU]; exact hH⟩⟩ rfl (by rw [List.length_map]; exact hA) hl.2.1 (by rw [hst, List.map_append, List.map_reverse]) (lv_room hrl) hd ⟨by omega, by omega⟩) hF (fun H1 locs1 hH1 hF1 => ?_)
  · have e3 : (r1.map (am_v E)).toList ++ st.map (am_v E) = (r1.toList ++ st).map (am_v E) := by cases r1 <;> rfl
    rw [e3]
    exact kk.2 E mc ms p l e R s m args below meth c Z ok H1 locs1 _ _ ls hl hH1 hF1 (by omega) (by omega)
theorem aw_callIN {o : Nat} {idx : Nat} {st0 : List Value} (hd : decode M.2.1 pc = .ok (.invokespecial idx, 3)) (hB : am_cB M.1.cls idx M1 n) (hlk : am_cN M.1.cls idx M1) (hv : M1.1.name = "<init>" ∧ Cond.instanceMethod M1.1 ∈ am_T) (hret : M1.2.2.2 = none) (hd1 : d1 + 1 ≤ d) (hA : As.length = n) (hst : st0 = As.reverse ++ .ref (o + 1) :: st) (hcat : (st.map fun v => v.category).sum ≤ 8) (hM : AM sc M1 d1 (.ref (o + 1) :: As) h r1 h1) (kk : AW sc M d (pc + 3) L (r1.toList ++ st) h1 r h') : AW sc M d pc L st0 h r h' := by
  obtain ⟨hh1, hh2⟩ := kk.1
  refine ⟨hM.1.tr kk.1, ?_⟩
  intro E mc ms p l e R s m args below meth c Z ok H locs cells slots ls hl hH hF hc hs
  obtain ⟨hx, hb, hml, hown, hin, hts, hK, hX, hR, hZ⟩ := id ok
  obtain ⟨c1, c2, c3, c4⟩ := hB
  obtain ⟨host, hlk⟩ := hlk
  obtain ⟨⟨g1, g2⟩, hMet⟩ := hM
  have hroom := am_room hd1 hR.1 hR.2.1 c4
  have hrl : ((st.map (am_v E)).map fun v => v.category).sum ≤ 8 := by rw [am_cats]; exact hcat
  have hretc : Cond.code M1.1 M1.2.1 M1.2.2.1 none ∈ am_ws M1 := by rw [← hret]; exact List.mem_cons_self
  have c1' : Cond.code M1.1 M1.2.1 M1.2.2.1 none ∈ am_T := by rw [← hret]; exact c1
  refine am_go (sc := sc) (E := E) (r1 := r1) (h1 := h1) (va_runIN (As := As.map (am_v E)) (rest := st.map (am_v E)) (bytes := M1.2.1) (maxL := M1.2.2.1) (b := E.2.1 + o) (n := n) (Ts := am_T) (own := M.1.cls) ⟨hx, hb, hml, hown, hts⟩ (hMet l E) ⟨⟨⟨rfl, rfl, hroom.1, hroom.2, pay_in hts (am_goods M1 c1), hretc⟩, hts _ c1', hts _ c2, ⟨c3.1, c3.2.1⟩, am_len c3.2.2, (hK.2.2.1 _ hlk).use rfl⟩, hv.1, hts _ hv.2⟩ ⟨am_blind, fun U hU hW => ⟨rfl, hK.warm hW, ⟨va_X.moved hW.alike (by rw [hU]; exact hX.1.kept (hF.1 _ hX.2.1)), hX.2.1⟩, by rw [hU]; exact hH⟩⟩ rfl (by rw [List.length_map]; exact hA) hl.2.1 (by rw [hst, List.map_append, List.map_reverse]; rfl) (lv_room hrl) hd ⟨by omega, by omega⟩) hF (fun H1 locs1 hH1 hF1 => ?_)
  · have e3 : (r1.map (am_v E)).toList ++ st.map (am_v E) = (r1.toList ++ st).map (am_v E) := by cases r1 <;> rfl
    rw [e3]
    exact kk.2 E mc ms p l e R s m args below meth c Z ok H1 locs1 _ _ ls hl hH1 hF1 (by omega) (by omega)
def am_lk (own : String) (idx : Nat) (M1 : am_M) : Prop := am_cL own idx M1 ∨ am_cN own idx M1
def am_sV (own : String) (idx : Nat) (M1 : am_M) (n ci : Nat) : Prop := am_cB own idx M1 n ∧ am_lk own idx M1 ∧ (Cond.instanceMethod M1.1 ∈ am_T ∧ Cond.selects M1.1.cls M1.1 M1.1 ∈ am_T) ∧ ∃ (T : u_T) (NN : Nat), am_cl[ci]? = some (M1.1.cls, T, NN)
def am_sS (own : String) (idx : Nat) (M1 : am_M) (n : Nat) : Prop := am_cB own idx M1 n ∧ am_lk own idx M1 ∧ Cond.static M1.1 ∈ am_T
def am_sI (own : String) (idx : Nat) (M1 : am_M) (n : Nat) : Prop := am_cB own idx M1 n ∧ am_lk own idx M1 ∧ (M1.1.name = "<init>" ∧ Cond.instanceMethod M1.1 ∈ am_T) ∧ M1.2.2.2 = none
theorem aw_V0 {v : Value} {o ci idx : Nat} {fs : List Value} (hd : decode M.2.1 pc = .ok (.invokevirtual idx, 3)) (hs : am_sV M.1.cls idx M1 0 ci) (ho : h[o]? = some (.inr (ci, fs))) (hd1 : d1 + 1 ≤ d) (hcat : (st.map fun v => v.category).sum ≤ 8) (hM : AM sc M1 d1 (.ref (o + 1) :: []) h (some v) h1) (kk : AW sc M d (pc + 3) L (v :: st) h1 r h') : AW sc M d pc L (.ref (o + 1) :: st) h r h' := by
  obtain ⟨hB, hlk, hv, T, NN, hci⟩ := hs
  rcases hlk with hlk | hlk
  · exact aw_callV (As := []) hd hB hlk hv hci ho hd1 rfl rfl hcat hM kk
  · exact aw_callVN (As := []) hd hB hlk hv hci ho hd1 rfl rfl hcat hM kk
theorem aw_S0 {v : Value} {idx : Nat} (hd : decode M.2.1 pc = .ok (.invokestatic idx, 3)) (hs : am_sS M.1.cls idx M1 0) (hd1 : d1 + 1 ≤ d) (hcat : (st.map fun v => v.category).sum ≤ 8) (hM : AM sc M1 d1 [] h (some v) h1) (kk : AW sc M d (pc + 3) L (v :: st) h1 r h') : AW sc M d pc L (st) h r h' := by
  obtain ⟨hB, hlk, hv⟩ := hs
  rcases hlk with hlk | hlk
  · exact aw_callS (As := []) hd hB hlk hv hd1 rfl rfl hcat hM kk
  · exact aw_callSN (As := []) hd hB hlk hv hd1 rfl rfl hcat hM kk
theorem aw_V0v {o ci idx : Nat} {fs : List Value} (hd : decode M.2.1 pc = .ok (.invokevirtual idx, 3)) (hs : am_sV M.1.cls idx M1 0 ci) (ho : h[o]? = some (.inr (ci, fs))) (hd1 : d1 + 1 ≤ d) (hcat : (st.map fun v => v.category).sum ≤ 8) (hM : AM sc M1 d1 (.ref (o + 1) :: []) h none h1) (kk : AW sc M d (pc + 3) L (st) h1 r h') : AW sc M d pc L (.ref (o + 1) :: st) h r h' := by
  obtain ⟨hB, hlk, hv, T, NN, hci⟩ := hs
  rcases hlk with hlk | hlk
  · exact aw_callV (As := []) hd hB hlk hv hci ho hd1 rfl rfl hcat hM kk
  · exact aw_callVN (As := []) hd hB hlk hv hci ho hd1 rfl rfl hcat hM kk
theorem aw_S0v {idx : Nat} (hd : decode M.2.1 pc = .ok (.invokestatic idx, 3)) (hs : am_sS M.1.cls idx M1 0) (hd1 : d1 + 1 ≤ d) (hcat : (st.map fun v => v.category).sum ≤ 8) (hM : AM sc M1 d1 [] h none h1) (kk : AW sc M d (pc + 3) L (st) h1 r h') : AW sc M d pc L (st) h r h' := by
  obtain ⟨hB, hlk, hv⟩ := hs
  rcases hlk with hlk | hlk
  · exact aw_callS (As := []) hd hB hlk hv hd1 rfl rfl hcat hM kk
  · exact aw_callSN (As := []) hd hB hlk hv hd1 rfl rfl hcat hM kk
theorem aw_I0 {o idx : Nat} (hd : decode M.2.1 pc = .ok (.invokespecial idx, 3)) (hs : am_sI M.1.cls idx M1 0) (hd1 : d1 + 1 ≤ d) (hcat : (st.map fun v => v.category).sum ≤ 8) (hM : AM sc M1 d1 (.ref (o + 1) :: []) h none h1) (kk : AW sc M d (pc + 3) L st h1 r h') : AW sc M d pc L (.ref (o + 1) :: st) h r h' := by
  obtain ⟨hB, hlk, hv, hret⟩ := hs
  rcases hlk with hlk | hlk
  · exact aw_callI (As := []) hd hB hlk hv hret hd1 rfl rfl hcat hM kk
  · exact aw_callIN (As := []) hd hB hlk hv hret hd1 rfl rfl hcat hM kk
theorem aw_V1 {a0 : Value} {v : Value} {o ci idx : Nat} {fs : List Value} (hd : decode M.2.1 pc = .ok (.invokevirtual idx, 3)) (hs : am_sV M.1.cls idx M1 1 ci) (ho : h[o]? = some (.inr (ci, fs))) (hd1 : d1 + 1 ≤ d) (hcat : (st.map fun v => v.category).sum ≤ 8) (hM : AM sc M1 d1 (.ref (o + 1) :: [a0]) h (some v) h1) (kk : AW sc M d (pc + 3) L (v :: st) h1 r h') : AW sc M d pc L (a0 :: .ref (o + 1) :: st) h r h' := by
  obtain ⟨hB, hlk, hv, T, NN, hci⟩ := hs
  rcases hlk with hlk | hlk
  · exact aw_callV (As := [a0]) hd hB hlk hv hci ho hd1 rfl rfl hcat hM kk
  · exact aw_callVN (As := [a0]) hd hB hlk hv hci ho hd1 rfl rfl hcat hM kk
theorem aw_S1 {a0 : Value} {v : Value} {idx : Nat} (hd : decode M.2.1 pc = .ok (.invokestatic idx, 3)) (hs : am_sS M.1.cls idx M1 1) (hd1 : d1 + 1 ≤ d) (hcat : (st.map fun v => v.category).sum ≤ 8) (hM : AM sc M1 d1 [a0] h (some v) h1) (kk : AW sc M d (pc + 3) L (v :: st) h1 r h') : AW sc M d pc L (a0 :: st) h r h' := by
  obtain ⟨hB, hlk, hv⟩ := hs
  rcases hlk with hlk | hlk
  · exact aw_callS (As := [a0]) hd hB hlk hv hd1 rfl rfl hcat hM kk
  · exact aw_callSN (As := [a0]) hd hB hlk hv hd1 rfl rfl hcat hM kk
theorem aw_V1v {a0 : Value} {o ci idx : Nat} {fs : List Value} (hd : decode M.2.1 pc = .ok (.invokevirtual idx, 3)) (hs : am_sV M.1.cls idx M1 1 ci) (ho : h[o]? = some (.inr (ci, fs))) (hd1 : d1 + 1 ≤ d) (hcat : (st.map fun v => v.category).sum ≤ 8) (hM : AM sc M1 d1 (.ref (o + 1) :: [a0]) h none h1) (kk : AW sc M d (pc + 3) L (st) h1 r h') : AW sc M d pc L (a0 :: .ref (o + 1) :: st) h r h' := by
  obtain ⟨hB, hlk, hv, T, NN, hci⟩ := hs
  rcases hlk with hlk | hlk
  · exact aw_callV (As := [a0]) hd hB hlk hv hci ho hd1 rfl rfl hcat hM kk
  · exact aw_callVN (As := [a0]) hd hB hlk hv hci ho hd1 rfl rfl hcat hM kk
theorem aw_S1v {a0 : Value} {idx : Nat} (hd : decode M.2.1 pc = .ok (.invokestatic idx, 3)) (hs : am_sS M.1.cls idx M1 1) (hd1 : d1 + 1 ≤ d) (hcat : (st.map fun v => v.category).sum ≤ 8) (hM : AM sc M1 d1 [a0] h none h1) (kk : AW sc M d (pc + 3) L (st) h1 r h') : AW sc M d pc L (a0 :: st) h r h' := by
  obtain ⟨hB, hlk, hv⟩ := hs
  rcases hlk with hlk | hlk
  · exact aw_callS (As := [a0]) hd hB hlk hv hd1 rfl rfl hcat hM kk
  · exact aw_callSN (As := [a0]) hd hB hlk hv hd1 rfl rfl hcat hM kk
theorem aw_I1 {a0 : Value} {o idx : Nat} (hd : decode M.2.1 pc = .ok (.invokespecial idx, 3)) (hs : am_sI M.1.cls idx M1 1) (hd1 : d1 + 1 ≤ d) (hcat : (st.map fun v => v.category).sum ≤ 8) (hM : AM sc M1 d1 (.ref (o + 1) :: [a0]) h none h1) (kk : AW sc M d (pc + 3) L st h1 r h') : AW sc M d pc L (a0 :: .ref (o + 1) :: st) h r h' := by
  obtain ⟨hB, hlk, hv, hret⟩ := hs
  rcases hlk with hlk | hlk
  · exact aw_callI (As := [a0]) hd hB hlk hv hret hd1 rfl rfl hcat hM kk
  · exact aw_callIN (As := [a0]) hd hB hlk hv hret hd1 rfl rfl hcat hM kk
theorem aw_V2 {a0 a1 : Value} {v : Value} {o ci idx : Nat} {fs : List Value} (hd : decode M.2.1 pc = .ok (.invokevirtual idx, 3)) (hs : am_sV M.1.cls idx M1 2 ci) (ho : h[o]? = some (.inr (ci, fs))) (hd1 : d1 + 1 ≤ d) (hcat : (st.map fun v => v.category).sum ≤ 8) (hM : AM sc M1 d1 (.ref (o + 1) :: [a0, a1]) h (some v) h1) (kk : AW sc M d (pc + 3) L (v :: st) h1 r h') : AW sc M d pc L (a1 :: a0 :: .ref (o + 1) :: st) h r h' := by
  obtain ⟨hB, hlk, hv, T, NN, hci⟩ := hs
  rcases hlk with hlk | hlk
  · exact aw_callV (As := [a0, a1]) hd hB hlk hv hci ho hd1 rfl rfl hcat hM kk
  · exact aw_callVN (As := [a0, a1]) hd hB hlk hv hci ho hd1 rfl rfl hcat hM kk
theorem aw_S2 {a0 a1 : Value} {v : Value} {idx : Nat} (hd : decode M.2.1 pc = .ok (.invokestatic idx, 3)) (hs : am_sS M.1.cls idx M1 2) (hd1 : d1 + 1 ≤ d) (hcat : (st.map fun v => v.category).sum ≤ 8) (hM : AM sc M1 d1 [a0, a1] h (some v) h1) (kk : AW sc M d (pc + 3) L (v :: st) h1 r h') : AW sc M d pc L (a1 :: a0 :: st) h r h' := by
  obtain ⟨hB, hlk, hv⟩ := hs
  rcases hlk with hlk | hlk
  · exact aw_callS (As := [a0, a1]) hd hB hlk hv hd1 rfl rfl hcat hM kk
  · exact aw_callSN (As := [a0, a1]) hd hB hlk hv hd1 rfl rfl hcat hM kk
theorem aw_V2v {a0 a1 : Value} {o ci idx : Nat} {fs : List Value} (hd : decode M.2.1 pc = .ok (.invokevirtual idx, 3)) (hs : am_sV M.1.cls idx M1 2 ci) (ho : h[o]? = some (.inr (ci, fs))) (hd1 : d1 + 1 ≤ d) (hcat : (st.map fun v => v.category).sum ≤ 8) (hM : AM sc M1 d1 (.ref (o + 1) :: [a0, a1]) h none h1) (kk : AW sc M d (pc + 3) L (st) h1 r h') : AW sc M d pc L (a1 :: a0 :: .ref (o + 1) :: st) h r h' := by
  obtain ⟨hB, hlk, hv, T, NN, hci⟩ := hs
  rcases hlk with hlk | hlk
  · exact aw_callV (As := [a0, a1]) hd hB hlk hv hci ho hd1 rfl rfl hcat hM kk
  · exact aw_callVN (As := [a0, a1]) hd hB hlk hv hci ho hd1 rfl rfl hcat hM kk
theorem aw_S2v {a0 a1 : Value} {idx : Nat} (hd : decode M.2.1 pc = .ok (.invokestatic idx, 3)) (hs : am_sS M.1.cls idx M1 2) (hd1 : d1 + 1 ≤ d) (hcat : (st.map fun v => v.category).sum ≤ 8) (hM : AM sc M1 d1 [a0, a1] h none h1) (kk : AW sc M d (pc + 3) L (st) h1 r h') : AW sc M d pc L (a1 :: a0 :: st) h r h' := by
  obtain ⟨hB, hlk, hv⟩ := hs
  rcases hlk with hlk | hlk
  · exact aw_callS (As := [a0, a1]) hd hB hlk hv hd1 rfl rfl hcat hM kk
  · exact aw_callSN (As := [a0, a1]) hd hB hlk hv hd1 rfl rfl hcat hM kk
theorem aw_I2 {a0 a1 : Value} {o idx : Nat} (hd : decode M.2.1 pc = .ok (.invokespecial idx, 3)) (hs : am_sI M.1.cls idx M1 2) (hd1 : d1 + 1 ≤ d) (hcat : (st.map fun v => v.category).sum ≤ 8) (hM : AM sc M1 d1 (.ref (o + 1) :: [a0, a1]) h none h1) (kk : AW sc M d (pc + 3) L st h1 r h') : AW sc M d pc L (a1 :: a0 :: .ref (o + 1) :: st) h r h' := by
  obtain ⟨hB, hlk, hv, hret⟩ := hs
  rcases hlk with hlk | hlk
  · exact aw_callI (As := [a0, a1]) hd hB hlk hv hret hd1 rfl rfl hcat hM kk
  · exact aw_callIN (As := [a0, a1]) hd hB hlk hv hret hd1 rfl rfl hcat hM kk
theorem aw_V3 {a0 a1 a2 : Value} {v : Value} {o ci idx : Nat} {fs : List Value} (hd : decode M.2.1 pc = .ok (.invokevirtual idx, 3)) (hs : am_sV M.1.cls idx M1 3 ci) (ho : h[o]? = some (.inr (ci, fs))) (hd1 : d1 + 1 ≤ d) (hcat : (st.map fun v => v.category).sum ≤ 8) (hM : AM sc M1 d1 (.ref (o + 1) :: [a0, a1, a2]) h (some v) h1) (kk : AW sc M d (pc + 3) L (v :: st) h1 r h') : AW sc M d pc L (a2 :: a1 :: a0 :: .ref (o + 1) :: st) h r h' := by
  obtain ⟨hB, hlk, hv, T, NN, hci⟩ := hs
  rcases hlk with hlk | hlk
  · exact aw_callV (As := [a0, a1, a2]) hd hB hlk hv hci ho hd1 rfl rfl hcat hM kk
  · exact aw_callVN (As := [a0, a1, a2]) hd hB hlk hv hci ho hd1 rfl rfl hcat hM kk
theorem aw_S3 {a0 a1 a2 : Value} {v : Value} {idx : Nat} (hd : decode M.2.1 pc = .ok (.invokestatic idx, 3)) (hs : am_sS M.1.cls idx M1 3) (hd1 : d1 + 1 ≤ d) (hcat : (st.map fun v => v.category).sum ≤ 8) (hM : AM sc M1 d1 [a0, a1, a2] h (some v) h1) (kk : AW sc M d (pc + 3) L (v :: st) h1 r h') : AW sc M d pc L (a2 :: a1 :: a0 :: st) h r h' := by
  obtain ⟨hB, hlk, hv⟩ := hs
  rcases hlk with hlk | hlk
  · exact aw_callS (As := [a0, a1, a2]) hd hB hlk hv hd1 rfl rfl hcat hM kk
  · exact aw_callSN (As := [a0, a1, a2]) hd hB hlk hv hd1 rfl rfl hcat hM kk
theorem aw_V3v {a0 a1 a2 : Value} {o ci idx : Nat} {fs : List Value} (hd : decode M.2.1 pc = .ok (.invokevirtual idx, 3)) (hs : am_sV M.1.cls idx M1 3 ci) (ho : h[o]? = some (.inr (ci, fs))) (hd1 : d1 + 1 ≤ d) (hcat : (st.map fun v => v.category).sum ≤ 8) (hM : AM sc M1 d1 (.ref (o + 1) :: [a0, a1, a2]) h none h1) (kk : AW sc M d (pc + 3) L (st) h1 r h') : AW sc M d pc L (a2 :: a1 :: a0 :: .ref (o + 1) :: st) h r h' := by
  obtain ⟨hB, hlk, hv, T, NN, hci⟩ := hs
  rcases hlk with hlk | hlk
  · exact aw_callV (As := [a0, a1, a2]) hd hB hlk hv hci ho hd1 rfl rfl hcat hM kk
  · exact aw_callVN (As := [a0, a1, a2]) hd hB hlk hv hci ho hd1 rfl rfl hcat hM kk
theorem aw_S3v {a0 a1 a2 : Value} {idx : Nat} (hd : decode M.2.1 pc = .ok (.invokestatic idx, 3)) (hs : am_sS M.1.cls idx M1 3) (hd1 : d1 + 1 ≤ d) (hcat : (st.map fun v => v.category).sum ≤ 8) (hM : AM sc M1 d1 [a0, a1, a2] h none h1) (kk : AW sc M d (pc + 3) L (st) h1 r h') : AW sc M d pc L (a2 :: a1 :: a0 :: st) h r h' := by
  obtain ⟨hB, hlk, hv⟩ := hs
  rcases hlk with hlk | hlk
  · exact aw_callS (As := [a0, a1, a2]) hd hB hlk hv hd1 rfl rfl hcat hM kk
  · exact aw_callSN (As := [a0, a1, a2]) hd hB hlk hv hd1 rfl rfl hcat hM kk
theorem aw_I3 {a0 a1 a2 : Value} {o idx : Nat} (hd : decode M.2.1 pc = .ok (.invokespecial idx, 3)) (hs : am_sI M.1.cls idx M1 3) (hd1 : d1 + 1 ≤ d) (hcat : (st.map fun v => v.category).sum ≤ 8) (hM : AM sc M1 d1 (.ref (o + 1) :: [a0, a1, a2]) h none h1) (kk : AW sc M d (pc + 3) L st h1 r h') : AW sc M d pc L (a2 :: a1 :: a0 :: .ref (o + 1) :: st) h r h' := by
  obtain ⟨hB, hlk, hv, hret⟩ := hs
  rcases hlk with hlk | hlk
  · exact aw_callI (As := [a0, a1, a2]) hd hB hlk hv hret hd1 rfl rfl hcat hM kk
  · exact aw_callIN (As := [a0, a1, a2]) hd hB hlk hv hret hd1 rfl rfl hcat hM kk
theorem aw_V4 {a0 a1 a2 a3 : Value} {v : Value} {o ci idx : Nat} {fs : List Value} (hd : decode M.2.1 pc = .ok (.invokevirtual idx, 3)) (hs : am_sV M.1.cls idx M1 4 ci) (ho : h[o]? = some (.inr (ci, fs))) (hd1 : d1 + 1 ≤ d) (hcat : (st.map fun v => v.category).sum ≤ 8) (hM : AM sc M1 d1 (.ref (o + 1) :: [a0, a1, a2, a3]) h (some v) h1) (kk : AW sc M d (pc + 3) L (v :: st) h1 r h') : AW sc M d pc L (a3 :: a2 :: a1 :: a0 :: .ref (o + 1) :: st) h r h' := by
  obtain ⟨hB, hlk, hv, T, NN, hci⟩ := hs
  rcases hlk with hlk | hlk
  · exact aw_callV (As := [a0, a1, a2, a3]) hd hB hlk hv hci ho hd1 rfl rfl hcat hM kk
  · exact aw_callVN (As := [a0, a1, a2, a3]) hd hB hlk hv hci ho hd1 rfl rfl hcat hM kk
theorem aw_S4 {a0 a1 a2 a3 : Value} {v : Value} {idx : Nat} (hd : decode M.2.1 pc = .ok (.invokestatic idx, 3)) (hs : am_sS M.1.cls idx M1 4) (hd1 : d1 + 1 ≤ d) (hcat : (st.map fun v => v.category).sum ≤ 8) (hM : AM sc M1 d1 [a0, a1, a2, a3] h (some v) h1) (kk : AW sc M d (pc + 3) L (v :: st) h1 r h') : AW sc M d pc L (a3 :: a2 :: a1 :: a0 :: st) h r h' := by
  obtain ⟨hB, hlk, hv⟩ := hs
  rcases hlk with hlk | hlk
  · exact aw_callS (As := [a0, a1, a2, a3]) hd hB hlk hv hd1 rfl rfl hcat hM kk
  · exact aw_callSN (As := [a0, a1, a2, a3]) hd hB hlk hv hd1 rfl rfl hcat hM kk
theorem aw_V4v {a0 a1 a2 a3 : Value} {o ci idx : Nat} {fs : List Value} (hd : decode M.2.1 pc = .ok (.invokevirtual idx, 3)) (hs : am_sV M.1.cls idx M1 4 ci) (ho : h[o]? = some (.inr (ci, fs))) (hd1 : d1 + 1 ≤ d) (hcat : (st.map fun v => v.category).sum ≤ 8) (hM : AM sc M1 d1 (.ref (o + 1) :: [a0, a1, a2, a3]) h none h1) (kk : AW sc M d (pc + 3) L (st) h1 r h') : AW sc M d pc L (a3 :: a2 :: a1 :: a0 :: .ref (o + 1) :: st) h r h' := by
  obtain ⟨hB, hlk, hv, T, NN, hci⟩ := hs
  rcases hlk with hlk | hlk
  · exact aw_callV (As := [a0, a1, a2, a3]) hd hB hlk hv hci ho hd1 rfl rfl hcat hM kk
  · exact aw_callVN (As := [a0, a1, a2, a3]) hd hB hlk hv hci ho hd1 rfl rfl hcat hM kk
theorem aw_S4v {a0 a1 a2 a3 : Value} {idx : Nat} (hd : decode M.2.1 pc = .ok (.invokestatic idx, 3)) (hs : am_sS M.1.cls idx M1 4) (hd1 : d1 + 1 ≤ d) (hcat : (st.map fun v => v.category).sum ≤ 8) (hM : AM sc M1 d1 [a0, a1, a2, a3] h none h1) (kk : AW sc M d (pc + 3) L (st) h1 r h') : AW sc M d pc L (a3 :: a2 :: a1 :: a0 :: st) h r h' := by
  obtain ⟨hB, hlk, hv⟩ := hs
  rcases hlk with hlk | hlk
  · exact aw_callS (As := [a0, a1, a2, a3]) hd hB hlk hv hd1 rfl rfl hcat hM kk
  · exact aw_callSN (As := [a0, a1, a2, a3]) hd hB hlk hv hd1 rfl rfl hcat hM kk
theorem aw_I4 {a0 a1 a2 a3 : Value} {o idx : Nat} (hd : decode M.2.1 pc = .ok (.invokespecial idx, 3)) (hs : am_sI M.1.cls idx M1 4) (hd1 : d1 + 1 ≤ d) (hcat : (st.map fun v => v.category).sum ≤ 8) (hM : AM sc M1 d1 (.ref (o + 1) :: [a0, a1, a2, a3]) h none h1) (kk : AW sc M d (pc + 3) L st h1 r h') : AW sc M d pc L (a3 :: a2 :: a1 :: a0 :: .ref (o + 1) :: st) h r h' := by
  obtain ⟨hB, hlk, hv, hret⟩ := hs
  rcases hlk with hlk | hlk
  · exact aw_callI (As := [a0, a1, a2, a3]) hd hB hlk hv hret hd1 rfl rfl hcat hM kk
  · exact aw_callIN (As := [a0, a1, a2, a3]) hd hB hlk hv hret hd1 rfl rfl hcat hM kk
theorem aw_V5 {a0 a1 a2 a3 a4 : Value} {v : Value} {o ci idx : Nat} {fs : List Value} (hd : decode M.2.1 pc = .ok (.invokevirtual idx, 3)) (hs : am_sV M.1.cls idx M1 5 ci) (ho : h[o]? = some (.inr (ci, fs))) (hd1 : d1 + 1 ≤ d) (hcat : (st.map fun v => v.category).sum ≤ 8) (hM : AM sc M1 d1 (.ref (o + 1) :: [a0, a1, a2, a3, a4]) h (some v) h1) (kk : AW sc M d (pc + 3) L (v :: st) h1 r h') : AW sc M d pc L (a4 :: a3 :: a2 :: a1 :: a0 :: .ref (o + 1) :: st) h r h' := by
  obtain ⟨hB, hlk, hv, T, NN, hci⟩ := hs
  rcases hlk with hlk | hlk
  · exact aw_callV (As := [a0, a1, a2, a3, a4]) hd hB hlk hv hci ho hd1 rfl rfl hcat hM kk
  · exact aw_callVN (As := [a0, a1, a2, a3, a4]) hd hB hlk hv hci ho hd1 rfl rfl hcat hM kk
theorem aw_S5 {a0 a1 a2 a3 a4 : Value} {v : Value} {idx : Nat} (hd : decode M.2.1 pc = .ok (.invokestatic idx, 3)) (hs : am_sS M.1.cls idx M1 5) (hd1 : d1 + 1 ≤ d) (hcat : (st.map fun v => v.category).sum ≤ 8) (hM : AM sc M1 d1 [a0, a1, a2, a3, a4] h (some v) h1) (kk : AW sc M d (pc + 3) L (v :: st) h1 r h') : AW sc M d pc L (a4 :: a3 :: a2 :: a1 :: a0 :: st) h r h' := by
  obtain ⟨hB, hlk, hv⟩ := hs
  rcases hlk with hlk | hlk
  · exact aw_callS (As := [a0, a1, a2, a3, a4]) hd hB hlk hv hd1 rfl rfl hcat hM kk
  · exact aw_callSN (As := [a0, a1, a2, a3, a4]) hd hB hlk hv hd1 rfl rfl hcat hM kk
theorem aw_V5v {a0 a1 a2 a3 a4 : Value} {o ci idx : Nat} {fs : List Value} (hd : decode M.2.1 pc = .ok (.invokevirtual idx, 3)) (hs : am_sV M.1.cls idx M1 5 ci) (ho : h[o]? = some (.inr (ci, fs))) (hd1 : d1 + 1 ≤ d) (hcat : (st.map fun v => v.category).sum ≤ 8) (hM : AM sc M1 d1 (.ref (o + 1) :: [a0, a1, a2, a3, a4]) h none h1) (kk : AW sc M d (pc + 3) L (st) h1 r h') : AW sc M d pc L (a4 :: a3 :: a2 :: a1 :: a0 :: .ref (o + 1) :: st) h r h' := by
  obtain ⟨hB, hlk, hv, T, NN, hci⟩ := hs
  rcases hlk with hlk | hlk
  · exact aw_callV (As := [a0, a1, a2, a3, a4]) hd hB hlk hv hci ho hd1 rfl rfl hcat hM kk
  · exact aw_callVN (As := [a0, a1, a2, a3, a4]) hd hB hlk hv hci ho hd1 rfl rfl hcat hM kk
theorem aw_S5v {a0 a1 a2 a3 a4 : Value} {idx : Nat} (hd : decode M.2.1 pc = .ok (.invokestatic idx, 3)) (hs : am_sS M.1.cls idx M1 5) (hd1 : d1 + 1 ≤ d) (hcat : (st.map fun v => v.category).sum ≤ 8) (hM : AM sc M1 d1 [a0, a1, a2, a3, a4] h none h1) (kk : AW sc M d (pc + 3) L (st) h1 r h') : AW sc M d pc L (a4 :: a3 :: a2 :: a1 :: a0 :: st) h r h' := by
  obtain ⟨hB, hlk, hv⟩ := hs
  rcases hlk with hlk | hlk
  · exact aw_callS (As := [a0, a1, a2, a3, a4]) hd hB hlk hv hd1 rfl rfl hcat hM kk
  · exact aw_callSN (As := [a0, a1, a2, a3, a4]) hd hB hlk hv hd1 rfl rfl hcat hM kk
theorem aw_I5 {a0 a1 a2 a3 a4 : Value} {o idx : Nat} (hd : decode M.2.1 pc = .ok (.invokespecial idx, 3)) (hs : am_sI M.1.cls idx M1 5) (hd1 : d1 + 1 ≤ d) (hcat : (st.map fun v => v.category).sum ≤ 8) (hM : AM sc M1 d1 (.ref (o + 1) :: [a0, a1, a2, a3, a4]) h none h1) (kk : AW sc M d (pc + 3) L st h1 r h') : AW sc M d pc L (a4 :: a3 :: a2 :: a1 :: a0 :: .ref (o + 1) :: st) h r h' := by
  obtain ⟨hB, hlk, hv, hret⟩ := hs
  rcases hlk with hlk | hlk
  · exact aw_callI (As := [a0, a1, a2, a3, a4]) hd hB hlk hv hret hd1 rfl rfl hcat hM kk
  · exact aw_callIN (As := [a0, a1, a2, a3, a4]) hd hB hlk hv hret hd1 rfl rfl hcat hM kk
end AMCALL
