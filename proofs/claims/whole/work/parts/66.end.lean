theorem in_W : Cond.instantiable "WorksBudget$Works" 15 ∈ am_T := am_in1 (i := 19) rfl rfl
theorem in_S : Cond.instantiable "WorksBudget$Search" 20 ∈ am_T := am_in1 (i := 110) rfl rfl
theorem in_N : Cond.instantiable "WorksBudget$Bounds" 1 ∈ am_T := am_in1 (i := 178) rfl rfl
theorem in_P : Cond.instantiable "WorksBudget$Policies" 2 ∈ am_T := am_in1 (i := 188) rfl rfl
theorem in_B : Cond.instantiable "WorksBudget" 11 ∈ am_T := am_in1 (i := 11) rfl rfl
theorem in_M : Cond.instantiable "WorksBudgetModel" 23 ∈ am_T := am_in3 (i := 122) rfl rfl
theorem ao_in : Cond.arrayOver (.array .long) ∈ lw_tbl := List.mem_append_right _ (List.mem_append_left _ (List.mem_of_getElem? (i := 31) rfl))
theorem hp_sz (A : ST) (q : QS) (D : ST) (t : TS) : am_sz (hp A q D t) ≤ 7302250 := by
  unfold hp
  rw [am_sz_apps]
  unfold cC cM
  simp only [am_sz, am_s1, List.length_cons, List.length_nil]
  omega
theorem am_begin {sc : am_S} {M : am_M} {d : Nat} {r : Option Value} {h' : List am_C} {E : am_E} {mc ms : Nat} {p : Program} {l : Launch} {e : Env} {R : Room} {s : State} {m : MethodId} {args : Array Value} {below : List Frame} {meth : Method} {c : Code} {Z : State → Prop} (g : AW sc M d 0 [some (.ref 0), none, none, none] [] [] r h') (hn : M.2.2.1 = 4) (hok : am_ok sc M d E mc ms r h' p l e R s m args below meth c Z) (hB : E.2.1 = s.heap.size) (hc : h'.length ≤ mc) (hz : am_sz h' ≤ ms) : W p l e R s m args below meth c s.heap [] 0 0 Z (F0 m 0 ((lg_sl [Value.ref E.1] ++ List.replicate (4 - (lg_sl [Value.ref E.1]).length) Slot.unset).toArray) []) := by
  have hl := am_entry (E := E) (as := [.ref 0]) (n := 4) (Nat.le_of_ble_eq_true rfl)
  rw [← hn] at hl
  refine g.2 E mc ms p l e R s m args below meth c Z hok s.heap [] 0 0 _ ?_ ⟨by rw [hB]; rfl, fun k c h => by simp at h⟩ ⟨fun _ _ => rfl, fun _ h => by cases h⟩ (by simp only [List.length_nil]; omega) (by simp only [am_sz]; omega)
  rw [hn] at hl ⊢
  exact hl
theorem am_nests {b : Nat} {s : State} (hts : ∀ w ∈ lw_tbl, w.before #[Value.ref b] s = true) : ∀ q ∈ am_nm, va_Nw (.methodLinkNest q.1 q.2.1 q.2.2.1 q.2.2.2) s := by
  intro q hq
  rcases List.mem_cons.mp hq with rfl | hq
  · exact va_Nw.of rfl (hts _ nm_0)
  · rcases List.mem_cons.mp hq with rfl | hq
    · exact va_Nw.of rfl (hts _ nm_1)
    · cases hq
theorem am_nest0 {s : State} : ∀ q ∈ am_nf, va_Nw (.fieldLinkNest q.1 q.2.1 q.2.2.1 q.2.2.2.1 q.2.2.2.2.1 q.2.2.2.2.2) s := fun q hq => nomatch hq
/-! THE CLAIM OUT OF ONE WALK OF THE LAW'S BODY. Your part is whole_start (and what it stands on); all else here is the same for every law, but numbers. -/
def R_law : String := "WorksBudgetLaw"
def lw_P (b : Addr) (xs : List Int32) (args : Array Value) (s : State) : Prop := args = #[.ref b] ∧ s.IntsAt b xs ∧ xs.length ≤ 3585 ∧ (Jvm.Cond.and given_1 narrow_1).before args s = true
def lw_Q (_ : Array Value) (s : State) (o : Outcome) (t : State) : Prop := o = .returned (some (.int 1)) ∧ Framed s o t [] 600000 7302250
def lw_Z (below : List Frame) (a : Array Value) (s : State) : State → Prop := fun t => ∃ o, t.status = .running ∧ Ended t below o ∧ lw_Q a s o t
/-- the law's own end, with 1 on the stack, nothing written that was there before, its room as the claim has it -/
theorem lw_ret {p : Program} {l : Launch} {e : Env} {s : State} {m : MethodId} {below : List Frame} {meth : Method} {c : Code} {b : Nat} (hx : p.tables.exec = Jvm.exec) (hb : c.code = code) (hr : meth.sig.returnType = ret) (hlocks : meth.locks = false) {pc : Nat} {H : Heap} {ls : Array Slot} (hdg : decode code pc = .ok (.ireturn, 1)) : W p l e room_1 s m #[Value.ref b] below meth c H [] 600000 7302250 (lw_Z below #[Value.ref b] s) (F0 m pc ls [.int 1]) := by
  intro T hT X
  obtain ⟨fs, hret, hrun, hended, hW, hframe⟩ := X.leave (v := some (.int 1)) (hlocks := hlocks) (fun h => by rw [hr] at h; cases h)
  have hmeth' : T.vm.method? m = some meth := X.method'
  refine ⟨T.setFrames fs, ?_, .returned (some (.int 1)), hrun, hended, rfl, ⟨_, rfl⟩, hW, hframe⟩
  jvm_step X.here [X.here.top, hx, hb, hdg, hmeth', hr, ret, narrow_b1]
  (try refine ⟨rfl, ?_⟩); (try refine ⟨rfl, ?_⟩)
  first | (intro acts; rw [hret _ acts rfl rfl rfl]) | rw [hret _ _ rfl rfl rfl]
  exact Steps.refl _
/-- what holds at the law's entry: the machine, the code, the tables' words (any of lw_tbl by 'hts w (by decide +kernel)'), the script of L ints xs at the cell b, what the Statement gives of the start (any of its parts by flat_of_before) -/
def lw_At (p : Program) (s : State) (m : MethodId) (meth : Method) (c : Code) (b L : Nat) (xs : Nat → Int32) : Prop :=
  p.tables.exec = Jvm.exec ∧ c.code = code ∧ meth.sig.returnType = ret ∧ c.maxLocals = 4 ∧ s.vm.findClass R_law = some m.cls ∧ (∀ w ∈ lw_tbl, w.before #[Value.ref b] s = true) ∧ va_X b L xs s s.heap ∧ b < s.heap.size ∧ meth.locks = false ∧ (Jvm.Cond.and given_1 narrow_1).before #[Value.ref b] s = true ∧ meth.name = "law"
-- ===== YOUR PART BEGINS =====
set_option maxHeartbeats 4000000 in
set_option maxRecDepth 100000 in
/-- THE LAW, from its entry -/
theorem whole_start {p : Program} {e : Env} {s : State} {m : MethodId} {below : List Frame} {meth : Method} {c : Code} (l : Launch) {b L : Nat} {xs : Nat → Int32} (hL : L ≤ 3585) (C0 : lw_At p s m meth c b L xs) : W p l e room_1 s m #[Value.ref b] below meth c s.heap [] 0 0 (lw_Z below #[Value.ref b] s) (entryFrame m ([Value.ref b] : List Value).toArray 4) := by
  obtain ⟨hx, hb, hr, hml, hown, hts, hX, hbl, hlocks, hgv, hnm⟩ := id C0
  have htT : ∀ w ∈ am_T, w.before #[Value.ref b] s = true := fun w hw => hts w (am_lw hw)
  obtain ⟨c0, i0, k0⟩ := u_known (C := "WorksBudget$Works") (T := F_W) (N := 15) (n := 15) htT iw_W (htT _ in_W)
  obtain ⟨c1, i1, k1⟩ := u_known (C := "WorksBudget$Search") (T := F_S) (N := 20) (n := 20) htT iw_S (htT _ in_S)
  obtain ⟨c2, i2, k2⟩ := u_known (C := "WorksBudget$Bounds") (T := F_N) (N := 1) (n := 1) htT iw_N (htT _ in_N)
  obtain ⟨c3, i3, k3⟩ := u_known (C := "WorksBudget$Policies") (T := F_P) (N := 2) (n := 2) htT iw_P (htT _ in_P)
  obtain ⟨c4, i4, k4⟩ := u_known (C := "WorksBudget") (T := F_B) (N := 11) (n := 11) htT iw_B (htT _ in_B)
  obtain ⟨c5, i5, k5⟩ := u_known (C := "WorksBudgetModel") (T := F_M) (N := 23) (n := 23) htT iw_M (htT _ in_M)
  obtain ⟨dC, dI, hKc⟩ : ∃ (dC : Nat → ClassId) (dI : Nat → Nat → Nat), ∀ (k : Nat) (q : vw_C), am_cl[k]? = some q → u_Kn s q.1 q.2.1 q.2.2 (dC k) (dI k) := by
    refine ⟨fun k => match k with | 0 => c0 | 1 => c1 | 2 => c2 | 3 => c3 | 4 => c4 | _ => c5, fun k => match k with | 0 => i0 | 1 => i1 | 2 => i2 | 3 => i3 | 4 => i4 | _ => i5, ?_⟩
    intro k q hq
    match k, hq with
    | 0, hq => cases hq; exact k0
    | 1, hq => cases hq; exact k1
    | 2, hq => cases hq; exact k2
    | 3, hq => cases hq; exact k3
    | 4, hq => cases hq; exact k4
    | 5, hq => cases hq; exact k5
    | k + 6, hq => simp [am_cl] at hq
  obtain ⟨cI, kI, compI, fI, gI, tI⟩ := Cond.arrayClass_spec (htT _ ac_i)
  obtain ⟨cJ, kJ, compJ, fJ, gJ, tJ⟩ := Cond.arrayClass_spec (htT _ ac_l)
  have hao : am_ao s := hts _ ao_in
  obtain ⟨compR, cR, kR, fR, -, gR, tR, eR⟩ := arrayOverA_spec hao
  obtain ⟨dT, hdT⟩ : ∃ dT : Nat → ClassId, ∀ (t : Nat) (ty : FieldType), am_ty[t]? = some ty → ArrOfT s (dT t) ty ∧ s.vm.findClass ("[" ++ ty.toString) = some (dT t) := by
    refine ⟨fun t => match t with | 0 => cI | 1 => cJ | _ => cR, ?_⟩
    intro t ty ht
    match t, ht with
    | 0, ht => cases ht; exact ⟨fun N z => ⟨(fun q hq => by cases hq), kI, gI, compI, tI⟩, fI⟩
    | 1, ht => cases ht; exact ⟨fun N z => ⟨(fun q hq => by cases hq), kJ, gJ, compJ, tJ⟩, fJ⟩
    | 2, ht => cases ht; exact ⟨fun N z => ⟨(fun q hq => by cases hq), kR, gR, compR, tR⟩, eR⟩
    | t + 3, ht => simp [am_ty] at ht
  obtain ⟨A3, q3, t3, g⟩ := lw_all (L, xs) hL
  have hK : am_K (b, s.heap.size, (dC, dI), dT) s := ⟨hKc, hdT, am_nests hts, am_nest0, hao⟩
  have hE : ∀ (H : Heap) (locs : List Loc) (pc : Nat) (ls : Array Slot), am_H (b, s.heap.size, (dC, dI), dT) (hp A3 q3 A3 t3) H → am_F (b, s.heap.size, (dC, dI), dT) s H locs → am_rt m_L_law (some (.int 1)) pc → W p l e room_1 s m #[Value.ref b] below meth c H locs 600000 7302250 (lw_Z below #[Value.ref b] s) (F0 m pc ls [.int 1]) := by
    intro H locs pc ls hH hF hrt
    obtain ⟨ty, -, -, hdg⟩ := hrt
    exact va_forget (fun q hq => hF.2 q hq) (lw_ret hx hb hr hlocks hdg)
  have hok : am_ok (L, xs) m_L_law 60 (b, s.heap.size, (dC, dI), dT) 600000 7302250 (some (.int 1)) (hp A3 q3 A3 t3) p l e room_1 s m #[Value.ref b] below meth c (lw_Z below #[Value.ref b] s) :=
    ⟨hx, hb, hml, hown, hnm, htT, hK, ⟨hX, hbl, Nat.le_refl _⟩, ⟨Nat.le_of_ble_eq_true rfl, Nat.le_of_ble_eq_true rfl, Nat.le_of_ble_eq_true rfl, Nat.le_of_ble_eq_true rfl⟩, hE⟩
  rw [lg_entry_eq]
  exact am_begin (E := (b, s.heap.size, (dC, dI), dT)) g rfl hok rfl (by rw [hp_len]; decide) (hp_sz _ _ _ _)
-- ===== YOUR PART ENDS =====
set_option maxHeartbeats 4000000 in
theorem lw_walk (l : Launch) (b : Addr) (xs : List Int32) : MetFree l x (headSpec (Jvm.Cond.code x code maxLocals ret :: tables_1) room_1) (lw_P b xs) (fun _ _ _ _ _ => True) lw_Q := by
  refine MetFree.of_bodyS (code := code) (maxLocals := maxLocals) (ret := ret) (by decide) ?_ ?_
  · intro args s m h hn
    obtain ⟨meth, c, h1, h2, h3, h4, h5, h6, -, -⟩ := Cond.code_spec hn (atoms_spec (ws := Jvm.Cond.code x code maxLocals ret :: tables_1) h _ List.mem_cons_self)
    exact ⟨meth, c, h1, h2, h3, h4, h5, h6⟩
  · intro p e s m args below meth c s₁ B hml0 hP _
    obtain ⟨rfl, hx, hbd, hgv⟩ := hP
    obtain ⟨scr, harrAt, hlist, hof, hsmall⟩ := hx
    obtain ⟨hcb, hkn, -, -⟩ := State.arrayAt?_spec harrAt
    have hown : s.vm.findClass R_law = some m.cls := findClass_of_methodNamed B.named
    have hts0 : ∀ c ∈ (Jvm.Cond.code x code maxLocals ret :: tables_1), c.before #[Value.ref b] s = true := atoms_spec (ws := Jvm.Cond.code x code maxLocals ret :: tables_1) B.pre
    have hts : ∀ w ∈ lw_tbl, w.before #[Value.ref b] s = true := k2_hts_sels lw_privs (fun w hw => hts0 w (List.mem_cons_of_mem _ hw)) lw_privs_ok
    have hml : c.maxLocals = 4 := B.maxLocals_eq (hts0 _ List.mem_cons_self)
    have X₀ : Stand p l e room_1 s m #[Value.ref b] below meth c s₁ [] 0 0 := Stand.of_body B
    have hh0 : s₁.heap = s.heap := by rw [B.state]; rfl
    have hsz : scr.slots.size = xs.length := by rw [← Array.length_toList, hlist, List.length_map]
    have hval : ∀ j : Nat, j < xs.length → scr.slots[j]? = some (.int (xs.getD j 0)) := fun j hj => by
      rw [← Array.getElem?_toList, hlist]
      simp [hj]
    have hbl : b < s.heap.size := (Array.getElem?_eq_some_iff.mp hcb).1
    have hX : va_X b xs.length (fun j => xs.getD j 0) s s.heap := ⟨scr, hcb, hof, hkn, hsz, hval⟩
    have K : W p l e room_1 s m #[Value.ref b] below meth c s₁.heap [] 0 0 (lw_Z below #[Value.ref b] s) (entryFrame m ([Value.ref b] : List Value).toArray 4) := by
      rw [hh0]
      exact whole_start l hbd ⟨B.exec, B.bytes, B.returns, hml, hown, hts, hX, hbl, B.notSynchronized, hgv, (name_of_methodNamed B.named B.method).1⟩
    obtain ⟨t, a1, o, b1, b2, b3⟩ := K s₁ rfl X₀
    exact ⟨t, o, a1, b1, b2, b3⟩
theorem lw_pre_spec {args : Array Value} {s : State} (h : (Jvm.Cond.and given_1 narrow_1).before args s = true) (hr : rest_1_c.before args s = true) : ∃ (b : Addr) (xs : List Int32), lw_P b xs args s := by
  have hs := flat_of_before _ h
  have hq := flat_of_before _ hr
  have hc : (Cond.count 1).before args s = true := hs _ (by decide +kernel)
  have harr : (Cond.arrayOf (.arg 0) .int).before args s = true := hs _ (by decide +kernel)
  have hle : (Cond.le (.length (.arg 0)) (.int 3585)).before args s = true := hs _ (by decide +kernel)
  have hlen : (Cond.isInt (.length (.arg 0))).before args s = true := hq _ (by decide +kernel)
  have hall : (Cond.all (.arg 0) (.isInt (.elem (.arg 0) (.index 0)))).before args s = true := hq _ (by decide +kernel)
  obtain ⟨b, xs, hb, hx⟩ := State.ints_of_pre rfl harr hlen hall
  have hsm : xs.length < 2 ^ 31 := hx.choose_spec.2.2.2
  have hev : (Term.length (.arg 0)).eval args s none [] s = some (.int xs.length.toInt32) := hx.length_eval hb
  have hv := Cond.le_ints hev (show (Term.int 3585).eval args s none [] s = some (.int 3585) from rfl)
  have hd : xs.length.toInt32 ≤ 3585 := by
    simpa [Cond.before, Cond.holds, hv] using hle
  have hN : xs.length ≤ 3585 := (Int32.ofNat_le_ofNat hsm (by decide)).mp (show Int32.ofNat xs.length ≤ Int32.ofNat 3585 from hd)
  exact ⟨b, xs, Cond.one_arg hc (show args[0]? = some (.ref b) from hb), hx, hN, h⟩
theorem lw_comes (l : Launch) : Comes l x (Jvm.Cond.code x code maxLocals ret :: tables_1) room_1 (fun tb e args s => Calls_1 tb e args s ∧ rest_1 tb e args s ∧ Pre_1 tb e args s)
    (fun _ _ args s o t => lw_Q args s o t) := by
  intro p e ha hc hk s m args below hf hfit hheap happ hpre
  obtain ⟨b, xs, hP⟩ := lw_pre_spec hpre.2.2 hpre.2.1
  obtain ⟨k, o, h1, h2, h3, hQ⟩ := lw_walk l b xs p e ha hc hk s m args below hf ((Spec.applies_iff_loose hf).mp happ).1 hP trivial
  exact ⟨k, o, h1, h2, h3, hQ⟩
theorem lw_frame {s t : State} {o : Outcome} {args : Array Value} (h : Framed s o t [] 600000 7302250) :
    Framed s o t (fieldLocs frame_1_writes args s ++ arrayLocs frame_1_arrays args s ++ staticLocs frame_1_statics s) 600000 7302250 := h
theorem lw_limb (L : Cond) (hL : ∀ (args : Array Value) (s t : State), L.after args s (.returned (some (.int 1))) t = true) :
    ArmFor flags0 classFile x code maxLocals ret World_1 tables_1 room_1 Calls_1 rest_1 Pre_1
      (fun tb e a s o t => postC L tb e a s o t ∧ Framed s o t (fieldLocs frame_1_writes a s ++ arrayLocs frame_1_arrays a s ++ staticLocs frame_1_statics s) 600000 7302250) := by
  intro l _ _ _ p e ha hc hk s m args below hf hfit hheap happ hpre
  obtain ⟨k, o, h1, h2, h3, rfl, hF⟩ := lw_comes l p e ha hc hk s m args below hf hfit hheap happ hpre
  exact ⟨k, _, h1, h2, h3, hL args s _, lw_frame hF⟩
theorem i_vc : Claimed_1_1 ∧ Claimed_1_2 := ⟨lw_limb limb_1_1 (fun args s t => by simp [limb_1_1, Cond.after, Cond.holds, Cond.value]), lw_limb limb_1_2 (fun args s t => Cond.after_iff.mpr (by
  first | (rw [show limb_1_2 = Cond.eq .result (.int 1) from rfl, Cond.eq_ints (x := 1) (y := 1) rfl rfl]; simp; done) | (simp [limb_1_2, Cond.value, Term.eval]; done)))⟩
