/-! THE AM's ROWS: one an instruction -/
section AMR
variable {sc : am_S} {M : am_M} {d pc : Nat} {L : List (Option Value)} {st : List Value} {h : List am_C} {r : Option Value} {h' : List am_C}
theorem aw_iadd {x y : Int32} (hd : decode M.2.1 pc = .ok (.iadd, 1)) (kk : AW sc M d (pc + 1) L (.int (x + y) :: st) h r h') : AW sc M d pc L (.int y :: .int x :: st) h r h' := by
  refine ⟨kk.1, ?_⟩
  intro E mc ms p l e R s m args below meth c Z ok H locs cells slots ls hl hH hF hc hs
  exact lv_iadd ok.1 ok.2.1 hd (kk.2 E mc ms p l e R s m args below meth c Z ok H locs cells slots ls hl hH hF hc hs)
theorem aw_isub {x y : Int32} (hd : decode M.2.1 pc = .ok (.isub, 1)) (kk : AW sc M d (pc + 1) L (.int (x - y) :: st) h r h') : AW sc M d pc L (.int y :: .int x :: st) h r h' := by
  refine ⟨kk.1, ?_⟩
  intro E mc ms p l e R s m args below meth c Z ok H locs cells slots ls hl hH hF hc hs
  exact lv_isub ok.1 ok.2.1 hd (kk.2 E mc ms p l e R s m args below meth c Z ok H locs cells slots ls hl hH hF hc hs)
theorem aw_imul {x y : Int32} (hd : decode M.2.1 pc = .ok (.imul, 1)) (kk : AW sc M d (pc + 1) L (.int (x * y) :: st) h r h') : AW sc M d pc L (.int y :: .int x :: st) h r h' := by
  refine ⟨kk.1, ?_⟩
  intro E mc ms p l e R s m args below meth c Z ok H locs cells slots ls hl hH hF hc hs
  exact lv_imul ok.1 ok.2.1 hd (kk.2 E mc ms p l e R s m args below meth c Z ok H locs cells slots ls hl hH hF hc hs)
theorem aw_iand {x y : Int32} (hd : decode M.2.1 pc = .ok (.iand, 1)) (kk : AW sc M d (pc + 1) L (.int (x &&& y) :: st) h r h') : AW sc M d pc L (.int y :: .int x :: st) h r h' := by
  refine ⟨kk.1, ?_⟩
  intro E mc ms p l e R s m args below meth c Z ok H locs cells slots ls hl hH hF hc hs
  exact lv_iand ok.1 ok.2.1 hd (kk.2 E mc ms p l e R s m args below meth c Z ok H locs cells slots ls hl hH hF hc hs)
theorem aw_ior {x y : Int32} (hd : decode M.2.1 pc = .ok (.ior, 1)) (kk : AW sc M d (pc + 1) L (.int (x ||| y) :: st) h r h') : AW sc M d pc L (.int y :: .int x :: st) h r h' := by
  refine ⟨kk.1, ?_⟩
  intro E mc ms p l e R s m args below meth c Z ok H locs cells slots ls hl hH hF hc hs
  exact lv_ior ok.1 ok.2.1 hd (kk.2 E mc ms p l e R s m args below meth c Z ok H locs cells slots ls hl hH hF hc hs)
theorem aw_ixor {x y : Int32} (hd : decode M.2.1 pc = .ok (.ixor, 1)) (kk : AW sc M d (pc + 1) L (.int (x ^^^ y) :: st) h r h') : AW sc M d pc L (.int y :: .int x :: st) h r h' := by
  refine ⟨kk.1, ?_⟩
  intro E mc ms p l e R s m args below meth c Z ok H locs cells slots ls hl hH hF hc hs
  exact lv_ixor ok.1 ok.2.1 hd (kk.2 E mc ms p l e R s m args below meth c Z ok H locs cells slots ls hl hH hF hc hs)
theorem aw_ishl {x y : Int32} (hd : decode M.2.1 pc = .ok (.ishl, 1)) (kk : AW sc M d (pc + 1) L (.int (x <<< (y &&& 31)) :: st) h r h') : AW sc M d pc L (.int y :: .int x :: st) h r h' := by
  refine ⟨kk.1, ?_⟩
  intro E mc ms p l e R s m args below meth c Z ok H locs cells slots ls hl hH hF hc hs
  exact lv_ishl ok.1 ok.2.1 hd (kk.2 E mc ms p l e R s m args below meth c Z ok H locs cells slots ls hl hH hF hc hs)
theorem aw_ishr {x y : Int32} (hd : decode M.2.1 pc = .ok (.ishr, 1)) (kk : AW sc M d (pc + 1) L (.int (x >>> (y &&& 31)) :: st) h r h') : AW sc M d pc L (.int y :: .int x :: st) h r h' := by
  refine ⟨kk.1, ?_⟩
  intro E mc ms p l e R s m args below meth c Z ok H locs cells slots ls hl hH hF hc hs
  exact lv_ishr ok.1 ok.2.1 hd (kk.2 E mc ms p l e R s m args below meth c Z ok H locs cells slots ls hl hH hF hc hs)
theorem aw_ladd {x y : Int64} (hd : decode M.2.1 pc = .ok (.ladd, 1)) (kk : AW sc M d (pc + 1) L (.long (x + y) :: st) h r h') : AW sc M d pc L (.long y :: .long x :: st) h r h' := by
  refine ⟨kk.1, ?_⟩
  intro E mc ms p l e R s m args below meth c Z ok H locs cells slots ls hl hH hF hc hs
  exact lv_ladd ok.1 ok.2.1 hd (kk.2 E mc ms p l e R s m args below meth c Z ok H locs cells slots ls hl hH hF hc hs)
theorem aw_lsub {x y : Int64} (hd : decode M.2.1 pc = .ok (.lsub, 1)) (kk : AW sc M d (pc + 1) L (.long (x - y) :: st) h r h') : AW sc M d pc L (.long y :: .long x :: st) h r h' := by
  refine ⟨kk.1, ?_⟩
  intro E mc ms p l e R s m args below meth c Z ok H locs cells slots ls hl hH hF hc hs
  exact lv_lsub ok.1 ok.2.1 hd (kk.2 E mc ms p l e R s m args below meth c Z ok H locs cells slots ls hl hH hF hc hs)
theorem aw_lmul {x y : Int64} (hd : decode M.2.1 pc = .ok (.lmul, 1)) (kk : AW sc M d (pc + 1) L (.long (x * y) :: st) h r h') : AW sc M d pc L (.long y :: .long x :: st) h r h' := by
  refine ⟨kk.1, ?_⟩
  intro E mc ms p l e R s m args below meth c Z ok H locs cells slots ls hl hH hF hc hs
  exact lv_lmul ok.1 ok.2.1 hd (kk.2 E mc ms p l e R s m args below meth c Z ok H locs cells slots ls hl hH hF hc hs)
theorem aw_land {x y : Int64} (hd : decode M.2.1 pc = .ok (.land, 1)) (kk : AW sc M d (pc + 1) L (.long (x &&& y) :: st) h r h') : AW sc M d pc L (.long y :: .long x :: st) h r h' := by
  refine ⟨kk.1, ?_⟩
  intro E mc ms p l e R s m args below meth c Z ok H locs cells slots ls hl hH hF hc hs
  exact lv_land ok.1 ok.2.1 hd (kk.2 E mc ms p l e R s m args below meth c Z ok H locs cells slots ls hl hH hF hc hs)
theorem aw_lor {x y : Int64} (hd : decode M.2.1 pc = .ok (.lor, 1)) (kk : AW sc M d (pc + 1) L (.long (x ||| y) :: st) h r h') : AW sc M d pc L (.long y :: .long x :: st) h r h' := by
  refine ⟨kk.1, ?_⟩
  intro E mc ms p l e R s m args below meth c Z ok H locs cells slots ls hl hH hF hc hs
  exact lv_lor ok.1 ok.2.1 hd (kk.2 E mc ms p l e R s m args below meth c Z ok H locs cells slots ls hl hH hF hc hs)
theorem aw_lxor {x y : Int64} (hd : decode M.2.1 pc = .ok (.lxor, 1)) (kk : AW sc M d (pc + 1) L (.long (x ^^^ y) :: st) h r h') : AW sc M d pc L (.long y :: .long x :: st) h r h' := by
  refine ⟨kk.1, ?_⟩
  intro E mc ms p l e R s m args below meth c Z ok H locs cells slots ls hl hH hF hc hs
  exact lv_lxor ok.1 ok.2.1 hd (kk.2 E mc ms p l e R s m args below meth c Z ok H locs cells slots ls hl hH hF hc hs)
theorem aw_idiv {x y : Int32} (hd : decode M.2.1 pc = .ok (.idiv, 1)) (hne : ¬ y = 0) (kk : AW sc M d (pc + 1) L (.int (x / y) :: st) h r h') : AW sc M d pc L (.int y :: .int x :: st) h r h' := by
  refine ⟨kk.1, ?_⟩
  intro E mc ms p l e R s m args below meth c Z ok H locs cells slots ls hl hH hF hc hs
  exact lv_idiv ok.1 ok.2.1 hd hne (kk.2 E mc ms p l e R s m args below meth c Z ok H locs cells slots ls hl hH hF hc hs)
theorem aw_irem {x y : Int32} (hd : decode M.2.1 pc = .ok (.irem, 1)) (hne : ¬ y = 0) (kk : AW sc M d (pc + 1) L (.int (x - x / y * y) :: st) h r h') : AW sc M d pc L (.int y :: .int x :: st) h r h' := by
  refine ⟨kk.1, ?_⟩
  intro E mc ms p l e R s m args below meth c Z ok H locs cells slots ls hl hH hF hc hs
  exact lv_irem ok.1 ok.2.1 hd hne (kk.2 E mc ms p l e R s m args below meth c Z ok H locs cells slots ls hl hH hF hc hs)
theorem aw_ldiv {x y : Int64} (hd : decode M.2.1 pc = .ok (.ldiv, 1)) (hne : ¬ y = 0) (kk : AW sc M d (pc + 1) L (.long (x / y) :: st) h r h') : AW sc M d pc L (.long y :: .long x :: st) h r h' := by
  refine ⟨kk.1, ?_⟩
  intro E mc ms p l e R s m args below meth c Z ok H locs cells slots ls hl hH hF hc hs
  exact lv_ldiv ok.1 ok.2.1 hd hne (kk.2 E mc ms p l e R s m args below meth c Z ok H locs cells slots ls hl hH hF hc hs)
theorem aw_lrem {x y : Int64} (hd : decode M.2.1 pc = .ok (.lrem, 1)) (hne : ¬ y = 0) (kk : AW sc M d (pc + 1) L (.long (x - x / y * y) :: st) h r h') : AW sc M d pc L (.long y :: .long x :: st) h r h' := by
  refine ⟨kk.1, ?_⟩
  intro E mc ms p l e R s m args below meth c Z ok H locs cells slots ls hl hH hF hc hs
  exact lv_lrem ok.1 ok.2.1 hd hne (kk.2 E mc ms p l e R s m args below meth c Z ok H locs cells slots ls hl hH hF hc hs)
theorem aw_ineg {x : Int32} (hd : decode M.2.1 pc = .ok (.ineg, 1)) (kk : AW sc M d (pc + 1) L (.int (-x) :: st) h r h') : AW sc M d pc L (.int x :: st) h r h' := by
  refine ⟨kk.1, ?_⟩
  intro E mc ms p l e R s m args below meth c Z ok H locs cells slots ls hl hH hF hc hs
  exact lv_ineg ok.1 ok.2.1 hd (kk.2 E mc ms p l e R s m args below meth c Z ok H locs cells slots ls hl hH hF hc hs)
theorem aw_lneg {x : Int64} (hd : decode M.2.1 pc = .ok (.lneg, 1)) (kk : AW sc M d (pc + 1) L (.long (-x) :: st) h r h') : AW sc M d pc L (.long x :: st) h r h' := by
  refine ⟨kk.1, ?_⟩
  intro E mc ms p l e R s m args below meth c Z ok H locs cells slots ls hl hH hF hc hs
  exact lv_lneg ok.1 ok.2.1 hd (kk.2 E mc ms p l e R s m args below meth c Z ok H locs cells slots ls hl hH hF hc hs)
theorem aw_i2l {x : Int32} (hd : decode M.2.1 pc = .ok (.i2l, 1)) (kk : AW sc M d (pc + 1) L (.long x.toInt64 :: st) h r h') : AW sc M d pc L (.int x :: st) h r h' := by
  refine ⟨kk.1, ?_⟩
  intro E mc ms p l e R s m args below meth c Z ok H locs cells slots ls hl hH hF hc hs
  exact lv_i2l ok.1 ok.2.1 hd rfl (kk.2 E mc ms p l e R s m args below meth c Z ok H locs cells slots ls hl hH hF hc hs)
theorem aw_l2i {x : Int64} (hd : decode M.2.1 pc = .ok (.l2i, 1)) (kk : AW sc M d (pc + 1) L (.int x.toInt32 :: st) h r h') : AW sc M d pc L (.long x :: st) h r h' := by
  refine ⟨kk.1, ?_⟩
  intro E mc ms p l e R s m args below meth c Z ok H locs cells slots ls hl hH hF hc hs
  exact lv_l2i ok.1 ok.2.1 hd rfl (kk.2 E mc ms p l e R s m args below meth c Z ok H locs cells slots ls hl hH hF hc hs)
theorem aw_iushr {x y : Int32} (hd : decode M.2.1 pc = .ok (.iushr, 1)) (kk : AW sc M d (pc + 1) L (.int (x.toUInt32 >>> (y.toUInt32 &&& Int32.toUInt32 31)).toInt32 :: st) h r h') : AW sc M d pc L (.int y :: .int x :: st) h r h' := by
  refine ⟨kk.1, ?_⟩
  intro E mc ms p l e R s m args below meth c Z ok H locs cells slots ls hl hH hF hc hs
  exact lv_iushr ok.1 ok.2.1 hd rfl (kk.2 E mc ms p l e R s m args below meth c Z ok H locs cells slots ls hl hH hF hc hs)
theorem aw_lushr {x : Int64} {y : Int32} (hd : decode M.2.1 pc = .ok (.lushr, 1)) (kk : AW sc M d (pc + 1) L (.long (x.toUInt64 >>> (y.toInt64.toUInt64 &&& Int64.toUInt64 63)).toInt64 :: st) h r h') : AW sc M d pc L (.int y :: .long x :: st) h r h' := by
  refine ⟨kk.1, ?_⟩
  intro E mc ms p l e R s m args below meth c Z ok H locs cells slots ls hl hH hF hc hs
  exact lv_lushr ok.1 ok.2.1 hd rfl (kk.2 E mc ms p l e R s m args below meth c Z ok H locs cells slots ls hl hH hF hc hs)
theorem aw_lshl {x : Int64} {y : Int32} (hd : decode M.2.1 pc = .ok (.lshl, 1)) (kk : AW sc M d (pc + 1) L (.long (x <<< (y.toInt64 &&& 63)) :: st) h r h') : AW sc M d pc L (.int y :: .long x :: st) h r h' := by
  refine ⟨kk.1, ?_⟩
  intro E mc ms p l e R s m args below meth c Z ok H locs cells slots ls hl hH hF hc hs
  exact lv_lshl ok.1 ok.2.1 hd rfl (kk.2 E mc ms p l e R s m args below meth c Z ok H locs cells slots ls hl hH hF hc hs)
theorem aw_lshr {x : Int64} {y : Int32} (hd : decode M.2.1 pc = .ok (.lshr, 1)) (kk : AW sc M d (pc + 1) L (.long (x >>> (y.toInt64 &&& 63)) :: st) h r h') : AW sc M d pc L (.int y :: .long x :: st) h r h' := by
  refine ⟨kk.1, ?_⟩
  intro E mc ms p l e R s m args below meth c Z ok H locs cells slots ls hl hH hF hc hs
  exact lv_lshr ok.1 ok.2.1 hd rfl (kk.2 E mc ms p l e R s m args below meth c Z ok H locs cells slots ls hl hH hF hc hs)
theorem aw_iconst {n : Int} (v : Int32) (hd : decode M.2.1 pc = .ok (.iconst n, 1)) (hv : Int32.ofInt n = v) (kk : AW sc M d (pc + 1) L (.int v :: st) h r h') : AW sc M d pc L (st) h r h' := by
  refine ⟨kk.1, ?_⟩
  intro E mc ms p l e R s m args below meth c Z ok H locs cells slots ls hl hH hF hc hs
  exact lv_iconst ok.1 ok.2.1 hd hv (kk.2 E mc ms p l e R s m args below meth c Z ok H locs cells slots ls hl hH hF hc hs)
theorem aw_bipush {n : Int} (v : Int32) (hd : decode M.2.1 pc = .ok (.bipush n, 2)) (hv : (Int8.ofInt n).toInt32 = v) (kk : AW sc M d (pc + 2) L (.int v :: st) h r h') : AW sc M d pc L (st) h r h' := by
  refine ⟨kk.1, ?_⟩
  intro E mc ms p l e R s m args below meth c Z ok H locs cells slots ls hl hH hF hc hs
  exact lv_bipush ok.1 ok.2.1 hd hv (kk.2 E mc ms p l e R s m args below meth c Z ok H locs cells slots ls hl hH hF hc hs)
theorem aw_sipush {n : Int} (v : Int32) (hd : decode M.2.1 pc = .ok (.sipush n, 3)) (hv : (Int16.ofInt n).toInt32 = v) (kk : AW sc M d (pc + 3) L (.int v :: st) h r h') : AW sc M d pc L (st) h r h' := by
  refine ⟨kk.1, ?_⟩
  intro E mc ms p l e R s m args below meth c Z ok H locs cells slots ls hl hH hF hc hs
  exact lv_sipush ok.1 ok.2.1 hd hv (kk.2 E mc ms p l e R s m args below meth c Z ok H locs cells slots ls hl hH hF hc hs)
theorem aw_lconst {n : Fin 2} (v : Int64) (hd : decode M.2.1 pc = .ok (.lconst n, 1)) (hv : Int64.ofNat (n : Nat) = v) (kk : AW sc M d (pc + 1) L (.long v :: st) h r h') : AW sc M d pc L (st) h r h' := by
  refine ⟨kk.1, ?_⟩
  intro E mc ms p l e R s m args below meth c Z ok H locs cells slots ls hl hH hF hc hs
  exact lv_lconst ok.1 ok.2.1 hd hv (kk.2 E mc ms p l e R s m args below meth c Z ok H locs cells slots ls hl hH hF hc hs)
theorem aw_ldc {idx : Nat} (v : Int32) (hd : decode M.2.1 pc = .ok (.ldc idx, 2)) (hw : Cond.constant M.1.cls idx v ∈ am_T) (kk : AW sc M d (pc + 2) L (.int v :: st) h r h') : AW sc M d pc L (st) h r h' := by
  refine ⟨kk.1, ?_⟩
  intro E mc ms p l e R s m args below meth c Z ok H locs cells slots ls hl hH hF hc hs
  exact lv_ldc ok.1 ok.2.1 ok.2.2.2.1 (ok.2.2.2.2.2.1 _ hw) hd (kk.2 E mc ms p l e R s m args below meth c Z ok H locs cells slots ls hl hH hF hc hs)
theorem aw_ldc2 {idx : Nat} (v : Int64) (hd : decode M.2.1 pc = .ok (.ldc2_w idx, 3)) (hw : Cond.constantLong M.1.cls idx v ∈ am_T) (kk : AW sc M d (pc + 3) L (.long v :: st) h r h') : AW sc M d pc L (st) h r h' := by
  refine ⟨kk.1, ?_⟩
  intro E mc ms p l e R s m args below meth c Z ok H locs cells slots ls hl hH hF hc hs
  exact lv_ldc2 ok.1 ok.2.1 ok.2.2.2.1 (ok.2.2.2.2.2.1 _ hw) hd (kk.2 E mc ms p l e R s m args below meth c Z ok H locs cells slots ls hl hH hF hc hs)
theorem aw_iload_n {k : Fin 4} {x : Int32} (i : Nat) (hd : decode M.2.1 pc = .ok (.iload_n k, 1)) (hi : (k : Nat) = i) (hL : L[i]? = some (some (.int x))) (kk : AW sc M d (pc + 1) L (.int x :: st) h r h') : AW sc M d pc L (st) h r h' := by
  refine ⟨kk.1, ?_⟩
  intro E mc ms p l e R s m args below meth c Z ok H locs cells slots ls hl hH hF hc hs
  exact lv_iload_n ok.1 ok.2.1 hd hi (hl.2.2.2 i _ hL) (kk.2 E mc ms p l e R s m args below meth c Z ok H locs cells slots ls hl hH hF hc hs)
theorem aw_iload {i : Nat} {x : Int32} (hd : decode M.2.1 pc = .ok (.iload i, 2)) (hL : L[i]? = some (some (.int x))) (kk : AW sc M d (pc + 2) L (.int x :: st) h r h') : AW sc M d pc L (st) h r h' := by
  refine ⟨kk.1, ?_⟩
  intro E mc ms p l e R s m args below meth c Z ok H locs cells slots ls hl hH hF hc hs
  exact lv_iload ok.1 ok.2.1 hd (hl.2.2.2 i _ hL) (kk.2 E mc ms p l e R s m args below meth c Z ok H locs cells slots ls hl hH hF hc hs)
theorem aw_lload_n {k : Fin 4} {x : Int64} (i : Nat) (hd : decode M.2.1 pc = .ok (.lload_n k, 1)) (hi : (k : Nat) = i) (hL : L[i]? = some (some (.long x))) (kk : AW sc M d (pc + 1) L (.long x :: st) h r h') : AW sc M d pc L (st) h r h' := by
  refine ⟨kk.1, ?_⟩
  intro E mc ms p l e R s m args below meth c Z ok H locs cells slots ls hl hH hF hc hs
  exact lv_lload_n ok.1 ok.2.1 hd hi (hl.2.2.2 i _ hL) (kk.2 E mc ms p l e R s m args below meth c Z ok H locs cells slots ls hl hH hF hc hs)
theorem aw_lload {i : Nat} {x : Int64} (hd : decode M.2.1 pc = .ok (.lload i, 2)) (hL : L[i]? = some (some (.long x))) (kk : AW sc M d (pc + 2) L (.long x :: st) h r h') : AW sc M d pc L (st) h r h' := by
  refine ⟨kk.1, ?_⟩
  intro E mc ms p l e R s m args below meth c Z ok H locs cells slots ls hl hH hF hc hs
  exact lv_lload ok.1 ok.2.1 hd (hl.2.2.2 i _ hL) (kk.2 E mc ms p l e R s m args below meth c Z ok H locs cells slots ls hl hH hF hc hs)
theorem aw_aload_n {k : Fin 4} {x : Nat} (i : Nat) (hd : decode M.2.1 pc = .ok (.aload_n k, 1)) (hi : (k : Nat) = i) (hL : L[i]? = some (some (.ref x))) (kk : AW sc M d (pc + 1) L (.ref x :: st) h r h') : AW sc M d pc L (st) h r h' := by
  refine ⟨kk.1, ?_⟩
  intro E mc ms p l e R s m args below meth c Z ok H locs cells slots ls hl hH hF hc hs
  exact lv_aload_n ok.1 ok.2.1 hd hi (hl.2.2.2 i _ hL) (kk.2 E mc ms p l e R s m args below meth c Z ok H locs cells slots ls hl hH hF hc hs)
theorem aw_aload {i : Nat} {x : Nat} (hd : decode M.2.1 pc = .ok (.aload i, 2)) (hL : L[i]? = some (some (.ref x))) (kk : AW sc M d (pc + 2) L (.ref x :: st) h r h') : AW sc M d pc L (st) h r h' := by
  refine ⟨kk.1, ?_⟩
  intro E mc ms p l e R s m args below meth c Z ok H locs cells slots ls hl hH hF hc hs
  exact lv_aload ok.1 ok.2.1 hd (hl.2.2.2 i _ hL) (kk.2 E mc ms p l e R s m args below meth c Z ok H locs cells slots ls hl hH hF hc hs)
theorem aw_istore_n {k : Fin 4} {x : Int32} (i : Nat) (hd : decode M.2.1 pc = .ok (.istore_n k, 1)) (hi : (k : Nat) = i) (hn : Nat.ble (i + 1) M.2.2.1 = true) (low : am_low L i = true) (kk : AW sc M d (pc + 1) (L.set i (some (.int x))) (st) h r h') : AW sc M d pc L (.int x :: st) h r h' := by
  refine ⟨kk.1, ?_⟩
  intro E mc ms p l e R s m args below meth c Z ok H locs cells slots ls hl hH hF hc hs
  exact lv_istore_n ok.1 ok.2.1 hd hi hl.has (Nat.le_of_ble_eq_true hn) rfl (fun ls' hl' => kk.2 E mc ms p l e R s m args below meth c Z ok H locs cells slots ls' (am_st1 (v := .int x) hl low hl') hH hF hc hs)
theorem aw_istore {i : Nat} {x : Int32} (hd : decode M.2.1 pc = .ok (.istore i, 2)) (hn : Nat.ble (i + 1) M.2.2.1 = true) (low : am_low L i = true) (kk : AW sc M d (pc + 2) (L.set i (some (.int x))) (st) h r h') : AW sc M d pc L (.int x :: st) h r h' := by
  refine ⟨kk.1, ?_⟩
  intro E mc ms p l e R s m args below meth c Z ok H locs cells slots ls hl hH hF hc hs
  exact lv_istore ok.1 ok.2.1 hd hl.has (Nat.le_of_ble_eq_true hn) rfl (fun ls' hl' => kk.2 E mc ms p l e R s m args below meth c Z ok H locs cells slots ls' (am_st1 (v := .int x) hl low hl') hH hF hc hs)
theorem aw_lstore_n {k : Fin 4} {x : Int64} (i : Nat) (hd : decode M.2.1 pc = .ok (.lstore_n k, 1)) (hi : (k : Nat) = i) (hn : Nat.ble (i + 2) M.2.2.1 = true) (low : am_low L i = true) (kk : AW sc M d (pc + 1) ((L.set i (some (.long x))).set (i + 1) none) (st) h r h') : AW sc M d pc L (.long x :: st) h r h' := by
  refine ⟨kk.1, ?_⟩
  intro E mc ms p l e R s m args below meth c Z ok H locs cells slots ls hl hH hF hc hs
  exact lv_lstore_n ok.1 ok.2.1 hd hi hl.has (Nat.le_of_ble_eq_true hn) rfl (fun ls' hl' => kk.2 E mc ms p l e R s m args below meth c Z ok H locs cells slots ls' (am_st2 (v := .long x) hl low hl') hH hF hc hs)
theorem aw_lstore {i : Nat} {x : Int64} (hd : decode M.2.1 pc = .ok (.lstore i, 2)) (hn : Nat.ble (i + 2) M.2.2.1 = true) (low : am_low L i = true) (kk : AW sc M d (pc + 2) ((L.set i (some (.long x))).set (i + 1) none) (st) h r h') : AW sc M d pc L (.long x :: st) h r h' := by
  refine ⟨kk.1, ?_⟩
  intro E mc ms p l e R s m args below meth c Z ok H locs cells slots ls hl hH hF hc hs
  exact lv_lstore ok.1 ok.2.1 hd hl.has (Nat.le_of_ble_eq_true hn) rfl (fun ls' hl' => kk.2 E mc ms p l e R s m args below meth c Z ok H locs cells slots ls' (am_st2 (v := .long x) hl low hl') hH hF hc hs)
theorem aw_astore_n {k : Fin 4} {x : Nat} (i : Nat) (hd : decode M.2.1 pc = .ok (.astore_n k, 1)) (hi : (k : Nat) = i) (hn : Nat.ble (i + 1) M.2.2.1 = true) (low : am_low L i = true) (kk : AW sc M d (pc + 1) (L.set i (some (.ref x))) (st) h r h') : AW sc M d pc L (.ref x :: st) h r h' := by
  refine ⟨kk.1, ?_⟩
  intro E mc ms p l e R s m args below meth c Z ok H locs cells slots ls hl hH hF hc hs
  exact lv_astore_n ok.1 ok.2.1 hd hi hl.has (Nat.le_of_ble_eq_true hn) rfl (fun ls' hl' => kk.2 E mc ms p l e R s m args below meth c Z ok H locs cells slots ls' (am_st1 (v := .ref x) hl low hl') hH hF hc hs)
theorem aw_astore {i : Nat} {x : Nat} (hd : decode M.2.1 pc = .ok (.astore i, 2)) (hn : Nat.ble (i + 1) M.2.2.1 = true) (low : am_low L i = true) (kk : AW sc M d (pc + 2) (L.set i (some (.ref x))) (st) h r h') : AW sc M d pc L (.ref x :: st) h r h' := by
  refine ⟨kk.1, ?_⟩
  intro E mc ms p l e R s m args below meth c Z ok H locs cells slots ls hl hH hF hc hs
  exact lv_astore ok.1 ok.2.1 hd hl.has (Nat.le_of_ble_eq_true hn) rfl (fun ls' hl' => kk.2 E mc ms p l e R s m args below meth c Z ok H locs cells slots ls' (am_st1 (v := .ref x) hl low hl') hH hF hc hs)
theorem aw_iinc {i : Nat} {n : Int} {x : Int32} (v : Int32) (hd : decode M.2.1 pc = .ok (.iinc i n, 3)) (hL : L[i]? = some (some (.int x))) (hv : x + Int32.ofInt n = v) (hn : Nat.ble (i + 1) M.2.2.1 = true) (low : am_low L i = true) (kk : AW sc M d (pc + 3) (L.set i (some (.int v))) st h r h') : AW sc M d pc L st h r h' := by
  refine ⟨kk.1, ?_⟩
  intro E mc ms p l e R s m args below meth c Z ok H locs cells slots ls hl hH hF hc hs
  obtain ⟨k, hk⟩ := List.getElem?_of_mem (am_pl_in (E := E) hL)
  exact lv_iinc ok.1 ok.2.1 hd hl.has hk hv (Nat.le_of_ble_eq_true hn) rfl (fun ls' hl' => kk.2 E mc ms p l e R s m args below meth c Z ok H locs cells slots ls' (am_st1 (v := .int v) hl low hl') hH hF hc hs)
theorem aw_dup {va : Value} (hd : decode M.2.1 pc = .ok (.dup, 1)) (c1 : va.category = 1) (kk : AW sc M d (pc + 1) L (va :: va :: st) h r h') : AW sc M d pc L (va :: st) h r h' := by
  refine ⟨kk.1, ?_⟩
  intro E mc ms p l e R s m args below meth c Z ok H locs cells slots ls hl hH hF hc hs
  exact lv_dup ok.1 ok.2.1 hd ((am_v_cat E va).trans c1) (kk.2 E mc ms p l e R s m args below meth c Z ok H locs cells slots ls hl hH hF hc hs)
theorem aw_pop {va : Value} (hd : decode M.2.1 pc = .ok (.pop, 1)) (c1 : va.category = 1) (kk : AW sc M d (pc + 1) L (st) h r h') : AW sc M d pc L (va :: st) h r h' := by
  refine ⟨kk.1, ?_⟩
  intro E mc ms p l e R s m args below meth c Z ok H locs cells slots ls hl hH hF hc hs
  exact lv_pop ok.1 ok.2.1 hd ((am_v_cat E va).trans c1) (kk.2 E mc ms p l e R s m args below meth c Z ok H locs cells slots ls hl hH hF hc hs)
theorem aw_dup_x1 {va vb : Value} (hd : decode M.2.1 pc = .ok (.dup_x1, 1)) (c1 : va.category = 1) (c2 : vb.category = 1) (kk : AW sc M d (pc + 1) L (va :: vb :: va :: st) h r h') : AW sc M d pc L (va :: vb :: st) h r h' := by
  refine ⟨kk.1, ?_⟩
  intro E mc ms p l e R s m args below meth c Z ok H locs cells slots ls hl hH hF hc hs
  exact lv_dup_x1 ok.1 ok.2.1 hd ((am_v_cat E va).trans c1) ((am_v_cat E vb).trans c2) (kk.2 E mc ms p l e R s m args below meth c Z ok H locs cells slots ls hl hH hF hc hs)
theorem aw_dup_x2 {va vb vd : Value} (hd : decode M.2.1 pc = .ok (.dup_x2, 1)) (c1 : va.category = 1) (c2 : vb.category = 1) (c3 : vd.category = 1) (kk : AW sc M d (pc + 1) L (va :: vb :: vd :: va :: st) h r h') : AW sc M d pc L (va :: vb :: vd :: st) h r h' := by
  refine ⟨kk.1, ?_⟩
  intro E mc ms p l e R s m args below meth c Z ok H locs cells slots ls hl hH hF hc hs
  exact lv_dup_x2 ok.1 ok.2.1 hd ((am_v_cat E va).trans c1) ((am_v_cat E vb).trans c2) ((am_v_cat E vd).trans c3) (kk.2 E mc ms p l e R s m args below meth c Z ok H locs cells slots ls hl hH hF hc hs)
theorem aw_dup2_11 {va vb : Value} (hd : decode M.2.1 pc = .ok (.dup2, 1)) (c1 : va.category = 1) (c2 : vb.category = 1) (kk : AW sc M d (pc + 1) L (va :: vb :: va :: vb :: st) h r h') : AW sc M d pc L (va :: vb :: st) h r h' := by
  refine ⟨kk.1, ?_⟩
  intro E mc ms p l e R s m args below meth c Z ok H locs cells slots ls hl hH hF hc hs
  exact lv_dup2_11 ok.1 ok.2.1 hd ((am_v_cat E va).trans c1) ((am_v_cat E vb).trans c2) (kk.2 E mc ms p l e R s m args below meth c Z ok H locs cells slots ls hl hH hF hc hs)
theorem aw_dup2_2 {va : Value} (hd : decode M.2.1 pc = .ok (.dup2, 1)) (c1 : va.category = 2) (kk : AW sc M d (pc + 1) L (va :: va :: st) h r h') : AW sc M d pc L (va :: st) h r h' := by
  refine ⟨kk.1, ?_⟩
  intro E mc ms p l e R s m args below meth c Z ok H locs cells slots ls hl hH hF hc hs
  exact lv_dup2_2 ok.1 ok.2.1 hd ((am_v_cat E va).trans c1) (kk.2 E mc ms p l e R s m args below meth c Z ok H locs cells slots ls hl hH hF hc hs)
theorem aw_pop2_2 {va : Value} (hd : decode M.2.1 pc = .ok (.pop2, 1)) (c1 : va.category = 2) (kk : AW sc M d (pc + 1) L (st) h r h') : AW sc M d pc L (va :: st) h r h' := by
  refine ⟨kk.1, ?_⟩
  intro E mc ms p l e R s m args below meth c Z ok H locs cells slots ls hl hH hF hc hs
  exact lv_pop2_2 ok.1 ok.2.1 hd ((am_v_cat E va).trans c1) (kk.2 E mc ms p l e R s m args below meth c Z ok H locs cells slots ls hl hH hF hc hs)
theorem aw_dup2_x1_2 {va vb : Value} (hd : decode M.2.1 pc = .ok (.dup2_x1, 1)) (c1 : va.category = 2) (c2 : vb.category = 1) (kk : AW sc M d (pc + 1) L (va :: vb :: va :: st) h r h') : AW sc M d pc L (va :: vb :: st) h r h' := by
  refine ⟨kk.1, ?_⟩
  intro E mc ms p l e R s m args below meth c Z ok H locs cells slots ls hl hH hF hc hs
  exact lv_dup2_x1_2 ok.1 ok.2.1 hd ((am_v_cat E va).trans c1) ((am_v_cat E vb).trans c2) (kk.2 E mc ms p l e R s m args below meth c Z ok H locs cells slots ls hl hH hF hc hs)
theorem aw_dup2_x2_2 {va vb vd : Value} (hd : decode M.2.1 pc = .ok (.dup2_x2, 1)) (c1 : va.category = 2) (c2 : vb.category = 1) (c3 : vd.category = 1) (kk : AW sc M d (pc + 1) L (va :: vb :: vd :: va :: st) h r h') : AW sc M d pc L (va :: vb :: vd :: st) h r h' := by
  refine ⟨kk.1, ?_⟩
  intro E mc ms p l e R s m args below meth c Z ok H locs cells slots ls hl hH hF hc hs
  exact lv_dup2_x2_2 ok.1 ok.2.1 hd ((am_v_cat E va).trans c1) ((am_v_cat E vb).trans c2) ((am_v_cat E vd).trans c3) (kk.2 E mc ms p l e R s m args below meth c Z ok H locs cells slots ls hl hH hF hc hs)
theorem aw_if_eq {x : Int32} {off : Int} (tgt : Nat) (hd : decode M.2.1 pc = .ok (.ifCond .eq off, 3)) (ht : (pc : Int) + off = (tgt : Int)) (kt : x = 0 → AW sc M d tgt L st h r h') (kf : ¬ x = 0 → AW sc M d (pc + 3) L st h r h') : AW sc M d pc L (.int x :: st) h r h' := by
  refine ⟨am_le.br (c := x = 0) (fun q => (kt q).1) (fun q => (kf q).1), ?_⟩
  intro E mc ms p l e R s m args below meth c Z ok H locs cells slots ls hl hH hF hc hs
  exact lv_if_eq ok.1 ok.2.1 hd ht (fun q => (kt q).2 E mc ms p l e R s m args below meth c Z ok H locs cells slots ls hl hH hF hc hs) (fun q => (kf q).2 E mc ms p l e R s m args below meth c Z ok H locs cells slots ls hl hH hF hc hs)
theorem aw_icmp_eq {x y : Int32} {off : Int} (tgt : Nat) (hd : decode M.2.1 pc = .ok (.if_icmp .eq off, 3)) (ht : (pc : Int) + off = (tgt : Int)) (kt : x = y → AW sc M d tgt L st h r h') (kf : ¬ x = y → AW sc M d (pc + 3) L st h r h') : AW sc M d pc L (.int y :: .int x :: st) h r h' := by
  refine ⟨am_le.br (c := x = y) (fun q => (kt q).1) (fun q => (kf q).1), ?_⟩
  intro E mc ms p l e R s m args below meth c Z ok H locs cells slots ls hl hH hF hc hs
  exact lv_icmp_eq ok.1 ok.2.1 hd ht (fun q => (kt q).2 E mc ms p l e R s m args below meth c Z ok H locs cells slots ls hl hH hF hc hs) (fun q => (kf q).2 E mc ms p l e R s m args below meth c Z ok H locs cells slots ls hl hH hF hc hs)
theorem aw_if_ne {x : Int32} {off : Int} (tgt : Nat) (hd : decode M.2.1 pc = .ok (.ifCond .ne off, 3)) (ht : (pc : Int) + off = (tgt : Int)) (kt : ¬ x = 0 → AW sc M d tgt L st h r h') (kf : x = 0 → AW sc M d (pc + 3) L st h r h') : AW sc M d pc L (.int x :: st) h r h' := by
  refine ⟨am_le.br (c := x = 0) (fun q => (kf q).1) (fun q => (kt q).1), ?_⟩
  intro E mc ms p l e R s m args below meth c Z ok H locs cells slots ls hl hH hF hc hs
  exact lv_if_ne ok.1 ok.2.1 hd ht (fun q => (kt q).2 E mc ms p l e R s m args below meth c Z ok H locs cells slots ls hl hH hF hc hs) (fun q => (kf q).2 E mc ms p l e R s m args below meth c Z ok H locs cells slots ls hl hH hF hc hs)
theorem aw_icmp_ne {x y : Int32} {off : Int} (tgt : Nat) (hd : decode M.2.1 pc = .ok (.if_icmp .ne off, 3)) (ht : (pc : Int) + off = (tgt : Int)) (kt : ¬ x = y → AW sc M d tgt L st h r h') (kf : x = y → AW sc M d (pc + 3) L st h r h') : AW sc M d pc L (.int y :: .int x :: st) h r h' := by
  refine ⟨am_le.br (c := x = y) (fun q => (kf q).1) (fun q => (kt q).1), ?_⟩
  intro E mc ms p l e R s m args below meth c Z ok H locs cells slots ls hl hH hF hc hs
  exact lv_icmp_ne ok.1 ok.2.1 hd ht (fun q => (kt q).2 E mc ms p l e R s m args below meth c Z ok H locs cells slots ls hl hH hF hc hs) (fun q => (kf q).2 E mc ms p l e R s m args below meth c Z ok H locs cells slots ls hl hH hF hc hs)
theorem aw_if_lt {x : Int32} {off : Int} (tgt : Nat) (hd : decode M.2.1 pc = .ok (.ifCond .lt off, 3)) (ht : (pc : Int) + off = (tgt : Int)) (kt : x < 0 → AW sc M d tgt L st h r h') (kf : ¬ x < 0 → AW sc M d (pc + 3) L st h r h') : AW sc M d pc L (.int x :: st) h r h' := by
  refine ⟨am_le.br (c := x < 0) (fun q => (kt q).1) (fun q => (kf q).1), ?_⟩
  intro E mc ms p l e R s m args below meth c Z ok H locs cells slots ls hl hH hF hc hs
  exact lv_if_lt ok.1 ok.2.1 hd ht (fun q => (kt q).2 E mc ms p l e R s m args below meth c Z ok H locs cells slots ls hl hH hF hc hs) (fun q => (kf q).2 E mc ms p l e R s m args below meth c Z ok H locs cells slots ls hl hH hF hc hs)
theorem aw_icmp_lt {x y : Int32} {off : Int} (tgt : Nat) (hd : decode M.2.1 pc = .ok (.if_icmp .lt off, 3)) (ht : (pc : Int) + off = (tgt : Int)) (kt : x < y → AW sc M d tgt L st h r h') (kf : ¬ x < y → AW sc M d (pc + 3) L st h r h') : AW sc M d pc L (.int y :: .int x :: st) h r h' := by
  refine ⟨am_le.br (c := x < y) (fun q => (kt q).1) (fun q => (kf q).1), ?_⟩
  intro E mc ms p l e R s m args below meth c Z ok H locs cells slots ls hl hH hF hc hs
  exact lv_icmp_lt ok.1 ok.2.1 hd ht (fun q => (kt q).2 E mc ms p l e R s m args below meth c Z ok H locs cells slots ls hl hH hF hc hs) (fun q => (kf q).2 E mc ms p l e R s m args below meth c Z ok H locs cells slots ls hl hH hF hc hs)
theorem aw_if_ge {x : Int32} {off : Int} (tgt : Nat) (hd : decode M.2.1 pc = .ok (.ifCond .ge off, 3)) (ht : (pc : Int) + off = (tgt : Int)) (kt : 0 ≤ x → AW sc M d tgt L st h r h') (kf : ¬ 0 ≤ x → AW sc M d (pc + 3) L st h r h') : AW sc M d pc L (.int x :: st) h r h' := by
  refine ⟨am_le.br (c := 0 ≤ x) (fun q => (kt q).1) (fun q => (kf q).1), ?_⟩
  intro E mc ms p l e R s m args below meth c Z ok H locs cells slots ls hl hH hF hc hs
  exact lv_if_ge ok.1 ok.2.1 hd ht (fun q => (kt q).2 E mc ms p l e R s m args below meth c Z ok H locs cells slots ls hl hH hF hc hs) (fun q => (kf q).2 E mc ms p l e R s m args below meth c Z ok H locs cells slots ls hl hH hF hc hs)
theorem aw_icmp_ge {x y : Int32} {off : Int} (tgt : Nat) (hd : decode M.2.1 pc = .ok (.if_icmp .ge off, 3)) (ht : (pc : Int) + off = (tgt : Int)) (kt : y ≤ x → AW sc M d tgt L st h r h') (kf : ¬ y ≤ x → AW sc M d (pc + 3) L st h r h') : AW sc M d pc L (.int y :: .int x :: st) h r h' := by
  refine ⟨am_le.br (c := y ≤ x) (fun q => (kt q).1) (fun q => (kf q).1), ?_⟩
  intro E mc ms p l e R s m args below meth c Z ok H locs cells slots ls hl hH hF hc hs
  exact lv_icmp_ge ok.1 ok.2.1 hd ht (fun q => (kt q).2 E mc ms p l e R s m args below meth c Z ok H locs cells slots ls hl hH hF hc hs) (fun q => (kf q).2 E mc ms p l e R s m args below meth c Z ok H locs cells slots ls hl hH hF hc hs)
theorem aw_if_gt {x : Int32} {off : Int} (tgt : Nat) (hd : decode M.2.1 pc = .ok (.ifCond .gt off, 3)) (ht : (pc : Int) + off = (tgt : Int)) (kt : 0 < x → AW sc M d tgt L st h r h') (kf : ¬ 0 < x → AW sc M d (pc + 3) L st h r h') : AW sc M d pc L (.int x :: st) h r h' := by
  refine ⟨am_le.br (c := 0 < x) (fun q => (kt q).1) (fun q => (kf q).1), ?_⟩
  intro E mc ms p l e R s m args below meth c Z ok H locs cells slots ls hl hH hF hc hs
  exact lv_if_gt ok.1 ok.2.1 hd ht (fun q => (kt q).2 E mc ms p l e R s m args below meth c Z ok H locs cells slots ls hl hH hF hc hs) (fun q => (kf q).2 E mc ms p l e R s m args below meth c Z ok H locs cells slots ls hl hH hF hc hs)
theorem aw_icmp_gt {x y : Int32} {off : Int} (tgt : Nat) (hd : decode M.2.1 pc = .ok (.if_icmp .gt off, 3)) (ht : (pc : Int) + off = (tgt : Int)) (kt : y < x → AW sc M d tgt L st h r h') (kf : ¬ y < x → AW sc M d (pc + 3) L st h r h') : AW sc M d pc L (.int y :: .int x :: st) h r h' := by
  refine ⟨am_le.br (c := y < x) (fun q => (kt q).1) (fun q => (kf q).1), ?_⟩
  intro E mc ms p l e R s m args below meth c Z ok H locs cells slots ls hl hH hF hc hs
  exact lv_icmp_gt ok.1 ok.2.1 hd ht (fun q => (kt q).2 E mc ms p l e R s m args below meth c Z ok H locs cells slots ls hl hH hF hc hs) (fun q => (kf q).2 E mc ms p l e R s m args below meth c Z ok H locs cells slots ls hl hH hF hc hs)
theorem aw_if_le {x : Int32} {off : Int} (tgt : Nat) (hd : decode M.2.1 pc = .ok (.ifCond .le off, 3)) (ht : (pc : Int) + off = (tgt : Int)) (kt : x ≤ 0 → AW sc M d tgt L st h r h') (kf : ¬ x ≤ 0 → AW sc M d (pc + 3) L st h r h') : AW sc M d pc L (.int x :: st) h r h' := by
  refine ⟨am_le.br (c := x ≤ 0) (fun q => (kt q).1) (fun q => (kf q).1), ?_⟩
  intro E mc ms p l e R s m args below meth c Z ok H locs cells slots ls hl hH hF hc hs
  exact lv_if_le ok.1 ok.2.1 hd ht (fun q => (kt q).2 E mc ms p l e R s m args below meth c Z ok H locs cells slots ls hl hH hF hc hs) (fun q => (kf q).2 E mc ms p l e R s m args below meth c Z ok H locs cells slots ls hl hH hF hc hs)
theorem aw_icmp_le {x y : Int32} {off : Int} (tgt : Nat) (hd : decode M.2.1 pc = .ok (.if_icmp .le off, 3)) (ht : (pc : Int) + off = (tgt : Int)) (kt : x ≤ y → AW sc M d tgt L st h r h') (kf : ¬ x ≤ y → AW sc M d (pc + 3) L st h r h') : AW sc M d pc L (.int y :: .int x :: st) h r h' := by
  refine ⟨am_le.br (c := x ≤ y) (fun q => (kt q).1) (fun q => (kf q).1), ?_⟩
  intro E mc ms p l e R s m args below meth c Z ok H locs cells slots ls hl hH hF hc hs
  exact lv_icmp_le ok.1 ok.2.1 hd ht (fun q => (kt q).2 E mc ms p l e R s m args below meth c Z ok H locs cells slots ls hl hH hF hc hs) (fun q => (kf q).2 E mc ms p l e R s m args below meth c Z ok H locs cells slots ls hl hH hF hc hs)
theorem aw_lcmp_eq {x y : Int64} {off : Int} (tgt : Nat) (hd0 : decode M.2.1 pc = .ok (.lcmp, 1)) (hd : decode M.2.1 (pc + 1) = .ok (.ifCond .eq off, 3)) (ht : ((pc + 1 : Nat) : Int) + off = (tgt : Int)) (kt : x = y → AW sc M d tgt L st h r h') (kf : ¬ x = y → AW sc M d (pc + 4) L st h r h') : AW sc M d pc L (.long y :: .long x :: st) h r h' := by
  refine ⟨am_le.br (c := x = y) (fun q => (kt q).1) (fun q => (kf q).1), ?_⟩
  intro E mc ms p l e R s m args below meth c Z ok H locs cells slots ls hl hH hF hc hs
  refine W.lcmp ok.1 ok.2.1 hd0 ?_
  exact lv_if_eq ok.1 ok.2.1 hd ht (fun q => (kt ((lg_cmp_eq x y).mp q)).2 E mc ms p l e R s m args below meth c Z ok H locs cells slots ls hl hH hF hc hs) (fun q => (kf (fun z => q ((lg_cmp_eq x y).mpr z))).2 E mc ms p l e R s m args below meth c Z ok H locs cells slots ls hl hH hF hc hs)
theorem aw_lcmp_ne {x y : Int64} {off : Int} (tgt : Nat) (hd0 : decode M.2.1 pc = .ok (.lcmp, 1)) (hd : decode M.2.1 (pc + 1) = .ok (.ifCond .ne off, 3)) (ht : ((pc + 1 : Nat) : Int) + off = (tgt : Int)) (kt : ¬ x = y → AW sc M d tgt L st h r h') (kf : x = y → AW sc M d (pc + 4) L st h r h') : AW sc M d pc L (.long y :: .long x :: st) h r h' := by
  refine ⟨am_le.br (c := x = y) (fun q => (kf q).1) (fun q => (kt q).1), ?_⟩
  intro E mc ms p l e R s m args below meth c Z ok H locs cells slots ls hl hH hF hc hs
  refine W.lcmp ok.1 ok.2.1 hd0 ?_
  exact lv_if_ne ok.1 ok.2.1 hd ht (fun q => (kt (fun z => q ((lg_cmp_eq x y).mpr z))).2 E mc ms p l e R s m args below meth c Z ok H locs cells slots ls hl hH hF hc hs) (fun q => (kf ((lg_cmp_eq x y).mp q)).2 E mc ms p l e R s m args below meth c Z ok H locs cells slots ls hl hH hF hc hs)
theorem aw_lcmp_lt {x y : Int64} {off : Int} (tgt : Nat) (hd0 : decode M.2.1 pc = .ok (.lcmp, 1)) (hd : decode M.2.1 (pc + 1) = .ok (.ifCond .lt off, 3)) (ht : ((pc + 1 : Nat) : Int) + off = (tgt : Int)) (kt : x < y → AW sc M d tgt L st h r h') (kf : ¬ x < y → AW sc M d (pc + 4) L st h r h') : AW sc M d pc L (.long y :: .long x :: st) h r h' := by
  refine ⟨am_le.br (c := x < y) (fun q => (kt q).1) (fun q => (kf q).1), ?_⟩
  intro E mc ms p l e R s m args below meth c Z ok H locs cells slots ls hl hH hF hc hs
  refine W.lcmp ok.1 ok.2.1 hd0 ?_
  exact lv_if_lt ok.1 ok.2.1 hd ht (fun q => (kt ((lg_cmp_lt x y).mp q)).2 E mc ms p l e R s m args below meth c Z ok H locs cells slots ls hl hH hF hc hs) (fun q => (kf (fun z => q ((lg_cmp_lt x y).mpr z))).2 E mc ms p l e R s m args below meth c Z ok H locs cells slots ls hl hH hF hc hs)
theorem aw_lcmp_ge {x y : Int64} {off : Int} (tgt : Nat) (hd0 : decode M.2.1 pc = .ok (.lcmp, 1)) (hd : decode M.2.1 (pc + 1) = .ok (.ifCond .ge off, 3)) (ht : ((pc + 1 : Nat) : Int) + off = (tgt : Int)) (kt : y ≤ x → AW sc M d tgt L st h r h') (kf : ¬ y ≤ x → AW sc M d (pc + 4) L st h r h') : AW sc M d pc L (.long y :: .long x :: st) h r h' := by
  refine ⟨am_le.br (c := y ≤ x) (fun q => (kt q).1) (fun q => (kf q).1), ?_⟩
  intro E mc ms p l e R s m args below meth c Z ok H locs cells slots ls hl hH hF hc hs
  refine W.lcmp ok.1 ok.2.1 hd0 ?_
  exact lv_if_ge ok.1 ok.2.1 hd ht (fun q => (kt ((lg_cmp_ge x y).mp q)).2 E mc ms p l e R s m args below meth c Z ok H locs cells slots ls hl hH hF hc hs) (fun q => (kf (fun z => q ((lg_cmp_ge x y).mpr z))).2 E mc ms p l e R s m args below meth c Z ok H locs cells slots ls hl hH hF hc hs)
theorem aw_lcmp_gt {x y : Int64} {off : Int} (tgt : Nat) (hd0 : decode M.2.1 pc = .ok (.lcmp, 1)) (hd : decode M.2.1 (pc + 1) = .ok (.ifCond .gt off, 3)) (ht : ((pc + 1 : Nat) : Int) + off = (tgt : Int)) (kt : y < x → AW sc M d tgt L st h r h') (kf : ¬ y < x → AW sc M d (pc + 4) L st h r h') : AW sc M d pc L (.long y :: .long x :: st) h r h' := by
  refine ⟨am_le.br (c := y < x) (fun q => (kt q).1) (fun q => (kf q).1), ?_⟩
  intro E mc ms p l e R s m args below meth c Z ok H locs cells slots ls hl hH hF hc hs
  refine W.lcmp ok.1 ok.2.1 hd0 ?_
  exact lv_if_gt ok.1 ok.2.1 hd ht (fun q => (kt ((lg_cmp_gt x y).mp q)).2 E mc ms p l e R s m args below meth c Z ok H locs cells slots ls hl hH hF hc hs) (fun q => (kf (fun z => q ((lg_cmp_gt x y).mpr z))).2 E mc ms p l e R s m args below meth c Z ok H locs cells slots ls hl hH hF hc hs)
theorem aw_lcmp_le {x y : Int64} {off : Int} (tgt : Nat) (hd0 : decode M.2.1 pc = .ok (.lcmp, 1)) (hd : decode M.2.1 (pc + 1) = .ok (.ifCond .le off, 3)) (ht : ((pc + 1 : Nat) : Int) + off = (tgt : Int)) (kt : x ≤ y → AW sc M d tgt L st h r h') (kf : ¬ x ≤ y → AW sc M d (pc + 4) L st h r h') : AW sc M d pc L (.long y :: .long x :: st) h r h' := by
  refine ⟨am_le.br (c := x ≤ y) (fun q => (kt q).1) (fun q => (kf q).1), ?_⟩
  intro E mc ms p l e R s m args below meth c Z ok H locs cells slots ls hl hH hF hc hs
  refine W.lcmp ok.1 ok.2.1 hd0 ?_
  exact lv_if_le ok.1 ok.2.1 hd ht (fun q => (kt ((lg_cmp_le x y).mp q)).2 E mc ms p l e R s m args below meth c Z ok H locs cells slots ls hl hH hF hc hs) (fun q => (kf (fun z => q ((lg_cmp_le x y).mpr z))).2 E mc ms p l e R s m args below meth c Z ok H locs cells slots ls hl hH hF hc hs)
theorem aw_lcmp {x y : Int64} (hd : decode M.2.1 pc = .ok (.lcmp, 1)) (kk : AW sc M d (pc + 1) L (.int (lg_cmp x y) :: st) h r h') : AW sc M d pc L (.long y :: .long x :: st) h r h' := by
  refine ⟨kk.1, ?_⟩
  intro E mc ms p l e R s m args below meth c Z ok H locs cells slots ls hl hH hF hc hs
  exact W.lcmp ok.1 ok.2.1 hd (kk.2 E mc ms p l e R s m args below meth c Z ok H locs cells slots ls hl hH hF hc hs)
theorem aw_goto {off : Int} (tgt : Nat) (hd : decode M.2.1 pc = .ok (.goto off, 3)) (ht : (pc : Int) + off = (tgt : Int)) (kk : AW sc M d tgt L st h r h') : AW sc M d pc L st h r h' := by
  refine ⟨kk.1, ?_⟩
  intro E mc ms p l e R s m args below meth c Z ok H locs cells slots ls hl hH hF hc hs
  exact lv_goto ok.1 ok.2.1 hd ht (kk.2 E mc ms p l e R s m args below meth c Z ok H locs cells slots ls hl hH hF hc hs)
theorem aw_tableIn {dflt lo hi : Int} {offs : Array Int} {len : Nat} {x : Int32} {off : Int} (tgt : Nat) (hd : decode M.2.1 pc = .ok (.tableswitch dflt lo hi offs, len)) (h1 : ¬ x.toInt < lo) (h2 : ¬ hi < x.toInt) (ho : offs[(x.toInt - lo).toNat]? = some off) (ht : (pc : Int) + off = (tgt : Int)) (kk : AW sc M d tgt L st h r h') : AW sc M d pc L (.int x :: st) h r h' := by
  refine ⟨kk.1, ?_⟩
  intro E mc ms p l e R s m args below meth c Z ok H locs cells slots ls hl hH hF hc hs
  exact lv_tableIn ok.1 ok.2.1 hd h1 h2 ho ht (kk.2 E mc ms p l e R s m args below meth c Z ok H locs cells slots ls hl hH hF hc hs)
theorem aw_tableOut {dflt lo hi : Int} {offs : Array Int} {len : Nat} {x : Int32} (tgt : Nat) (hd : decode M.2.1 pc = .ok (.tableswitch dflt lo hi offs, len)) (ho : x.toInt < lo ∨ hi < x.toInt) (ht : (pc : Int) + dflt = (tgt : Int)) (kk : AW sc M d tgt L st h r h') : AW sc M d pc L (.int x :: st) h r h' := by
  refine ⟨kk.1, ?_⟩
  intro E mc ms p l e R s m args below meth c Z ok H locs cells slots ls hl hH hF hc hs
  exact lv_tableOut ok.1 ok.2.1 hd ho ht (kk.2 E mc ms p l e R s m args below meth c Z ok H locs cells slots ls hl hH hF hc hs)
theorem aw_kill (ks : List Nat) (kk : AW sc M d pc (am_kill L ks) st h r h') : AW sc M d pc L st h r h' := by
  refine ⟨kk.1, ?_⟩
  intro E mc ms p l e R s m args below meth c Z ok H locs cells slots ls hl hH hF hc hs
  exact kk.2 E mc ms p l e R s m args below meth c Z ok H locs cells slots ls (hl.kill ks) hH hF hc hs
theorem aw_iret {v : Int32} (ty : FieldType) (hd : decode M.2.1 pc = .ok (.ireturn, 1)) (hty : M.2.2.2 = some ty) (hn : narrow ty (.int v) = .int v) (hr : r = some (.int v)) (hh : h' = h) : AW sc M d pc L [.int v] h r h' := by
  subst hr; subst hh
  refine ⟨am_le.rf _, ?_⟩
  intro E mc ms p l e R s m args below meth c Z ok H locs cells slots ls hl hH hF hc hs
  refine W.widen (by omega) (by omega) (ok.2.2.2.2.2.2.2.2.2 H locs pc ls hH hF ?_)
  exact ⟨ty, hty, hn, hd⟩
theorem aw_lret {v : Int64} (hd : decode M.2.1 pc = .ok (.lreturn, 1)) (hty : M.2.2.2 = some .long) (hr : r = some (.long v)) (hh : h' = h) : AW sc M d pc L [.long v] h r h' := by
  subst hr; subst hh
  refine ⟨am_le.rf _, ?_⟩
  intro E mc ms p l e R s m args below meth c Z ok H locs cells slots ls hl hH hF hc hs
  refine W.widen (by omega) (by omega) (ok.2.2.2.2.2.2.2.2.2 H locs pc ls hH hF ?_)
  exact ⟨hty, hd⟩
theorem aw_vret (hd : decode M.2.1 pc = .ok (.return_, 1)) (hty : M.2.2.2 = none) (hr : r = none) (hh : h' = h) : AW sc M d pc L [] h r h' := by
  subst hr; subst hh
  refine ⟨am_le.rf _, ?_⟩
  intro E mc ms p l e R s m args below meth c Z ok H locs cells slots ls hl hH hF hc hs
  refine W.widen (by omega) (by omega) (ok.2.2.2.2.2.2.2.2.2 H locs pc ls hH hF ?_)
  exact ⟨hty, hd⟩
end AMR
