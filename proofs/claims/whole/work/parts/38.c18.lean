/-! CONTRACTS 18: the reference: sets by their numbers, differ, savedBy, tell -/
/-- the set of a number: the first choice is its highest digit, and 0 says that it is in -/
def sat (D : ST) (n : Nat) : Nat → Nat
  | 0 => 0
  | i + 1 => if n / 2 ^ (x_nc D - 1 - i) % 2 = 0 then sat D n i ||| 2 ^ i else sat D n i
theorem sat_lt (D : ST) (n : Nat) : ∀ i, sat D n i < 2 ^ i
  | 0 => by simp [sat]
  | i + 1 => by
    have h := sat_lt D n i
    have h2 : 2 ^ i < 2 ^ (i + 1) := Nat.pow_lt_pow_right (by decide) (by omega)
    unfold sat
    split
    · exact or_lt (Nat.lt_trans h h2) h2
    · exact Nat.lt_trans h h2
theorem nI_or0 (a : Nat) : nI a ||| 0 = nI a := by rw [show (0 : Int32) = nI 0 from rfl, nI_or, Nat.or_zero]
theorem l_M_setAt (sc : am_S) (A : ST) (q : QS) (D : ST) (t : TS) (n : Nat) (b : bd D) (hn : n < 16384) : ∀ (nn i : Nat), x_nc D - i = nn → i ≤ x_nc D →  AW sc m_M_setAt 0 4 [some (.ref 50), some (.int (nI n)), some (.int (nI (sat D n i))), some (.int (nI i))] [] (hp A q D t) (some (.int (nI (sat D n (x_nc D))))) (hp A q D t) := by
  intro nn
  induction nn using Nat.strongRecOn with
  | _ nn ih =>
    intro i hnn hi
    have b3 := b.2.2.1
    refine aw_iload_n 3 q_M_setAt_4 rfl rfl ?_
    refine aw_aload_n 0 q_M_setAt_5 rfl rfl ?_
    refine aw_get 4 q_M_setAt_6 fl_M_84 rfl rfl ?_
    refine aw_icmp_ge 43 q_M_setAt_9 rfl (fun c9 => ?_) (fun c9 => ?_)
    · skip
      refine aw_iload_n 2 q_M_setAt_43 rfl rfl ?_
      exact aw_iret .int q_M_setAt_44 rfl rfl (by rw [show i = x_nc D from Nat.le_antisymm hi (nge_ge c9 (by omega) (by omega))]) rfl
    · skip
      have hlt : i < x_nc D := nge_lt c9 (by omega) (by omega)
      refine aw_iload_n 2 q_M_setAt_12 rfl rfl ?_
      refine aw_iload_n 1 q_M_setAt_13 rfl rfl ?_
      refine aw_aload_n 0 q_M_setAt_14 rfl rfl ?_
      refine aw_get 4 q_M_setAt_15 fl_M_84 rfl rfl ?_
      refine aw_iconst 1 q_M_setAt_18 rfl ?_
      refine aw_isub q_M_setAt_19 ?_
      refine aw_iload_n 3 q_M_setAt_20 rfl rfl ?_
      refine aw_isub q_M_setAt_21 ?_
      rw [show (1 : Int32) = nI 1 from rfl, pk_sub (by omega), pk_sub (by omega)]
      refine aw_ishr q_M_setAt_22 ?_
      refine aw_iconst 1 q_M_setAt_23 rfl ?_
      refine aw_iand q_M_setAt_24 ?_
      rw [bt_get (by omega) (by omega)]
      refine aw_if_ne 34 q_M_setAt_25 rfl (fun c25 => ?_) (fun c25 => ?_)
      · skip
        refine aw_iconst 0 q_M_setAt_34 rfl ?_
        refine aw_ior q_M_setAt_35 ?_
        refine aw_istore_n 2 q_M_setAt_36 rfl rfl rfl ?_
        first | refine aw_iinc _ q_M_setAt_37 rfl (am_inc _) rfl rfl ?_ | refine aw_iinc _ q_M_setAt_37 rfl rfl rfl rfl ?_
        refine aw_goto 4 q_M_setAt_40 rfl ?_
        first
          | (have h9 := nI_ne (b := 0) (by omega) (by omega) c25; have e9 : sat D n (i + 1) = sat D n i := by simp [sat, h9]
             rw [nI_or0, ← e9]; exact ih _ (by omega) (i + 1) rfl (by omega))
          | (have h9 := nI_eq' (b := 0) (by omega) (by omega) c25; have e9 : sat D n (i + 1) = sat D n i ||| 2 ^ i := by simp [sat, h9]
             rw [bt_one (by omega), nI_or, ← e9]; exact ih _ (by omega) (i + 1) rfl (by omega))
      · skip
        refine aw_iconst 1 q_M_setAt_28 rfl ?_
        refine aw_iload_n 3 q_M_setAt_29 rfl rfl ?_
        refine aw_ishl q_M_setAt_30 ?_
        refine aw_goto 35 q_M_setAt_31 rfl ?_
        refine aw_ior q_M_setAt_35 ?_
        refine aw_istore_n 2 q_M_setAt_36 rfl rfl rfl ?_
        first | refine aw_iinc _ q_M_setAt_37 rfl (am_inc _) rfl rfl ?_ | refine aw_iinc _ q_M_setAt_37 rfl rfl rfl rfl ?_
        refine aw_goto 4 q_M_setAt_40 rfl ?_
        first
          | (have h9 := nI_ne (b := 0) (by omega) (by omega) c25; have e9 : sat D n (i + 1) = sat D n i := by simp [sat, h9]
             rw [nI_or0, ← e9]; exact ih _ (by omega) (i + 1) rfl (by omega))
          | (have h9 := nI_eq' (b := 0) (by omega) (by omega) c25; have e9 : sat D n (i + 1) = sat D n i ||| 2 ^ i := by simp [sat, h9]
             rw [bt_one (by omega), nI_or, ← e9]; exact ih _ (by omega) (i + 1) rfl (by omega))
theorem c_M_setAt (sc : am_S) (A : ST) (q : QS) (D : ST) (t : TS) (n : Nat) (b : bd D) (hn : n < 16384) : AM sc m_M_setAt 0 [.ref 50, .int (nI n)] (hp A q D t) (some (.int (nI (sat D n (x_nc D))))) (hp A q D t) := by
  refine AM.of (by decide) (Nat.le_of_ble_eq_true rfl) ?_
  show AW sc m_M_setAt 0 0 [some (.ref 50), some (.int (nI n)), none, none] [] _ _ _
  refine aw_iconst 0 q_M_setAt_0 rfl ?_
  refine aw_istore_n 2 q_M_setAt_1 rfl rfl rfl ?_
  refine aw_iconst 0 q_M_setAt_2 rfl ?_
  refine aw_istore_n 3 q_M_setAt_3 rfl rfl rfl ?_
  exact l_M_setAt sc A q D t n b hn _ 0 rfl (by omega)
theorem l_M_differ (sc : am_S) (A : ST) (q : QS) (D : ST) (t : TS) (m : Nat) (b : bd D) (hm : m < 16384) (ho : x_od D < 16384) : ∀ (n i : Nat), x_nc D - i = n → i ≤ x_nc D →  AW sc m_M_differ 1 4 [some (.ref 50), some (.int (nI m)), some (.int (nI (cnp (fun c => (m ^^^ x_od D).testBit c) i))), some (.int (nI i))] [] (hp A q D t) (some (.int (nI (cnp (fun c => (m ^^^ x_od D).testBit c) (x_nc D))))) (hp A q D t) := by
  intro n
  induction n using Nat.strongRecOn with
  | _ n ih =>
    intro i hn hi
    have b3 := b.2.2.1
    have hx : m ^^^ x_od D < 16384 := Nat.xor_lt_two_pow (n := 14) hm ho
    refine aw_iload_n 3 q_M_differ_4 rfl rfl ?_
    refine aw_aload_n 0 q_M_differ_5 rfl rfl ?_
    refine aw_get 4 q_M_differ_6 fl_M_84 rfl rfl ?_
    refine aw_icmp_ge 39 q_M_differ_9 rfl (fun c9 => ?_) (fun c9 => ?_)
    · skip
      refine aw_iload_n 2 q_M_differ_39 rfl rfl ?_
      exact aw_iret .int q_M_differ_40 rfl rfl (by rw [show i = x_nc D from Nat.le_antisymm hi (nge_ge c9 (by omega) (by omega))]) rfl
    · skip
      have hlt : i < x_nc D := nge_lt c9 (by omega) (by omega)
      refine aw_iload_n 2 q_M_differ_12 rfl rfl ?_
      refine aw_iload_n 1 q_M_differ_13 rfl rfl ?_
      refine aw_aload_n 0 q_M_differ_14 rfl rfl ?_
      refine aw_get 17 q_M_differ_15 fl_M_164 rfl rfl ?_
      refine aw_ixor q_M_differ_18 ?_
      rw [nI_xor]
      refine aw_iload_n 3 q_M_differ_19 rfl rfl ?_
      refine aw_S2 q_M_differ_20 st_M_94 (by omega) (Nat.le_of_ble_eq_true rfl) (c_M_has _ _ _ _ (by omega) (by omega)) ?_
      refine aw_if_eq 30 q_M_differ_23 rfl (fun c23 => ?_) (fun c23 => ?_)
      · skip
        refine aw_iconst 0 q_M_differ_30 rfl ?_
        refine aw_iadd q_M_differ_31 ?_
        refine aw_istore_n 2 q_M_differ_32 rfl rfl rfl ?_
        first | refine aw_iinc _ q_M_differ_33 rfl (am_inc _) rfl rfl ?_ | refine aw_iinc _ q_M_differ_33 rfl rfl rfl rfl ?_
        refine aw_goto 4 q_M_differ_36 rfl ?_
        first
          | (have h9 := zI_0.mp c23; have e9 : cnp (fun c => (m ^^^ x_od D).testBit c) (i + 1) = cnp (fun c => (m ^^^ x_od D).testBit c) i := by simp only [cnp, h9]; rfl
             rw [show nI (cnp (fun c => (m ^^^ x_od D).testBit c) i) + 0 = nI (cnp (fun c => (m ^^^ x_od D).testBit c) (i + 1)) from by rw [e9, show (0 : Int32) = nI 0 from rfl, nI_add, Nat.add_zero]]; exact ih _ (by omega) (i + 1) rfl (by omega))
          | (have h9 := zI_n0.mp c23; have e9 : cnp (fun c => (m ^^^ x_od D).testBit c) (i + 1) = cnp (fun c => (m ^^^ x_od D).testBit c) i + 1 := by simp only [cnp, h9]; rfl
             rw [nI_1, ← e9]; exact ih _ (by omega) (i + 1) rfl (by omega))
      · skip
        refine aw_iconst 1 q_M_differ_26 rfl ?_
        refine aw_goto 31 q_M_differ_27 rfl ?_
        refine aw_iadd q_M_differ_31 ?_
        refine aw_istore_n 2 q_M_differ_32 rfl rfl rfl ?_
        first | refine aw_iinc _ q_M_differ_33 rfl (am_inc _) rfl rfl ?_ | refine aw_iinc _ q_M_differ_33 rfl rfl rfl rfl ?_
        refine aw_goto 4 q_M_differ_36 rfl ?_
        first
          | (have h9 := zI_0.mp c23; have e9 : cnp (fun c => (m ^^^ x_od D).testBit c) (i + 1) = cnp (fun c => (m ^^^ x_od D).testBit c) i := by simp only [cnp, h9]; rfl
             rw [show nI (cnp (fun c => (m ^^^ x_od D).testBit c) i) + 0 = nI (cnp (fun c => (m ^^^ x_od D).testBit c) (i + 1)) from by rw [e9, show (0 : Int32) = nI 0 from rfl, nI_add, Nat.add_zero]]; exact ih _ (by omega) (i + 1) rfl (by omega))
          | (have h9 := zI_n0.mp c23; have e9 : cnp (fun c => (m ^^^ x_od D).testBit c) (i + 1) = cnp (fun c => (m ^^^ x_od D).testBit c) i + 1 := by simp only [cnp, h9]; rfl
             rw [nI_1, ← e9]; exact ih _ (by omega) (i + 1) rfl (by omega))
theorem c_M_differ (sc : am_S) (A : ST) (q : QS) (D : ST) (t : TS) (m : Nat) (b : bd D) (hm : m < 16384) (ho : x_od D < 16384) : AM sc m_M_differ 1 [.ref 50, .int (nI m)] (hp A q D t) (some (.int (nI (cnp (fun c => (m ^^^ x_od D).testBit c) (x_nc D))))) (hp A q D t) := by
  refine AM.of (by decide) (Nat.le_of_ble_eq_true rfl) ?_
  show AW sc m_M_differ 1 0 [some (.ref 50), some (.int (nI m)), none, none] [] _ _ _
  refine aw_iconst 0 q_M_differ_0 rfl ?_
  refine aw_istore_n 2 q_M_differ_1 rfl rfl rfl ?_
  refine aw_iconst 0 q_M_differ_2 rfl ?_
  refine aw_istore_n 3 q_M_differ_3 rfl rfl rfl ?_
  exact l_M_differ sc A q D t m b hm ho _ 0 rfl (by omega)
def svb (D : ST) (c : Nat) : Nat → Int := fun k => if x_ja D k = c ∨ x_jb D k = c then x_js D k else 0
theorem l_M_savedBy (sc : am_S) (A : ST) (q : QS) (D : ST) (t : TS) (c : Nat) (jd : jdo D) (hc : c < 14) : ∀ (n i : Nat), x_nj D - i = n → i ≤ x_nj D →  AW sc m_M_savedBy 0 5 [some (.ref 50), some (.int (nI c)), some (.long (lZ (sm i (svb D c)))), none, some (.int (nI i))] [] (hp A q D t) (some (.long (lZ (sm (x_nj D) (svb D c))))) (hp A q D t) := by
  intro n
  induction n using Nat.strongRecOn with
  | _ n ih =>
    intro i hn hi
    have j1 := jd.1
    have j2 := jd.2.1 i
    have j3 := jd.2.2.1 i
    refine aw_iload q_M_savedBy_5 rfl ?_
    refine aw_aload_n 0 q_M_savedBy_7 rfl rfl ?_
    refine aw_get 11 q_M_savedBy_8 fl_M_103 rfl rfl ?_
    refine aw_icmp_ge 56 q_M_savedBy_11 rfl (fun c11 => ?_) (fun c11 => ?_)
    · skip
      refine aw_lload_n 2 q_M_savedBy_56 rfl rfl ?_
      exact aw_lret q_M_savedBy_57 rfl (by rw [show i = x_nj D from Nat.le_antisymm hi (nge_ge c11 (by omega) (by omega))]) rfl
    · skip
      have hlt : i < x_nj D := nge_lt c11 (by omega) (by omega)
      refine aw_lload_n 2 q_M_savedBy_14 rfl rfl ?_
      refine aw_aload_n 0 q_M_savedBy_15 rfl rfl ?_
      refine aw_get 12 q_M_savedBy_16 fl_M_32 rfl rfl ?_
      refine aw_iload q_M_savedBy_19 rfl ?_
      refine aw_ialdN q_M_savedBy_21 rfl (by omega) rfl ?_
      refine aw_iload_n 1 q_M_savedBy_22 rfl rfl ?_
      refine aw_icmp_eq 37 q_M_savedBy_23 rfl (fun c23 => ?_) (fun c23 => ?_)
      · skip
        refine aw_aload_n 0 q_M_savedBy_37 rfl rfl ?_
        refine aw_get 14 q_M_savedBy_38 fl_M_38 rfl rfl ?_
        refine aw_iload q_M_savedBy_41 rfl ?_
        refine aw_laldN q_M_savedBy_43 rfl (by omega) rfl ?_
        refine aw_goto 48 q_M_savedBy_44 rfl ?_
        refine aw_ladd q_M_savedBy_48 ?_
        refine aw_lstore_n 2 q_M_savedBy_49 rfl rfl rfl ?_
        first | refine aw_iinc _ q_M_savedBy_50 rfl (am_inc _) rfl rfl ?_ | refine aw_iinc _ q_M_savedBy_50 rfl rfl rfl rfl ?_
        refine aw_goto 5 q_M_savedBy_53 rfl ?_
        first
          | (have h9 := nI_eq' (by omega) (by omega) c23; rw [sm_t (f := svb D c) (i := i) (x := x_js D i) (by simp [svb, h9])]; exact ih _ (by omega) (i + 1) rfl (by omega))
          | (have h9 := nI_ne (by omega) (by omega) c23; have h8 := nI_ne (by omega) (by omega) c34; rw [sm_t (f := svb D c) (i := i) (x := 0) (by simp [svb, h9, h8])]; exact ih _ (by omega) (i + 1) rfl (by omega))
          | (have h8 := nI_eq' (by omega) (by omega) c34; rw [sm_t (f := svb D c) (i := i) (x := x_js D i) (by simp [svb, h8])]; exact ih _ (by omega) (i + 1) rfl (by omega))
      · skip
        refine aw_aload_n 0 q_M_savedBy_26 rfl rfl ?_
        refine aw_get 13 q_M_savedBy_27 fl_M_35 rfl rfl ?_
        refine aw_iload q_M_savedBy_30 rfl ?_
        refine aw_ialdN q_M_savedBy_32 rfl (by omega) rfl ?_
        refine aw_iload_n 1 q_M_savedBy_33 rfl rfl ?_
        refine aw_icmp_ne 47 q_M_savedBy_34 rfl (fun c34 => ?_) (fun c34 => ?_)
        · skip
          refine aw_lconst (lZ 0) q_M_savedBy_47 rfl ?_
          refine aw_ladd q_M_savedBy_48 ?_
          refine aw_lstore_n 2 q_M_savedBy_49 rfl rfl rfl ?_
          first | refine aw_iinc _ q_M_savedBy_50 rfl (am_inc _) rfl rfl ?_ | refine aw_iinc _ q_M_savedBy_50 rfl rfl rfl rfl ?_
          refine aw_goto 5 q_M_savedBy_53 rfl ?_
          first
            | (have h9 := nI_eq' (by omega) (by omega) c23; rw [sm_t (f := svb D c) (i := i) (x := x_js D i) (by simp [svb, h9])]; exact ih _ (by omega) (i + 1) rfl (by omega))
            | (have h9 := nI_ne (by omega) (by omega) c23; have h8 := nI_ne (by omega) (by omega) c34; rw [sm_t (f := svb D c) (i := i) (x := 0) (by simp [svb, h9, h8])]; exact ih _ (by omega) (i + 1) rfl (by omega))
            | (have h8 := nI_eq' (by omega) (by omega) c34; rw [sm_t (f := svb D c) (i := i) (x := x_js D i) (by simp [svb, h8])]; exact ih _ (by omega) (i + 1) rfl (by omega))
        · skip
          refine aw_aload_n 0 q_M_savedBy_37 rfl rfl ?_
          refine aw_get 14 q_M_savedBy_38 fl_M_38 rfl rfl ?_
          refine aw_iload q_M_savedBy_41 rfl ?_
          refine aw_laldN q_M_savedBy_43 rfl (by omega) rfl ?_
          refine aw_goto 48 q_M_savedBy_44 rfl ?_
          refine aw_ladd q_M_savedBy_48 ?_
          refine aw_lstore_n 2 q_M_savedBy_49 rfl rfl rfl ?_
          first | refine aw_iinc _ q_M_savedBy_50 rfl (am_inc _) rfl rfl ?_ | refine aw_iinc _ q_M_savedBy_50 rfl rfl rfl rfl ?_
          refine aw_goto 5 q_M_savedBy_53 rfl ?_
          first
            | (have h9 := nI_eq' (by omega) (by omega) c23; rw [sm_t (f := svb D c) (i := i) (x := x_js D i) (by simp [svb, h9])]; exact ih _ (by omega) (i + 1) rfl (by omega))
            | (have h9 := nI_ne (by omega) (by omega) c23; have h8 := nI_ne (by omega) (by omega) c34; rw [sm_t (f := svb D c) (i := i) (x := 0) (by simp [svb, h9, h8])]; exact ih _ (by omega) (i + 1) rfl (by omega))
            | (have h8 := nI_eq' (by omega) (by omega) c34; rw [sm_t (f := svb D c) (i := i) (x := x_js D i) (by simp [svb, h8])]; exact ih _ (by omega) (i + 1) rfl (by omega))
theorem c_M_savedBy (sc : am_S) (A : ST) (q : QS) (D : ST) (t : TS) (c : Nat) (jd : jdo D) (hc : c < 14) : AM sc m_M_savedBy 0 [.ref 50, .int (nI c)] (hp A q D t) (some (.long (lZ (sm (x_nj D) (svb D c))))) (hp A q D t) := by
  refine AM.of (by decide) (Nat.le_of_ble_eq_true rfl) ?_
  show AW sc m_M_savedBy 0 0 [some (.ref 50), some (.int (nI c)), none, none, none] [] _ _ _
  refine aw_lconst (lZ 0) q_M_savedBy_0 rfl ?_
  refine aw_lstore_n 2 q_M_savedBy_1 rfl rfl rfl ?_
  refine aw_iconst 0 q_M_savedBy_2 rfl ?_
  refine aw_istore q_M_savedBy_3 rfl rfl ?_
  exact l_M_savedBy sc A q D t c jd hc _ 0 rfl (by omega)
theorem c_M_tell (sc : am_S) (A : ST) (q : QS) (D : ST) (t : TS)   : AM sc m_M_tell 0 [.ref 50] (hp A q D t) (none) (hp A q (fgA D) t) := by
  refine AM.of (by decide) (Nat.le_of_ble_eq_true rfl) ?_
  show AW sc m_M_tell 0 0 [some (.ref 50)] [] _ _ _
  refine aw_aload_n 0 q_M_tell_0 rfl rfl ?_
  refine aw_iconst (-1) q_M_tell_1 rfl ?_
  refine wp_M_16 none q_M_tell_2 fl_M_47 ?_
  refine aw_aload_n 0 q_M_tell_5 rfl rfl ?_
  refine aw_iconst 0 q_M_tell_6 rfl ?_
  refine wp_M_18 false q_M_tell_7 fl_M_66 ?_
  exact aw_vret q_M_tell_10 rfl rfl rfl
theorem c_M_proved (sc : am_S) (A : ST) (q : QS) (D : ST) (t : TS)   : AM sc m_M_proved 0 [.ref 50] (hp A q D t) (some (.int (zI (x_pr D)))) (hp A q D t) := by
  refine AM.of (by decide) (Nat.le_of_ble_eq_true rfl) ?_
  show AW sc m_M_proved 0 0 [some (.ref 50)] [] _ _ _
  refine aw_aload_n 0 q_M_proved_0 rfl rfl ?_
  refine aw_get 18 q_M_proved_1 fl_M_66 rfl rfl ?_
  exact aw_iret .boolean q_M_proved_4 rfl (zI_nar _) rfl rfl
