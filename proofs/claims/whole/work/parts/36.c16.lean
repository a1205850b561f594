/-! CONTRACTS 16: the reference, sets read -/
theorem l_M_worthOf (sc : am_S) (A : ST) (q : QS) (D : ST) (t : TS) (m : Nat) (b : bd D) (hm : m < 16384) : ∀ (n i : Nat), x_nc D - i = n → i ≤ x_nc D →  AW sc m_M_worthOf 1 5 [some (.ref 50), some (.int (nI m)), some (.long (lZ (sm i (fun c => if m.testBit c = true then x_wo D c else 0)))), none, some (.int (nI i))] [] (hp A q D t) (some (.long (lZ (wsum D m)))) (hp A q D t) := by
  intro n
  induction n using Nat.strongRecOn with
  | _ n ih =>
    intro i hn hi
    have b3 := b.2.2.1
    refine aw_iload q_M_worthOf_5 rfl ?_
    refine aw_aload_n 0 q_M_worthOf_7 rfl rfl ?_
    refine aw_get 4 q_M_worthOf_8 fl_M_84 rfl rfl ?_
    refine aw_icmp_ge 43 q_M_worthOf_11 rfl (fun c11 => ?_) (fun c11 => ?_)
    · skip
      refine aw_lload_n 2 q_M_worthOf_43 rfl rfl ?_
      exact aw_lret q_M_worthOf_44 rfl (by rw [show i = x_nc D from Nat.le_antisymm hi (nge_ge c11 (by omega) (by omega))]; rfl) rfl
    · skip
      have hlt : i < x_nc D := nge_lt c11 (by omega) (by omega)
      refine aw_lload_n 2 q_M_worthOf_14 rfl rfl ?_
      refine aw_iload_n 1 q_M_worthOf_15 rfl rfl ?_
      refine aw_iload q_M_worthOf_16 rfl ?_
      refine aw_S2 q_M_worthOf_18 st_M_94 (by omega) (Nat.le_of_ble_eq_true rfl) (c_M_has _ _ _ _ (by omega) (by omega)) ?_
      refine aw_if_eq 34 q_M_worthOf_21 rfl (fun c21 => ?_) (fun c21 => ?_)
      · skip
        refine aw_lconst (lZ 0) q_M_worthOf_34 rfl ?_
        refine aw_ladd q_M_worthOf_35 ?_
        refine aw_lstore_n 2 q_M_worthOf_36 rfl rfl rfl ?_
        first | refine aw_iinc _ q_M_worthOf_37 rfl (am_inc _) rfl rfl ?_ | refine aw_iinc _ q_M_worthOf_37 rfl rfl rfl rfl ?_
        refine aw_goto 5 q_M_worthOf_40 rfl ?_
        first
          | (have h9 := zI_0.mp c21; rw [sm_t (f := (fun c => if m.testBit c = true then x_wo D c else 0)) (i := i) (x := 0) (by simp [h9])]; exact ih _ (by omega) (i + 1) rfl (by omega))
          | (have h9 := zI_n0.mp c21; rw [sm_t (f := (fun c => if m.testBit c = true then x_wo D c else 0)) (i := i) (x := x_wo D i) (by simp [h9])]; exact ih _ (by omega) (i + 1) rfl (by omega))
      · skip
        refine aw_aload_n 0 q_M_worthOf_24 rfl rfl ?_
        refine aw_get 8 q_M_worthOf_25 fl_M_26 rfl rfl ?_
        refine aw_iload q_M_worthOf_28 rfl ?_
        refine aw_laldN q_M_worthOf_30 rfl (by omega) rfl ?_
        refine aw_goto 35 q_M_worthOf_31 rfl ?_
        refine aw_ladd q_M_worthOf_35 ?_
        refine aw_lstore_n 2 q_M_worthOf_36 rfl rfl rfl ?_
        first | refine aw_iinc _ q_M_worthOf_37 rfl (am_inc _) rfl rfl ?_ | refine aw_iinc _ q_M_worthOf_37 rfl rfl rfl rfl ?_
        refine aw_goto 5 q_M_worthOf_40 rfl ?_
        first
          | (have h9 := zI_0.mp c21; rw [sm_t (f := (fun c => if m.testBit c = true then x_wo D c else 0)) (i := i) (x := 0) (by simp [h9])]; exact ih _ (by omega) (i + 1) rfl (by omega))
          | (have h9 := zI_n0.mp c21; rw [sm_t (f := (fun c => if m.testBit c = true then x_wo D c else 0)) (i := i) (x := x_wo D i) (by simp [h9])]; exact ih _ (by omega) (i + 1) rfl (by omega))
theorem c_M_worthOf (sc : am_S) (A : ST) (q : QS) (D : ST) (t : TS) (m : Nat) (b : bd D) (hm : m < 16384) : AM sc m_M_worthOf 1 [.ref 50, .int (nI m)] (hp A q D t) (some (.long (lZ (wsum D m)))) (hp A q D t) := by
  refine AM.of (by decide) (Nat.le_of_ble_eq_true rfl) ?_
  show AW sc m_M_worthOf 1 0 [some (.ref 50), some (.int (nI m)), none, none, none] [] _ _ _
  refine aw_lconst (lZ 0) q_M_worthOf_0 rfl ?_
  refine aw_lstore_n 2 q_M_worthOf_1 rfl rfl rfl ?_
  refine aw_iconst 0 q_M_worthOf_2 rfl ?_
  refine aw_istore q_M_worthOf_3 rfl rfl ?_
  exact l_M_worthOf sc A q D t m b hm _ 0 rfl (by omega)
theorem nsm_t {f : Nat → Nat} {i x : Nat} (h : f i = x) : nI (nsm i f) + nI x = nI (nsm (i + 1) f) := by
  rw [nI_add]; simp only [nsm, h]
theorem nsm_z {f : Nat → Nat} {i : Nat} (h : f i = 0) : nI (nsm i f) + 0 = nI (nsm (i + 1) f) := nsm_t (x := 0) h
theorem l_M_yearsOf (sc : am_S) (A : ST) (q : QS) (D : ST) (t : TS) (m : Nat) (b : bd D) (hm : m < 16384) : ∀ (n i : Nat), x_nc D - i = n → i ≤ x_nc D →  AW sc m_M_yearsOf 1 4 [some (.ref 50), some (.int (nI m)), some (.int (nI (nsm i (fun c => if m.testBit c = true then x_yr D c else 0)))), some (.int (nI i))] [] (hp A q D t) (some (.int (nI (ysum D m)))) (hp A q D t) := by
  intro n
  induction n using Nat.strongRecOn with
  | _ n ih =>
    intro i hn hi
    have b3 := b.2.2.1
    refine aw_iload_n 3 q_M_yearsOf_4 rfl rfl ?_
    refine aw_aload_n 0 q_M_yearsOf_5 rfl rfl ?_
    refine aw_get 4 q_M_yearsOf_6 fl_M_84 rfl rfl ?_
    refine aw_icmp_ge 39 q_M_yearsOf_9 rfl (fun c9 => ?_) (fun c9 => ?_)
    · skip
      refine aw_iload_n 2 q_M_yearsOf_39 rfl rfl ?_
      exact aw_iret .int q_M_yearsOf_40 rfl rfl (by rw [show i = x_nc D from Nat.le_antisymm hi (nge_ge c9 (by omega) (by omega))]; rfl) rfl
    · skip
      have hlt : i < x_nc D := nge_lt c9 (by omega) (by omega)
      refine aw_iload_n 2 q_M_yearsOf_12 rfl rfl ?_
      refine aw_iload_n 1 q_M_yearsOf_13 rfl rfl ?_
      refine aw_iload_n 3 q_M_yearsOf_14 rfl rfl ?_
      refine aw_S2 q_M_yearsOf_15 st_M_94 (by omega) (Nat.le_of_ble_eq_true rfl) (c_M_has _ _ _ _ (by omega) (by omega)) ?_
      refine aw_if_eq 30 q_M_yearsOf_18 rfl (fun c18 => ?_) (fun c18 => ?_)
      · skip
        refine aw_iconst 0 q_M_yearsOf_30 rfl ?_
        refine aw_iadd q_M_yearsOf_31 ?_
        refine aw_istore_n 2 q_M_yearsOf_32 rfl rfl rfl ?_
        first | refine aw_iinc _ q_M_yearsOf_33 rfl (am_inc _) rfl rfl ?_ | refine aw_iinc _ q_M_yearsOf_33 rfl rfl rfl rfl ?_
        refine aw_goto 4 q_M_yearsOf_36 rfl ?_
        first
          | (have h9 := zI_0.mp c18; rw [nsm_z (f := (fun c => if m.testBit c = true then x_yr D c else 0)) (i := i) (by simp [h9])]; exact ih _ (by omega) (i + 1) rfl (by omega))
          | (have h9 := zI_n0.mp c18; rw [nsm_t (f := (fun c => if m.testBit c = true then x_yr D c else 0)) (i := i) (x := x_yr D i) (by simp [h9])]; exact ih _ (by omega) (i + 1) rfl (by omega))
      · skip
        refine aw_aload_n 0 q_M_yearsOf_21 rfl rfl ?_
        refine aw_get 6 q_M_yearsOf_22 fl_M_19 rfl rfl ?_
        refine aw_iload_n 3 q_M_yearsOf_25 rfl rfl ?_
        refine aw_ialdN q_M_yearsOf_26 rfl (by omega) rfl ?_
        refine aw_goto 31 q_M_yearsOf_27 rfl ?_
        refine aw_iadd q_M_yearsOf_31 ?_
        refine aw_istore_n 2 q_M_yearsOf_32 rfl rfl rfl ?_
        first | refine aw_iinc _ q_M_yearsOf_33 rfl (am_inc _) rfl rfl ?_ | refine aw_iinc _ q_M_yearsOf_33 rfl rfl rfl rfl ?_
        refine aw_goto 4 q_M_yearsOf_36 rfl ?_
        first
          | (have h9 := zI_0.mp c18; rw [nsm_z (f := (fun c => if m.testBit c = true then x_yr D c else 0)) (i := i) (by simp [h9])]; exact ih _ (by omega) (i + 1) rfl (by omega))
          | (have h9 := zI_n0.mp c18; rw [nsm_t (f := (fun c => if m.testBit c = true then x_yr D c else 0)) (i := i) (x := x_yr D i) (by simp [h9])]; exact ih _ (by omega) (i + 1) rfl (by omega))
theorem c_M_yearsOf (sc : am_S) (A : ST) (q : QS) (D : ST) (t : TS) (m : Nat) (b : bd D) (hm : m < 16384) : AM sc m_M_yearsOf 1 [.ref 50, .int (nI m)] (hp A q D t) (some (.int (nI (ysum D m)))) (hp A q D t) := by
  refine AM.of (by decide) (Nat.le_of_ble_eq_true rfl) ?_
  show AW sc m_M_yearsOf 1 0 [some (.ref 50), some (.int (nI m)), none, none] [] _ _ _
  refine aw_iconst 0 q_M_yearsOf_0 rfl ?_
  refine aw_istore_n 2 q_M_yearsOf_1 rfl rfl rfl ?_
  refine aw_iconst 0 q_M_yearsOf_2 rfl ?_
  refine aw_istore_n 3 q_M_yearsOf_3 rfl rfl rfl ?_
  exact l_M_yearsOf sc A q D t m b hm _ 0 rfl (by omega)
theorem mwb_k {A : ST} {tt y i : Nat} (h : x_wo A i ≤ mwb A tt y i) : mwb A tt y (i + 1) = mwb A tt y i := by
  simp only [mwb]
  split
  · split
    · rfl
    · omega
  · rfl
theorem mwb_n {A : ST} {tt y i : Nat} (h : x_th A i = tt ∧ x_yr A i ≤ y) (h2 : ¬ x_wo A i ≤ mwb A tt y i) : mwb A tt y (i + 1) = x_wo A i := by
  simp only [mwb, if_pos h]
  rw [if_neg (by omega)]
theorem l_M_mostWorth (sc : am_S) (A : ST) (q : QS) (D : ST) (t : TS) (tt y : Nat) (b : bd D) (htt : tt < 12) (hy : y < 6) : ∀ (n i : Nat), x_nc D - i = n → i ≤ x_nc D →  AW sc m_M_mostWorth 0 5 [some (.ref 50), some (.int (nI tt)), some (.int (nI y)), some (.long (lZ (mwb D tt y i))), none, some (.int (nI i))] [] (hp A q D t) (some (.long (lZ (mwb D tt y (x_nc D))))) (hp A q D t) := by
  intro n
  induction n using Nat.strongRecOn with
  | _ n ih =>
    intro i hn hi
    have b3 := b.2.2.1
    have b4 := b.2.2.2.1 i
    have b5 := b.2.2.2.2.1 i
    have b9 := b.2.2.2.2.2.2.2.2.1 i
    have bm := mwb_bd b tt y i
    refine aw_iload q_M_mostWorth_5 rfl ?_
    refine aw_aload_n 0 q_M_mostWorth_7 rfl rfl ?_
    refine aw_get 4 q_M_mostWorth_8 fl_M_84 rfl rfl ?_
    refine aw_icmp_ge 66 q_M_mostWorth_11 rfl (fun c11 => ?_) (fun c11 => ?_)
    · skip
      refine aw_lload_n 3 q_M_mostWorth_66 rfl rfl ?_
      exact aw_lret q_M_mostWorth_67 rfl (by rw [show i = x_nc D from Nat.le_antisymm hi (nge_ge c11 (by omega) (by omega))]) rfl
    · skip
      have hlt : i < x_nc D := nge_lt c11 (by omega) (by omega)
      refine aw_aload_n 0 q_M_mostWorth_14 rfl rfl ?_
      refine aw_get 5 q_M_mostWorth_15 fl_M_16 rfl rfl ?_
      refine aw_iload q_M_mostWorth_18 rfl ?_
      refine aw_ialdN q_M_mostWorth_20 rfl (by omega) rfl ?_
      refine aw_iload_n 1 q_M_mostWorth_21 rfl rfl ?_
      refine aw_icmp_ne 58 q_M_mostWorth_22 rfl (fun c22 => ?_) (fun c22 => ?_)
      · skip
        refine aw_lload_n 3 q_M_mostWorth_58 rfl rfl ?_
        refine aw_lstore_n 3 q_M_mostWorth_59 rfl rfl rfl ?_
        first | refine aw_iinc _ q_M_mostWorth_60 rfl (am_inc _) rfl rfl ?_ | refine aw_iinc _ q_M_mostWorth_60 rfl rfl rfl rfl ?_
        refine aw_goto 5 q_M_mostWorth_63 rfl ?_
        first
          | (have h9 := nI_ne (by omega) (by omega) c22; rw [← mwb_f (A := D) (tt := tt) (y := y) (i := i) (by simp [h9])]; exact ih _ (by omega) (i + 1) rfl (by omega))
          | (have h9 := nI_gt (by omega) (by omega) c33; rw [← mwb_f (A := D) (tt := tt) (y := y) (i := i) (by omega)]; exact ih _ (by omega) (i + 1) rfl (by omega))
          | (have h9 := (lZ_le (a := x_wo D i) (b := mwb D tt y i) (by omega) (by omega)).mp c44; rw [← mwb_k h9]; exact ih _ (by omega) (i + 1) rfl (by omega))
          | (have h9 := nI_eq' (by omega) (by omega) c22; have h8 := nI_ngt (by omega) (by omega) c33; have h7 := mt (lZ_le (a := x_wo D i) (b := mwb D tt y i) (by omega) (by omega)).mpr c44; rw [← mwb_n ⟨h9, h8⟩ h7]; exact ih _ (by omega) (i + 1) rfl (by omega))
      · skip
        refine aw_aload_n 0 q_M_mostWorth_25 rfl rfl ?_
        refine aw_get 6 q_M_mostWorth_26 fl_M_19 rfl rfl ?_
        refine aw_iload q_M_mostWorth_29 rfl ?_
        refine aw_ialdN q_M_mostWorth_31 rfl (by omega) rfl ?_
        refine aw_iload_n 2 q_M_mostWorth_32 rfl rfl ?_
        refine aw_icmp_gt 58 q_M_mostWorth_33 rfl (fun c33 => ?_) (fun c33 => ?_)
        · skip
          refine aw_lload_n 3 q_M_mostWorth_58 rfl rfl ?_
          refine aw_lstore_n 3 q_M_mostWorth_59 rfl rfl rfl ?_
          first | refine aw_iinc _ q_M_mostWorth_60 rfl (am_inc _) rfl rfl ?_ | refine aw_iinc _ q_M_mostWorth_60 rfl rfl rfl rfl ?_
          refine aw_goto 5 q_M_mostWorth_63 rfl ?_
          first
            | (have h9 := nI_ne (by omega) (by omega) c22; rw [← mwb_f (A := D) (tt := tt) (y := y) (i := i) (by simp [h9])]; exact ih _ (by omega) (i + 1) rfl (by omega))
            | (have h9 := nI_gt (by omega) (by omega) c33; rw [← mwb_f (A := D) (tt := tt) (y := y) (i := i) (by omega)]; exact ih _ (by omega) (i + 1) rfl (by omega))
            | (have h9 := (lZ_le (a := x_wo D i) (b := mwb D tt y i) (by omega) (by omega)).mp c44; rw [← mwb_k h9]; exact ih _ (by omega) (i + 1) rfl (by omega))
            | (have h9 := nI_eq' (by omega) (by omega) c22; have h8 := nI_ngt (by omega) (by omega) c33; have h7 := mt (lZ_le (a := x_wo D i) (b := mwb D tt y i) (by omega) (by omega)).mpr c44; rw [← mwb_n ⟨h9, h8⟩ h7]; exact ih _ (by omega) (i + 1) rfl (by omega))
        · skip
          refine aw_aload_n 0 q_M_mostWorth_36 rfl rfl ?_
          refine aw_get 8 q_M_mostWorth_37 fl_M_26 rfl rfl ?_
          refine aw_iload q_M_mostWorth_40 rfl ?_
          refine aw_laldN q_M_mostWorth_42 rfl (by omega) rfl ?_
          refine aw_lload_n 3 q_M_mostWorth_43 rfl rfl ?_
          refine aw_lcmp_le 58 q_M_mostWorth_44 q_M_mostWorth_45 rfl (fun c44 => ?_) (fun c44 => ?_)
          · skip
            refine aw_lload_n 3 q_M_mostWorth_58 rfl rfl ?_
            refine aw_lstore_n 3 q_M_mostWorth_59 rfl rfl rfl ?_
            first | refine aw_iinc _ q_M_mostWorth_60 rfl (am_inc _) rfl rfl ?_ | refine aw_iinc _ q_M_mostWorth_60 rfl rfl rfl rfl ?_
            refine aw_goto 5 q_M_mostWorth_63 rfl ?_
            first
              | (have h9 := nI_ne (by omega) (by omega) c22; rw [← mwb_f (A := D) (tt := tt) (y := y) (i := i) (by simp [h9])]; exact ih _ (by omega) (i + 1) rfl (by omega))
              | (have h9 := nI_gt (by omega) (by omega) c33; rw [← mwb_f (A := D) (tt := tt) (y := y) (i := i) (by omega)]; exact ih _ (by omega) (i + 1) rfl (by omega))
              | (have h9 := (lZ_le (a := x_wo D i) (b := mwb D tt y i) (by omega) (by omega)).mp c44; rw [← mwb_k h9]; exact ih _ (by omega) (i + 1) rfl (by omega))
              | (have h9 := nI_eq' (by omega) (by omega) c22; have h8 := nI_ngt (by omega) (by omega) c33; have h7 := mt (lZ_le (a := x_wo D i) (b := mwb D tt y i) (by omega) (by omega)).mpr c44; rw [← mwb_n ⟨h9, h8⟩ h7]; exact ih _ (by omega) (i + 1) rfl (by omega))
          · skip
            refine aw_aload_n 0 q_M_mostWorth_48 rfl rfl ?_
            refine aw_get 8 q_M_mostWorth_49 fl_M_26 rfl rfl ?_
            refine aw_iload q_M_mostWorth_52 rfl ?_
            refine aw_laldN q_M_mostWorth_54 rfl (by omega) rfl ?_
            refine aw_goto 59 q_M_mostWorth_55 rfl ?_
            refine aw_lstore_n 3 q_M_mostWorth_59 rfl rfl rfl ?_
            first | refine aw_iinc _ q_M_mostWorth_60 rfl (am_inc _) rfl rfl ?_ | refine aw_iinc _ q_M_mostWorth_60 rfl rfl rfl rfl ?_
            refine aw_goto 5 q_M_mostWorth_63 rfl ?_
            first
              | (have h9 := nI_ne (by omega) (by omega) c22; rw [← mwb_f (A := D) (tt := tt) (y := y) (i := i) (by simp [h9])]; exact ih _ (by omega) (i + 1) rfl (by omega))
              | (have h9 := nI_gt (by omega) (by omega) c33; rw [← mwb_f (A := D) (tt := tt) (y := y) (i := i) (by omega)]; exact ih _ (by omega) (i + 1) rfl (by omega))
              | (have h9 := (lZ_le (a := x_wo D i) (b := mwb D tt y i) (by omega) (by omega)).mp c44; rw [← mwb_k h9]; exact ih _ (by omega) (i + 1) rfl (by omega))
              | (have h9 := nI_eq' (by omega) (by omega) c22; have h8 := nI_ngt (by omega) (by omega) c33; have h7 := mt (lZ_le (a := x_wo D i) (b := mwb D tt y i) (by omega) (by omega)).mpr c44; rw [← mwb_n ⟨h9, h8⟩ h7]; exact ih _ (by omega) (i + 1) rfl (by omega))
theorem c_M_mostWorth (sc : am_S) (A : ST) (q : QS) (D : ST) (t : TS) (tt y : Nat) (b : bd D) (htt : tt < 12) (hy : y < 6) : AM sc m_M_mostWorth 0 [.ref 50, .int (nI tt), .int (nI y)] (hp A q D t) (some (.long (lZ (mwb D tt y (x_nc D))))) (hp A q D t) := by
  refine AM.of (by decide) (Nat.le_of_ble_eq_true rfl) ?_
  show AW sc m_M_mostWorth 0 0 [some (.ref 50), some (.int (nI tt)), some (.int (nI y)), none, none, none] [] _ _ _
  refine aw_lconst (lZ 0) q_M_mostWorth_0 rfl ?_
  refine aw_lstore_n 3 q_M_mostWorth_1 rfl rfl rfl ?_
  refine aw_iconst 0 q_M_mostWorth_2 rfl ?_
  refine aw_istore q_M_mostWorth_3 rfl rfl ?_
  exact l_M_mostWorth sc A q D t tt y b htt hy _ 0 rfl (by omega)
theorem l_M_isPlan (sc : am_S) (A : ST) (q : QS) (D : ST) (t : TS) (m : Nat) (b : bd D) (hm : m < 16384) : ∀ (n i : Nat), x_nc D - i = n → i ≤ x_nc D →  AW sc m_M_isPlan 1 7 [some (.ref 50), some (.int (nI m)), some (.int (nI (tkm D m i))), some (.int (zI (pln D m i))), some (.int (nI i))] [] (hp A q D t) (some (.int (zI (pln D m (x_nc D))))) (hp A q D t) := by
  intro n
  induction n using Nat.strongRecOn with
  | _ n ih =>
    intro i hn hi
    have b3 := b.2.2.1
    have b4 := b.2.2.2.1 i
    have b9 := tkm_lt b m i
    refine aw_iload q_M_isPlan_7 rfl ?_
    refine aw_aload_n 0 q_M_isPlan_9 rfl rfl ?_
    refine aw_get 4 q_M_isPlan_10 fl_M_84 rfl rfl ?_
    refine aw_icmp_ge 67 q_M_isPlan_13 rfl (fun c13 => ?_) (fun c13 => ?_)
    · skip
      refine aw_iload_n 3 q_M_isPlan_67 rfl rfl ?_
      exact aw_iret .boolean q_M_isPlan_68 rfl (zI_nar _) (by rw [show i = x_nc D from Nat.le_antisymm hi (nge_ge c13 (by omega) (by omega))]) rfl
    · skip
      have hlt : i < x_nc D := nge_lt c13 (by omega) (by omega)
      refine aw_iload_n 3 q_M_isPlan_16 rfl rfl ?_
      refine aw_if_eq 67 q_M_isPlan_17 rfl (fun c17 => ?_) (fun c17 => ?_)
      · skip
        refine aw_iload_n 3 q_M_isPlan_67 rfl rfl ?_
        exact aw_iret .boolean q_M_isPlan_68 rfl (zI_nar _) (by rw [pln_mono hi (zI_0.mp c17), zI_0.mp c17]) rfl
      · skip
        have hw := zI_n0.mp c17
        refine aw_iload_n 1 q_M_isPlan_20 rfl rfl ?_
        refine aw_iload q_M_isPlan_21 rfl ?_
        refine aw_S2 q_M_isPlan_23 st_M_94 (by omega) (Nat.le_of_ble_eq_true rfl) (c_M_has _ _ _ _ (by omega) (by omega)) ?_
        refine aw_if_eq 61 q_M_isPlan_26 rfl (fun c26 => ?_) (fun c26 => ?_)
        · skip
          first | refine aw_iinc _ q_M_isPlan_61 rfl (am_inc _) rfl rfl ?_ | refine aw_iinc _ q_M_isPlan_61 rfl rfl rfl rfl ?_
          refine aw_goto 7 q_M_isPlan_64 rfl ?_
          first
            | (have h9 := zI_0.mp c26; rw [← tkm_f h9, show zI (pln D m i) = zI (pln D m (i + 1)) from by simp [pln, h9]]; exact ih _ (by omega) (i + 1) rfl (by omega))
            | (have h9 := zI_n0.mp c26; have h8 : (tkm D m i).testBit (x_th D i) = true := by rw [← bt_is (by omega) (by omega), bt_get (by omega) (by omega)]; rw [bt_get (by omega) (by omega)] at c40; have h7 := nI_ne (a := tkm D m i / 2 ^ x_th D i % 2) (b := 0) (by omega) (by omega) c40; rw [show tkm D m i / 2 ^ x_th D i % 2 = 1 by omega]; rfl
               rw [bt_one (by omega), nI_or, ← tkm_t h9, show (0 : Int32) = zI (pln D m (i + 1)) from by simp [pln, hw, h9, h8, zI]]; exact ih _ (by omega) (i + 1) rfl (by omega))
            | (have h9 := zI_n0.mp c26; have h8 : (tkm D m i).testBit (x_th D i) = false := by (rw [← Bool.not_eq_true, ← bt_is (by omega) (by omega), c40]; decide)
               rw [bt_one (by omega), nI_or, ← tkm_t h9]
               refine aw_is (L' := [some (.ref 50), some (.int (nI m)), some (.int (nI (tkm D m (i + 1)))), some (.int (zI (pln D m (i + 1)))), some (.int (nI (i + 1)))]) (by simp [pln, hw, h9, h8, zI]) rfl rfl ?_
               exact ih _ (by omega) (i + 1) rfl (by omega))
        · skip
          refine aw_iload_n 2 q_M_isPlan_29 rfl rfl ?_
          refine aw_aload_n 0 q_M_isPlan_30 rfl rfl ?_
          refine aw_get 5 q_M_isPlan_31 fl_M_16 rfl rfl ?_
          refine aw_iload q_M_isPlan_34 rfl ?_
          refine aw_ialdN q_M_isPlan_36 rfl (by omega) rfl ?_
          refine aw_ishr q_M_isPlan_37 ?_
          refine aw_iconst 1 q_M_isPlan_38 rfl ?_
          refine aw_iand q_M_isPlan_39 ?_
          refine aw_if_ne 47 q_M_isPlan_40 rfl (fun c40 => ?_) (fun c40 => ?_)
          · skip
            refine aw_iconst 0 q_M_isPlan_47 rfl ?_
            refine aw_istore_n 3 q_M_isPlan_48 rfl rfl rfl ?_
            refine aw_iload_n 2 q_M_isPlan_49 rfl rfl ?_
            refine aw_iconst 1 q_M_isPlan_50 rfl ?_
            refine aw_aload_n 0 q_M_isPlan_51 rfl rfl ?_
            refine aw_get 5 q_M_isPlan_52 fl_M_16 rfl rfl ?_
            refine aw_iload q_M_isPlan_55 rfl ?_
            refine aw_ialdN q_M_isPlan_57 rfl (by omega) rfl ?_
            refine aw_ishl q_M_isPlan_58 ?_
            refine aw_ior q_M_isPlan_59 ?_
            refine aw_istore_n 2 q_M_isPlan_60 rfl rfl rfl ?_
            first | refine aw_iinc _ q_M_isPlan_61 rfl (am_inc _) rfl rfl ?_ | refine aw_iinc _ q_M_isPlan_61 rfl rfl rfl rfl ?_
            refine aw_goto 7 q_M_isPlan_64 rfl ?_
            first
              | (have h9 := zI_0.mp c26; rw [← tkm_f h9, show zI (pln D m i) = zI (pln D m (i + 1)) from by simp [pln, h9]]; exact ih _ (by omega) (i + 1) rfl (by omega))
              | (have h9 := zI_n0.mp c26; have h8 : (tkm D m i).testBit (x_th D i) = true := by rw [← bt_is (by omega) (by omega), bt_get (by omega) (by omega)]; rw [bt_get (by omega) (by omega)] at c40; have h7 := nI_ne (a := tkm D m i / 2 ^ x_th D i % 2) (b := 0) (by omega) (by omega) c40; rw [show tkm D m i / 2 ^ x_th D i % 2 = 1 by omega]; rfl
                 rw [bt_one (by omega), nI_or, ← tkm_t h9, show (0 : Int32) = zI (pln D m (i + 1)) from by simp [pln, hw, h9, h8, zI]]; exact ih _ (by omega) (i + 1) rfl (by omega))
              | (have h9 := zI_n0.mp c26; have h8 : (tkm D m i).testBit (x_th D i) = false := by (rw [← Bool.not_eq_true, ← bt_is (by omega) (by omega), c40]; decide)
                 rw [bt_one (by omega), nI_or, ← tkm_t h9]
                 refine aw_is (L' := [some (.ref 50), some (.int (nI m)), some (.int (nI (tkm D m (i + 1)))), some (.int (zI (pln D m (i + 1)))), some (.int (nI (i + 1)))]) (by simp [pln, hw, h9, h8, zI]) rfl rfl ?_
                 exact ih _ (by omega) (i + 1) rfl (by omega))
          · skip
            refine aw_iconst 1 q_M_isPlan_43 rfl ?_
            refine aw_goto 48 q_M_isPlan_44 rfl ?_
            refine aw_istore_n 3 q_M_isPlan_48 rfl rfl rfl ?_
            refine aw_iload_n 2 q_M_isPlan_49 rfl rfl ?_
            refine aw_iconst 1 q_M_isPlan_50 rfl ?_
            refine aw_aload_n 0 q_M_isPlan_51 rfl rfl ?_
            refine aw_get 5 q_M_isPlan_52 fl_M_16 rfl rfl ?_
            refine aw_iload q_M_isPlan_55 rfl ?_
            refine aw_ialdN q_M_isPlan_57 rfl (by omega) rfl ?_
            refine aw_ishl q_M_isPlan_58 ?_
            refine aw_ior q_M_isPlan_59 ?_
            refine aw_istore_n 2 q_M_isPlan_60 rfl rfl rfl ?_
            first | refine aw_iinc _ q_M_isPlan_61 rfl (am_inc _) rfl rfl ?_ | refine aw_iinc _ q_M_isPlan_61 rfl rfl rfl rfl ?_
            refine aw_goto 7 q_M_isPlan_64 rfl ?_
            first
              | (have h9 := zI_0.mp c26; rw [← tkm_f h9, show zI (pln D m i) = zI (pln D m (i + 1)) from by simp [pln, h9]]; exact ih _ (by omega) (i + 1) rfl (by omega))
              | (have h9 := zI_n0.mp c26; have h8 : (tkm D m i).testBit (x_th D i) = true := by rw [← bt_is (by omega) (by omega), bt_get (by omega) (by omega)]; rw [bt_get (by omega) (by omega)] at c40; have h7 := nI_ne (a := tkm D m i / 2 ^ x_th D i % 2) (b := 0) (by omega) (by omega) c40; rw [show tkm D m i / 2 ^ x_th D i % 2 = 1 by omega]; rfl
                 rw [bt_one (by omega), nI_or, ← tkm_t h9, show (0 : Int32) = zI (pln D m (i + 1)) from by simp [pln, hw, h9, h8, zI]]; exact ih _ (by omega) (i + 1) rfl (by omega))
              | (have h9 := zI_n0.mp c26; have h8 : (tkm D m i).testBit (x_th D i) = false := by (rw [← Bool.not_eq_true, ← bt_is (by omega) (by omega), c40]; decide)
                 rw [bt_one (by omega), nI_or, ← tkm_t h9]
                 refine aw_is (L' := [some (.ref 50), some (.int (nI m)), some (.int (nI (tkm D m (i + 1)))), some (.int (zI (pln D m (i + 1)))), some (.int (nI (i + 1)))]) (by simp [pln, hw, h9, h8, zI]) rfl rfl ?_
                 exact ih _ (by omega) (i + 1) rfl (by omega))
theorem c_M_isPlan (sc : am_S) (A : ST) (q : QS) (D : ST) (t : TS) (m : Nat) (b : bd D) (hm : m < 16384) : AM sc m_M_isPlan 1 [.ref 50, .int (nI m)] (hp A q D t) (some (.int (zI (pln D m (x_nc D))))) (hp A q D t) := by
  refine AM.of (by decide) (Nat.le_of_ble_eq_true rfl) ?_
  show AW sc m_M_isPlan 1 0 [some (.ref 50), some (.int (nI m)), none, none, none] [] _ _ _
  refine aw_iconst 0 q_M_isPlan_0 rfl ?_
  refine aw_istore_n 2 q_M_isPlan_1 rfl rfl rfl ?_
  refine aw_iconst 1 q_M_isPlan_2 rfl ?_
  refine aw_istore_n 3 q_M_isPlan_3 rfl rfl rfl ?_
  refine aw_iconst 0 q_M_isPlan_4 rfl ?_
  refine aw_istore q_M_isPlan_5 rfl rfl ?_
  exact l_M_isPlan sc A q D t m b hm _ 0 rfl (by omega)
