/-! CONTRACTS 2: the rows of what was told (Works), read -/
theorem l_W_worthOfPlan (sc : am_S) (A : ST) (q : QS) (D : ST) (t : TS) (m : Nat) (b : bd A) (hm : m < 16384) : ∀ (n i : Nat), x_nc A - i = n → i ≤ x_nc A →  AW sc m_W_worthOfPlan 1 5 [some (.ref 2), some (.int (nI m)), some (.long (lZ (sm i (fun c => if m.testBit c = true then x_wo A c else 0)))), none, some (.int (nI i))] [] (hp A q D t) (some (.long (lZ (wsum A m)))) (hp A q D t) := by
  intro n
  induction n using Nat.strongRecOn with
  | _ n ih =>
    intro i hn hi
    have b3 := b.2.2.1
    refine aw_iload q_W_worthOfPlan_5 rfl ?_
    refine aw_aload_n 0 q_W_worthOfPlan_7 rfl rfl ?_
    refine aw_get 5 q_W_worthOfPlan_8 fl_W_55 rfl rfl ?_
    refine aw_icmp_ge 39 q_W_worthOfPlan_11 rfl (fun c11 => ?_) (fun c11 => ?_)
    · skip
      refine aw_lload_n 2 q_W_worthOfPlan_39 rfl rfl ?_
      exact aw_lret q_W_worthOfPlan_40 rfl (by rw [show i = x_nc A from Nat.le_antisymm hi (nge_ge c11 (by omega) (by omega))]; rfl) rfl
    · skip
      have hlt : i < x_nc A := nge_lt c11 (by omega) (by omega)
      refine aw_iload_n 1 q_W_worthOfPlan_14 rfl rfl ?_
      refine aw_iload q_W_worthOfPlan_15 rfl ?_
      refine aw_S2 q_W_worthOfPlan_17 st_W_58 (by decide) (Nat.le_of_ble_eq_true rfl) (c_B_isIn _ _ _ _ (by omega) (by omega)) ?_
      refine aw_if_eq 33 q_W_worthOfPlan_20 rfl (fun c20 => ?_) (fun c20 => ?_)
      · skip
        first | refine aw_iinc _ q_W_worthOfPlan_33 rfl (am_inc _) rfl rfl ?_ | refine aw_iinc _ q_W_worthOfPlan_33 rfl rfl rfl rfl ?_
        refine aw_goto 5 q_W_worthOfPlan_36 rfl ?_
        first
          | (have h9 := zI_0.mp c20; rw [sm_f (f := (fun c => if m.testBit c = true then x_wo A c else 0)) (i := i) (by simp [h9])]; exact ih _ (by omega) (i + 1) rfl (by omega))
          | (have h9 := zI_n0.mp c20; rw [sm_t (f := (fun c => if m.testBit c = true then x_wo A c else 0)) (i := i) (by simp [h9])]; exact ih _ (by omega) (i + 1) rfl (by omega))
      · skip
        refine aw_lload_n 2 q_W_worthOfPlan_23 rfl rfl ?_
        refine aw_aload_n 0 q_W_worthOfPlan_24 rfl rfl ?_
        refine aw_get 9 q_W_worthOfPlan_25 fl_W_31 rfl rfl ?_
        refine aw_iload q_W_worthOfPlan_28 rfl ?_
        refine aw_laldN q_W_worthOfPlan_30 rfl (by omega) rfl ?_
        refine aw_ladd q_W_worthOfPlan_31 ?_
        refine aw_lstore_n 2 q_W_worthOfPlan_32 rfl rfl rfl ?_
        first | refine aw_iinc _ q_W_worthOfPlan_33 rfl (am_inc _) rfl rfl ?_ | refine aw_iinc _ q_W_worthOfPlan_33 rfl rfl rfl rfl ?_
        refine aw_goto 5 q_W_worthOfPlan_36 rfl ?_
        first
          | (have h9 := zI_0.mp c20; rw [sm_f (f := (fun c => if m.testBit c = true then x_wo A c else 0)) (i := i) (by simp [h9])]; exact ih _ (by omega) (i + 1) rfl (by omega))
          | (have h9 := zI_n0.mp c20; rw [sm_t (f := (fun c => if m.testBit c = true then x_wo A c else 0)) (i := i) (by simp [h9])]; exact ih _ (by omega) (i + 1) rfl (by omega))
theorem c_W_worthOfPlan (sc : am_S) (A : ST) (q : QS) (D : ST) (t : TS) (m : Nat) (b : bd A) (hm : m < 16384) : AM sc m_W_worthOfPlan 1 [.ref 2, .int (nI m)] (hp A q D t) (some (.long (lZ (wsum A m)))) (hp A q D t) := by
  refine AM.of (by decide) (Nat.le_of_ble_eq_true rfl) ?_
  show AW sc m_W_worthOfPlan 1 0 [some (.ref 2), some (.int (nI m)), none, none, none] [] _ _ _
  refine aw_lconst (lZ 0) q_W_worthOfPlan_0 rfl ?_
  refine aw_lstore_n 2 q_W_worthOfPlan_1 rfl rfl rfl ?_
  refine aw_iconst 0 q_W_worthOfPlan_2 rfl ?_
  refine aw_istore q_W_worthOfPlan_3 rfl rfl ?_
  exact l_W_worthOfPlan sc A q D t m b hm _ 0 rfl (by omega)
theorem l_W_worthOfDistrict (sc : am_S) (A : ST) (q : QS) (D : ST) (t : TS) (m dd : Nat) (b : bd A) (hm : m < 16384) (hdd : dd < 4) : ∀ (n i : Nat), x_nc A - i = n → i ≤ x_nc A →  AW sc m_W_worthOfDistrict 1 5 [some (.ref 2), some (.int (nI m)), some (.int (nI dd)), some (.long (lZ (sm i (fun c => if m.testBit c = true ∧ x_di A (x_th A c) = dd then x_wo A c else 0)))), none, some (.int (nI i))] [] (hp A q D t) (some (.long (lZ (dsum A m dd)))) (hp A q D t) := by
  intro n
  induction n using Nat.strongRecOn with
  | _ n ih =>
    intro i hn hi
    have b3 := b.2.2.1
    have b6 := b.2.2.2.2.2.1 (x_th A i)
    have b4 := b.2.2.2.1 i
    refine aw_iload q_W_worthOfDistrict_5 rfl ?_
    refine aw_aload_n 0 q_W_worthOfDistrict_7 rfl rfl ?_
    refine aw_get 5 q_W_worthOfDistrict_8 fl_W_55 rfl rfl ?_
    refine aw_icmp_ge 49 q_W_worthOfDistrict_11 rfl (fun c11 => ?_) (fun c11 => ?_)
    · skip
      refine aw_lload_n 3 q_W_worthOfDistrict_49 rfl rfl ?_
      exact aw_lret q_W_worthOfDistrict_50 rfl (by rw [show i = x_nc A from Nat.le_antisymm hi (nge_ge c11 (by omega) (by omega))]; rfl) rfl
    · skip
      have hlt : i < x_nc A := nge_lt c11 (by omega) (by omega)
      refine aw_iload_n 1 q_W_worthOfDistrict_14 rfl rfl ?_
      refine aw_iload q_W_worthOfDistrict_15 rfl ?_
      refine aw_S2 q_W_worthOfDistrict_17 st_W_58 (by decide) (Nat.le_of_ble_eq_true rfl) (c_B_isIn _ _ _ _ (by omega) (by omega)) ?_
      refine aw_if_eq 43 q_W_worthOfDistrict_20 rfl (fun c20 => ?_) (fun c20 => ?_)
      · skip
        first | refine aw_iinc _ q_W_worthOfDistrict_43 rfl (am_inc _) rfl rfl ?_ | refine aw_iinc _ q_W_worthOfDistrict_43 rfl rfl rfl rfl ?_
        refine aw_goto 5 q_W_worthOfDistrict_46 rfl ?_
        first
          | (have h9 := zI_0.mp c20; rw [sm_f (f := (fun c => if m.testBit c = true ∧ x_di A (x_th A c) = dd then x_wo A c else 0)) (i := i) (by simp [h9])]; exact ih _ (by omega) (i + 1) rfl (by omega))
          | (have h9 := nI_ne (by omega) (by omega) c30; rw [sm_f (f := (fun c => if m.testBit c = true ∧ x_di A (x_th A c) = dd then x_wo A c else 0)) (i := i) (by simp [h9])]; exact ih _ (by omega) (i + 1) rfl (by omega))
          | (have h9 := zI_n0.mp c20; have h8 := nI_eq' (by omega) (by omega) c30; rw [sm_t (f := (fun c => if m.testBit c = true ∧ x_di A (x_th A c) = dd then x_wo A c else 0)) (i := i) (by simp [h9, h8])]; exact ih _ (by omega) (i + 1) rfl (by omega))
      · skip
        refine aw_aload_n 0 q_W_worthOfDistrict_23 rfl rfl ?_
        refine aw_iload q_W_worthOfDistrict_24 rfl ?_
        refine aw_V1 q_W_worthOfDistrict_26 st_W_81 rfl (by decide) (Nat.le_of_ble_eq_true rfl) (c_W_districtOfChoice _ _ _ _ _ _ (by omega) (by omega)) ?_
        refine aw_iload_n 2 q_W_worthOfDistrict_29 rfl rfl ?_
        refine aw_icmp_ne 43 q_W_worthOfDistrict_30 rfl (fun c30 => ?_) (fun c30 => ?_)
        · skip
          first | refine aw_iinc _ q_W_worthOfDistrict_43 rfl (am_inc _) rfl rfl ?_ | refine aw_iinc _ q_W_worthOfDistrict_43 rfl rfl rfl rfl ?_
          refine aw_goto 5 q_W_worthOfDistrict_46 rfl ?_
          first
            | (have h9 := zI_0.mp c20; rw [sm_f (f := (fun c => if m.testBit c = true ∧ x_di A (x_th A c) = dd then x_wo A c else 0)) (i := i) (by simp [h9])]; exact ih _ (by omega) (i + 1) rfl (by omega))
            | (have h9 := nI_ne (by omega) (by omega) c30; rw [sm_f (f := (fun c => if m.testBit c = true ∧ x_di A (x_th A c) = dd then x_wo A c else 0)) (i := i) (by simp [h9])]; exact ih _ (by omega) (i + 1) rfl (by omega))
            | (have h9 := zI_n0.mp c20; have h8 := nI_eq' (by omega) (by omega) c30; rw [sm_t (f := (fun c => if m.testBit c = true ∧ x_di A (x_th A c) = dd then x_wo A c else 0)) (i := i) (by simp [h9, h8])]; exact ih _ (by omega) (i + 1) rfl (by omega))
        · skip
          refine aw_lload_n 3 q_W_worthOfDistrict_33 rfl rfl ?_
          refine aw_aload_n 0 q_W_worthOfDistrict_34 rfl rfl ?_
          refine aw_get 9 q_W_worthOfDistrict_35 fl_W_31 rfl rfl ?_
          refine aw_iload q_W_worthOfDistrict_38 rfl ?_
          refine aw_laldN q_W_worthOfDistrict_40 rfl (by omega) rfl ?_
          refine aw_ladd q_W_worthOfDistrict_41 ?_
          refine aw_lstore_n 3 q_W_worthOfDistrict_42 rfl rfl rfl ?_
          first | refine aw_iinc _ q_W_worthOfDistrict_43 rfl (am_inc _) rfl rfl ?_ | refine aw_iinc _ q_W_worthOfDistrict_43 rfl rfl rfl rfl ?_
          refine aw_goto 5 q_W_worthOfDistrict_46 rfl ?_
          first
            | (have h9 := zI_0.mp c20; rw [sm_f (f := (fun c => if m.testBit c = true ∧ x_di A (x_th A c) = dd then x_wo A c else 0)) (i := i) (by simp [h9])]; exact ih _ (by omega) (i + 1) rfl (by omega))
            | (have h9 := nI_ne (by omega) (by omega) c30; rw [sm_f (f := (fun c => if m.testBit c = true ∧ x_di A (x_th A c) = dd then x_wo A c else 0)) (i := i) (by simp [h9])]; exact ih _ (by omega) (i + 1) rfl (by omega))
            | (have h9 := zI_n0.mp c20; have h8 := nI_eq' (by omega) (by omega) c30; rw [sm_t (f := (fun c => if m.testBit c = true ∧ x_di A (x_th A c) = dd then x_wo A c else 0)) (i := i) (by simp [h9, h8])]; exact ih _ (by omega) (i + 1) rfl (by omega))
theorem c_W_worthOfDistrict (sc : am_S) (A : ST) (q : QS) (D : ST) (t : TS) (m dd : Nat) (b : bd A) (hm : m < 16384) (hdd : dd < 4) : AM sc m_W_worthOfDistrict 1 [.ref 2, .int (nI m), .int (nI dd)] (hp A q D t) (some (.long (lZ (dsum A m dd)))) (hp A q D t) := by
  refine AM.of (by decide) (Nat.le_of_ble_eq_true rfl) ?_
  show AW sc m_W_worthOfDistrict 1 0 [some (.ref 2), some (.int (nI m)), some (.int (nI dd)), none, none, none] [] _ _ _
  refine aw_lconst (lZ 0) q_W_worthOfDistrict_0 rfl ?_
  refine aw_lstore_n 3 q_W_worthOfDistrict_1 rfl rfl rfl ?_
  refine aw_iconst 0 q_W_worthOfDistrict_2 rfl ?_
  refine aw_istore q_W_worthOfDistrict_3 rfl rfl ?_
  exact l_W_worthOfDistrict sc A q D t m dd b hm hdd _ 0 rfl (by omega)
theorem sw_shr {j i : Nat} (hj : j < 16384) (hi : i < 32) : (nI j >>> (nI i &&& 31)) = nI (j / 2 ^ i) := pk_shrN (by omega) _ i (bt_amt i hi)
theorem sw_end {A : ST} {c s i : Nat} (hj : x_jt A c &&& s < 16384) (hi : i ≤ x_nc A) (hi2 : i < 32) (h : (nI (x_jt A c &&& s) >>> (nI i &&& 31)) = 0) : sm i (swf A c s) = sw A c s := by
  rw [sw_shr hj hi2] at h
  have h1 : (x_jt A c &&& s) / 2 ^ i = 0 := by
    have := (nI_eq (a := (x_jt A c &&& s) / 2 ^ i) (b := 0) (Nat.lt_of_le_of_lt (Nat.div_le_self _ _) (by omega)) (by omega)).mp h
    exact this
  have h2 : x_jt A c &&& s < 2 ^ i := by
    rcases Nat.lt_or_ge (x_jt A c &&& s) (2 ^ i) with q | q
    · exact q
    · exact absurd (Nat.div_pos q (Nat.two_pow_pos i)) (by omega)
  unfold sw
  refine (sm_tail hi (fun o h3 _ => ?_)).symm
  unfold swf
  rw [Nat.testBit_lt_two_pow (Nat.lt_of_lt_of_le h2 (Nat.pow_le_pow_right (by decide) h3))]
  rfl
theorem l_W_savesWith (sc : am_S) (A : ST) (q : QS) (D : ST) (t : TS) (c s : Nat) (b : bd A) (hc : c < 14) : ∀ (n i : Nat), x_nc A - i = n → i ≤ x_nc A →  AW sc m_W_savesWith 0 15 [some (.ref 2), some (.int (nI c)), some (.int (nI s)), some (.int (nI (x_jt A c &&& s))), some (.long (lZ (sm i (swf A c s)))), none, some (.int (nI i))] [] (hp A q D t) (some (.long (lZ (sw A c s)))) (hp A q D t) := by
  intro n
  induction n using Nat.strongRecOn with
  | _ n ih =>
    intro i hn hi
    have b3 := b.2.2.1
    have b7 := and_lt (b := s) 16384 (b.2.2.2.2.2.2.1 c)
    refine aw_iload q_W_savesWith_15 rfl ?_
    refine aw_aload_n 0 q_W_savesWith_17 rfl rfl ?_
    refine aw_get 5 q_W_savesWith_18 fl_W_55 rfl rfl ?_
    refine aw_icmp_ge 61 q_W_savesWith_21 rfl (fun c21 => ?_) (fun c21 => ?_)
    · skip
      refine aw_lload q_W_savesWith_61 rfl ?_
      exact aw_lret q_W_savesWith_63 rfl (by rw [show i = x_nc A from Nat.le_antisymm hi (nge_ge c21 (by omega) (by omega))]; rfl) rfl
    · skip
      have hlt : i < x_nc A := nge_lt c21 (by omega) (by omega)
      refine aw_iload_n 3 q_W_savesWith_24 rfl rfl ?_
      refine aw_iload q_W_savesWith_25 rfl ?_
      refine aw_ishr q_W_savesWith_27 ?_
      refine aw_if_eq 61 q_W_savesWith_28 rfl (fun c28 => ?_) (fun c28 => ?_)
      · skip
        refine aw_lload q_W_savesWith_61 rfl ?_
        exact aw_lret q_W_savesWith_63 rfl (by rw [sw_end (by omega) hi (by omega) c28]) rfl
      · skip
        refine aw_iload_n 3 q_W_savesWith_31 rfl rfl ?_
        refine aw_iload q_W_savesWith_32 rfl ?_
        refine aw_ishr q_W_savesWith_34 ?_
        refine aw_iconst 1 q_W_savesWith_35 rfl ?_
        refine aw_iand q_W_savesWith_36 ?_
        refine aw_iconst 1 q_W_savesWith_37 rfl ?_
        refine aw_icmp_ne 55 q_W_savesWith_38 rfl (fun c38 => ?_) (fun c38 => ?_)
        · skip
          first | refine aw_iinc _ q_W_savesWith_55 rfl (am_inc _) rfl rfl ?_ | refine aw_iinc _ q_W_savesWith_55 rfl rfl rfl rfl ?_
          refine aw_goto 15 q_W_savesWith_58 rfl ?_
          first
            | (rw [sm_f (f := swf A c s) (i := i) (by simp [swf, mt (bt_is (m := x_jt A c &&& s) (c := i) (by omega) (by omega)).mpr c38])]; exact ih _ (by omega) (i + 1) rfl (by omega))
            | (rw [sm_t (f := swf A c s) (i := i) (by simp [swf, (bt_is (m := x_jt A c &&& s) (c := i) (by omega) (by omega)).mp c38])]; exact ih _ (by omega) (i + 1) rfl (by omega))
        · skip
          refine aw_lload q_W_savesWith_41 rfl ?_
          refine aw_aload_n 0 q_W_savesWith_43 rfl rfl ?_
          refine aw_get 13 q_W_savesWith_44 fl_W_39 rfl rfl ?_
          refine aw_iload_n 1 q_W_savesWith_47 rfl rfl ?_
          refine aw_aaldN q_W_savesWith_48 rfl hc rfl ?_
          refine aw_iload q_W_savesWith_49 rfl ?_
          refine aw_laldN q_W_savesWith_51 (hp_sv A q D t c hc) (by omega) rfl ?_
          refine aw_ladd q_W_savesWith_52 ?_
          refine aw_lstore q_W_savesWith_53 rfl rfl ?_
          first | refine aw_iinc _ q_W_savesWith_55 rfl (am_inc _) rfl rfl ?_ | refine aw_iinc _ q_W_savesWith_55 rfl rfl rfl rfl ?_
          refine aw_goto 15 q_W_savesWith_58 rfl ?_
          first
            | (rw [sm_f (f := swf A c s) (i := i) (by simp [swf, mt (bt_is (m := x_jt A c &&& s) (c := i) (by omega) (by omega)).mpr c38])]; exact ih _ (by omega) (i + 1) rfl (by omega))
            | (rw [sm_t (f := swf A c s) (i := i) (by simp [swf, (bt_is (m := x_jt A c &&& s) (c := i) (by omega) (by omega)).mp c38])]; exact ih _ (by omega) (i + 1) rfl (by omega))
theorem c_W_savesWith (sc : am_S) (A : ST) (q : QS) (D : ST) (t : TS) (c s : Nat) (b : bd A) (hc : c < 14) : AM sc m_W_savesWith 0 [.ref 2, .int (nI c), .int (nI s)] (hp A q D t) (some (.long (lZ (sw A c s)))) (hp A q D t) := by
  refine AM.of (by decide) (Nat.le_of_ble_eq_true rfl) ?_
  show AW sc m_W_savesWith 0 0 [some (.ref 2), some (.int (nI c)), some (.int (nI s)), none, none, none, none] [] _ _ _
  refine aw_aload_n 0 q_W_savesWith_0 rfl rfl ?_
  refine aw_get 12 q_W_savesWith_1 fl_W_34 rfl rfl ?_
  refine aw_iload_n 1 q_W_savesWith_4 rfl rfl ?_
  refine aw_ialdN q_W_savesWith_5 rfl (by omega) rfl ?_
  refine aw_iload_n 2 q_W_savesWith_6 rfl rfl ?_
  refine aw_iand q_W_savesWith_7 ?_
  rw [nI_and]
  refine aw_istore_n 3 q_W_savesWith_8 rfl rfl rfl ?_
  refine aw_lconst (lZ 0) q_W_savesWith_9 rfl ?_
  refine aw_lstore q_W_savesWith_10 rfl rfl ?_
  refine aw_iconst 0 q_W_savesWith_12 rfl ?_
  refine aw_istore q_W_savesWith_13 rfl rfl ?_
  exact l_W_savesWith sc A q D t c s b hc _ 0 rfl (by omega)
theorem c_W_savesOfAllJoins (sc : am_S) (A : ST) (q : QS) (D : ST) (t : TS) (c : Nat) (b : bd A) (hc : c < 14) : AM sc m_W_savesOfAllJoins 1 [.ref 2, .int (nI c)] (hp A q D t) (some (.long (lZ (sw A c (x_jt A c))))) (hp A q D t) := by
  refine AM.of (by decide) (Nat.le_of_ble_eq_true rfl) ?_
  show AW sc m_W_savesOfAllJoins 1 0 [some (.ref 2), some (.int (nI c))] [] _ _ _
  refine aw_aload_n 0 q_W_savesOfAllJoins_0 rfl rfl ?_
  refine aw_iload_n 1 q_W_savesOfAllJoins_1 rfl rfl ?_
  refine aw_aload_n 0 q_W_savesOfAllJoins_2 rfl rfl ?_
  refine aw_get 12 q_W_savesOfAllJoins_3 fl_W_34 rfl rfl ?_
  refine aw_iload_n 1 q_W_savesOfAllJoins_6 rfl rfl ?_
  refine aw_ialdN q_W_savesOfAllJoins_7 rfl (by omega) rfl ?_
  refine aw_V2 q_W_savesOfAllJoins_8 st_W_65 rfl (by decide) (Nat.le_of_ble_eq_true rfl) (c_W_savesWith _ _ _ _ _ _ _ b hc) ?_
  exact aw_lret q_W_savesOfAllJoins_11 rfl rfl rfl
theorem cmk_t {A : ST} {m y i : Nat} (h : m.testBit i = true ∧ x_yr A i = y) : cmk A m y (i + 1) = cmk A m y i ||| 2 ^ i := by simp only [cmk, if_pos h]
theorem cmk_f {A : ST} {m y i : Nat} (h : ¬ (m.testBit i = true ∧ x_yr A i = y)) : cmk A m y (i + 1) = cmk A m y i := by simp only [cmk, if_neg h]
theorem spI_eq {A : ST} (b : bd A) (m y : Nat) : (if lZ (sps A m y) < 0 then 0 else lZ (sps A m y)) = lZ (spI A m y) := by
  have h := sps_bd b m y
  rw [← lZ_0]
  unfold spI
  by_cases c : sps A m y < 0
  · rw [if_pos c, if_pos ((lZ_lt (by omega) (by omega)).mpr c)]
  · rw [if_neg c, if_neg (fun z => c ((lZ_lt (by omega) (by omega)).mp z))]
theorem sp_step {A : ST} {m y i : Nat} (h : m.testBit i = true ∧ x_yr A i = y) : lZ (sm i (spf A m y)) + (lZ (x_co A i) - lZ (sw A i (cmk A m y i))) = lZ (sm (i + 1) (spf A m y)) := by
  rw [lZ_sub]
  exact sm_t (by simp only [spf, if_pos h])
theorem l_W_spentIn (sc : am_S) (A : ST) (q : QS) (D : ST) (t : TS) (m y : Nat) (b : bd A) (hm : m < 16384) (hy : y < 6) : ∀ (n i : Nat), x_nc A - i = n → i ≤ x_nc A →  AW sc m_W_spentIn 1 8 [some (.ref 2), some (.int (nI m)), some (.int (nI y)), some (.long (lZ (sm i (spf A m y)))), none, some (.int (nI (cmk A m y i))), some (.int (nI i))] [] (hp A q D t) (some (.long (lZ (spI A m y)))) (hp A q D t) := by
  intro n
  induction n using Nat.strongRecOn with
  | _ n ih =>
    intro i hn hi
    have b3 := b.2.2.1
    have b5 := b.2.2.2.2.1 i
    have b8 := cmk_lt A m y i
    refine aw_iload q_W_spentIn_8 rfl ?_
    refine aw_aload_n 0 q_W_spentIn_10 rfl rfl ?_
    refine aw_get 5 q_W_spentIn_11 fl_W_55 rfl rfl ?_
    refine aw_icmp_ge 71 q_W_spentIn_14 rfl (fun c14 => ?_) (fun c14 => ?_)
    · skip
      refine aw_lconst (lZ 0) q_W_spentIn_71 rfl ?_
      refine aw_lload_n 3 q_W_spentIn_72 rfl rfl ?_
      refine aw_maxL q_W_spentIn_73 (am_in2 (i := 184) rfl rfl) (by decide) (Nat.le_of_ble_eq_true rfl) ?_
      exact aw_lret q_W_spentIn_76 rfl (by rw [show i = x_nc A from Nat.le_antisymm hi (nge_ge c14 (by omega) (by omega)), ← spI_eq b m y]; rfl) rfl
    · skip
      have hlt : i < x_nc A := nge_lt c14 (by omega) (by omega)
      have b9 := p14 (i := i) (by omega)
      refine aw_iload_n 1 q_W_spentIn_17 rfl rfl ?_
      refine aw_iload q_W_spentIn_18 rfl ?_
      refine aw_S2 q_W_spentIn_20 st_W_58 (by decide) (Nat.le_of_ble_eq_true rfl) (c_B_isIn _ _ _ _ (by omega) (by omega)) ?_
      refine aw_if_eq 65 q_W_spentIn_23 rfl (fun c23 => ?_) (fun c23 => ?_)
      · skip
        first | refine aw_iinc _ q_W_spentIn_65 rfl (am_inc _) rfl rfl ?_ | refine aw_iinc _ q_W_spentIn_65 rfl rfl rfl rfl ?_
        refine aw_goto 8 q_W_spentIn_68 rfl ?_
        first
          | (have hno : ¬ (m.testBit i = true ∧ x_yr A i = y) := (fun z => by rw [zI_0.mp c23] at z; exact Bool.noConfusion z.1); rw [sm_f (f := spf A m y) (i := i) (by simp only [spf, if_neg hno]), ← cmk_f hno]; exact ih _ (by omega) (i + 1) rfl (by omega))
          | (have hno : ¬ (m.testBit i = true ∧ x_yr A i = y) := (fun z => nI_ne (by omega) (by omega) c34 z.2); rw [sm_f (f := spf A m y) (i := i) (by simp only [spf, if_neg hno]), ← cmk_f hno]; exact ih _ (by omega) (i + 1) rfl (by omega))
          | (have hyes : m.testBit i = true ∧ x_yr A i = y := ⟨zI_n0.mp c23, nI_eq' (by omega) (by omega) c34⟩; rw [sp_step hyes, bt_one (by omega), nI_or, ← cmk_t hyes]; exact ih _ (by omega) (i + 1) rfl (by omega))
      · skip
        refine aw_aload_n 0 q_W_spentIn_26 rfl rfl ?_
        refine aw_get 7 q_W_spentIn_27 fl_W_25 rfl rfl ?_
        refine aw_iload q_W_spentIn_30 rfl ?_
        refine aw_ialdN q_W_spentIn_32 rfl (by omega) rfl ?_
        refine aw_iload_n 2 q_W_spentIn_33 rfl rfl ?_
        refine aw_icmp_ne 65 q_W_spentIn_34 rfl (fun c34 => ?_) (fun c34 => ?_)
        · skip
          first | refine aw_iinc _ q_W_spentIn_65 rfl (am_inc _) rfl rfl ?_ | refine aw_iinc _ q_W_spentIn_65 rfl rfl rfl rfl ?_
          refine aw_goto 8 q_W_spentIn_68 rfl ?_
          first
            | (have hno : ¬ (m.testBit i = true ∧ x_yr A i = y) := (fun z => by rw [zI_0.mp c23] at z; exact Bool.noConfusion z.1); rw [sm_f (f := spf A m y) (i := i) (by simp only [spf, if_neg hno]), ← cmk_f hno]; exact ih _ (by omega) (i + 1) rfl (by omega))
            | (have hno : ¬ (m.testBit i = true ∧ x_yr A i = y) := (fun z => nI_ne (by omega) (by omega) c34 z.2); rw [sm_f (f := spf A m y) (i := i) (by simp only [spf, if_neg hno]), ← cmk_f hno]; exact ih _ (by omega) (i + 1) rfl (by omega))
            | (have hyes : m.testBit i = true ∧ x_yr A i = y := ⟨zI_n0.mp c23, nI_eq' (by omega) (by omega) c34⟩; rw [sp_step hyes, bt_one (by omega), nI_or, ← cmk_t hyes]; exact ih _ (by omega) (i + 1) rfl (by omega))
        · skip
          refine aw_lload_n 3 q_W_spentIn_37 rfl rfl ?_
          refine aw_aload_n 0 q_W_spentIn_38 rfl rfl ?_
          refine aw_get 8 q_W_spentIn_39 fl_W_28 rfl rfl ?_
          refine aw_iload q_W_spentIn_42 rfl ?_
          refine aw_laldN q_W_spentIn_44 rfl (by omega) rfl ?_
          refine aw_aload_n 0 q_W_spentIn_45 rfl rfl ?_
          refine aw_iload q_W_spentIn_46 rfl ?_
          refine aw_iload q_W_spentIn_48 rfl ?_
          refine aw_V2 q_W_spentIn_50 st_W_65 rfl (by decide) (Nat.le_of_ble_eq_true rfl) (c_W_savesWith _ _ _ _ _ _ _ b (by omega)) ?_
          refine aw_lsub q_W_spentIn_53 ?_
          refine aw_ladd q_W_spentIn_54 ?_
          refine aw_lstore_n 3 q_W_spentIn_55 rfl rfl rfl ?_
          refine aw_iload q_W_spentIn_56 rfl ?_
          refine aw_iconst 1 q_W_spentIn_58 rfl ?_
          refine aw_iload q_W_spentIn_59 rfl ?_
          refine aw_ishl q_W_spentIn_61 ?_
          refine aw_ior q_W_spentIn_62 ?_
          refine aw_istore q_W_spentIn_63 rfl rfl ?_
          first | refine aw_iinc _ q_W_spentIn_65 rfl (am_inc _) rfl rfl ?_ | refine aw_iinc _ q_W_spentIn_65 rfl rfl rfl rfl ?_
          refine aw_goto 8 q_W_spentIn_68 rfl ?_
          first
            | (have hno : ¬ (m.testBit i = true ∧ x_yr A i = y) := (fun z => by rw [zI_0.mp c23] at z; exact Bool.noConfusion z.1); rw [sm_f (f := spf A m y) (i := i) (by simp only [spf, if_neg hno]), ← cmk_f hno]; exact ih _ (by omega) (i + 1) rfl (by omega))
            | (have hno : ¬ (m.testBit i = true ∧ x_yr A i = y) := (fun z => nI_ne (by omega) (by omega) c34 z.2); rw [sm_f (f := spf A m y) (i := i) (by simp only [spf, if_neg hno]), ← cmk_f hno]; exact ih _ (by omega) (i + 1) rfl (by omega))
            | (have hyes : m.testBit i = true ∧ x_yr A i = y := ⟨zI_n0.mp c23, nI_eq' (by omega) (by omega) c34⟩; rw [sp_step hyes, bt_one (by omega), nI_or, ← cmk_t hyes]; exact ih _ (by omega) (i + 1) rfl (by omega))
theorem c_W_spentIn (sc : am_S) (A : ST) (q : QS) (D : ST) (t : TS) (m y : Nat) (b : bd A) (hm : m < 16384) (hy : y < 6) : AM sc m_W_spentIn 1 [.ref 2, .int (nI m), .int (nI y)] (hp A q D t) (some (.long (lZ (spI A m y)))) (hp A q D t) := by
  refine AM.of (by decide) (Nat.le_of_ble_eq_true rfl) ?_
  show AW sc m_W_spentIn 1 0 [some (.ref 2), some (.int (nI m)), some (.int (nI y)), none, none, none, none] [] _ _ _
  refine aw_lconst (lZ 0) q_W_spentIn_0 rfl ?_
  refine aw_lstore_n 3 q_W_spentIn_1 rfl rfl rfl ?_
  refine aw_iconst 0 q_W_spentIn_2 rfl ?_
  refine aw_istore q_W_spentIn_3 rfl rfl ?_
  refine aw_iconst 0 q_W_spentIn_5 rfl ?_
  refine aw_istore q_W_spentIn_6 rfl rfl ?_
  exact l_W_spentIn sc A q D t m y b hm hy _ 0 rfl (by omega)
