/-! CONTRACTS 17: the reference: spent, fits, sets by their numbers, better, differ -/
def jdo (D : ST) : Prop := x_nj D ≤ 20 ∧ (∀ k, x_ja D k < 14) ∧ (∀ k, x_jb D k < 14) ∧ ∀ k, 0 ≤ x_js D k ∧ x_js D k ≤ 1000000
def cof (D : ST) (m y : Nat) : Nat → Int := fun c => if m.testBit c = true ∧ x_yr D c = y then x_co D c else 0
def jnf (D : ST) (m y : Nat) : Nat → Int := fun k => if (m.testBit (x_ja D k) = true ∧ m.testBit (x_jb D k) = true) ∧ x_yr D (x_ja D k) = y then x_js D k else 0
def smM (D : ST) (m y : Nat) : Int := sm (x_nc D) (cof D m y) - sm (x_nj D) (jnf D m y)
def spM (D : ST) (m y : Nat) : Int := if smM D m y < 0 then 0 else smM D m y
theorem smM_bd {D : ST} (b : bd D) (jd : jdo D) (m y : Nat) : -1000000000 ≤ smM D m y ∧ smM D m y ≤ 1000000000 := by
  have h1 := sm_le (n := x_nc D) (f := cof D m y) (a := 0) (b := 1000000) (fun i _ => by
    unfold cof
    have := b.2.2.2.2.2.2.2.1 i
    split <;> omega)
  have h2 := sm_le (n := x_nj D) (f := jnf D m y) (a := 0) (b := 1000000) (fun i _ => by
    unfold jnf
    have := jd.2.2.2 i
    split <;> omega)
  have h3 := b.2.2.1
  have h4 := jd.1
  unfold smM
  omega
theorem spM_bd {D : ST} (b : bd D) (jd : jdo D) (m y : Nat) : 0 ≤ spM D m y ∧ spM D m y ≤ 1000000000 := by
  have := smM_bd b jd m y
  unfold spM
  split <;> omega
theorem sm_m {f : Nat → Int} {i : Nat} {s x : Int} (h : f i = x) : lZ (s - sm i f) - lZ x = lZ (s - sm (i + 1) f) := by
  rw [lZ_sub]; simp only [sm, h]; congr 1; omega
theorem l_M_spentIn2 (sc : am_S) (A : ST) (q : QS) (D : ST) (t : TS) (m y : Nat) (b : bd D) (jd : jdo D) (hm : m < 16384) (hy : y < 6) : ∀ (n i : Nat), x_nj D - i = n → i ≤ x_nj D →  AW sc m_M_spentIn 1 57 [some (.ref 50), some (.int (nI m)), some (.int (nI y)), some (.long (lZ (sm (x_nc D) (cof D m y) - sm i (jnf D m y)))), none, some (.int (nI i))] [] (hp A q D t) (some (.long (lZ (spM D m y)))) (hp A q D t) := by
  intro n
  induction n using Nat.strongRecOn with
  | _ n ih =>
    intro i hn hi
    have j1 := jd.1
    have j2 := jd.2.1 i
    have j3 := jd.2.2.1 i
    have b5 := b.2.2.2.2.1 (x_ja D i)
    have bs := smM_bd b jd m y
    refine aw_iload q_M_spentIn_57 rfl ?_
    refine aw_aload_n 0 q_M_spentIn_59 rfl rfl ?_
    refine aw_get 11 q_M_spentIn_60 fl_M_103 rfl rfl ?_
    refine aw_icmp_ge 130 q_M_spentIn_63 rfl (fun c63 => ?_) (fun c63 => ?_)
    · skip
      have he : i = x_nj D := Nat.le_antisymm hi (nge_ge c63 (by omega) (by omega))
      rw [he, show sm (x_nc D) (cof D m y) - sm (x_nj D) (jnf D m y) = smM D m y from rfl]
      refine aw_lload_n 3 q_M_spentIn_130 rfl rfl ?_
      refine aw_lconst (lZ 0) q_M_spentIn_131 rfl ?_
      refine aw_lcmp_ge 140 q_M_spentIn_132 q_M_spentIn_133 rfl (fun c132 => ?_) (fun c132 => ?_)
      · skip
        refine aw_lload_n 3 q_M_spentIn_140 rfl rfl ?_
        exact aw_lret q_M_spentIn_141 rfl (by have e := (lZ_le (by omega) (by omega)).mp c132; unfold spM; rw [if_neg (by omega)]) rfl
      · skip
        refine aw_lconst (lZ 0) q_M_spentIn_136 rfl ?_
        refine aw_goto 141 q_M_spentIn_137 rfl ?_
        exact aw_lret q_M_spentIn_141 rfl (by have e := mt (lZ_le (by omega) (by omega)).mpr c132; unfold spM; rw [if_pos (by omega)]) rfl
    · skip
      have hlt : i < x_nj D := nge_lt c63 (by omega) (by omega)
      refine aw_lload_n 3 q_M_spentIn_66 rfl rfl ?_
      refine aw_iload_n 1 q_M_spentIn_67 rfl rfl ?_
      refine aw_aload_n 0 q_M_spentIn_68 rfl rfl ?_
      refine aw_get 12 q_M_spentIn_69 fl_M_32 rfl rfl ?_
      refine aw_iload q_M_spentIn_72 rfl ?_
      refine aw_ialdN q_M_spentIn_74 rfl (by omega) rfl ?_
      refine aw_S2 q_M_spentIn_75 st_M_94 (by omega) (Nat.le_of_ble_eq_true rfl) (c_M_has _ _ _ _ (by omega) (by omega)) ?_
      refine aw_if_eq 121 q_M_spentIn_78 rfl (fun c78 => ?_) (fun c78 => ?_)
      · skip
        refine aw_lconst (lZ 0) q_M_spentIn_121 rfl ?_
        refine aw_lsub q_M_spentIn_122 ?_
        refine aw_lstore_n 3 q_M_spentIn_123 rfl rfl rfl ?_
        first | refine aw_iinc _ q_M_spentIn_124 rfl (am_inc _) rfl rfl ?_ | refine aw_iinc _ q_M_spentIn_124 rfl rfl rfl rfl ?_
        refine aw_goto 57 q_M_spentIn_127 rfl ?_
        first
          | (have h9 := zI_0.mp c78; rw [sm_m (f := jnf D m y) (i := i) (x := 0) (by simp [jnf, h9])]; exact ih _ (by omega) (i + 1) rfl (by omega))
          | (have h9 := zI_0.mp c92; rw [sm_m (f := jnf D m y) (i := i) (x := 0) (by simp [jnf, h9])]; exact ih _ (by omega) (i + 1) rfl (by omega))
          | (have h9 := nI_ne (by omega) (by omega) c108; rw [sm_m (f := jnf D m y) (i := i) (x := 0) (by simp [jnf, h9])]; exact ih _ (by omega) (i + 1) rfl (by omega))
          | (have h9 := zI_n0.mp c78; have h8 := zI_n0.mp c92; have h7 := nI_eq' (by omega) (by omega) c108; rw [sm_m (f := jnf D m y) (i := i) (x := x_js D i) (by simp [jnf, h9, h8, h7])]; exact ih _ (by omega) (i + 1) rfl (by omega))
      · skip
        refine aw_iload_n 1 q_M_spentIn_81 rfl rfl ?_
        refine aw_aload_n 0 q_M_spentIn_82 rfl rfl ?_
        refine aw_get 13 q_M_spentIn_83 fl_M_35 rfl rfl ?_
        refine aw_iload q_M_spentIn_86 rfl ?_
        refine aw_ialdN q_M_spentIn_88 rfl (by omega) rfl ?_
        refine aw_S2 q_M_spentIn_89 st_M_94 (by omega) (Nat.le_of_ble_eq_true rfl) (c_M_has _ _ _ _ (by omega) (by omega)) ?_
        refine aw_if_eq 121 q_M_spentIn_92 rfl (fun c92 => ?_) (fun c92 => ?_)
        · skip
          refine aw_lconst (lZ 0) q_M_spentIn_121 rfl ?_
          refine aw_lsub q_M_spentIn_122 ?_
          refine aw_lstore_n 3 q_M_spentIn_123 rfl rfl rfl ?_
          first | refine aw_iinc _ q_M_spentIn_124 rfl (am_inc _) rfl rfl ?_ | refine aw_iinc _ q_M_spentIn_124 rfl rfl rfl rfl ?_
          refine aw_goto 57 q_M_spentIn_127 rfl ?_
          first
            | (have h9 := zI_0.mp c78; rw [sm_m (f := jnf D m y) (i := i) (x := 0) (by simp [jnf, h9])]; exact ih _ (by omega) (i + 1) rfl (by omega))
            | (have h9 := zI_0.mp c92; rw [sm_m (f := jnf D m y) (i := i) (x := 0) (by simp [jnf, h9])]; exact ih _ (by omega) (i + 1) rfl (by omega))
            | (have h9 := nI_ne (by omega) (by omega) c108; rw [sm_m (f := jnf D m y) (i := i) (x := 0) (by simp [jnf, h9])]; exact ih _ (by omega) (i + 1) rfl (by omega))
            | (have h9 := zI_n0.mp c78; have h8 := zI_n0.mp c92; have h7 := nI_eq' (by omega) (by omega) c108; rw [sm_m (f := jnf D m y) (i := i) (x := x_js D i) (by simp [jnf, h9, h8, h7])]; exact ih _ (by omega) (i + 1) rfl (by omega))
        · skip
          refine aw_aload_n 0 q_M_spentIn_95 rfl rfl ?_
          refine aw_get 6 q_M_spentIn_96 fl_M_19 rfl rfl ?_
          refine aw_aload_n 0 q_M_spentIn_99 rfl rfl ?_
          refine aw_get 12 q_M_spentIn_100 fl_M_32 rfl rfl ?_
          refine aw_iload q_M_spentIn_103 rfl ?_
          refine aw_ialdN q_M_spentIn_105 rfl (by omega) rfl ?_
          refine aw_ialdN q_M_spentIn_106 rfl (by omega) rfl ?_
          refine aw_iload_n 2 q_M_spentIn_107 rfl rfl ?_
          refine aw_icmp_ne 121 q_M_spentIn_108 rfl (fun c108 => ?_) (fun c108 => ?_)
          · skip
            refine aw_lconst (lZ 0) q_M_spentIn_121 rfl ?_
            refine aw_lsub q_M_spentIn_122 ?_
            refine aw_lstore_n 3 q_M_spentIn_123 rfl rfl rfl ?_
            first | refine aw_iinc _ q_M_spentIn_124 rfl (am_inc _) rfl rfl ?_ | refine aw_iinc _ q_M_spentIn_124 rfl rfl rfl rfl ?_
            refine aw_goto 57 q_M_spentIn_127 rfl ?_
            first
              | (have h9 := zI_0.mp c78; rw [sm_m (f := jnf D m y) (i := i) (x := 0) (by simp [jnf, h9])]; exact ih _ (by omega) (i + 1) rfl (by omega))
              | (have h9 := zI_0.mp c92; rw [sm_m (f := jnf D m y) (i := i) (x := 0) (by simp [jnf, h9])]; exact ih _ (by omega) (i + 1) rfl (by omega))
              | (have h9 := nI_ne (by omega) (by omega) c108; rw [sm_m (f := jnf D m y) (i := i) (x := 0) (by simp [jnf, h9])]; exact ih _ (by omega) (i + 1) rfl (by omega))
              | (have h9 := zI_n0.mp c78; have h8 := zI_n0.mp c92; have h7 := nI_eq' (by omega) (by omega) c108; rw [sm_m (f := jnf D m y) (i := i) (x := x_js D i) (by simp [jnf, h9, h8, h7])]; exact ih _ (by omega) (i + 1) rfl (by omega))
          · skip
            refine aw_aload_n 0 q_M_spentIn_111 rfl rfl ?_
            refine aw_get 14 q_M_spentIn_112 fl_M_38 rfl rfl ?_
            refine aw_iload q_M_spentIn_115 rfl ?_
            refine aw_laldN q_M_spentIn_117 rfl (by omega) rfl ?_
            refine aw_goto 122 q_M_spentIn_118 rfl ?_
            refine aw_lsub q_M_spentIn_122 ?_
            refine aw_lstore_n 3 q_M_spentIn_123 rfl rfl rfl ?_
            first | refine aw_iinc _ q_M_spentIn_124 rfl (am_inc _) rfl rfl ?_ | refine aw_iinc _ q_M_spentIn_124 rfl rfl rfl rfl ?_
            refine aw_goto 57 q_M_spentIn_127 rfl ?_
            first
              | (have h9 := zI_0.mp c78; rw [sm_m (f := jnf D m y) (i := i) (x := 0) (by simp [jnf, h9])]; exact ih _ (by omega) (i + 1) rfl (by omega))
              | (have h9 := zI_0.mp c92; rw [sm_m (f := jnf D m y) (i := i) (x := 0) (by simp [jnf, h9])]; exact ih _ (by omega) (i + 1) rfl (by omega))
              | (have h9 := nI_ne (by omega) (by omega) c108; rw [sm_m (f := jnf D m y) (i := i) (x := 0) (by simp [jnf, h9])]; exact ih _ (by omega) (i + 1) rfl (by omega))
              | (have h9 := zI_n0.mp c78; have h8 := zI_n0.mp c92; have h7 := nI_eq' (by omega) (by omega) c108; rw [sm_m (f := jnf D m y) (i := i) (x := x_js D i) (by simp [jnf, h9, h8, h7])]; exact ih _ (by omega) (i + 1) rfl (by omega))
theorem l_M_spentIn (sc : am_S) (A : ST) (q : QS) (D : ST) (t : TS) (m y : Nat) (b : bd D) (jd : jdo D) (hm : m < 16384) (hy : y < 6) : ∀ (n i : Nat), x_nc D - i = n → i ≤ x_nc D →  AW sc m_M_spentIn 1 5 [some (.ref 50), some (.int (nI m)), some (.int (nI y)), some (.long (lZ (sm i (cof D m y)))), none, some (.int (nI i))] [] (hp A q D t) (some (.long (lZ (spM D m y)))) (hp A q D t) := by
  intro n
  induction n using Nat.strongRecOn with
  | _ n ih =>
    intro i hn hi
    have b3 := b.2.2.1
    have b5 := b.2.2.2.2.1 i
    refine aw_iload q_M_spentIn_5 rfl ?_
    refine aw_aload_n 0 q_M_spentIn_7 rfl rfl ?_
    refine aw_get 4 q_M_spentIn_8 fl_M_84 rfl rfl ?_
    refine aw_icmp_ge 54 q_M_spentIn_11 rfl (fun c11 => ?_) (fun c11 => ?_)
    · skip
      have he : i = x_nc D := Nat.le_antisymm hi (nge_ge c11 (by omega) (by omega))
      rw [he]
      refine aw_iconst 0 q_M_spentIn_54 rfl ?_
      refine aw_istore q_M_spentIn_55 rfl rfl ?_
      have h0 := l_M_spentIn2 sc A q D t m y b jd hm hy _ 0 rfl (by omega)
      rw [show sm (x_nc D) (cof D m y) - sm 0 (jnf D m y) = sm (x_nc D) (cof D m y) from Int.sub_zero _] at h0
      exact h0
    · skip
      have hlt : i < x_nc D := nge_lt c11 (by omega) (by omega)
      refine aw_lload_n 3 q_M_spentIn_14 rfl rfl ?_
      refine aw_iload_n 1 q_M_spentIn_15 rfl rfl ?_
      refine aw_iload q_M_spentIn_16 rfl ?_
      refine aw_S2 q_M_spentIn_18 st_M_94 (by omega) (Nat.le_of_ble_eq_true rfl) (c_M_has _ _ _ _ (by omega) (by omega)) ?_
      refine aw_if_eq 45 q_M_spentIn_21 rfl (fun c21 => ?_) (fun c21 => ?_)
      · skip
        refine aw_lconst (lZ 0) q_M_spentIn_45 rfl ?_
        refine aw_ladd q_M_spentIn_46 ?_
        refine aw_lstore_n 3 q_M_spentIn_47 rfl rfl rfl ?_
        first | refine aw_iinc _ q_M_spentIn_48 rfl (am_inc _) rfl rfl ?_ | refine aw_iinc _ q_M_spentIn_48 rfl rfl rfl rfl ?_
        refine aw_goto 5 q_M_spentIn_51 rfl ?_
        first
          | (have h9 := zI_0.mp c21; rw [sm_t (f := cof D m y) (i := i) (x := 0) (by simp [cof, h9])]; exact ih _ (by omega) (i + 1) rfl (by omega))
          | (have h9 := nI_ne (by omega) (by omega) c32; rw [sm_t (f := cof D m y) (i := i) (x := 0) (by simp [cof, h9])]; exact ih _ (by omega) (i + 1) rfl (by omega))
          | (have h9 := zI_n0.mp c21; have h8 := nI_eq' (by omega) (by omega) c32; rw [sm_t (f := cof D m y) (i := i) (x := x_co D i) (by simp [cof, h9, h8])]; exact ih _ (by omega) (i + 1) rfl (by omega))
      · skip
        refine aw_aload_n 0 q_M_spentIn_24 rfl rfl ?_
        refine aw_get 6 q_M_spentIn_25 fl_M_19 rfl rfl ?_
        refine aw_iload q_M_spentIn_28 rfl ?_
        refine aw_ialdN q_M_spentIn_30 rfl (by omega) rfl ?_
        refine aw_iload_n 2 q_M_spentIn_31 rfl rfl ?_
        refine aw_icmp_ne 45 q_M_spentIn_32 rfl (fun c32 => ?_) (fun c32 => ?_)
        · skip
          refine aw_lconst (lZ 0) q_M_spentIn_45 rfl ?_
          refine aw_ladd q_M_spentIn_46 ?_
          refine aw_lstore_n 3 q_M_spentIn_47 rfl rfl rfl ?_
          first | refine aw_iinc _ q_M_spentIn_48 rfl (am_inc _) rfl rfl ?_ | refine aw_iinc _ q_M_spentIn_48 rfl rfl rfl rfl ?_
          refine aw_goto 5 q_M_spentIn_51 rfl ?_
          first
            | (have h9 := zI_0.mp c21; rw [sm_t (f := cof D m y) (i := i) (x := 0) (by simp [cof, h9])]; exact ih _ (by omega) (i + 1) rfl (by omega))
            | (have h9 := nI_ne (by omega) (by omega) c32; rw [sm_t (f := cof D m y) (i := i) (x := 0) (by simp [cof, h9])]; exact ih _ (by omega) (i + 1) rfl (by omega))
            | (have h9 := zI_n0.mp c21; have h8 := nI_eq' (by omega) (by omega) c32; rw [sm_t (f := cof D m y) (i := i) (x := x_co D i) (by simp [cof, h9, h8])]; exact ih _ (by omega) (i + 1) rfl (by omega))
        · skip
          refine aw_aload_n 0 q_M_spentIn_35 rfl rfl ?_
          refine aw_get 7 q_M_spentIn_36 fl_M_22 rfl rfl ?_
          refine aw_iload q_M_spentIn_39 rfl ?_
          refine aw_laldN q_M_spentIn_41 rfl (by omega) rfl ?_
          refine aw_goto 46 q_M_spentIn_42 rfl ?_
          refine aw_ladd q_M_spentIn_46 ?_
          refine aw_lstore_n 3 q_M_spentIn_47 rfl rfl rfl ?_
          first | refine aw_iinc _ q_M_spentIn_48 rfl (am_inc _) rfl rfl ?_ | refine aw_iinc _ q_M_spentIn_48 rfl rfl rfl rfl ?_
          refine aw_goto 5 q_M_spentIn_51 rfl ?_
          first
            | (have h9 := zI_0.mp c21; rw [sm_t (f := cof D m y) (i := i) (x := 0) (by simp [cof, h9])]; exact ih _ (by omega) (i + 1) rfl (by omega))
            | (have h9 := nI_ne (by omega) (by omega) c32; rw [sm_t (f := cof D m y) (i := i) (x := 0) (by simp [cof, h9])]; exact ih _ (by omega) (i + 1) rfl (by omega))
            | (have h9 := zI_n0.mp c21; have h8 := nI_eq' (by omega) (by omega) c32; rw [sm_t (f := cof D m y) (i := i) (x := x_co D i) (by simp [cof, h9, h8])]; exact ih _ (by omega) (i + 1) rfl (by omega))
theorem c_M_spentIn (sc : am_S) (A : ST) (q : QS) (D : ST) (t : TS) (m y : Nat) (b : bd D) (jd : jdo D) (hm : m < 16384) (hy : y < 6) : AM sc m_M_spentIn 1 [.ref 50, .int (nI m), .int (nI y)] (hp A q D t) (some (.long (lZ (spM D m y)))) (hp A q D t) := by
  refine AM.of (by decide) (Nat.le_of_ble_eq_true rfl) ?_
  show AW sc m_M_spentIn 1 0 [some (.ref 50), some (.int (nI m)), some (.int (nI y)), none, none, none] [] _ _ _
  refine aw_lconst (lZ 0) q_M_spentIn_0 rfl ?_
  refine aw_lstore_n 3 q_M_spentIn_1 rfl rfl rfl ?_
  refine aw_iconst 0 q_M_spentIn_2 rfl ?_
  refine aw_istore q_M_spentIn_3 rfl rfl ?_
  exact l_M_spentIn sc A q D t m y b jd hm hy _ 0 rfl (by omega)
def wam (D : ST) (m : Nat) : Nat → Bool
  | 0 => true
  | y + 1 => wam D m y && decide (spM D m y ≤ x_bu D y)
def ftm (D : ST) (m i : Nat) : Bool := pln D m (x_nc D) && wam D m i
theorem ftm_mono {D : ST} {m i : Nat} : ∀ {n : Nat}, i ≤ n → ftm D m i = false → ftm D m n = false
  | 0, h, e => by rw [show i = 0 by omega] at e; exact e
  | n + 1, h, e => by
    by_cases q : i = n + 1
    · rw [← q]; exact e
    · have := ftm_mono (n := n) (by omega) e
      unfold ftm at this ⊢
      unfold wam
      rw [← Bool.and_assoc, this]
      rfl
theorem ftm_s {D : ST} {m i : Nat} (h : ftm D m i = true) : ftm D m (i + 1) = decide (spM D m i ≤ x_bu D i) := by
  unfold ftm at h ⊢
  unfold wam
  rw [← Bool.and_assoc, h]
  rfl
theorem spM_gt {D : ST} (b : bd D) (jd : jdo D) (m y : Nat) : lZ (x_bu D y) < lZ (spM D m y) ↔ ¬ spM D m y ≤ x_bu D y := by
  have h1 := spM_bd b jd m y
  have h2 := b.2.2.2.2.2.2.2.2.2.2.1 y
  rw [lZ_lt (by omega) (by omega)]
  omega
theorem l_M_fits (sc : am_S) (A : ST) (q : QS) (D : ST) (t : TS) (m : Nat) (b : bd D) (jd : jdo D) (hm : m < 16384) : ∀ (n i : Nat), x_ny D - i = n → i ≤ x_ny D →  AW sc m_M_fits 2 8 [some (.ref 50), some (.int (nI m)), some (.int (zI (ftm D m i))), some (.int (nI i))] [] (hp A q D t) (some (.int (zI (ftm D m (x_ny D))))) (hp A q D t) := by
  intro n
  induction n using Nat.strongRecOn with
  | _ n ih =>
    intro i hn hi
    have b1 := b.1
    refine aw_iload_n 3 q_M_fits_8 rfl rfl ?_
    refine aw_aload_n 0 q_M_fits_9 rfl rfl ?_
    refine aw_get 0 q_M_fits_10 fl_M_63 rfl rfl ?_
    refine aw_icmp_ge 48 q_M_fits_13 rfl (fun c13 => ?_) (fun c13 => ?_)
    · skip
      refine aw_iload_n 2 q_M_fits_48 rfl rfl ?_
      exact aw_iret .boolean q_M_fits_49 rfl (zI_nar _) (by rw [show i = x_ny D from Nat.le_antisymm hi (nge_ge c13 (by omega) (by omega))]) rfl
    · skip
      have hlt : i < x_ny D := nge_lt c13 (by omega) (by omega)
      refine aw_iload_n 2 q_M_fits_16 rfl rfl ?_
      refine aw_if_eq 48 q_M_fits_17 rfl (fun c17 => ?_) (fun c17 => ?_)
      · skip
        refine aw_iload_n 2 q_M_fits_48 rfl rfl ?_
        exact aw_iret .boolean q_M_fits_49 rfl (zI_nar _) (by rw [ftm_mono hi (zI_0.mp c17), zI_0.mp c17]) rfl
      · skip
        have hw := zI_n0.mp c17
        refine aw_aload_n 0 q_M_fits_20 rfl rfl ?_
        refine aw_iload_n 1 q_M_fits_21 rfl rfl ?_
        refine aw_iload_n 3 q_M_fits_22 rfl rfl ?_
        refine aw_V2 q_M_fits_23 st_M_113 rfl (by omega) (Nat.le_of_ble_eq_true rfl) (c_M_spentIn _ _ _ _ _ _ _ b jd hm (by omega)) ?_
        refine aw_aload_n 0 q_M_fits_26 rfl rfl ?_
        refine aw_get 10 q_M_fits_27 fl_M_29 rfl rfl ?_
        refine aw_iload_n 3 q_M_fits_30 rfl rfl ?_
        refine aw_laldN q_M_fits_31 rfl (by omega) rfl ?_
        refine aw_lcmp_gt 40 q_M_fits_32 q_M_fits_33 rfl (fun c32 => ?_) (fun c32 => ?_)
        · skip
          refine aw_iconst 0 q_M_fits_40 rfl ?_
          refine aw_istore_n 2 q_M_fits_41 rfl rfl rfl ?_
          first | refine aw_iinc _ q_M_fits_42 rfl (am_inc _) rfl rfl ?_ | refine aw_iinc _ q_M_fits_42 rfl rfl rfl rfl ?_
          refine aw_goto 8 q_M_fits_45 rfl ?_
          first
            | (have h9 := (spM_gt b jd m i).mp c32
               refine aw_is (L' := [some (.ref 50), some (.int (nI m)), some (.int (zI (ftm D m (i + 1)))), some (.int (nI (i + 1)))]) (by simp [ftm_s hw, h9, zI]) rfl rfl ?_
               exact ih _ (by omega) (i + 1) rfl (by omega))
            | (have h9 := mt (spM_gt b jd m i).mpr c32
               refine aw_is (L' := [some (.ref 50), some (.int (nI m)), some (.int (zI (ftm D m (i + 1)))), some (.int (nI (i + 1)))]) (by simp at h9; simp [ftm_s hw, h9, zI]) rfl rfl ?_
               exact ih _ (by omega) (i + 1) rfl (by omega))
        · skip
          refine aw_iconst 1 q_M_fits_36 rfl ?_
          refine aw_goto 41 q_M_fits_37 rfl ?_
          refine aw_istore_n 2 q_M_fits_41 rfl rfl rfl ?_
          first | refine aw_iinc _ q_M_fits_42 rfl (am_inc _) rfl rfl ?_ | refine aw_iinc _ q_M_fits_42 rfl rfl rfl rfl ?_
          refine aw_goto 8 q_M_fits_45 rfl ?_
          first
            | (have h9 := (spM_gt b jd m i).mp c32
               refine aw_is (L' := [some (.ref 50), some (.int (nI m)), some (.int (zI (ftm D m (i + 1)))), some (.int (nI (i + 1)))]) (by simp [ftm_s hw, h9, zI]) rfl rfl ?_
               exact ih _ (by omega) (i + 1) rfl (by omega))
            | (have h9 := mt (spM_gt b jd m i).mpr c32
               refine aw_is (L' := [some (.ref 50), some (.int (nI m)), some (.int (zI (ftm D m (i + 1)))), some (.int (nI (i + 1)))]) (by simp at h9; simp [ftm_s hw, h9, zI]) rfl rfl ?_
               exact ih _ (by omega) (i + 1) rfl (by omega))
theorem c_M_fits (sc : am_S) (A : ST) (q : QS) (D : ST) (t : TS) (m : Nat) (b : bd D) (jd : jdo D) (hm : m < 16384) : AM sc m_M_fits 2 [.ref 50, .int (nI m)] (hp A q D t) (some (.int (zI (ftm D m (x_ny D))))) (hp A q D t) := by
  refine AM.of (by decide) (Nat.le_of_ble_eq_true rfl) ?_
  show AW sc m_M_fits 2 0 [some (.ref 50), some (.int (nI m)), none, none] [] _ _ _
  refine aw_aload_n 0 q_M_fits_0 rfl rfl ?_
  refine aw_iload_n 1 q_M_fits_1 rfl rfl ?_
  refine aw_V1 q_M_fits_2 st_M_110 rfl (by omega) (Nat.le_of_ble_eq_true rfl) (c_M_isPlan _ _ _ _ _ _ b hm) ?_
  refine aw_istore_n 2 q_M_fits_5 rfl rfl rfl ?_
  refine aw_iconst 0 q_M_fits_6 rfl ?_
  refine aw_istore_n 3 q_M_fits_7 rfl rfl rfl ?_
  have h0 := l_M_fits sc A q D t m b jd hm _ 0 rfl (by omega)
  rw [show ftm D m 0 = pln D m (x_nc D) from Bool.and_true _] at h0
  exact h0
def btr (D : ST) (m : Nat) (o : Option Nat) : Bool := match o with
  | none => true
  | some k => decide (wsum D k < wsum D m) || (decide (wsum D m = wsum D k) && decide (ysum D m < ysum D k))
theorem c_M_isBetter_n (sc : am_S) (A : ST) (q : QS) (D : ST) (t : TS) (m : Nat)  : AM sc m_M_isBetter 2 [.ref 50, .int (nI m), .int (pI none)] (hp A q D t) (some (.int (zI (btr D m none)))) (hp A q D t) := by
  refine AM.of (by decide) (Nat.le_of_ble_eq_true rfl) ?_
  show AW sc m_M_isBetter 2 0 [some (.ref 50), some (.int (nI m)), some (.int (pI none)), none, none, none, none] [] _ _ _
  refine aw_iload_n 2 q_M_isBetter_0 rfl rfl ?_
  refine aw_iconst (-1) q_M_isBetter_1 rfl ?_
  refine aw_icmp_ne 7 q_M_isBetter_2 rfl (fun c2 => ?_) (fun c2 => ?_)
  · skip
    exact absurd rfl c2
  · skip
    refine aw_iconst 1 q_M_isBetter_5 rfl ?_
    exact aw_iret .boolean q_M_isBetter_6 rfl rfl rfl rfl
theorem c_M_isBetter (sc : am_S) (A : ST) (q : QS) (D : ST) (t : TS) (m k : Nat) (b : bd D) (hm : m < 16384) (hk : k < 16384) : AM sc m_M_isBetter 2 [.ref 50, .int (nI m), .int (pI (some k))] (hp A q D t) (some (.int (zI (btr D m (some k))))) (hp A q D t) := by
  refine AM.of (by decide) (Nat.le_of_ble_eq_true rfl) ?_
  show AW sc m_M_isBetter 2 0 [some (.ref 50), some (.int (nI m)), some (.int (pI (some k))), none, none, none, none] [] _ _ _
  have w1 := wsum_bd b m
  have w2 := wsum_bd b k
  have y1 := ysum_lt b m
  have y2 := ysum_lt b k
  rw [show pI (some k) = nI k from rfl]
  refine aw_iload_n 2 q_M_isBetter_0 rfl rfl ?_
  refine aw_iconst (-1) q_M_isBetter_1 rfl ?_
  refine aw_icmp_ne 7 q_M_isBetter_2 rfl (fun c2 => ?_) (fun c2 => ?_)
  · skip
    refine aw_aload_n 0 q_M_isBetter_7 rfl rfl ?_
    refine aw_iload_n 1 q_M_isBetter_8 rfl rfl ?_
    refine aw_V1 q_M_isBetter_9 st_M_123 rfl (by omega) (Nat.le_of_ble_eq_true rfl) (c_M_worthOf _ _ _ _ _ _ b hm) ?_
    refine aw_lstore_n 3 q_M_isBetter_12 rfl rfl rfl ?_
    refine aw_aload_n 0 q_M_isBetter_13 rfl rfl ?_
    refine aw_iload_n 2 q_M_isBetter_14 rfl rfl ?_
    refine aw_V1 q_M_isBetter_15 st_M_123 rfl (by omega) (Nat.le_of_ble_eq_true rfl) (c_M_worthOf _ _ _ _ _ _ b hk) ?_
    refine aw_lstore q_M_isBetter_18 rfl rfl ?_
    refine aw_lload_n 3 q_M_isBetter_20 rfl rfl ?_
    refine aw_lload q_M_isBetter_21 rfl ?_
    refine aw_lcmp_gt 47 q_M_isBetter_23 q_M_isBetter_24 rfl (fun c23 => ?_) (fun c23 => ?_)
    · skip
      refine aw_iconst 1 q_M_isBetter_47 rfl ?_
      refine aw_goto 52 q_M_isBetter_48 rfl ?_
      exact aw_iret .boolean q_M_isBetter_52 rfl rfl (aw_rz1 (by have e := (lZ_lt (by omega) (by omega)).mp c23; simp [btr, e])) rfl
    · skip
      refine aw_lload_n 3 q_M_isBetter_27 rfl rfl ?_
      refine aw_lload q_M_isBetter_28 rfl ?_
      refine aw_lcmp_ne 51 q_M_isBetter_30 q_M_isBetter_31 rfl (fun c30 => ?_) (fun c30 => ?_)
      · skip
        refine aw_iconst 0 q_M_isBetter_51 rfl ?_
        exact aw_iret .boolean q_M_isBetter_52 rfl rfl (aw_rz0 (by have e := mt (lZ_lt (by omega) (by omega)).mpr c23; have e2 := mt (lZ_eq (by omega) (by omega)).mpr c30; simp [btr, e2]; omega)) rfl
      · skip
        refine aw_aload_n 0 q_M_isBetter_34 rfl rfl ?_
        refine aw_iload_n 1 q_M_isBetter_35 rfl rfl ?_
        refine aw_V1 q_M_isBetter_36 st_M_127 rfl (by omega) (Nat.le_of_ble_eq_true rfl) (c_M_yearsOf _ _ _ _ _ _ b hm) ?_
        refine aw_aload_n 0 q_M_isBetter_39 rfl rfl ?_
        refine aw_iload_n 2 q_M_isBetter_40 rfl rfl ?_
        refine aw_V1 q_M_isBetter_41 st_M_127 rfl (by omega) (Nat.le_of_ble_eq_true rfl) (c_M_yearsOf _ _ _ _ _ _ b hk) ?_
        refine aw_icmp_ge 51 q_M_isBetter_44 rfl (fun c44 => ?_) (fun c44 => ?_)
        · skip
          refine aw_iconst 0 q_M_isBetter_51 rfl ?_
          exact aw_iret .boolean q_M_isBetter_52 rfl rfl (aw_rz0 (by have e := mt (lZ_lt (by omega) (by omega)).mpr c23; have e3 := nge_ge c44 (by omega) (by omega); simp [btr]; omega)) rfl
        · skip
          refine aw_iconst 1 q_M_isBetter_47 rfl ?_
          refine aw_goto 52 q_M_isBetter_48 rfl ?_
          exact aw_iret .boolean q_M_isBetter_52 rfl rfl (aw_rz1 (by have e2 := (lZ_eq (by omega) (by omega)).mp c30; have e3 := nge_lt c44 (by omega) (by omega); simp [btr, e2]; omega)) rfl
  · skip
    exact absurd c2 (fun e => by have := (pI_eq (o := some k) (fun _ h => by cases h; omega)).mp e; cases this)
