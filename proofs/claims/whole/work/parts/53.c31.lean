/-! CONTRACTS 31: the reference: share, list -/
theorem c_M_share_no (sc : am_S) (A : ST) (q : QS) (D : ST) (t : TS) (x z : Int32) (hp1 : pn14 D) (hx : ¬ ((0 ≤ x.toInt ∧ x.toInt ≤ 3) ∧ (z = 0 ∨ z = 1) ∧ x_pn D ≠ none)) : AM sc m_M_share 2 [.ref 50, .int x, .int z] (hp A q D t) (some (.long (lZ (-1)))) (hp A q D t) := by
  refine AM.of (by decide) (Nat.le_of_ble_eq_true rfl) ?_
  show AW sc m_M_share 2 0 [some (.ref 50), some (.int x), some (.int z), none, none, none, none, none, none, none, none, none, none] [] _ _ _
  refine aw_iload_n 1 q_M_share_0 rfl rfl ?_
  refine aw_i2l q_M_share_1 ?_
  refine aw_lconst (lZ 0) q_M_share_2 rfl ?_
  refine aw_ldc2 (lZ (3)) q_M_share_3 (am_in4 (i := 3) rfl rfl) ?_
  refine aw_S3 q_M_share_6 st_M_72 (by omega) (Nat.le_of_ble_eq_true rfl) (c_M_in _ _ _ _ _) ?_
  refine aw_if_eq 29 q_M_share_9 rfl (fun c9 => ?_) (fun c9 => ?_)
  · skip
    refine aw_ldc2 (lZ (-1)) q_M_share_29 (am_in3 (i := 127) rfl rfl) ?_
    exact aw_lret q_M_share_32 rfl rfl rfl
  · skip
    refine aw_iload_n 2 q_M_share_12 rfl rfl ?_
    refine aw_if_eq 21 q_M_share_13 rfl (fun c13 => ?_) (fun c13 => ?_)
    · skip
      refine aw_aload_n 0 q_M_share_21 rfl rfl ?_
      refine aw_get 16 q_M_share_22 fl_M_47 rfl rfl ?_
      refine aw_iconst (-1) q_M_share_25 rfl ?_
      refine aw_icmp_ne 33 q_M_share_26 rfl (fun c26 => ?_) (fun c26 => ?_)
      · skip
        first
          | exact (hx ⟨of_decide_eq_true (by rw [← i2l_in x (by omega) (by omega)]; exact zI_n0.mp c9), Or.inl c13, fun e => c26 ((pn_eq hp1).mpr e)⟩).elim
          | exact (hx ⟨of_decide_eq_true (by rw [← i2l_in x (by omega) (by omega)]; exact zI_n0.mp c9), Or.inr c18, fun e => c26 ((pn_eq hp1).mpr e)⟩).elim
      · skip
        refine aw_ldc2 (lZ (-1)) q_M_share_29 (am_in3 (i := 127) rfl rfl) ?_
        exact aw_lret q_M_share_32 rfl rfl rfl
    · skip
      refine aw_iload_n 2 q_M_share_16 rfl rfl ?_
      refine aw_iconst 1 q_M_share_17 rfl ?_
      refine aw_icmp_ne 29 q_M_share_18 rfl (fun c18 => ?_) (fun c18 => ?_)
      · skip
        refine aw_ldc2 (lZ (-1)) q_M_share_29 (am_in3 (i := 127) rfl rfl) ?_
        exact aw_lret q_M_share_32 rfl rfl rfl
      · skip
        refine aw_aload_n 0 q_M_share_21 rfl rfl ?_
        refine aw_get 16 q_M_share_22 fl_M_47 rfl rfl ?_
        refine aw_iconst (-1) q_M_share_25 rfl ?_
        refine aw_icmp_ne 33 q_M_share_26 rfl (fun c26 => ?_) (fun c26 => ?_)
        · skip
          first
            | exact (hx ⟨of_decide_eq_true (by rw [← i2l_in x (by omega) (by omega)]; exact zI_n0.mp c9), Or.inl c13, fun e => c26 ((pn_eq hp1).mpr e)⟩).elim
            | exact (hx ⟨of_decide_eq_true (by rw [← i2l_in x (by omega) (by omega)]; exact zI_n0.mp c9), Or.inr c18, fun e => c26 ((pn_eq hp1).mpr e)⟩).elim
        · skip
          refine aw_ldc2 (lZ (-1)) q_M_share_29 (am_in3 (i := 127) rfl rfl) ?_
          exact aw_lret q_M_share_32 rfl rfl rfl
theorem ediv_c {g a : Nat} (ha : 0 < a) (hg : g ≤ 28000000) (ha2 : a ≤ 28000000) : lZ (g : Int) / lZ (a : Int) = lZ ((g : Int) / (a : Int)) := lZ_div (by omega) (by omega) (by omega) (by omega)
theorem l_M_shareE (sc : am_S) (A : ST) (q : QS) (D : ST) (t : TS) (dd p g0 l0 : Nat) (hp0 : p < 2) (hg0 : g0 ≤ 14000000) (hl0 : l0 ≤ 14000000) : ∀ (l : Nat), ∀ (g : Nat), 0 < g → g ≤ 14000000 → l ≤ 14000000 → AW sc m_M_share 2 128 [some (.ref 50), some (.int (nI dd)), some (.int (nI p)), some (.long (lZ (l0 : Int))), none, some (.long (lZ (g0 : Int))), none, some (.long (lZ (g : Int))), none, some (.long (lZ (l : Int))), none, none, none] [] (hp A q D t) (some (.long (lZ (if p = 0 then (l0 : Int) / (Nat.gcd g l : Nat) else (g0 : Int) / (Nat.gcd g l : Nat))))) (hp A q D t) := by
  intro l
  induction l using Nat.strongRecOn with
  | _ l ih =>
    intro g hg1 hg hl
    refine aw_lload q_M_share_128 rfl ?_
    refine aw_lconst (lZ 0) q_M_share_130 rfl ?_
    refine aw_lcmp_le 153 q_M_share_131 q_M_share_132 rfl (fun c131 => ?_) (fun c131 => ?_)
    · skip
      have e0 : l = 0 := by have := (lZ_le (a := (l : Int)) (b := 0) (by omega) (by omega)).mp c131; omega
      subst e0
      rw [Nat.gcd_zero_right]
      have hg2 : ¬ lZ (g : Int) = 0 := fun e => by have := (lZ_eq (a := (g : Int)) (b := 0) (by omega) (by omega)).mp (e.trans lZ_0.symm); omega
      refine aw_iload_n 2 q_M_share_153 rfl rfl ?_
      refine aw_if_ne 164 q_M_share_154 rfl (fun c154 => ?_) (fun c154 => ?_)
      · skip
        refine aw_lload q_M_share_164 rfl ?_
        refine aw_lload q_M_share_166 rfl ?_
        refine aw_ldiv q_M_share_168 (by assumption) ?_
        first
          | (rw [ediv_c hg1 (by omega) (by omega)]
             have hp2 : ¬ p = 0 := nI_ne (b := 0) (by omega) (by omega) c154)
          | skip
        exact aw_lret q_M_share_169 rfl (by rw [if_neg hp2]) rfl
      · skip
        refine aw_lload_n 3 q_M_share_157 rfl rfl ?_
        refine aw_lload q_M_share_158 rfl ?_
        refine aw_ldiv q_M_share_160 (by assumption) ?_
        rw [ediv_c hg1 (by omega) (by omega)]
        have hp2 : p = 0 := nI_eq' (b := 0) (by omega) (by omega) c154
        refine aw_goto 169 q_M_share_161 rfl ?_
        first
          | (rw [ediv_c hg1 (by omega) (by omega)]
             have hp2 : ¬ p = 0 := nI_ne (b := 0) (by omega) (by omega) c154)
          | skip
        exact aw_lret q_M_share_169 rfl (by rw [if_pos hp2]) rfl
    · skip
      have hl1 : 0 < l := by have := mt (lZ_le (a := (l : Int)) (b := 0) (by omega) (by omega)).mpr c131; omega
      have hl2 : ¬ lZ (l : Int) = 0 := fun e => by have := (lZ_eq (a := (l : Int)) (b := 0) (by omega) (by omega)).mp (e.trans lZ_0.symm); omega
      refine aw_lload q_M_share_135 rfl ?_
      refine aw_lload q_M_share_137 rfl ?_
      refine aw_lrem q_M_share_139 (by assumption) ?_
      rw [lZ_rem (by omega) hl1 (by omega)]
      refine aw_lstore q_M_share_140 rfl rfl ?_
      refine aw_lload q_M_share_142 rfl ?_
      refine aw_lstore q_M_share_144 rfl rfl ?_
      refine aw_lload q_M_share_146 rfl ?_
      refine aw_lstore q_M_share_148 rfl rfl ?_
      refine aw_goto 128 q_M_share_150 rfl ?_
      rw [gcd_step]
      have hm := Nat.mod_lt g hl1
      exact aw_kill [11] (ih (g % l) hm l hl1 hl (by omega))
def shM (D : ST) (m d p : Nat) : Int := if wsum D m = 0 ∨ dsum D m d = 0 then (p : Int) else if p = 0 then dsum D m d / (Nat.gcd (wsum D m).toNat (dsum D m d).toNat : Nat) else wsum D m / (Nat.gcd (wsum D m).toNat (dsum D m d).toNat : Nat)
theorem l_M_share (sc : am_S) (A : ST) (q : QS) (D : ST) (t : TS) (dd p m : Nat) (b : bd D) (hd : dd < 4) (hp0 : p < 2) (hp1 : x_pn D = some m) (hm : m < 16384) : ∀ (n i : Nat), x_nc D - i = n → i ≤ x_nc D →  AW sc m_M_share 2 38 [some (.ref 50), some (.int (nI dd)), some (.int (nI p)), some (.long (lZ (sm i (fun c => if m.testBit c = true ∧ x_di D (x_th D c) = dd then x_wo D c else 0)))), none, some (.int (nI i)), none, none, none, none, none, none, none] [] (hp A q D t) (some (.long (lZ (shM D m dd p)))) (hp A q D t) := by
  intro n
  induction n using Nat.strongRecOn with
  | _ n ih =>
    intro i hn hi
    have b3 := b.2.2.1
    have b4 := b.2.2.2.1 i
    have b6 := b.2.2.2.2.2.1 (x_th D i)
    have e0 : pI (x_pn D) = nI m := by rw [hp1]; rfl
    have hw := wsum_bd b m
    have hv := dsum_bd b m dd
    refine aw_iload q_M_share_38 rfl ?_
    refine aw_aload_n 0 q_M_share_40 rfl rfl ?_
    refine aw_get 4 q_M_share_41 fl_M_84 rfl rfl ?_
    refine aw_icmp_ge 95 q_M_share_44 rfl (fun c44 => ?_) (fun c44 => ?_)
    · skip
      rw [show i = x_nc D from Nat.le_antisymm hi (nge_ge c44 (by omega) (by omega)), show sm (x_nc D) (fun c => if m.testBit c = true ∧ x_di D (x_th D c) = dd then x_wo D c else 0) = dsum D m dd from rfl]
      refine aw_aload_n 0 q_M_share_95 rfl rfl ?_
      refine aw_aload_n 0 q_M_share_96 rfl rfl ?_
      refine aw_get 16 q_M_share_97 fl_M_47 rfl rfl ?_
      rw [e0]
      refine aw_V1 q_M_share_100 st_M_123 rfl (by omega) (Nat.le_of_ble_eq_true rfl) (c_M_worthOf _ _ _ _ _ _ b hm) ?_
      refine aw_lstore q_M_share_103 rfl rfl ?_
      refine aw_lload q_M_share_105 rfl ?_
      refine aw_lconst (lZ 0) q_M_share_107 rfl ?_
      refine aw_lcmp_eq 118 q_M_share_108 q_M_share_109 rfl (fun c108 => ?_) (fun c108 => ?_)
      · skip
        refine aw_iload_n 2 q_M_share_118 rfl rfl ?_
        refine aw_i2l q_M_share_119 ?_
        exact aw_lret q_M_share_120 rfl (by unfold shM; rw [if_pos (Or.inl ((lZ_eq (by omega) (by omega)).mp c108)), i_l (by omega)]) rfl
      · skip
        refine aw_lload_n 3 q_M_share_112 rfl rfl ?_
        refine aw_lconst (lZ 0) q_M_share_113 rfl ?_
        refine aw_lcmp_ne 121 q_M_share_114 q_M_share_115 rfl (fun c114 => ?_) (fun c114 => ?_)
        · skip
          refine aw_lload q_M_share_121 rfl ?_
          refine aw_lstore q_M_share_123 rfl rfl ?_
          refine aw_lload_n 3 q_M_share_125 rfl rfl ?_
          refine aw_lstore q_M_share_126 rfl rfl ?_
          have k1 := mt (lZ_eq (a := wsum D m) (b := 0) (by omega) (by omega)).mpr c108
          have k2 := mt (lZ_eq (a := dsum D m dd) (b := 0) (by omega) (by omega)).mpr c114
          obtain ⟨g, hg⟩ : ∃ g : Nat, wsum D m = (g : Int) := Int.eq_ofNat_of_zero_le hw.1
          obtain ⟨l, hl⟩ : ∃ l : Nat, dsum D m dd = (l : Int) := Int.eq_ofNat_of_zero_le hv.1
          have e1 : shM D m dd p = if p = 0 then (l : Int) / (Nat.gcd g l : Nat) else (g : Int) / (Nat.gcd g l : Nat) := by
            unfold shM
            rw [if_neg (by omega), hg, hl]
            rfl
          rw [e1, hg, hl]
          exact l_M_shareE sc A q D t dd p g l hp0 (by omega) (by omega) l g (by omega) (by omega) (by omega)
        · skip
          refine aw_iload_n 2 q_M_share_118 rfl rfl ?_
          refine aw_i2l q_M_share_119 ?_
          exact aw_lret q_M_share_120 rfl (by unfold shM; rw [if_pos (Or.inr ((lZ_eq (by omega) (by omega)).mp c114)), i_l (by omega)]) rfl
    · skip
      have hlt : i < x_nc D := nge_lt c44 (by omega) (by omega)
      refine aw_lload_n 3 q_M_share_47 rfl rfl ?_
      refine aw_aload_n 0 q_M_share_48 rfl rfl ?_
      refine aw_get 16 q_M_share_49 fl_M_47 rfl rfl ?_
      rw [e0]
      refine aw_iload q_M_share_52 rfl ?_
      refine aw_S2 q_M_share_54 st_M_94 (by omega) (Nat.le_of_ble_eq_true rfl) (c_M_has _ _ _ _ (by omega) (by omega)) ?_
      refine aw_if_eq 86 q_M_share_57 rfl (fun c57 => ?_) (fun c57 => ?_)
      · skip
        refine aw_lconst (lZ 0) q_M_share_86 rfl ?_
        refine aw_ladd q_M_share_87 ?_
        refine aw_lstore_n 3 q_M_share_88 rfl rfl rfl ?_
        first | refine aw_iinc _ q_M_share_89 rfl (am_inc _) rfl rfl ?_ | refine aw_iinc _ q_M_share_89 rfl rfl rfl rfl ?_
        refine aw_goto 38 q_M_share_92 rfl ?_
        first
          | (have h9 := zI_0.mp c57; rw [sm_t (f := (fun c => if m.testBit c = true ∧ x_di D (x_th D c) = dd then x_wo D c else 0)) (i := i) (x := 0) (by simp [h9])]; exact ih _ (by omega) (i + 1) rfl (by omega))
          | (have h9 := nI_ne (by omega) (by omega) c73; rw [sm_t (f := (fun c => if m.testBit c = true ∧ x_di D (x_th D c) = dd then x_wo D c else 0)) (i := i) (x := 0) (by simp [h9])]; exact ih _ (by omega) (i + 1) rfl (by omega))
          | (have h9 := zI_n0.mp c57; have h8 := nI_eq' (by omega) (by omega) c73; rw [sm_t (f := (fun c => if m.testBit c = true ∧ x_di D (x_th D c) = dd then x_wo D c else 0)) (i := i) (x := x_wo D i) (by simp [h9, h8])]; exact ih _ (by omega) (i + 1) rfl (by omega))
      · skip
        refine aw_aload_n 0 q_M_share_60 rfl rfl ?_
        refine aw_get 3 q_M_share_61 fl_M_13 rfl rfl ?_
        refine aw_aload_n 0 q_M_share_64 rfl rfl ?_
        refine aw_get 5 q_M_share_65 fl_M_16 rfl rfl ?_
        refine aw_iload q_M_share_68 rfl ?_
        refine aw_ialdN q_M_share_70 rfl (by omega) rfl ?_
        refine aw_ialdN q_M_share_71 rfl (by omega) rfl ?_
        refine aw_iload_n 1 q_M_share_72 rfl rfl ?_
        refine aw_icmp_ne 86 q_M_share_73 rfl (fun c73 => ?_) (fun c73 => ?_)
        · skip
          refine aw_lconst (lZ 0) q_M_share_86 rfl ?_
          refine aw_ladd q_M_share_87 ?_
          refine aw_lstore_n 3 q_M_share_88 rfl rfl rfl ?_
          first | refine aw_iinc _ q_M_share_89 rfl (am_inc _) rfl rfl ?_ | refine aw_iinc _ q_M_share_89 rfl rfl rfl rfl ?_
          refine aw_goto 38 q_M_share_92 rfl ?_
          first
            | (have h9 := zI_0.mp c57; rw [sm_t (f := (fun c => if m.testBit c = true ∧ x_di D (x_th D c) = dd then x_wo D c else 0)) (i := i) (x := 0) (by simp [h9])]; exact ih _ (by omega) (i + 1) rfl (by omega))
            | (have h9 := nI_ne (by omega) (by omega) c73; rw [sm_t (f := (fun c => if m.testBit c = true ∧ x_di D (x_th D c) = dd then x_wo D c else 0)) (i := i) (x := 0) (by simp [h9])]; exact ih _ (by omega) (i + 1) rfl (by omega))
            | (have h9 := zI_n0.mp c57; have h8 := nI_eq' (by omega) (by omega) c73; rw [sm_t (f := (fun c => if m.testBit c = true ∧ x_di D (x_th D c) = dd then x_wo D c else 0)) (i := i) (x := x_wo D i) (by simp [h9, h8])]; exact ih _ (by omega) (i + 1) rfl (by omega))
        · skip
          refine aw_aload_n 0 q_M_share_76 rfl rfl ?_
          refine aw_get 8 q_M_share_77 fl_M_26 rfl rfl ?_
          refine aw_iload q_M_share_80 rfl ?_
          refine aw_laldN q_M_share_82 rfl (by omega) rfl ?_
          refine aw_goto 87 q_M_share_83 rfl ?_
          refine aw_ladd q_M_share_87 ?_
          refine aw_lstore_n 3 q_M_share_88 rfl rfl rfl ?_
          first | refine aw_iinc _ q_M_share_89 rfl (am_inc _) rfl rfl ?_ | refine aw_iinc _ q_M_share_89 rfl rfl rfl rfl ?_
          refine aw_goto 38 q_M_share_92 rfl ?_
          first
            | (have h9 := zI_0.mp c57; rw [sm_t (f := (fun c => if m.testBit c = true ∧ x_di D (x_th D c) = dd then x_wo D c else 0)) (i := i) (x := 0) (by simp [h9])]; exact ih _ (by omega) (i + 1) rfl (by omega))
            | (have h9 := nI_ne (by omega) (by omega) c73; rw [sm_t (f := (fun c => if m.testBit c = true ∧ x_di D (x_th D c) = dd then x_wo D c else 0)) (i := i) (x := 0) (by simp [h9])]; exact ih _ (by omega) (i + 1) rfl (by omega))
            | (have h9 := zI_n0.mp c57; have h8 := nI_eq' (by omega) (by omega) c73; rw [sm_t (f := (fun c => if m.testBit c = true ∧ x_di D (x_th D c) = dd then x_wo D c else 0)) (i := i) (x := x_wo D i) (by simp [h9, h8])]; exact ih _ (by omega) (i + 1) rfl (by omega))
theorem c_M_share (sc : am_S) (A : ST) (q : QS) (D : ST) (t : TS) (dd p m : Nat) (b : bd D) (hd : dd < 4) (hp0 : p < 2) (hp1 : x_pn D = some m) (hm : m < 16384) : AM sc m_M_share 2 [.ref 50, .int (nI dd), .int (nI p)] (hp A q D t) (some (.long (lZ (shM D m dd p)))) (hp A q D t) := by
  refine AM.of (by decide) (Nat.le_of_ble_eq_true rfl) ?_
  show AW sc m_M_share 2 0 [some (.ref 50), some (.int (nI dd)), some (.int (nI p)), none, none, none, none, none, none, none, none, none, none] [] _ _ _
  refine aw_iload_n 1 q_M_share_0 rfl rfl ?_
  refine aw_i2l q_M_share_1 ?_
  refine aw_lconst (lZ 0) q_M_share_2 rfl ?_
  refine aw_ldc2 (lZ (3)) q_M_share_3 (am_in4 (i := 3) rfl rfl) ?_
  refine aw_S3 q_M_share_6 st_M_72 (by omega) (Nat.le_of_ble_eq_true rfl) (c_M_in _ _ _ _ _) ?_
  refine aw_if_eq 29 q_M_share_9 rfl (fun c9 => ?_) (fun c9 => ?_)
  · skip
    first
      | exact absurd (zI_0.mp c9) (by rw [i2l_in _ (by omega) (by omega), nI_toInt (by omega)]; simp; omega)
      | exact absurd (((pn_eq (fun m' e => by rw [hp1] at e; cases e; exact hm)).mp c26).symm.trans hp1) (by simp)
      | (have k1 : ¬ p = 0 := nI_ne (b := 0) (by omega) (by omega) c13
         have k2 : ¬ p = 1 := nI_ne (b := 1) (by omega) (by omega) c18
         exact absurd hp0 (by omega))
  · skip
    refine aw_iload_n 2 q_M_share_12 rfl rfl ?_
    refine aw_if_eq 21 q_M_share_13 rfl (fun c13 => ?_) (fun c13 => ?_)
    · skip
      refine aw_aload_n 0 q_M_share_21 rfl rfl ?_
      refine aw_get 16 q_M_share_22 fl_M_47 rfl rfl ?_
      refine aw_iconst (-1) q_M_share_25 rfl ?_
      refine aw_icmp_ne 33 q_M_share_26 rfl (fun c26 => ?_) (fun c26 => ?_)
      · skip
        refine aw_lconst (lZ 0) q_M_share_33 rfl ?_
        refine aw_lstore_n 3 q_M_share_34 rfl rfl rfl ?_
        refine aw_iconst 0 q_M_share_35 rfl ?_
        refine aw_istore q_M_share_36 rfl rfl ?_
        exact l_M_share sc A q D t dd p m b hd hp0 hp1 hm _ 0 rfl (by omega)
      · skip
        first
          | exact absurd (zI_0.mp c9) (by rw [i2l_in _ (by omega) (by omega), nI_toInt (by omega)]; simp; omega)
          | exact absurd (((pn_eq (fun m' e => by rw [hp1] at e; cases e; exact hm)).mp c26).symm.trans hp1) (by simp)
          | (have k1 : ¬ p = 0 := nI_ne (b := 0) (by omega) (by omega) c13
             have k2 : ¬ p = 1 := nI_ne (b := 1) (by omega) (by omega) c18
             exact absurd hp0 (by omega))
    · skip
      refine aw_iload_n 2 q_M_share_16 rfl rfl ?_
      refine aw_iconst 1 q_M_share_17 rfl ?_
      refine aw_icmp_ne 29 q_M_share_18 rfl (fun c18 => ?_) (fun c18 => ?_)
      · skip
        first
          | exact absurd (zI_0.mp c9) (by rw [i2l_in _ (by omega) (by omega), nI_toInt (by omega)]; simp; omega)
          | exact absurd (((pn_eq (fun m' e => by rw [hp1] at e; cases e; exact hm)).mp c26).symm.trans hp1) (by simp)
          | (have k1 : ¬ p = 0 := nI_ne (b := 0) (by omega) (by omega) c13
             have k2 : ¬ p = 1 := nI_ne (b := 1) (by omega) (by omega) c18
             exact absurd hp0 (by omega))
      · skip
        refine aw_aload_n 0 q_M_share_21 rfl rfl ?_
        refine aw_get 16 q_M_share_22 fl_M_47 rfl rfl ?_
        refine aw_iconst (-1) q_M_share_25 rfl ?_
        refine aw_icmp_ne 33 q_M_share_26 rfl (fun c26 => ?_) (fun c26 => ?_)
        · skip
          refine aw_lconst (lZ 0) q_M_share_33 rfl ?_
          refine aw_lstore_n 3 q_M_share_34 rfl rfl rfl ?_
          refine aw_iconst 0 q_M_share_35 rfl ?_
          refine aw_istore q_M_share_36 rfl rfl ?_
          exact l_M_share sc A q D t dd p m b hd hp0 hp1 hm _ 0 rfl (by omega)
        · skip
          first
            | exact absurd (zI_0.mp c9) (by rw [i2l_in _ (by omega) (by omega), nI_toInt (by omega)]; simp; omega)
            | exact absurd (((pn_eq (fun m' e => by rw [hp1] at e; cases e; exact hm)).mp c26).symm.trans hp1) (by simp)
            | (have k1 : ¬ p = 0 := nI_ne (b := 0) (by omega) (by omega) c13
               have k2 : ¬ p = 1 := nI_ne (b := 1) (by omega) (by omega) c18
               exact absurd hp0 (by omega))
def lsp (D : ST) (m d y : Nat) : Nat → Bool := fun c => m.testBit c && decide (x_yr D c = y) && decide (x_di D (x_th D c) = d)
/-- the k-th of a list that goes on over the years -/
def lsM (D : ST) (m d : Nat) : Nat → Nat → Nat → Option Nat
  | 0, _, _ => none
  | n + 1, y, k => match fnd (fun c => lsp D m d y c && decide (cnp (lsp D m d y) c = k)) (x_nc D) with
    | some c => some c
    | none => lsM D m d n (y + 1) (k - cnp (lsp D m d y) (x_nc D))
theorem l_M_listN2 (sc : am_S) (A : ST) (q : QS) (D : ST) (t : TS) (x z : Int32) (y m s0 : Nat) (b : bd D) (hy : y < 6) (hp1 : x_pn D = some m) (hm : m < 16384) (hs : s0 ≤ 1000) (hz : z < 0 ∨ ¬ (¬ x < 0 ∧ ¬ 4 ≤ x)) (kk : ∀ s, s ≤ 14 → AW sc m_M_list 1 91 [some (.ref 50), some (.int x), some (.int z), some (.int (nI (s0 + s))), some (.int (nI y)), none] [] (hp A q D t) (some (.int (-1))) (hp A q D t)) : ∀ (n i : Nat), x_nc D - i = n → i ≤ x_nc D →  AW sc m_M_list 1 25 [some (.ref 50), some (.int x), some (.int z), some (.int (nI (s0 + cnp (fun c => lsp D m x.toNatClampNeg y c && decide (¬ x < 0)) i))), some (.int (nI y)), some (.int (nI i))] [] (hp A q D t) (some (.int (-1))) (hp A q D t) := by
  intro n
  induction n using Nat.strongRecOn with
  | _ n ih =>
    intro i hn hi
    have b3 := b.2.2.1
    have b4 := b.2.2.2.1 i
    have b5 := b.2.2.2.2.1 i
    have b6 := b.2.2.2.2.2.1 (x_th D i)
    have e0 : pI (x_pn D) = nI m := by rw [hp1]; rfl
    have hc := cnp_le (fun c => lsp D m x.toNatClampNeg y c && decide (¬ x < 0)) i
    refine aw_iload q_M_list_25 rfl ?_
    refine aw_aload_n 0 q_M_list_27 rfl rfl ?_
    refine aw_get 4 q_M_list_28 fl_M_84 rfl rfl ?_
    refine aw_icmp_ge 91 q_M_list_31 rfl (fun c31 => ?_) (fun c31 => ?_)
    · skip
      exact aw_kill [5] (kk _ (by omega))
    · skip
      have hlt : i < x_nc D := nge_lt c31 (by omega) (by omega)
      refine aw_aload_n 0 q_M_list_34 rfl rfl ?_
      refine aw_get 16 q_M_list_35 fl_M_47 rfl rfl ?_
      rw [e0]
      refine aw_iload q_M_list_38 rfl ?_
      refine aw_S2 q_M_list_40 st_M_94 (by omega) (Nat.le_of_ble_eq_true rfl) (c_M_has _ _ _ _ (by omega) (by omega)) ?_
      refine aw_if_eq 85 q_M_list_43 rfl (fun c43 => ?_) (fun c43 => ?_)
      · skip
        first | refine aw_iinc _ q_M_list_85 rfl (am_inc _) rfl rfl ?_ | refine aw_iinc _ q_M_list_85 rfl rfl rfl rfl ?_
        refine aw_goto 25 q_M_list_88 rfl ?_
        first
          | (have h9 := zI_0.mp c43
             have g := ih _ (by omega) (i + 1) rfl (by omega)
             rw [show cnp (fun c => lsp D m x.toNatClampNeg y c && decide (¬ x < 0)) (i + 1) = cnp (fun c => lsp D m x.toNatClampNeg y c && decide (¬ x < 0)) i from by simp [cnp, lsp, h9]] at g
             exact g)
          | (have h9 := nI_ne (by omega) (by omega) c55
             have g := ih _ (by omega) (i + 1) rfl (by omega)
             rw [show cnp (fun c => lsp D m x.toNatClampNeg y c && decide (¬ x < 0)) (i + 1) = cnp (fun c => lsp D m x.toNatClampNeg y c && decide (¬ x < 0)) i from by simp [cnp, lsp, h9]] at g
             exact g)
          | (have g := ih _ (by omega) (i + 1) rfl (by omega)
             rw [show cnp (fun c => lsp D m x.toNatClampNeg y c && decide (¬ x < 0)) (i + 1) = cnp (fun c => lsp D m x.toNatClampNeg y c && decide (¬ x < 0)) i from by
               have h9 : (lsp D m x.toNatClampNeg y i && decide (¬ x < 0)) = false := by
                 by_cases hx0 : x < 0
                 · rw [decide_eq_false (Classical.not_not.mpr hx0), Bool.and_false]
                 · obtain ⟨d, hd, rfl⟩ := nI_of (x := x) (by simpa using hx0)
                   rw [nI_clamp (by omega)]
                   have := nI_ne (by omega) (by omega) c71
                   simp [lsp, this]
               simp only [cnp, h9]; rfl] at g
             exact g)
          | (have g := ih _ (by omega) (i + 1) rfl (by omega)
             rw [show cnp (fun c => lsp D m x.toNatClampNeg y c && decide (¬ x < 0)) (i + 1) = cnp (fun c => lsp D m x.toNatClampNeg y c && decide (¬ x < 0)) i + 1 from by
               have h1 := zI_n0.mp c43
               have h2 := nI_eq' (by omega) (by omega) c55
               have h9 : (lsp D m x.toNatClampNeg y i && decide (¬ x < 0)) = true := by
                 rw [← c71, nI_clamp (by omega)]
                 have h0 : ¬ nI (x_di D (x_th D i)) < 0 := fun e => by have := (nI_ltI (b := 0) (by omega) (by omega)).mp e; omega
                 simp only [lsp, h1, h2, decide_eq_true h0, decide_true]; rfl
               simp only [cnp, h9]; rfl, ← Nat.add_assoc] at g
             exact g)
      · skip
        refine aw_aload_n 0 q_M_list_46 rfl rfl ?_
        refine aw_get 6 q_M_list_47 fl_M_19 rfl rfl ?_
        refine aw_iload q_M_list_50 rfl ?_
        refine aw_ialdN q_M_list_52 rfl (by omega) rfl ?_
        refine aw_iload q_M_list_53 rfl ?_
        refine aw_icmp_ne 85 q_M_list_55 rfl (fun c55 => ?_) (fun c55 => ?_)
        · skip
          first | refine aw_iinc _ q_M_list_85 rfl (am_inc _) rfl rfl ?_ | refine aw_iinc _ q_M_list_85 rfl rfl rfl rfl ?_
          refine aw_goto 25 q_M_list_88 rfl ?_
          first
            | (have h9 := zI_0.mp c43
               have g := ih _ (by omega) (i + 1) rfl (by omega)
               rw [show cnp (fun c => lsp D m x.toNatClampNeg y c && decide (¬ x < 0)) (i + 1) = cnp (fun c => lsp D m x.toNatClampNeg y c && decide (¬ x < 0)) i from by simp [cnp, lsp, h9]] at g
               exact g)
            | (have h9 := nI_ne (by omega) (by omega) c55
               have g := ih _ (by omega) (i + 1) rfl (by omega)
               rw [show cnp (fun c => lsp D m x.toNatClampNeg y c && decide (¬ x < 0)) (i + 1) = cnp (fun c => lsp D m x.toNatClampNeg y c && decide (¬ x < 0)) i from by simp [cnp, lsp, h9]] at g
               exact g)
            | (have g := ih _ (by omega) (i + 1) rfl (by omega)
               rw [show cnp (fun c => lsp D m x.toNatClampNeg y c && decide (¬ x < 0)) (i + 1) = cnp (fun c => lsp D m x.toNatClampNeg y c && decide (¬ x < 0)) i from by
                 have h9 : (lsp D m x.toNatClampNeg y i && decide (¬ x < 0)) = false := by
                   by_cases hx0 : x < 0
                   · rw [decide_eq_false (Classical.not_not.mpr hx0), Bool.and_false]
                   · obtain ⟨d, hd, rfl⟩ := nI_of (x := x) (by simpa using hx0)
                     rw [nI_clamp (by omega)]
                     have := nI_ne (by omega) (by omega) c71
                     simp [lsp, this]
                 simp only [cnp, h9]; rfl] at g
               exact g)
            | (have g := ih _ (by omega) (i + 1) rfl (by omega)
               rw [show cnp (fun c => lsp D m x.toNatClampNeg y c && decide (¬ x < 0)) (i + 1) = cnp (fun c => lsp D m x.toNatClampNeg y c && decide (¬ x < 0)) i + 1 from by
                 have h1 := zI_n0.mp c43
                 have h2 := nI_eq' (by omega) (by omega) c55
                 have h9 : (lsp D m x.toNatClampNeg y i && decide (¬ x < 0)) = true := by
                   rw [← c71, nI_clamp (by omega)]
                   have h0 : ¬ nI (x_di D (x_th D i)) < 0 := fun e => by have := (nI_ltI (b := 0) (by omega) (by omega)).mp e; omega
                   simp only [lsp, h1, h2, decide_eq_true h0, decide_true]; rfl
                 simp only [cnp, h9]; rfl, ← Nat.add_assoc] at g
               exact g)
        · skip
          refine aw_aload_n 0 q_M_list_58 rfl rfl ?_
          refine aw_get 3 q_M_list_59 fl_M_13 rfl rfl ?_
          refine aw_aload_n 0 q_M_list_62 rfl rfl ?_
          refine aw_get 5 q_M_list_63 fl_M_16 rfl rfl ?_
          refine aw_iload q_M_list_66 rfl ?_
          refine aw_ialdN q_M_list_68 rfl (by omega) rfl ?_
          refine aw_ialdN q_M_list_69 rfl (by omega) rfl ?_
          refine aw_iload_n 1 q_M_list_70 rfl rfl ?_
          refine aw_icmp_ne 85 q_M_list_71 rfl (fun c71 => ?_) (fun c71 => ?_)
          · skip
            first | refine aw_iinc _ q_M_list_85 rfl (am_inc _) rfl rfl ?_ | refine aw_iinc _ q_M_list_85 rfl rfl rfl rfl ?_
            refine aw_goto 25 q_M_list_88 rfl ?_
            first
              | (have h9 := zI_0.mp c43
                 have g := ih _ (by omega) (i + 1) rfl (by omega)
                 rw [show cnp (fun c => lsp D m x.toNatClampNeg y c && decide (¬ x < 0)) (i + 1) = cnp (fun c => lsp D m x.toNatClampNeg y c && decide (¬ x < 0)) i from by simp [cnp, lsp, h9]] at g
                 exact g)
              | (have h9 := nI_ne (by omega) (by omega) c55
                 have g := ih _ (by omega) (i + 1) rfl (by omega)
                 rw [show cnp (fun c => lsp D m x.toNatClampNeg y c && decide (¬ x < 0)) (i + 1) = cnp (fun c => lsp D m x.toNatClampNeg y c && decide (¬ x < 0)) i from by simp [cnp, lsp, h9]] at g
                 exact g)
              | (have g := ih _ (by omega) (i + 1) rfl (by omega)
                 rw [show cnp (fun c => lsp D m x.toNatClampNeg y c && decide (¬ x < 0)) (i + 1) = cnp (fun c => lsp D m x.toNatClampNeg y c && decide (¬ x < 0)) i from by
                   have h9 : (lsp D m x.toNatClampNeg y i && decide (¬ x < 0)) = false := by
                     by_cases hx0 : x < 0
                     · rw [decide_eq_false (Classical.not_not.mpr hx0), Bool.and_false]
                     · obtain ⟨d, hd, rfl⟩ := nI_of (x := x) (by simpa using hx0)
                       rw [nI_clamp (by omega)]
                       have := nI_ne (by omega) (by omega) c71
                       simp [lsp, this]
                   simp only [cnp, h9]; rfl] at g
                 exact g)
              | (have g := ih _ (by omega) (i + 1) rfl (by omega)
                 rw [show cnp (fun c => lsp D m x.toNatClampNeg y c && decide (¬ x < 0)) (i + 1) = cnp (fun c => lsp D m x.toNatClampNeg y c && decide (¬ x < 0)) i + 1 from by
                   have h1 := zI_n0.mp c43
                   have h2 := nI_eq' (by omega) (by omega) c55
                   have h9 : (lsp D m x.toNatClampNeg y i && decide (¬ x < 0)) = true := by
                     rw [← c71, nI_clamp (by omega)]
                     have h0 : ¬ nI (x_di D (x_th D i)) < 0 := fun e => by have := (nI_ltI (b := 0) (by omega) (by omega)).mp e; omega
                     simp only [lsp, h1, h2, decide_eq_true h0, decide_true]; rfl
                   simp only [cnp, h9]; rfl, ← Nat.add_assoc] at g
                 exact g)
          · skip
            refine aw_iload_n 3 q_M_list_74 rfl rfl ?_
            refine aw_iload_n 2 q_M_list_75 rfl rfl ?_
            refine aw_icmp_ne 82 q_M_list_76 rfl (fun c76 => ?_) (fun c76 => ?_)
            · skip
              first | refine aw_iinc _ q_M_list_82 rfl (am_inc _) rfl rfl ?_ | refine aw_iinc _ q_M_list_82 rfl rfl rfl rfl ?_
              first | refine aw_iinc _ q_M_list_85 rfl (am_inc _) rfl rfl ?_ | refine aw_iinc _ q_M_list_85 rfl rfl rfl rfl ?_
              refine aw_goto 25 q_M_list_88 rfl ?_
              first
                | (have h9 := zI_0.mp c43
                   have g := ih _ (by omega) (i + 1) rfl (by omega)
                   rw [show cnp (fun c => lsp D m x.toNatClampNeg y c && decide (¬ x < 0)) (i + 1) = cnp (fun c => lsp D m x.toNatClampNeg y c && decide (¬ x < 0)) i from by simp [cnp, lsp, h9]] at g
                   exact g)
                | (have h9 := nI_ne (by omega) (by omega) c55
                   have g := ih _ (by omega) (i + 1) rfl (by omega)
                   rw [show cnp (fun c => lsp D m x.toNatClampNeg y c && decide (¬ x < 0)) (i + 1) = cnp (fun c => lsp D m x.toNatClampNeg y c && decide (¬ x < 0)) i from by simp [cnp, lsp, h9]] at g
                   exact g)
                | (have g := ih _ (by omega) (i + 1) rfl (by omega)
                   rw [show cnp (fun c => lsp D m x.toNatClampNeg y c && decide (¬ x < 0)) (i + 1) = cnp (fun c => lsp D m x.toNatClampNeg y c && decide (¬ x < 0)) i from by
                     have h9 : (lsp D m x.toNatClampNeg y i && decide (¬ x < 0)) = false := by
                       by_cases hx0 : x < 0
                       · rw [decide_eq_false (Classical.not_not.mpr hx0), Bool.and_false]
                       · obtain ⟨d, hd, rfl⟩ := nI_of (x := x) (by simpa using hx0)
                         rw [nI_clamp (by omega)]
                         have := nI_ne (by omega) (by omega) c71
                         simp [lsp, this]
                     simp only [cnp, h9]; rfl] at g
                   exact g)
                | (have g := ih _ (by omega) (i + 1) rfl (by omega)
                   rw [show cnp (fun c => lsp D m x.toNatClampNeg y c && decide (¬ x < 0)) (i + 1) = cnp (fun c => lsp D m x.toNatClampNeg y c && decide (¬ x < 0)) i + 1 from by
                     have h1 := zI_n0.mp c43
                     have h2 := nI_eq' (by omega) (by omega) c55
                     have h9 : (lsp D m x.toNatClampNeg y i && decide (¬ x < 0)) = true := by
                       rw [← c71, nI_clamp (by omega)]
                       have h0 : ¬ nI (x_di D (x_th D i)) < 0 := fun e => by have := (nI_ltI (b := 0) (by omega) (by omega)).mp e; omega
                       simp only [lsp, h1, h2, decide_eq_true h0, decide_true]; rfl
                     simp only [cnp, h9]; rfl, ← Nat.add_assoc] at g
                   exact g)
            · skip
              exfalso
              rcases hz with hz | hz
              · rw [← c76] at hz
                have := (nI_ltI (b := 0) (by omega) (by omega)).mp hz
                omega
              · apply hz
                rw [← c71]
                exact ⟨fun e => by have := (nI_ltI (b := 0) (by omega) (by omega)).mp e; omega, fun e => by have := (nI_leI (a := 4) (by omega) (by omega)).mp e; omega⟩
theorem l_M_listN (sc : am_S) (A : ST) (q : QS) (D : ST) (t : TS) (x z : Int32) (m : Nat) (b : bd D) (hp1 : x_pn D = some m) (hm : m < 16384) (hz : z < 0 ∨ ¬ (¬ x < 0 ∧ ¬ 4 ≤ x)) : ∀ (n i : Nat), x_ny D - i = n → i ≤ x_ny D → ∀ s, s ≤ 14 * i → AW sc m_M_list 1 5 [some (.ref 50), some (.int x), some (.int z), some (.int (nI s)), some (.int (nI i)), none] [] (hp A q D t) (some (.int (-1))) (hp A q D t) := by
  intro n
  induction n using Nat.strongRecOn with
  | _ n ih =>
    intro i hn hi s hs
    have b1 := b.1
    refine aw_iload q_M_list_5 rfl ?_
    refine aw_aload_n 0 q_M_list_7 rfl rfl ?_
    refine aw_get 0 q_M_list_8 fl_M_63 rfl rfl ?_
    refine aw_icmp_ge 97 q_M_list_11 rfl (fun c11 => ?_) (fun c11 => ?_)
    · skip
      refine aw_iconst (-1) q_M_list_97 rfl ?_
      exact aw_iret .int q_M_list_98 rfl rfl rfl rfl
    · skip
      have hlt : i < x_ny D := nge_lt c11 (by omega) (by omega)
      refine aw_aload_n 0 q_M_list_14 rfl rfl ?_
      refine aw_get 16 q_M_list_15 fl_M_47 rfl rfl ?_
      refine aw_iconst (-1) q_M_list_18 rfl ?_
      refine aw_icmp_eq 97 q_M_list_19 rfl (fun c19 => ?_) (fun c19 => ?_)
      · skip
        refine aw_iconst (-1) q_M_list_97 rfl ?_
        exact aw_iret .int q_M_list_98 rfl rfl rfl rfl
      · skip
        refine aw_iconst 0 q_M_list_22 rfl ?_
        refine aw_istore q_M_list_23 rfl rfl ?_
        refine l_M_listN2 sc A q D t x z i m s b (by omega) hp1 hm (by omega) hz ?_ _ 0 rfl (by omega)
        intro s' hs'
        refine aw_iinc _ q_M_list_91 rfl (am_inc _) rfl rfl ?_
        refine aw_goto 5 q_M_list_94 rfl ?_
        exact ih _ (by omega) (i + 1) rfl (by omega) _ (by omega)
theorem c_M_list_nop (sc : am_S) (A : ST) (q : QS) (D : ST) (t : TS) (x z : Int32) (hp1 : x_pn D = none) : AM sc m_M_list 1 [.ref 50, .int x, .int z] (hp A q D t) (some (.int (-1))) (hp A q D t) := by
  refine AM.of (by decide) (Nat.le_of_ble_eq_true rfl) ?_
  show AW sc m_M_list 1 0 [some (.ref 50), some (.int x), some (.int z), none, none, none] [] _ _ _
  refine aw_iconst 0 q_M_list_0 rfl ?_
  refine aw_istore_n 3 q_M_list_1 rfl rfl rfl ?_
  refine aw_iconst 0 q_M_list_2 rfl ?_
  refine aw_istore q_M_list_3 rfl rfl ?_
  refine aw_iload q_M_list_5 rfl ?_
  refine aw_aload_n 0 q_M_list_7 rfl rfl ?_
  refine aw_get 0 q_M_list_8 fl_M_63 rfl rfl ?_
  refine aw_icmp_ge 97 q_M_list_11 rfl (fun c11 => ?_) (fun c11 => ?_)
  · skip
    refine aw_iconst (-1) q_M_list_97 rfl ?_
    exact aw_iret .int q_M_list_98 rfl rfl rfl rfl
  · skip
    refine aw_aload_n 0 q_M_list_14 rfl rfl ?_
    refine aw_get 16 q_M_list_15 fl_M_47 rfl rfl ?_
    refine aw_iconst (-1) q_M_list_18 rfl ?_
    refine aw_icmp_eq 97 q_M_list_19 rfl (fun c19 => ?_) (fun c19 => ?_)
    · skip
      refine aw_iconst (-1) q_M_list_97 rfl ?_
      exact aw_iret .int q_M_list_98 rfl rfl rfl rfl
    · skip
      exact absurd (by rw [hp1]; rfl) c19
theorem c_M_list_no (sc : am_S) (A : ST) (q : QS) (D : ST) (t : TS) (x z : Int32) (m : Nat) (b : bd D) (hp1 : x_pn D = some m) (hm : m < 16384) (hz : z < 0 ∨ ¬ (¬ x < 0 ∧ ¬ 4 ≤ x)) : AM sc m_M_list 1 [.ref 50, .int x, .int z] (hp A q D t) (some (.int (-1))) (hp A q D t) := by
  refine AM.of (by decide) (Nat.le_of_ble_eq_true rfl) ?_
  show AW sc m_M_list 1 0 [some (.ref 50), some (.int x), some (.int z), none, none, none] [] _ _ _
  refine aw_iconst 0 q_M_list_0 rfl ?_
  refine aw_istore_n 3 q_M_list_1 rfl rfl rfl ?_
  refine aw_iconst 0 q_M_list_2 rfl ?_
  refine aw_istore q_M_list_3 rfl rfl ?_
  exact l_M_listN sc A q D t x z m b hp1 hm hz _ 0 rfl (by omega) 0 (by omega)
theorem l_M_list2 (sc : am_S) (A : ST) (q : QS) (D : ST) (t : TS) (dd y m s0 k : Nat) (b : bd D) (hdd : dd < 4) (hy : y < 6) (hp1 : x_pn D = some m) (hm : m < 16384) (hs : s0 ≤ 1000) (hk : s0 + k < 2 ^ 31) (o : Option Nat) (ho : ∀ c, fnd (fun c => lsp D m dd y c && decide (cnp (lsp D m dd y) c = k)) (x_nc D) = some c → o = some c) (kk : fnd (fun c => lsp D m dd y c && decide (cnp (lsp D m dd y) c = k)) (x_nc D) = none → AW sc m_M_list 1 91 [some (.ref 50), some (.int (nI dd)), some (.int (nI (s0 + k))), some (.int (nI (s0 + cnp (lsp D m dd y) (x_nc D)))), some (.int (nI y)), none] [] (hp A q D t) (some (.int (pI o))) (hp A q D t)) : ∀ (n i : Nat), x_nc D - i = n → i ≤ x_nc D → fnd (fun c => lsp D m dd y c && decide (cnp (lsp D m dd y) c = k)) i = none → AW sc m_M_list 1 25 [some (.ref 50), some (.int (nI dd)), some (.int (nI (s0 + k))), some (.int (nI (s0 + cnp (lsp D m dd y) i))), some (.int (nI y)), some (.int (nI i))] [] (hp A q D t) (some (.int (pI o))) (hp A q D t) := by
  intro n
  induction n using Nat.strongRecOn with
  | _ n ih =>
    intro i hn hi
    intro hw
    have b3 := b.2.2.1
    have b4 := b.2.2.2.1 i
    have b5 := b.2.2.2.2.1 i
    have b6 := b.2.2.2.2.2.1 (x_th D i)
    have e0 : pI (x_pn D) = nI m := by rw [hp1]; rfl
    have hc := cnp_le (lsp D m dd y) i
    refine aw_iload q_M_list_25 rfl ?_
    refine aw_aload_n 0 q_M_list_27 rfl rfl ?_
    refine aw_get 4 q_M_list_28 fl_M_84 rfl rfl ?_
    refine aw_icmp_ge 91 q_M_list_31 rfl (fun c31 => ?_) (fun c31 => ?_)
    · skip
      rw [show i = x_nc D from Nat.le_antisymm hi (nge_ge c31 (by omega) (by omega))] at hw ⊢
      exact aw_kill [5] (kk hw)
    · skip
      have hlt : i < x_nc D := nge_lt c31 (by omega) (by omega)
      refine aw_aload_n 0 q_M_list_34 rfl rfl ?_
      refine aw_get 16 q_M_list_35 fl_M_47 rfl rfl ?_
      rw [e0]
      refine aw_iload q_M_list_38 rfl ?_
      refine aw_S2 q_M_list_40 st_M_94 (by omega) (Nat.le_of_ble_eq_true rfl) (c_M_has _ _ _ _ (by omega) (by omega)) ?_
      refine aw_if_eq 85 q_M_list_43 rfl (fun c43 => ?_) (fun c43 => ?_)
      · skip
        first | refine aw_iinc _ q_M_list_85 rfl (am_inc _) rfl rfl ?_ | refine aw_iinc _ q_M_list_85 rfl rfl rfl rfl ?_
        refine aw_goto 25 q_M_list_88 rfl ?_
        first
          | (have h9 := zI_0.mp c43
             have h8 : lsp D m dd y i = false := by simp only [lsp, h9]; rfl
             have g := ih _ (by omega) (i + 1) rfl (by omega) (fnd_miss hw (by simp only [h8]; rfl))
             rw [show cnp (lsp D m dd y) (i + 1) = cnp (lsp D m dd y) i from by simp only [cnp, h8]; rfl] at g
             exact g)
          | (have h9 := nI_ne (by omega) (by omega) c55
             have h8 : lsp D m dd y i = false := by simp [lsp, h9]
             have g := ih _ (by omega) (i + 1) rfl (by omega) (fnd_miss hw (by simp only [h8]; rfl))
             rw [show cnp (lsp D m dd y) (i + 1) = cnp (lsp D m dd y) i from by simp only [cnp, h8]; rfl] at g
             exact g)
          | (have h9 := nI_ne (by omega) (by omega) c71
             have h8 : lsp D m dd y i = false := by simp [lsp, h9]
             have g := ih _ (by omega) (i + 1) rfl (by omega) (fnd_miss hw (by simp only [h8]; rfl))
             rw [show cnp (lsp D m dd y) (i + 1) = cnp (lsp D m dd y) i from by simp only [cnp, h8]; rfl] at g
             exact g)
          | (have h1 := zI_n0.mp c43
             have h2 := nI_eq' (by omega) (by omega) c55
             have h3 := nI_eq' (by omega) (by omega) c71
             have h4 := nI_ne (by omega) (by omega) c76
             have h8 : lsp D m dd y i = true := by simp only [lsp, h1, h2, h3, decide_true]; rfl
             have g := ih _ (by omega) (i + 1) rfl (by omega) (fnd_miss hw (by simp only [h8, decide_eq_false (show ¬ cnp (lsp D m dd y) i = k by omega)]; rfl))
             rw [show cnp (lsp D m dd y) (i + 1) = cnp (lsp D m dd y) i + 1 from by simp only [cnp, h8]; rfl, ← Nat.add_assoc] at g
             exact g)
      · skip
        refine aw_aload_n 0 q_M_list_46 rfl rfl ?_
        refine aw_get 6 q_M_list_47 fl_M_19 rfl rfl ?_
        refine aw_iload q_M_list_50 rfl ?_
        refine aw_ialdN q_M_list_52 rfl (by omega) rfl ?_
        refine aw_iload q_M_list_53 rfl ?_
        refine aw_icmp_ne 85 q_M_list_55 rfl (fun c55 => ?_) (fun c55 => ?_)
        · skip
          first | refine aw_iinc _ q_M_list_85 rfl (am_inc _) rfl rfl ?_ | refine aw_iinc _ q_M_list_85 rfl rfl rfl rfl ?_
          refine aw_goto 25 q_M_list_88 rfl ?_
          first
            | (have h9 := zI_0.mp c43
               have h8 : lsp D m dd y i = false := by simp only [lsp, h9]; rfl
               have g := ih _ (by omega) (i + 1) rfl (by omega) (fnd_miss hw (by simp only [h8]; rfl))
               rw [show cnp (lsp D m dd y) (i + 1) = cnp (lsp D m dd y) i from by simp only [cnp, h8]; rfl] at g
               exact g)
            | (have h9 := nI_ne (by omega) (by omega) c55
               have h8 : lsp D m dd y i = false := by simp [lsp, h9]
               have g := ih _ (by omega) (i + 1) rfl (by omega) (fnd_miss hw (by simp only [h8]; rfl))
               rw [show cnp (lsp D m dd y) (i + 1) = cnp (lsp D m dd y) i from by simp only [cnp, h8]; rfl] at g
               exact g)
            | (have h9 := nI_ne (by omega) (by omega) c71
               have h8 : lsp D m dd y i = false := by simp [lsp, h9]
               have g := ih _ (by omega) (i + 1) rfl (by omega) (fnd_miss hw (by simp only [h8]; rfl))
               rw [show cnp (lsp D m dd y) (i + 1) = cnp (lsp D m dd y) i from by simp only [cnp, h8]; rfl] at g
               exact g)
            | (have h1 := zI_n0.mp c43
               have h2 := nI_eq' (by omega) (by omega) c55
               have h3 := nI_eq' (by omega) (by omega) c71
               have h4 := nI_ne (by omega) (by omega) c76
               have h8 : lsp D m dd y i = true := by simp only [lsp, h1, h2, h3, decide_true]; rfl
               have g := ih _ (by omega) (i + 1) rfl (by omega) (fnd_miss hw (by simp only [h8, decide_eq_false (show ¬ cnp (lsp D m dd y) i = k by omega)]; rfl))
               rw [show cnp (lsp D m dd y) (i + 1) = cnp (lsp D m dd y) i + 1 from by simp only [cnp, h8]; rfl, ← Nat.add_assoc] at g
               exact g)
        · skip
          refine aw_aload_n 0 q_M_list_58 rfl rfl ?_
          refine aw_get 3 q_M_list_59 fl_M_13 rfl rfl ?_
          refine aw_aload_n 0 q_M_list_62 rfl rfl ?_
          refine aw_get 5 q_M_list_63 fl_M_16 rfl rfl ?_
          refine aw_iload q_M_list_66 rfl ?_
          refine aw_ialdN q_M_list_68 rfl (by omega) rfl ?_
          refine aw_ialdN q_M_list_69 rfl (by omega) rfl ?_
          refine aw_iload_n 1 q_M_list_70 rfl rfl ?_
          refine aw_icmp_ne 85 q_M_list_71 rfl (fun c71 => ?_) (fun c71 => ?_)
          · skip
            first | refine aw_iinc _ q_M_list_85 rfl (am_inc _) rfl rfl ?_ | refine aw_iinc _ q_M_list_85 rfl rfl rfl rfl ?_
            refine aw_goto 25 q_M_list_88 rfl ?_
            first
              | (have h9 := zI_0.mp c43
                 have h8 : lsp D m dd y i = false := by simp only [lsp, h9]; rfl
                 have g := ih _ (by omega) (i + 1) rfl (by omega) (fnd_miss hw (by simp only [h8]; rfl))
                 rw [show cnp (lsp D m dd y) (i + 1) = cnp (lsp D m dd y) i from by simp only [cnp, h8]; rfl] at g
                 exact g)
              | (have h9 := nI_ne (by omega) (by omega) c55
                 have h8 : lsp D m dd y i = false := by simp [lsp, h9]
                 have g := ih _ (by omega) (i + 1) rfl (by omega) (fnd_miss hw (by simp only [h8]; rfl))
                 rw [show cnp (lsp D m dd y) (i + 1) = cnp (lsp D m dd y) i from by simp only [cnp, h8]; rfl] at g
                 exact g)
              | (have h9 := nI_ne (by omega) (by omega) c71
                 have h8 : lsp D m dd y i = false := by simp [lsp, h9]
                 have g := ih _ (by omega) (i + 1) rfl (by omega) (fnd_miss hw (by simp only [h8]; rfl))
                 rw [show cnp (lsp D m dd y) (i + 1) = cnp (lsp D m dd y) i from by simp only [cnp, h8]; rfl] at g
                 exact g)
              | (have h1 := zI_n0.mp c43
                 have h2 := nI_eq' (by omega) (by omega) c55
                 have h3 := nI_eq' (by omega) (by omega) c71
                 have h4 := nI_ne (by omega) (by omega) c76
                 have h8 : lsp D m dd y i = true := by simp only [lsp, h1, h2, h3, decide_true]; rfl
                 have g := ih _ (by omega) (i + 1) rfl (by omega) (fnd_miss hw (by simp only [h8, decide_eq_false (show ¬ cnp (lsp D m dd y) i = k by omega)]; rfl))
                 rw [show cnp (lsp D m dd y) (i + 1) = cnp (lsp D m dd y) i + 1 from by simp only [cnp, h8]; rfl, ← Nat.add_assoc] at g
                 exact g)
          · skip
            refine aw_iload_n 3 q_M_list_74 rfl rfl ?_
            refine aw_iload_n 2 q_M_list_75 rfl rfl ?_
            refine aw_icmp_ne 82 q_M_list_76 rfl (fun c76 => ?_) (fun c76 => ?_)
            · skip
              first | refine aw_iinc _ q_M_list_82 rfl (am_inc _) rfl rfl ?_ | refine aw_iinc _ q_M_list_82 rfl rfl rfl rfl ?_
              first | refine aw_iinc _ q_M_list_85 rfl (am_inc _) rfl rfl ?_ | refine aw_iinc _ q_M_list_85 rfl rfl rfl rfl ?_
              refine aw_goto 25 q_M_list_88 rfl ?_
              first
                | (have h9 := zI_0.mp c43
                   have h8 : lsp D m dd y i = false := by simp only [lsp, h9]; rfl
                   have g := ih _ (by omega) (i + 1) rfl (by omega) (fnd_miss hw (by simp only [h8]; rfl))
                   rw [show cnp (lsp D m dd y) (i + 1) = cnp (lsp D m dd y) i from by simp only [cnp, h8]; rfl] at g
                   exact g)
                | (have h9 := nI_ne (by omega) (by omega) c55
                   have h8 : lsp D m dd y i = false := by simp [lsp, h9]
                   have g := ih _ (by omega) (i + 1) rfl (by omega) (fnd_miss hw (by simp only [h8]; rfl))
                   rw [show cnp (lsp D m dd y) (i + 1) = cnp (lsp D m dd y) i from by simp only [cnp, h8]; rfl] at g
                   exact g)
                | (have h9 := nI_ne (by omega) (by omega) c71
                   have h8 : lsp D m dd y i = false := by simp [lsp, h9]
                   have g := ih _ (by omega) (i + 1) rfl (by omega) (fnd_miss hw (by simp only [h8]; rfl))
                   rw [show cnp (lsp D m dd y) (i + 1) = cnp (lsp D m dd y) i from by simp only [cnp, h8]; rfl] at g
                   exact g)
                | (have h1 := zI_n0.mp c43
                   have h2 := nI_eq' (by omega) (by omega) c55
                   have h3 := nI_eq' (by omega) (by omega) c71
                   have h4 := nI_ne (by omega) (by omega) c76
                   have h8 : lsp D m dd y i = true := by simp only [lsp, h1, h2, h3, decide_true]; rfl
                   have g := ih _ (by omega) (i + 1) rfl (by omega) (fnd_miss hw (by simp only [h8, decide_eq_false (show ¬ cnp (lsp D m dd y) i = k by omega)]; rfl))
                   rw [show cnp (lsp D m dd y) (i + 1) = cnp (lsp D m dd y) i + 1 from by simp only [cnp, h8]; rfl, ← Nat.add_assoc] at g
                   exact g)
            · skip
              refine aw_iload q_M_list_79 rfl ?_
              have h1 := zI_n0.mp c43
              have h2 := nI_eq' (by omega) (by omega) c55
              have h3 := nI_eq' (by omega) (by omega) c71
              have h4 := nI_eq' (by omega) (by omega) c76
              have h8 : lsp D m dd y i = true := by simp only [lsp, h1, h2, h3, decide_true]; rfl
              have h5 := ho i (fnd_hit hw (by simp only [h8, decide_eq_true (show cnp (lsp D m dd y) i = k by omega)]; rfl) hlt)
              exact aw_iret .int q_M_list_81 rfl rfl (by rw [h5]; rfl) rfl
theorem fnd_cnt {p : Nat → Bool} {k : Nat} : ∀ {n : Nat}, fnd (fun c => p c && decide (cnp p c = k)) n = none → cnp p n ≤ k
  | 0, _ => by simp [cnp]
  | n + 1, h => by
    unfold fnd at h
    cases e : fnd (fun c => p c && decide (cnp p c = k)) n with
    | some i => rw [e] at h; cases h
    | none =>
      rw [e] at h
      have i2 := fnd_cnt e
      unfold cnp
      split
      · rename_i h2
        simp only [h2, Bool.true_and] at h
        by_cases h3 : cnp p n = k
        · simp [h3] at h
        · omega
      · exact i2
theorem l_M_list (sc : am_S) (A : ST) (q : QS) (D : ST) (t : TS) (dd m : Nat) (b : bd D) (hdd : dd < 4) (hp1 : x_pn D = some m) (hm : m < 16384) : ∀ (n i : Nat), x_ny D - i = n → i ≤ x_ny D → ∀ s k, s ≤ 14 * i → s + k < 2 ^ 31 → AW sc m_M_list 1 5 [some (.ref 50), some (.int (nI dd)), some (.int (nI (s + k))), some (.int (nI s)), some (.int (nI i)), none] [] (hp A q D t) (some (.int (pI (lsM D m dd n i k)))) (hp A q D t) := by
  intro n
  induction n with
  | zero =>
    intro i hn hi s k hs hk
    have b1 := b.1
    refine aw_iload q_M_list_5 rfl ?_
    refine aw_aload_n 0 q_M_list_7 rfl rfl ?_
    refine aw_get 0 q_M_list_8 fl_M_63 rfl rfl ?_
    refine aw_icmp_ge 97 q_M_list_11 rfl (fun c11 => ?_) (fun c11 => ?_)
    · skip
      refine aw_iconst (-1) q_M_list_97 rfl ?_
      exact aw_iret .int q_M_list_98 rfl rfl rfl rfl
    · skip
      exact absurd ((nI_leI (by omega) (by omega)).mpr (by omega)) c11
  | succ n ih =>
    intro i hn hi s k hs hk
    have b1 := b.1
    refine aw_iload q_M_list_5 rfl ?_
    refine aw_aload_n 0 q_M_list_7 rfl rfl ?_
    refine aw_get 0 q_M_list_8 fl_M_63 rfl rfl ?_
    refine aw_icmp_ge 97 q_M_list_11 rfl (fun c11 => ?_) (fun c11 => ?_)
    · skip
      first
        | exact absurd ((nI_leI (by omega) (by omega)).mp c11) (by omega)
        | exact absurd c19 (by rw [hp1]; exact fun e => by have := (pI_eq (o := some m) (fun _ h => by cases h; omega)).mp e; cases this)
    · skip
      refine aw_aload_n 0 q_M_list_14 rfl rfl ?_
      refine aw_get 16 q_M_list_15 fl_M_47 rfl rfl ?_
      refine aw_iconst (-1) q_M_list_18 rfl ?_
      refine aw_icmp_eq 97 q_M_list_19 rfl (fun c19 => ?_) (fun c19 => ?_)
      · skip
        first
          | exact absurd ((nI_leI (by omega) (by omega)).mp c11) (by omega)
          | exact absurd c19 (by rw [hp1]; exact fun e => by have := (pI_eq (o := some m) (fun _ h => by cases h; omega)).mp e; cases this)
      · skip
        refine aw_iconst 0 q_M_list_22 rfl ?_
        refine aw_istore q_M_list_23 rfl rfl ?_
        refine l_M_list2 sc A q D t dd i m s k b hdd (by omega) hp1 hm (by omega) hk _ ?_ ?_ _ 0 rfl (by omega) rfl
        · intro c hc
          unfold lsM
          rw [hc]
        · intro hc
          have hle := fnd_cnt hc
          have hcl := cnp_le (lsp D m dd i) (x_nc D)
          have b3 := b.2.2.1
          refine aw_iinc _ q_M_list_91 rfl (am_inc _) rfl rfl ?_
          refine aw_goto 5 q_M_list_94 rfl ?_
          have g := ih (i + 1) (by omega) (by omega) (s + cnp (lsp D m dd i) (x_nc D)) (k - cnp (lsp D m dd i) (x_nc D)) (by omega) (by omega)
          rw [show s + cnp (lsp D m dd i) (x_nc D) + (k - cnp (lsp D m dd i) (x_nc D)) = s + k by omega] at g
          rw [lsM, hc]
          exact g
theorem c_M_list (sc : am_S) (A : ST) (q : QS) (D : ST) (t : TS) (dd k m : Nat) (b : bd D) (hdd : dd < 4) (hk : k < 2 ^ 31) (hp1 : x_pn D = some m) (hm : m < 16384) : AM sc m_M_list 1 [.ref 50, .int (nI dd), .int (nI k)] (hp A q D t) (some (.int (pI (lsM D m dd (x_ny D) 0 k)))) (hp A q D t) := by
  refine AM.of (by decide) (Nat.le_of_ble_eq_true rfl) ?_
  show AW sc m_M_list 1 0 [some (.ref 50), some (.int (nI dd)), some (.int (nI k)), none, none, none] [] _ _ _
  refine aw_iconst 0 q_M_list_0 rfl ?_
  refine aw_istore_n 3 q_M_list_1 rfl rfl rfl ?_
  refine aw_iconst 0 q_M_list_2 rfl ?_
  refine aw_istore q_M_list_3 rfl rfl ?_
  have g := l_M_list sc A q D t dd m b hdd hp1 hm _ 0 rfl (by omega) 0 k (by omega) (by omega)
  rw [Nat.zero_add] at g
  exact g
