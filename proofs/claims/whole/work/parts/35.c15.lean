/-! CONTRACTS 15: the class is asked (without a search) -/
theorem c_B_bound (sc : am_S) (A : ST) (q : QS) (D : ST) (t : TS) (x : Int32) (b : bd A) : AM sc m_B_bound 5 [.ref 1, .int x] (hp A q D t) (some (.long (lZ (if x = 0 then sm (x_nt A) (mw A) else if x = 1 then bps A (bsum A (x_ny A)) (x_nc A) else -1)))) (hp A q D t) := by
  refine AM.of (by decide) (Nat.le_of_ble_eq_true rfl) ?_
  show AW sc m_B_bound 5 0 [some (.ref 1), some (.int x)] [] _ _ _
  refine aw_iload_n 1 q_B_bound_0 rfl rfl ?_
  refine aw_if_ne 12 q_B_bound_1 rfl (fun c1 => ?_) (fun c1 => ?_)
  · skip
    refine aw_iload_n 1 q_B_bound_12 rfl rfl ?_
    refine aw_iconst 1 q_B_bound_13 rfl ?_
    refine aw_icmp_ne 28 q_B_bound_14 rfl (fun c14 => ?_) (fun c14 => ?_)
    · skip
      refine aw_ldc2 (lZ (-1)) q_B_bound_28 (am_in2 (i := 67) rfl rfl) ?_
      exact aw_lret q_B_bound_31 rfl (by rw [if_neg c1, if_neg c14]) rfl
    · skip
      refine aw_aload_n 0 q_B_bound_17 rfl rfl ?_
      refine aw_get 2 q_B_bound_18 fl_B_39 rfl rfl ?_
      refine aw_lconst (lZ 0) q_B_bound_21 rfl ?_
      refine aw_V1 q_B_bound_22 st_B_152 rfl (by omega) (Nat.le_of_ble_eq_true rfl) (c_N_byPrices _ _ _ _ _ _ b (by omega)) ?_
      refine aw_goto 31 q_B_bound_25 rfl ?_
      exact aw_lret q_B_bound_31 rfl (by rw [if_neg c1, if_pos c14, Int.zero_add]) rfl
  · skip
    refine aw_aload_n 0 q_B_bound_4 rfl rfl ?_
    refine aw_get 2 q_B_bound_5 fl_B_39 rfl rfl ?_
    refine aw_V0 q_B_bound_8 st_B_148 rfl (by omega) (Nat.le_of_ble_eq_true rfl) (c_N_byThings _ _ _ _ _ b) ?_
    exact aw_lret q_B_bound_11 rfl (by rw [if_pos c1]) rfl
theorem c_B_holds_noy (sc : am_S) (A : ST) (q : QS) (D : ST) (t : TS) (x : Int32) (hx : ¬ (¬ x < 0 ∧ ¬ nI (x_ny A) ≤ x)) : AM sc m_B_holds 3 [.ref 1, .int x] (hp A q D t) (some (.int 0)) (hp A q D t) := by
  refine AM.of (by decide) (Nat.le_of_ble_eq_true rfl) ?_
  show AW sc m_B_holds 3 0 [some (.ref 1), some (.int x)] [] _ _ _
  refine aw_aload_n 0 q_B_holds_0 rfl rfl ?_
  refine aw_get 0 q_B_holds_1 fl_B_23 rfl rfl ?_
  refine aw_iload_n 1 q_B_holds_4 rfl rfl ?_
  refine aw_V1 q_B_holds_5 st_B_68 rfl (by omega) (Nat.le_of_ble_eq_true rfl) (c_W_isYear _ _ _ _ _ _) ?_
  refine aw_if_eq 38 q_B_holds_8 rfl (fun c8 => ?_) (fun c8 => ?_)
  · skip
    refine aw_iconst 0 q_B_holds_38 rfl ?_
    exact aw_iret .boolean q_B_holds_39 rfl rfl rfl rfl
  · skip
    exact (hx (of_decide_eq_true (zI_n0.mp c8))).elim
theorem c_B_holds_nop (sc : am_S) (A : ST) (q : QS) (D : ST) (t : TS) (x : Int32) (hp1 : x_pn A = none) : AM sc m_B_holds 3 [.ref 1, .int x] (hp A q D t) (some (.int 0)) (hp A q D t) := by
  refine AM.of (by decide) (Nat.le_of_ble_eq_true rfl) ?_
  show AW sc m_B_holds 3 0 [some (.ref 1), some (.int x)] [] _ _ _
  refine aw_aload_n 0 q_B_holds_0 rfl rfl ?_
  refine aw_get 0 q_B_holds_1 fl_B_23 rfl rfl ?_
  refine aw_iload_n 1 q_B_holds_4 rfl rfl ?_
  refine aw_V1 q_B_holds_5 st_B_68 rfl (by omega) (Nat.le_of_ble_eq_true rfl) (c_W_isYear _ _ _ _ _ _) ?_
  refine aw_if_eq 38 q_B_holds_8 rfl (fun c8 => ?_) (fun c8 => ?_)
  · skip
    refine aw_iconst 0 q_B_holds_38 rfl ?_
    exact aw_iret .boolean q_B_holds_39 rfl rfl rfl rfl
  · skip
    refine aw_aload_n 0 q_B_holds_11 rfl rfl ?_
    refine aw_get 4 q_B_holds_12 fl_B_50 rfl rfl ?_
    refine aw_iconst (-1) q_B_holds_15 rfl ?_
    refine aw_icmp_eq 38 q_B_holds_16 rfl (fun c16 => ?_) (fun c16 => ?_)
    · skip
      refine aw_iconst 0 q_B_holds_38 rfl ?_
      exact aw_iret .boolean q_B_holds_39 rfl rfl rfl rfl
    · skip
      exact absurd (by rw [hp1]; rfl) c16
theorem c_B_holds (sc : am_S) (A : ST) (q : QS) (D : ST) (t : TS) (y m : Nat) (b : bd A) (hy : y < x_ny A) (hp1 : x_pn A = some m) (hm : m < 16384) : AM sc m_B_holds 3 [.ref 1, .int (nI y)] (hp A q D t) (some (.int (zI (decide (spI A m y ≤ x_bu A y))))) (hp A q D t) := by
  refine AM.of (by decide) (Nat.le_of_ble_eq_true rfl) ?_
  show AW sc m_B_holds 3 0 [some (.ref 1), some (.int (nI y))] [] _ _ _
  have b1 := b.1
  have e0 : pI (x_pn A) = nI m := by rw [hp1]; rfl
  refine aw_aload_n 0 q_B_holds_0 rfl rfl ?_
  refine aw_get 0 q_B_holds_1 fl_B_23 rfl rfl ?_
  refine aw_iload_n 1 q_B_holds_4 rfl rfl ?_
  refine aw_V1 q_B_holds_5 st_B_68 rfl (by omega) (Nat.le_of_ble_eq_true rfl) (c_W_isYear _ _ _ _ _ _) ?_
  refine aw_if_eq 38 q_B_holds_8 rfl (fun c8 => ?_) (fun c8 => ?_)
  · skip
    refine aw_iconst 0 q_B_holds_38 rfl ?_
    exact absurd (zI_0.mp c8) (by rw [isN hy (by omega)]; decide)
  · skip
    refine aw_aload_n 0 q_B_holds_11 rfl rfl ?_
    refine aw_get 4 q_B_holds_12 fl_B_50 rfl rfl ?_
    refine aw_iconst (-1) q_B_holds_15 rfl ?_
    refine aw_icmp_eq 38 q_B_holds_16 rfl (fun c16 => ?_) (fun c16 => ?_)
    · skip
      refine aw_iconst 0 q_B_holds_38 rfl ?_
      exact absurd c16 (by rw [hp1]; exact fun e => by have := (pI_eq (o := some m) (fun _ h => by cases h; omega)).mp e; cases this)
    · skip
      refine aw_aload_n 0 q_B_holds_19 rfl rfl ?_
      refine aw_get 0 q_B_holds_20 fl_B_23 rfl rfl ?_
      refine aw_aload_n 0 q_B_holds_23 rfl rfl ?_
      refine aw_get 4 q_B_holds_24 fl_B_50 rfl rfl ?_
      refine aw_iload_n 1 q_B_holds_27 rfl rfl ?_
      rw [e0]
      refine aw_V2 q_B_holds_28 st_B_219 rfl (by omega) (Nat.le_of_ble_eq_true rfl) (c_W_isWithinBudget _ _ _ _ _ _ _ b hm (by omega)) ?_
      refine aw_if_eq 38 q_B_holds_31 rfl (fun c31 => ?_) (fun c31 => ?_)
      · skip
        refine aw_iconst 0 q_B_holds_38 rfl ?_
        exact aw_iret .boolean q_B_holds_39 rfl rfl (aw_rz0 (zI_0.mp c31)) rfl
      · skip
        refine aw_iconst 1 q_B_holds_34 rfl ?_
        refine aw_goto 39 q_B_holds_35 rfl ?_
        exact aw_iret .boolean q_B_holds_39 rfl rfl (aw_rz1 (zI_n0.mp c31)) rfl
theorem c_B_earlier_noy (sc : am_S) (A : ST) (q : QS) (D : ST) (t : TS) (x : Int32) (hx : ¬ (¬ x < 0 ∧ ¬ nI (x_ny A) ≤ x)) : AM sc m_B_earlier 1 [.ref 1, .int x] (hp A q D t) (some (.int (-1))) (hp A q D t) := by
  refine AM.of (by decide) (Nat.le_of_ble_eq_true rfl) ?_
  show AW sc m_B_earlier 1 0 [some (.ref 1), some (.int x), none, none] [] _ _ _
  refine aw_aload_n 0 q_B_earlier_0 rfl rfl ?_
  refine aw_get 0 q_B_earlier_1 fl_B_23 rfl rfl ?_
  refine aw_iload_n 1 q_B_earlier_4 rfl rfl ?_
  refine aw_V1 q_B_earlier_5 st_B_68 rfl (by omega) (Nat.le_of_ble_eq_true rfl) (c_W_isYear _ _ _ _ _ _) ?_
  refine aw_if_eq 19 q_B_earlier_8 rfl (fun c8 => ?_) (fun c8 => ?_)
  · skip
    refine aw_iconst (-1) q_B_earlier_19 rfl ?_
    exact aw_iret .int q_B_earlier_20 rfl rfl rfl rfl
  · skip
    exact (hx (of_decide_eq_true (zI_n0.mp c8))).elim
theorem c_B_earlier_nop (sc : am_S) (A : ST) (q : QS) (D : ST) (t : TS) (x : Int32) (hp1 : x_pn A = none) : AM sc m_B_earlier 1 [.ref 1, .int x] (hp A q D t) (some (.int (-1))) (hp A q D t) := by
  refine AM.of (by decide) (Nat.le_of_ble_eq_true rfl) ?_
  show AW sc m_B_earlier 1 0 [some (.ref 1), some (.int x), none, none] [] _ _ _
  refine aw_aload_n 0 q_B_earlier_0 rfl rfl ?_
  refine aw_get 0 q_B_earlier_1 fl_B_23 rfl rfl ?_
  refine aw_iload_n 1 q_B_earlier_4 rfl rfl ?_
  refine aw_V1 q_B_earlier_5 st_B_68 rfl (by omega) (Nat.le_of_ble_eq_true rfl) (c_W_isYear _ _ _ _ _ _) ?_
  refine aw_if_eq 19 q_B_earlier_8 rfl (fun c8 => ?_) (fun c8 => ?_)
  · skip
    refine aw_iconst (-1) q_B_earlier_19 rfl ?_
    exact aw_iret .int q_B_earlier_20 rfl rfl rfl rfl
  · skip
    refine aw_aload_n 0 q_B_earlier_11 rfl rfl ?_
    refine aw_get 4 q_B_earlier_12 fl_B_50 rfl rfl ?_
    refine aw_iconst (-1) q_B_earlier_15 rfl ?_
    refine aw_icmp_ne 21 q_B_earlier_16 rfl (fun c16 => ?_) (fun c16 => ?_)
    · skip
      exact absurd (by rw [hp1]; rfl) c16
    · skip
      refine aw_iconst (-1) q_B_earlier_19 rfl ?_
      exact aw_iret .int q_B_earlier_20 rfl rfl rfl rfl
theorem l_B_earlier (sc : am_S) (A : ST) (q : QS) (D : ST) (t : TS) (y m : Nat) (b : bd A) (hy : y < 6) (hp1 : x_pn A = some m) (hm : m < 16384) : ∀ (n i : Nat), x_nc A - i = n → i ≤ x_nc A →  AW sc m_B_earlier 1 25 [some (.ref 1), some (.int (nI y)), some (.int (nI (cnp (fun c => m.testBit c && decide (x_yr A c < y)) i))), some (.int (nI i))] [] (hp A q D t) (some (.int (nI (cnp (fun c => m.testBit c && decide (x_yr A c < y)) (x_nc A))))) (hp A q D t) := by
  intro n
  induction n using Nat.strongRecOn with
  | _ n ih =>
    intro i hn hi
    have b3 := b.2.2.1
    have b5 := b.2.2.2.2.1 i
    have e0 : pI (x_pn A) = nI m := by rw [hp1]; rfl
    refine aw_iload_n 3 q_B_earlier_25 rfl rfl ?_
    refine aw_aload_n 0 q_B_earlier_26 rfl rfl ?_
    refine aw_get 0 q_B_earlier_27 fl_B_23 rfl rfl ?_
    refine aw_get 5 q_B_earlier_30 fl_B_71 rfl rfl ?_
    refine aw_icmp_ge 69 q_B_earlier_33 rfl (fun c33 => ?_) (fun c33 => ?_)
    · skip
      refine aw_iload_n 2 q_B_earlier_69 rfl rfl ?_
      exact aw_iret .int q_B_earlier_70 rfl rfl (by rw [show i = x_nc A from Nat.le_antisymm hi (nge_ge c33 (by omega) (by omega))]) rfl
    · skip
      have hlt : i < x_nc A := nge_lt c33 (by omega) (by omega)
      refine aw_aload_n 0 q_B_earlier_36 rfl rfl ?_
      refine aw_get 4 q_B_earlier_37 fl_B_50 rfl rfl ?_
      refine aw_iload_n 3 q_B_earlier_40 rfl rfl ?_
      rw [e0]
      refine aw_S2 q_B_earlier_41 st_B_90 (by omega) (Nat.le_of_ble_eq_true rfl) (c_B_isIn _ _ _ _ (by omega) (by omega)) ?_
      refine aw_if_eq 63 q_B_earlier_44 rfl (fun c44 => ?_) (fun c44 => ?_)
      · skip
        first | refine aw_iinc _ q_B_earlier_63 rfl (am_inc _) rfl rfl ?_ | refine aw_iinc _ q_B_earlier_63 rfl rfl rfl rfl ?_
        refine aw_goto 25 q_B_earlier_66 rfl ?_
        first
          | (have h9 := zI_0.mp c44; have e9 : cnp (fun c => m.testBit c && decide (x_yr A c < y)) (i + 1) = cnp (fun c => m.testBit c && decide (x_yr A c < y)) i := by simp [cnp, h9]
             rw [← e9]; exact ih _ (by omega) (i + 1) rfl (by omega))
          | (have h9 := nge_ge c57 (by omega) (by omega); have e9 : cnp (fun c => m.testBit c && decide (x_yr A c < y)) (i + 1) = cnp (fun c => m.testBit c && decide (x_yr A c < y)) i := by simp [cnp]; intros; omega
             rw [← e9]; exact ih _ (by omega) (i + 1) rfl (by omega))
          | (have h9 := zI_n0.mp c44; have h8 := nge_lt c57 (by omega) (by omega); have e9 : cnp (fun c => m.testBit c && decide (x_yr A c < y)) (i + 1) = cnp (fun c => m.testBit c && decide (x_yr A c < y)) i + 1 := by simp [cnp, h9, h8]
             rw [← e9]; exact ih _ (by omega) (i + 1) rfl (by omega))
      · skip
        refine aw_aload_n 0 q_B_earlier_47 rfl rfl ?_
        refine aw_get 0 q_B_earlier_48 fl_B_23 rfl rfl ?_
        refine aw_get 7 q_B_earlier_51 fl_B_216 rfl rfl ?_
        refine aw_iload_n 3 q_B_earlier_54 rfl rfl ?_
        refine aw_ialdN q_B_earlier_55 rfl (by omega) rfl ?_
        refine aw_iload_n 1 q_B_earlier_56 rfl rfl ?_
        refine aw_icmp_ge 63 q_B_earlier_57 rfl (fun c57 => ?_) (fun c57 => ?_)
        · skip
          first | refine aw_iinc _ q_B_earlier_63 rfl (am_inc _) rfl rfl ?_ | refine aw_iinc _ q_B_earlier_63 rfl rfl rfl rfl ?_
          refine aw_goto 25 q_B_earlier_66 rfl ?_
          first
            | (have h9 := zI_0.mp c44; have e9 : cnp (fun c => m.testBit c && decide (x_yr A c < y)) (i + 1) = cnp (fun c => m.testBit c && decide (x_yr A c < y)) i := by simp [cnp, h9]
               rw [← e9]; exact ih _ (by omega) (i + 1) rfl (by omega))
            | (have h9 := nge_ge c57 (by omega) (by omega); have e9 : cnp (fun c => m.testBit c && decide (x_yr A c < y)) (i + 1) = cnp (fun c => m.testBit c && decide (x_yr A c < y)) i := by simp [cnp]; intros; omega
               rw [← e9]; exact ih _ (by omega) (i + 1) rfl (by omega))
            | (have h9 := zI_n0.mp c44; have h8 := nge_lt c57 (by omega) (by omega); have e9 : cnp (fun c => m.testBit c && decide (x_yr A c < y)) (i + 1) = cnp (fun c => m.testBit c && decide (x_yr A c < y)) i + 1 := by simp [cnp, h9, h8]
               rw [← e9]; exact ih _ (by omega) (i + 1) rfl (by omega))
        · skip
          first | refine aw_iinc _ q_B_earlier_60 rfl (am_inc _) rfl rfl ?_ | refine aw_iinc _ q_B_earlier_60 rfl rfl rfl rfl ?_
          first | refine aw_iinc _ q_B_earlier_63 rfl (am_inc _) rfl rfl ?_ | refine aw_iinc _ q_B_earlier_63 rfl rfl rfl rfl ?_
          refine aw_goto 25 q_B_earlier_66 rfl ?_
          first
            | (have h9 := zI_0.mp c44; have e9 : cnp (fun c => m.testBit c && decide (x_yr A c < y)) (i + 1) = cnp (fun c => m.testBit c && decide (x_yr A c < y)) i := by simp [cnp, h9]
               rw [← e9]; exact ih _ (by omega) (i + 1) rfl (by omega))
            | (have h9 := nge_ge c57 (by omega) (by omega); have e9 : cnp (fun c => m.testBit c && decide (x_yr A c < y)) (i + 1) = cnp (fun c => m.testBit c && decide (x_yr A c < y)) i := by simp [cnp]; intros; omega
               rw [← e9]; exact ih _ (by omega) (i + 1) rfl (by omega))
            | (have h9 := zI_n0.mp c44; have h8 := nge_lt c57 (by omega) (by omega); have e9 : cnp (fun c => m.testBit c && decide (x_yr A c < y)) (i + 1) = cnp (fun c => m.testBit c && decide (x_yr A c < y)) i + 1 := by simp [cnp, h9, h8]
               rw [← e9]; exact ih _ (by omega) (i + 1) rfl (by omega))
theorem c_B_earlier (sc : am_S) (A : ST) (q : QS) (D : ST) (t : TS) (y m : Nat) (b : bd A) (hy : y < x_ny A) (hp1 : x_pn A = some m) (hm : m < 16384) : AM sc m_B_earlier 1 [.ref 1, .int (nI y)] (hp A q D t) (some (.int (nI (cnp (fun c => m.testBit c && decide (x_yr A c < y)) (x_nc A))))) (hp A q D t) := by
  refine AM.of (by decide) (Nat.le_of_ble_eq_true rfl) ?_
  show AW sc m_B_earlier 1 0 [some (.ref 1), some (.int (nI y)), none, none] [] _ _ _
  have b1 := b.1
  refine aw_aload_n 0 q_B_earlier_0 rfl rfl ?_
  refine aw_get 0 q_B_earlier_1 fl_B_23 rfl rfl ?_
  refine aw_iload_n 1 q_B_earlier_4 rfl rfl ?_
  refine aw_V1 q_B_earlier_5 st_B_68 rfl (by omega) (Nat.le_of_ble_eq_true rfl) (c_W_isYear _ _ _ _ _ _) ?_
  refine aw_if_eq 19 q_B_earlier_8 rfl (fun c8 => ?_) (fun c8 => ?_)
  · skip
    first
      | exact absurd (zI_0.mp c8) (by rw [isN hy (by omega)]; decide)
      | exact absurd c16 (by rw [hp1]; exact fun e => by have := (pI_eq (o := some m) (fun _ h => by cases h; omega)).mp e; cases this)
  · skip
    refine aw_aload_n 0 q_B_earlier_11 rfl rfl ?_
    refine aw_get 4 q_B_earlier_12 fl_B_50 rfl rfl ?_
    refine aw_iconst (-1) q_B_earlier_15 rfl ?_
    refine aw_icmp_ne 21 q_B_earlier_16 rfl (fun c16 => ?_) (fun c16 => ?_)
    · skip
      refine aw_iconst 0 q_B_earlier_21 rfl ?_
      refine aw_istore_n 2 q_B_earlier_22 rfl rfl rfl ?_
      refine aw_iconst 0 q_B_earlier_23 rfl ?_
      refine aw_istore_n 3 q_B_earlier_24 rfl rfl rfl ?_
      exact l_B_earlier sc A q D t y m b (by omega) hp1 hm _ 0 rfl (by omega)
    · skip
      first
        | exact absurd (zI_0.mp c8) (by rw [isN hy (by omega)]; decide)
        | exact absurd c16 (by rw [hp1]; exact fun e => by have := (pI_eq (o := some m) (fun _ h => by cases h; omega)).mp e; cases this)
theorem c_B_backlog_no (sc : am_S) (A : ST) (q : QS) (D : ST) (t : TS) (x : Int32) (hx : ¬ (¬ x < 0 ∧ ¬ nI (x_ny A) ≤ x)) : AM sc m_B_backlog 2 [.ref 1, .int x] (hp A q D t) (some (.long (lZ (-1)))) (hp A q D t) := by
  refine AM.of (by decide) (Nat.le_of_ble_eq_true rfl) ?_
  show AW sc m_B_backlog 2 0 [some (.ref 1), some (.int x), none, none, none] [] _ _ _
  refine aw_aload_n 0 q_B_backlog_0 rfl rfl ?_
  refine aw_get 0 q_B_backlog_1 fl_B_23 rfl rfl ?_
  refine aw_iload_n 1 q_B_backlog_4 rfl rfl ?_
  refine aw_V1 q_B_backlog_5 st_B_68 rfl (by omega) (Nat.le_of_ble_eq_true rfl) (c_W_isYear _ _ _ _ _ _) ?_
  refine aw_if_ne 15 q_B_backlog_8 rfl (fun c8 => ?_) (fun c8 => ?_)
  · skip
    exact (hx (of_decide_eq_true (zI_n0.mp c8))).elim
  · skip
    refine aw_ldc2 (lZ (-1)) q_B_backlog_11 (am_in2 (i := 67) rfl rfl) ?_
    exact aw_lret q_B_backlog_14 rfl rfl rfl
theorem l_B_backlog (sc : am_S) (A : ST) (q : QS) (D : ST) (t : TS) (y : Nat) (b : bd A) (hy : y < 6) (hp1 : pn14 A) : ∀ (n i : Nat), x_nt A - i = n → i ≤ x_nt A →  AW sc m_B_backlog 2 20 [some (.ref 1), some (.int (nI y)), some (.long (lZ (sm i (fun tt => if dnb A (pon A) tt y (x_nc A) = true then 0 else mwb A tt y (x_nc A))))), none, some (.int (nI i))] [] (hp A q D t) (some (.long (lZ (sm (x_nt A) (fun tt => if dnb A (pon A) tt y (x_nc A) = true then 0 else mwb A tt y (x_nc A)))))) (hp A q D t) := by
  intro n
  induction n using Nat.strongRecOn with
  | _ n ih =>
    intro i hn hi
    have b2 := b.2.1
    refine aw_iload q_B_backlog_20 rfl ?_
    refine aw_aload_n 0 q_B_backlog_22 rfl rfl ?_
    refine aw_get 0 q_B_backlog_23 fl_B_23 rfl rfl ?_
    refine aw_get 2 q_B_backlog_26 fl_B_54 rfl rfl ?_
    refine aw_icmp_ge 68 q_B_backlog_29 rfl (fun c29 => ?_) (fun c29 => ?_)
    · skip
      refine aw_lload_n 2 q_B_backlog_68 rfl rfl ?_
      exact aw_lret q_B_backlog_69 rfl (by rw [show i = x_nt A from Nat.le_antisymm hi (nge_ge c29 (by omega) (by omega))]) rfl
    · skip
      have hlt : i < x_nt A := nge_lt c29 (by omega) (by omega)
      refine aw_aload_n 0 q_B_backlog_32 rfl rfl ?_
      refine aw_get 0 q_B_backlog_33 fl_B_23 rfl rfl ?_
      refine aw_aload_n 0 q_B_backlog_36 rfl rfl ?_
      refine aw_V0 q_B_backlog_37 st_B_141 rfl (by omega) (Nat.le_of_ble_eq_true rfl) (c_B_planOrNothing _ _ _ _ _ hp1) ?_
      refine aw_iload q_B_backlog_40 rfl ?_
      refine aw_iload_n 1 q_B_backlog_42 rfl rfl ?_
      refine aw_V3 q_B_backlog_43 st_B_188 rfl (by omega) (Nat.le_of_ble_eq_true rfl) (c_W_isDoneBy _ _ _ _ _ _ _ _ b (pon_lt hp1) (by omega) hy) ?_
      refine aw_if_ne 62 q_B_backlog_46 rfl (fun c46 => ?_) (fun c46 => ?_)
      · skip
        first | refine aw_iinc _ q_B_backlog_62 rfl (am_inc _) rfl rfl ?_ | refine aw_iinc _ q_B_backlog_62 rfl rfl rfl rfl ?_
        refine aw_goto 20 q_B_backlog_65 rfl ?_
        first
          | (have h9 := zI_n0.mp c46; rw [sm_f (f := (fun tt => if dnb A (pon A) tt y (x_nc A) = true then 0 else mwb A tt y (x_nc A))) (i := i) (by simp [h9])]; exact ih _ (by omega) (i + 1) rfl (by omega))
          | (have h9 := zI_0.mp c46; rw [sm_t (f := (fun tt => if dnb A (pon A) tt y (x_nc A) = true then 0 else mwb A tt y (x_nc A))) (i := i) (by simp [h9])]; exact ih _ (by omega) (i + 1) rfl (by omega))
      · skip
        refine aw_lload_n 2 q_B_backlog_49 rfl rfl ?_
        refine aw_aload_n 0 q_B_backlog_50 rfl rfl ?_
        refine aw_get 0 q_B_backlog_51 fl_B_23 rfl rfl ?_
        refine aw_iload q_B_backlog_54 rfl ?_
        refine aw_iload_n 1 q_B_backlog_56 rfl rfl ?_
        refine aw_V2 q_B_backlog_57 st_B_192 rfl (by omega) (Nat.le_of_ble_eq_true rfl) (c_W_mostWorthBy _ _ _ _ _ _ _ b (by omega) hy) ?_
        refine aw_ladd q_B_backlog_60 ?_
        refine aw_lstore_n 2 q_B_backlog_61 rfl rfl rfl ?_
        first | refine aw_iinc _ q_B_backlog_62 rfl (am_inc _) rfl rfl ?_ | refine aw_iinc _ q_B_backlog_62 rfl rfl rfl rfl ?_
        refine aw_goto 20 q_B_backlog_65 rfl ?_
        first
          | (have h9 := zI_n0.mp c46; rw [sm_f (f := (fun tt => if dnb A (pon A) tt y (x_nc A) = true then 0 else mwb A tt y (x_nc A))) (i := i) (by simp [h9])]; exact ih _ (by omega) (i + 1) rfl (by omega))
          | (have h9 := zI_0.mp c46; rw [sm_t (f := (fun tt => if dnb A (pon A) tt y (x_nc A) = true then 0 else mwb A tt y (x_nc A))) (i := i) (by simp [h9])]; exact ih _ (by omega) (i + 1) rfl (by omega))
theorem c_B_backlog (sc : am_S) (A : ST) (q : QS) (D : ST) (t : TS) (y : Nat) (b : bd A) (hy : y < x_ny A) (hp1 : pn14 A) : AM sc m_B_backlog 2 [.ref 1, .int (nI y)] (hp A q D t) (some (.long (lZ (sm (x_nt A) (fun tt => if dnb A (pon A) tt y (x_nc A) = true then 0 else mwb A tt y (x_nc A)))))) (hp A q D t) := by
  refine AM.of (by decide) (Nat.le_of_ble_eq_true rfl) ?_
  show AW sc m_B_backlog 2 0 [some (.ref 1), some (.int (nI y)), none, none, none] [] _ _ _
  have b1 := b.1
  refine aw_aload_n 0 q_B_backlog_0 rfl rfl ?_
  refine aw_get 0 q_B_backlog_1 fl_B_23 rfl rfl ?_
  refine aw_iload_n 1 q_B_backlog_4 rfl rfl ?_
  refine aw_V1 q_B_backlog_5 st_B_68 rfl (by omega) (Nat.le_of_ble_eq_true rfl) (c_W_isYear _ _ _ _ _ _) ?_
  refine aw_if_ne 15 q_B_backlog_8 rfl (fun c8 => ?_) (fun c8 => ?_)
  · skip
    refine aw_lconst (lZ 0) q_B_backlog_15 rfl ?_
    refine aw_lstore_n 2 q_B_backlog_16 rfl rfl rfl ?_
    refine aw_iconst 0 q_B_backlog_17 rfl ?_
    refine aw_istore q_B_backlog_18 rfl rfl ?_
    exact l_B_backlog sc A q D t y b (by omega) hp1 _ 0 rfl (by omega)
  · skip
    exact absurd (zI_0.mp c8) (by rw [isN hy (by omega)]; decide)
theorem l_B_countOfThingsBefore (sc : am_S) (A : ST) (q : QS) (D : ST) (t : TS) (v : Nat) (b : bd A) (hv : v < 12) : ∀ (n i : Nat), x_nt A - i = n → i ≤ x_nt A →  AW sc m_B_countOfThingsBefore 4 4 [some (.ref 1), some (.int (nI v)), some (.int (nI (cnp (fun o => rkb A o v) i))), some (.int (nI i))] [] (hp A q D t) (some (.int (nI (cnp (fun o => rkb A o v) (x_nt A))))) (hp A q D t) := by
  intro n
  induction n using Nat.strongRecOn with
  | _ n ih =>
    intro i hn hi
    have b2 := b.2.1
    refine aw_iload_n 3 q_B_countOfThingsBefore_4 rfl rfl ?_
    refine aw_aload_n 0 q_B_countOfThingsBefore_5 rfl rfl ?_
    refine aw_get 0 q_B_countOfThingsBefore_6 fl_B_23 rfl rfl ?_
    refine aw_get 2 q_B_countOfThingsBefore_9 fl_B_54 rfl rfl ?_
    refine aw_icmp_ge 36 q_B_countOfThingsBefore_12 rfl (fun c12 => ?_) (fun c12 => ?_)
    · skip
      refine aw_iload_n 2 q_B_countOfThingsBefore_36 rfl rfl ?_
      exact aw_iret .int q_B_countOfThingsBefore_37 rfl rfl (by rw [show i = x_nt A from Nat.le_antisymm hi (nge_ge c12 (by omega) (by omega))]) rfl
    · skip
      have hlt : i < x_nt A := nge_lt c12 (by omega) (by omega)
      refine aw_aload_n 0 q_B_countOfThingsBefore_15 rfl rfl ?_
      refine aw_get 0 q_B_countOfThingsBefore_16 fl_B_23 rfl rfl ?_
      refine aw_iload_n 3 q_B_countOfThingsBefore_19 rfl rfl ?_
      refine aw_iload_n 1 q_B_countOfThingsBefore_20 rfl rfl ?_
      refine aw_V2 q_B_countOfThingsBefore_21 st_B_234 rfl (by omega) (Nat.le_of_ble_eq_true rfl) (c_W_ranksBefore _ _ _ _ _ _ _ b (by omega) hv) ?_
      refine aw_if_eq 30 q_B_countOfThingsBefore_24 rfl (fun c24 => ?_) (fun c24 => ?_)
      · skip
        first | refine aw_iinc _ q_B_countOfThingsBefore_30 rfl (am_inc _) rfl rfl ?_ | refine aw_iinc _ q_B_countOfThingsBefore_30 rfl rfl rfl rfl ?_
        refine aw_goto 4 q_B_countOfThingsBefore_33 rfl ?_
        first
          | (have h9 := zI_0.mp c24; have e9 : cnp (fun o => rkb A o v) (i + 1) = cnp (fun o => rkb A o v) i := by simp [cnp, h9]
             rw [← e9]; exact ih _ (by omega) (i + 1) rfl (by omega))
          | (have h9 := zI_n0.mp c24; have e9 : cnp (fun o => rkb A o v) (i + 1) = cnp (fun o => rkb A o v) i + 1 := by simp [cnp, h9]
             rw [← e9]; exact ih _ (by omega) (i + 1) rfl (by omega))
      · skip
        first | refine aw_iinc _ q_B_countOfThingsBefore_27 rfl (am_inc _) rfl rfl ?_ | refine aw_iinc _ q_B_countOfThingsBefore_27 rfl rfl rfl rfl ?_
        first | refine aw_iinc _ q_B_countOfThingsBefore_30 rfl (am_inc _) rfl rfl ?_ | refine aw_iinc _ q_B_countOfThingsBefore_30 rfl rfl rfl rfl ?_
        refine aw_goto 4 q_B_countOfThingsBefore_33 rfl ?_
        first
          | (have h9 := zI_0.mp c24; have e9 : cnp (fun o => rkb A o v) (i + 1) = cnp (fun o => rkb A o v) i := by simp [cnp, h9]
             rw [← e9]; exact ih _ (by omega) (i + 1) rfl (by omega))
          | (have h9 := zI_n0.mp c24; have e9 : cnp (fun o => rkb A o v) (i + 1) = cnp (fun o => rkb A o v) i + 1 := by simp [cnp, h9]
             rw [← e9]; exact ih _ (by omega) (i + 1) rfl (by omega))
theorem c_B_countOfThingsBefore (sc : am_S) (A : ST) (q : QS) (D : ST) (t : TS) (v : Nat) (b : bd A) (hv : v < 12) : AM sc m_B_countOfThingsBefore 4 [.ref 1, .int (nI v)] (hp A q D t) (some (.int (nI (cnp (fun o => rkb A o v) (x_nt A))))) (hp A q D t) := by
  refine AM.of (by decide) (Nat.le_of_ble_eq_true rfl) ?_
  show AW sc m_B_countOfThingsBefore 4 0 [some (.ref 1), some (.int (nI v)), none, none] [] _ _ _
  refine aw_iconst 0 q_B_countOfThingsBefore_0 rfl ?_
  refine aw_istore_n 2 q_B_countOfThingsBefore_1 rfl rfl rfl ?_
  refine aw_iconst 0 q_B_countOfThingsBefore_2 rfl ?_
  refine aw_istore_n 3 q_B_countOfThingsBefore_3 rfl rfl rfl ?_
  exact l_B_countOfThingsBefore sc A q D t v b hv _ 0 rfl (by omega)
def rkp (A : ST) (x : Int32) : Nat → Bool := fun v => decide (nI (cnp (fun o => rkb A o v) (x_nt A)) = x)
theorem l_B_rank (sc : am_S) (A : ST) (q : QS) (D : ST) (t : TS) (x : Int32) (b : bd A) : ∀ (n i : Nat), x_nt A - i = n → i ≤ x_nt A → fnd (rkp A x) i = none → AW sc m_B_rank 5 2 [some (.ref 1), some (.int x), some (.int (nI i))] [] (hp A q D t) (some (.int (pI (fnd (rkp A x) (x_nt A))))) (hp A q D t) := by
  intro n
  induction n using Nat.strongRecOn with
  | _ n ih =>
    intro i hn hi
    intro hw
    have b2 := b.2.1
    refine aw_iload_n 2 q_B_rank_2 rfl rfl ?_
    refine aw_aload_n 0 q_B_rank_3 rfl rfl ?_
    refine aw_get 0 q_B_rank_4 fl_B_23 rfl rfl ?_
    refine aw_get 2 q_B_rank_7 fl_B_54 rfl rfl ?_
    refine aw_icmp_ge 30 q_B_rank_10 rfl (fun c10 => ?_) (fun c10 => ?_)
    · skip
      refine aw_iconst (-1) q_B_rank_30 rfl ?_
      exact aw_iret .int q_B_rank_31 rfl rfl (by rw [show i = x_nt A from Nat.le_antisymm hi (nge_ge c10 (by omega) (by omega))] at hw; rw [hw]; rfl) rfl
    · skip
      have hlt : i < x_nt A := nge_lt c10 (by omega) (by omega)
      refine aw_aload_n 0 q_B_rank_13 rfl rfl ?_
      refine aw_iload_n 2 q_B_rank_14 rfl rfl ?_
      refine aw_V1 q_B_rank_15 st_B_196 rfl (by omega) (Nat.le_of_ble_eq_true rfl) (c_B_countOfThingsBefore _ _ _ _ _ _ b (by omega)) ?_
      refine aw_iload_n 1 q_B_rank_18 rfl rfl ?_
      refine aw_icmp_ne 24 q_B_rank_19 rfl (fun c19 => ?_) (fun c19 => ?_)
      · skip
        first | refine aw_iinc _ q_B_rank_24 rfl (am_inc _) rfl rfl ?_ | refine aw_iinc _ q_B_rank_24 rfl rfl rfl rfl ?_
        refine aw_goto 2 q_B_rank_27 rfl ?_
        exact ih _ (by omega) (i + 1) rfl (by omega) (fnd_miss hw (by simp [rkp, c19]))
      · skip
        refine aw_iload_n 2 q_B_rank_22 rfl rfl ?_
        exact aw_iret .int q_B_rank_23 rfl rfl (by rw [fnd_hit hw (by simp [rkp, c19]) hlt]; rfl) rfl
theorem c_B_rank (sc : am_S) (A : ST) (q : QS) (D : ST) (t : TS) (x : Int32) (b : bd A) : AM sc m_B_rank 5 [.ref 1, .int x] (hp A q D t) (some (.int (pI (fnd (rkp A x) (x_nt A))))) (hp A q D t) := by
  refine AM.of (by decide) (Nat.le_of_ble_eq_true rfl) ?_
  show AW sc m_B_rank 5 0 [some (.ref 1), some (.int x), none] [] _ _ _
  refine aw_iconst 0 q_B_rank_0 rfl ?_
  refine aw_istore_n 2 q_B_rank_1 rfl rfl rfl ?_
  exact l_B_rank sc A q D t x b _ 0 rfl (by omega) rfl
theorem c_B_changed_no (sc : am_S) (A : ST) (q : QS) (D : ST) (t : TS) (x : Int32) (hp1 : x_pn A = none) : AM sc m_B_changed 2 [.ref 1, .int x] (hp A q D t) (some (.int (-1))) (hp A q D t) := by
  refine AM.of (by decide) (Nat.le_of_ble_eq_true rfl) ?_
  show AW sc m_B_changed 2 0 [some (.ref 1), some (.int x)] [] _ _ _
  refine aw_aload_n 0 q_B_changed_0 rfl rfl ?_
  refine aw_get 4 q_B_changed_1 fl_B_50 rfl rfl ?_
  refine aw_iconst (-1) q_B_changed_4 rfl ?_
  refine aw_icmp_ne 12 q_B_changed_5 rfl (fun c5 => ?_) (fun c5 => ?_)
  · skip
    exact absurd (by rw [hp1]; rfl) c5
  · skip
    refine aw_iconst (-1) q_B_changed_8 rfl ?_
    refine aw_goto 25 q_B_changed_9 rfl ?_
    exact aw_iret .int q_B_changed_25 rfl rfl rfl rfl
theorem c_B_changed (sc : am_S) (A : ST) (q : QS) (D : ST) (t : TS) (x : Int32) (m : Nat) (hp1 : x_pn A = some m) (hm : m < 16384) (ho : x_od A < 16384) : AM sc m_B_changed 2 [.ref 1, .int x] (hp A q D t) (some (.int (pI (mbo (m ^^^ x_od A) x)))) (hp A q D t) := by
  refine AM.of (by decide) (Nat.le_of_ble_eq_true rfl) ?_
  show AW sc m_B_changed 2 0 [some (.ref 1), some (.int x)] [] _ _ _
  have e0 : pI (x_pn A) = nI m := by rw [hp1]; rfl
  refine aw_aload_n 0 q_B_changed_0 rfl rfl ?_
  refine aw_get 4 q_B_changed_1 fl_B_50 rfl rfl ?_
  refine aw_iconst (-1) q_B_changed_4 rfl ?_
  refine aw_icmp_ne 12 q_B_changed_5 rfl (fun c5 => ?_) (fun c5 => ?_)
  · skip
    refine aw_aload_n 0 q_B_changed_12 rfl rfl ?_
    refine aw_get 4 q_B_changed_13 fl_B_50 rfl rfl ?_
    refine aw_aload_n 0 q_B_changed_16 rfl rfl ?_
    refine aw_get 5 q_B_changed_17 fl_B_176 rfl rfl ?_
    rw [e0]
    refine aw_ixor q_B_changed_20 ?_
    rw [nI_xor]
    refine aw_iload_n 1 q_B_changed_21 rfl rfl ?_
    refine aw_S2 q_B_changed_22 st_B_168 (by omega) (Nat.le_of_ble_eq_true rfl) (c_B_memberOf _ _ _ _ (Nat.xor_lt_two_pow (n := 14) hm ho)) ?_
    exact aw_iret .int q_B_changed_25 rfl rfl rfl rfl
  · skip
    exact absurd c5 (by rw [hp1]; exact fun e => by have := (pI_eq (o := some m) (fun _ h => by cases h; omega)).mp e; cases this)
