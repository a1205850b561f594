/-! CONTRACTS 19: join, run, changes of the class -/
def cnj (A : ST) (u v : Nat) : Bool := decide (¬ x_th A u = x_th A v ∧ x_yr A u = x_yr A v) && !(x_jt A u).testBit v
theorem c_B_join_no1 (sc : am_S) (A : ST) (q : QS) (D : ST) (t : TS) (x y : Int32) (v : Int64) (hx : ¬ ((¬ x < 0 ∧ ¬ nI (x_nc A) ≤ x) ∧ (¬ y < 0 ∧ ¬ nI (x_nc A) ≤ y) ∧ (¬ v < 0 ∧ ¬ 1000000 < v))) : AM sc m_B_join 2 [.ref 1, .int x, .int y, .long v] (hp A q D t) (some (.int 0)) (hp A q D t) := by
  refine AM.of (by decide) (Nat.le_of_ble_eq_true rfl) ?_
  show AW sc m_B_join 2 0 [some (.ref 1), some (.int x), some (.int y), some (.long v), none] [] _ _ _
  refine aw_aload_n 0 q_B_join_0 rfl rfl ?_
  refine aw_get 0 q_B_join_1 fl_B_23 rfl rfl ?_
  refine aw_iload_n 1 q_B_join_4 rfl rfl ?_
  refine aw_V1 q_B_join_5 st_B_84 rfl (by omega) (Nat.le_of_ble_eq_true rfl) (c_W_isChoice _ _ _ _ _ _) ?_
  refine aw_if_eq 32 q_B_join_8 rfl (fun c8 => ?_) (fun c8 => ?_)
  · skip
    refine aw_iconst 0 q_B_join_32 rfl ?_
    exact aw_iret .boolean q_B_join_33 rfl rfl rfl rfl
  · skip
    refine aw_aload_n 0 q_B_join_11 rfl rfl ?_
    refine aw_get 0 q_B_join_12 fl_B_23 rfl rfl ?_
    refine aw_iload_n 2 q_B_join_15 rfl rfl ?_
    refine aw_V1 q_B_join_16 st_B_84 rfl (by omega) (Nat.le_of_ble_eq_true rfl) (c_W_isChoice _ _ _ _ _ _) ?_
    refine aw_if_eq 32 q_B_join_19 rfl (fun c19 => ?_) (fun c19 => ?_)
    · skip
      refine aw_iconst 0 q_B_join_32 rfl ?_
      exact aw_iret .boolean q_B_join_33 rfl rfl rfl rfl
    · skip
      refine aw_lload_n 3 q_B_join_22 rfl rfl ?_
      refine aw_ldc2 1000000 q_B_join_23 (am_in2 (i := 18) rfl rfl) ?_
      refine aw_S2 q_B_join_26 st_B_76 (by omega) (Nat.le_of_ble_eq_true rfl) (c_B_isWithin _ _ _ _) ?_
      refine aw_if_ne 34 q_B_join_29 rfl (fun c29 => ?_) (fun c29 => ?_)
      · skip
        exact (hx ⟨of_decide_eq_true (zI_n0.mp c8), of_decide_eq_true (zI_n0.mp c19), of_decide_eq_true (zI_n0.mp c29)⟩).elim
      · skip
        refine aw_iconst 0 q_B_join_32 rfl ?_
        exact aw_iret .boolean q_B_join_33 rfl rfl rfl rfl
theorem c_B_join_no2 (sc : am_S) (A : ST) (q : QS) (D : ST) (t : TS) (u v : Nat) (s : Int) (b : bd A) (hu : u < x_nc A) (hv : v < x_nc A) (hs : 0 ≤ s ∧ s ≤ 1000000) (hn : x_nj A ≤ 20) (hx : ¬ (cnj A u v = true ∧ x_nj A < 20)) : AM sc m_B_join 2 [.ref 1, .int (nI u), .int (nI v), .long (lZ s)] (hp A q D t) (some (.int 0)) (hp A q D t) := by
  refine AM.of (by decide) (Nat.le_of_ble_eq_true rfl) ?_
  show AW sc m_B_join 2 0 [some (.ref 1), some (.int (nI u)), some (.int (nI v)), some (.long (lZ s)), none] [] _ _ _
  have b3 := b.2.2.1
  refine aw_aload_n 0 q_B_join_0 rfl rfl ?_
  refine aw_get 0 q_B_join_1 fl_B_23 rfl rfl ?_
  refine aw_iload_n 1 q_B_join_4 rfl rfl ?_
  refine aw_V1 q_B_join_5 st_B_84 rfl (by omega) (Nat.le_of_ble_eq_true rfl) (c_W_isChoice _ _ _ _ _ _) ?_
  refine aw_if_eq 32 q_B_join_8 rfl (fun c8 => ?_) (fun c8 => ?_)
  · skip
    first
      | exact absurd (zI_0.mp c8) (by rw [isN hu (by omega)]; decide)
      | exact absurd (zI_0.mp c19) (by rw [isN hv (by omega)]; decide)
      | exact absurd (zI_0.mp c29) (by rw [wiN hs.1 hs.2 (by omega)]; decide)
  · skip
    refine aw_aload_n 0 q_B_join_11 rfl rfl ?_
    refine aw_get 0 q_B_join_12 fl_B_23 rfl rfl ?_
    refine aw_iload_n 2 q_B_join_15 rfl rfl ?_
    refine aw_V1 q_B_join_16 st_B_84 rfl (by omega) (Nat.le_of_ble_eq_true rfl) (c_W_isChoice _ _ _ _ _ _) ?_
    refine aw_if_eq 32 q_B_join_19 rfl (fun c19 => ?_) (fun c19 => ?_)
    · skip
      first
        | exact absurd (zI_0.mp c8) (by rw [isN hu (by omega)]; decide)
        | exact absurd (zI_0.mp c19) (by rw [isN hv (by omega)]; decide)
        | exact absurd (zI_0.mp c29) (by rw [wiN hs.1 hs.2 (by omega)]; decide)
    · skip
      refine aw_lload_n 3 q_B_join_22 rfl rfl ?_
      refine aw_ldc2 (lZ (1000000)) q_B_join_23 (am_in2 (i := 18) rfl rfl) ?_
      refine aw_S2 q_B_join_26 st_B_76 (by omega) (Nat.le_of_ble_eq_true rfl) (c_B_isWithin _ _ _ _) ?_
      refine aw_if_ne 34 q_B_join_29 rfl (fun c29 => ?_) (fun c29 => ?_)
      · skip
        refine aw_aload_n 0 q_B_join_34 rfl rfl ?_
        refine aw_get 0 q_B_join_35 fl_B_23 rfl rfl ?_
        refine aw_iload_n 1 q_B_join_38 rfl rfl ?_
        refine aw_iload_n 2 q_B_join_39 rfl rfl ?_
        refine aw_V2 q_B_join_40 st_B_100 rfl (by omega) (Nat.le_of_ble_eq_true rfl) (c_W_canJoin _ _ _ _ _ _ _ b (by omega) (by omega)) ?_
        refine aw_if_eq 58 q_B_join_43 rfl (fun c43 => ?_) (fun c43 => ?_)
        · skip
          refine aw_iconst 0 q_B_join_58 rfl ?_
          exact aw_iret .boolean q_B_join_59 rfl rfl rfl rfl
        · skip
          refine aw_aload_n 0 q_B_join_46 rfl rfl ?_
          refine aw_get 0 q_B_join_47 fl_B_23 rfl rfl ?_
          refine aw_get 11 q_B_join_50 fl_B_103 rfl rfl ?_
          refine aw_bipush 20 q_B_join_53 rfl ?_
          refine aw_icmp_lt 60 q_B_join_55 rfl (fun c55 => ?_) (fun c55 => ?_)
          · skip
            exact (hx ⟨zI_n0.mp c43, (nI_ltI (b := 20) (by omega) (by omega)).mp c55⟩).elim
          · skip
            refine aw_iconst 0 q_B_join_58 rfl ?_
            exact aw_iret .boolean q_B_join_59 rfl rfl rfl rfl
      · skip
        first
          | exact absurd (zI_0.mp c8) (by rw [isN hu (by omega)]; decide)
          | exact absurd (zI_0.mp c19) (by rw [isN hv (by omega)]; decide)
          | exact absurd (zI_0.mp c29) (by rw [wiN hs.1 hs.2 (by omega)]; decide)
theorem c_B_join (sc : am_S) (A : ST) (q : QS) (D : ST) (t : TS) (u v : Nat) (s : Int) (b : bd A) (hu : u < x_nc A) (hv : v < x_nc A) (hs : 0 ≤ s ∧ s ≤ 1000000) (hx : cnj A u v = true) (hn : x_nj A < 20) : AM sc m_B_join 2 [.ref 1, .int (nI u), .int (nI v), .long (lZ s)] (hp A q D t) (some (.int 1)) (hp (ajn (fgA A) u v s) (fgq q) D t) := by
  refine AM.of (by decide) (Nat.le_of_ble_eq_true rfl) ?_
  show AW sc m_B_join 2 0 [some (.ref 1), some (.int (nI u)), some (.int (nI v)), some (.long (lZ s)), none] [] _ _ _
  have b3 := b.2.2.1
  refine aw_aload_n 0 q_B_join_0 rfl rfl ?_
  refine aw_get 0 q_B_join_1 fl_B_23 rfl rfl ?_
  refine aw_iload_n 1 q_B_join_4 rfl rfl ?_
  refine aw_V1 q_B_join_5 st_B_84 rfl (by omega) (Nat.le_of_ble_eq_true rfl) (c_W_isChoice _ _ _ _ _ _) ?_
  refine aw_if_eq 32 q_B_join_8 rfl (fun c8 => ?_) (fun c8 => ?_)
  · skip
    first
      | exact absurd (zI_0.mp c8) (by rw [isN hu (by omega)]; decide)
      | exact absurd (zI_0.mp c19) (by rw [isN hv (by omega)]; decide)
      | exact absurd (zI_0.mp c29) (by rw [wiN hs.1 hs.2 (by omega)]; decide)
  · skip
    refine aw_aload_n 0 q_B_join_11 rfl rfl ?_
    refine aw_get 0 q_B_join_12 fl_B_23 rfl rfl ?_
    refine aw_iload_n 2 q_B_join_15 rfl rfl ?_
    refine aw_V1 q_B_join_16 st_B_84 rfl (by omega) (Nat.le_of_ble_eq_true rfl) (c_W_isChoice _ _ _ _ _ _) ?_
    refine aw_if_eq 32 q_B_join_19 rfl (fun c19 => ?_) (fun c19 => ?_)
    · skip
      first
        | exact absurd (zI_0.mp c8) (by rw [isN hu (by omega)]; decide)
        | exact absurd (zI_0.mp c19) (by rw [isN hv (by omega)]; decide)
        | exact absurd (zI_0.mp c29) (by rw [wiN hs.1 hs.2 (by omega)]; decide)
    · skip
      refine aw_lload_n 3 q_B_join_22 rfl rfl ?_
      refine aw_ldc2 (lZ (1000000)) q_B_join_23 (am_in2 (i := 18) rfl rfl) ?_
      refine aw_S2 q_B_join_26 st_B_76 (by omega) (Nat.le_of_ble_eq_true rfl) (c_B_isWithin _ _ _ _) ?_
      refine aw_if_ne 34 q_B_join_29 rfl (fun c29 => ?_) (fun c29 => ?_)
      · skip
        refine aw_aload_n 0 q_B_join_34 rfl rfl ?_
        refine aw_get 0 q_B_join_35 fl_B_23 rfl rfl ?_
        refine aw_iload_n 1 q_B_join_38 rfl rfl ?_
        refine aw_iload_n 2 q_B_join_39 rfl rfl ?_
        refine aw_V2 q_B_join_40 st_B_100 rfl (by omega) (Nat.le_of_ble_eq_true rfl) (c_W_canJoin _ _ _ _ _ _ _ b (by omega) (by omega)) ?_
        refine aw_if_eq 58 q_B_join_43 rfl (fun c43 => ?_) (fun c43 => ?_)
        · skip
          first
            | exact absurd (zI_0.mp c43) (by show ¬ cnj A u v = false; rw [hx]; decide)
            | exact absurd ((nI_ltI (b := 20) (by omega) (by omega)).mpr hn) c55
        · skip
          refine aw_aload_n 0 q_B_join_46 rfl rfl ?_
          refine aw_get 0 q_B_join_47 fl_B_23 rfl rfl ?_
          refine aw_get 11 q_B_join_50 fl_B_103 rfl rfl ?_
          refine aw_bipush 20 q_B_join_53 rfl ?_
          refine aw_icmp_lt 60 q_B_join_55 rfl (fun c55 => ?_) (fun c55 => ?_)
          · skip
            refine aw_aload_n 0 q_B_join_60 rfl rfl ?_
            refine aw_V0v q_B_join_61 st_B_57 rfl (by omega) (Nat.le_of_ble_eq_true rfl) (c_B_forget _ _ _ _ _) ?_
            refine aw_aload_n 0 q_B_join_64 rfl rfl ?_
            refine aw_get 0 q_B_join_65 fl_B_23 rfl rfl ?_
            refine aw_iload_n 1 q_B_join_68 rfl rfl ?_
            refine aw_iload_n 2 q_B_join_69 rfl rfl ?_
            refine aw_lload_n 3 q_B_join_70 rfl rfl ?_
            refine aw_V3v q_B_join_71 st_B_106 rfl (by omega) (Nat.le_of_ble_eq_true rfl) (c_W_addJoin _ _ _ _ _ _ _ _ (by omega) (by omega)) ?_
            refine aw_iconst 1 q_B_join_74 rfl ?_
            exact aw_iret .boolean q_B_join_75 rfl rfl rfl rfl
          · skip
            first
              | exact absurd (zI_0.mp c43) (by show ¬ cnj A u v = false; rw [hx]; decide)
              | exact absurd ((nI_ltI (b := 20) (by omega) (by omega)).mpr hn) c55
      · skip
        first
          | exact absurd (zI_0.mp c8) (by rw [isN hu (by omega)]; decide)
          | exact absurd (zI_0.mp c19) (by rw [isN hv (by omega)]; decide)
          | exact absurd (zI_0.mp c29) (by rw [wiN hs.1 hs.2 (by omega)]; decide)
theorem c_B_run_no (sc : am_S) (A : ST) (q : QS) (D : ST) (t : TS) (v : Int64) (hx : ¬ (¬ v < 1 ∧ ¬ 20000 < v)) : AM sc m_B_run 41 [.ref 1, .long v] (hp A q D t) (some (.int (-1))) (hp A q D t) := by
  refine AM.of (by decide) (Nat.le_of_ble_eq_true rfl) ?_
  show AW sc m_B_run 41 0 [some (.ref 1), some (.long v), none, none] [] _ _ _
  refine aw_lload_n 1 q_B_run_0 rfl rfl ?_
  refine aw_S1 q_B_run_1 st_B_125 (by omega) (Nat.le_of_ble_eq_true rfl) (c_B_isNodes _ _ _) ?_
  refine aw_if_ne 9 q_B_run_4 rfl (fun c4 => ?_) (fun c4 => ?_)
  · skip
    exact (hx (of_decide_eq_true (zI_n0.mp c4))).elim
  · skip
    refine aw_iconst (-1) q_B_run_7 rfl ?_
    exact aw_iret .int q_B_run_8 rfl rfl rfl rfl
def QB (A : ST) (q : QS) (N : Nat) : QS := QF A q (N : Int) (x_mu A) (x_bu A) 0 0 false
def ZB (A : ST) (q : QS) (N : Nat) : Z4 := SR A (QB A q N) N (x_nc A) 0 0 (z0 q)
theorem ndN {N : Nat} (h1 : 1 ≤ N) (h2 : N ≤ 20000) : decide (¬ lZ (N : Int) < 1 ∧ ¬ 20000 < lZ (N : Int)) = true := by
  simp only [decide_eq_true_eq]
  rw [show (1 : Int64) = lZ 1 from by decide, show (20000 : Int64) = lZ 20000 from by decide]
  exact ⟨fun e => by have := (lZ_lt (by omega) (by omega)).mp e; omega, fun e => by have := (lZ_lt (by omega) (by omega)).mp e; omega⟩
theorem ZB_jz {A : ST} (b : bd A) {q : QS} (r : rst q) (N : Nat) : jz (ZB A q N) := SR_jz b (x_nc A) 0 0 0 (z0 q) (by omega) (by decide) (z0_jz r)
theorem c_S_bestPlanB (sc : am_S) (A : ST) (q : QS) (D : ST) (t : TS) (N : Nat) (b : bd A) (j : jy A) (r : rst q) (h0 : bu0 A) (hfa : -1 ≤ x_fa A ∧ x_fa A ≤ 10000000) (hN : N ≤ 20000) : AM sc m_S_bestPlan 40 [.ref 26, .long (lZ (N : Int))] (hp A q D t) (some (.int (pI (ZB A q N).1))) (hp A (pst A (zq (QB A q N) (ZB A q N)) 0) D t) := c_S_bestPlan sc A q D t N b j r h0 hfa hN
theorem c_B_run (sc : am_S) (A : ST) (q : QS) (D : ST) (t : TS) (N : Nat) (b : bd A) (j : jy A) (r : rst q) (h0 : bu0 A) (hfa : -1 ≤ x_fa A ∧ x_fa A ≤ 10000000) (hN1 : 1 ≤ N) (hN : N ≤ 20000) : AM sc m_B_run 41 [.ref 1, .long (lZ (N : Int))] (hp A q D t) (some (.int (if N < 2 ^ x_nc A then 1 else if (ZB A q N).1 = none then 2 else 0))) (hp (x_s_pr (x_s_pn A (ZB A q N).1) (decide (2 ^ x_nc A ≤ N))) (pst A (zq (QB A q N) (ZB A q N)) 0) D t) := by
  refine AM.of (by decide) (Nat.le_of_ble_eq_true rfl) ?_
  show AW sc m_B_run 41 0 [some (.ref 1), some (.long (lZ (N : Int))), none, none] [] _ _ _
  have b3 := b.2.2.1
  have h14 := p14 b3
  obtain ⟨S, hS⟩ : ∃ S, 2 ^ x_nc A = S := ⟨_, rfl⟩
  rw [hS] at h14 ⊢
  have hz := (ZB_jz b r N).1
  have e0 := pI_eq (o := (ZB A q N).1) (fun m h => by have := hz m h; omega)
  refine aw_lload_n 1 q_B_run_0 rfl rfl ?_
  refine aw_S1 q_B_run_1 st_B_125 (by omega) (Nat.le_of_ble_eq_true rfl) (c_B_isNodes _ _ _) ?_
  refine aw_if_ne 9 q_B_run_4 rfl (fun c4 => ?_) (fun c4 => ?_)
  · skip
    refine aw_aload_n 0 q_B_run_9 rfl rfl ?_
    refine aw_aload_n 0 q_B_run_10 rfl rfl ?_
    refine aw_get 1 q_B_run_11 fl_B_32 rfl rfl ?_
    refine aw_lload_n 1 q_B_run_14 rfl rfl ?_
    refine aw_V1 q_B_run_15 st_B_129 rfl (by omega) (Nat.le_of_ble_eq_true rfl) (c_S_bestPlanB _ _ _ _ _ _ b j r h0 hfa hN) ?_
    refine wp_B_4 _ q_B_run_18 fl_B_50 ?_
    refine aw_lload_n 1 q_B_run_21 rfl rfl ?_
    refine aw_aload_n 0 q_B_run_22 rfl rfl ?_
    refine aw_get 0 q_B_run_23 fl_B_23 rfl rfl ?_
    refine aw_V0 q_B_run_26 st_B_133 rfl (by omega) (Nat.le_of_ble_eq_true rfl) (c_W_countOfSets _ _ _ _ _ (by rw [xg_nc_pn]; exact b3)) ?_
    refine aw_i2l q_B_run_29 ?_
    rw [xg_nc_pn, hS, nI_l (by omega), ← lZ_n]
    refine aw_lcmp_lt 38 q_B_run_30 q_B_run_31 rfl (fun c30 => ?_) (fun c30 => ?_)
    · skip
      have ha := (lZ_lt (a := (N : Int)) (b := (S : Int)) (by omega) (by omega)).mp c30
      have ha2 : decide (S ≤ N) = false := by simp; omega
      refine aw_iconst 0 q_B_run_38 rfl ?_
      refine aw_istore_n 3 q_B_run_39 rfl rfl rfl ?_
      refine aw_aload_n 0 q_B_run_40 rfl rfl ?_
      refine aw_iload_n 3 q_B_run_41 rfl rfl ?_
      refine wp_B_6 false q_B_run_42 fl_B_137 ?_
      refine aw_iload_n 3 q_B_run_45 rfl rfl ?_
      refine aw_if_ne 51 q_B_run_46 rfl (fun c46 => ?_) (fun c46 => ?_)
      · skip
        refine aw_aload_n 0 q_B_run_51 rfl rfl ?_
        refine aw_get 4 q_B_run_52 fl_B_50 rfl rfl ?_
        simp only [xg_pn_pr, xg_pn_pn]
        refine aw_iconst (-1) q_B_run_55 rfl ?_
        refine aw_icmp_ne 63 q_B_run_56 rfl (fun c56 => ?_) (fun c56 => ?_)
        · skip
          refine aw_iconst 0 q_B_run_63 rfl ?_
          exact absurd rfl c46
        · skip
          refine aw_iconst 2 q_B_run_59 rfl ?_
          refine aw_goto 64 q_B_run_60 rfl ?_
          exact absurd rfl c46
      · skip
        refine aw_iconst 1 q_B_run_49 rfl ?_
        exact aw_iret .int q_B_run_50 rfl rfl (by rw [if_pos (by omega)]) (by rw [ha2])
    · skip
      have ha := mt (lZ_lt (a := (N : Int)) (b := (S : Int)) (by omega) (by omega)).mpr c30
      have ha2 : decide (S ≤ N) = true := by simp; omega
      refine aw_iconst 1 q_B_run_34 rfl ?_
      refine aw_goto 39 q_B_run_35 rfl ?_
      refine aw_istore_n 3 q_B_run_39 rfl rfl rfl ?_
      refine aw_aload_n 0 q_B_run_40 rfl rfl ?_
      refine aw_iload_n 3 q_B_run_41 rfl rfl ?_
      refine wp_B_6 true q_B_run_42 fl_B_137 ?_
      refine aw_iload_n 3 q_B_run_45 rfl rfl ?_
      refine aw_if_ne 51 q_B_run_46 rfl (fun c46 => ?_) (fun c46 => ?_)
      · skip
        refine aw_aload_n 0 q_B_run_51 rfl rfl ?_
        refine aw_get 4 q_B_run_52 fl_B_50 rfl rfl ?_
        simp only [xg_pn_pr, xg_pn_pn]
        refine aw_iconst (-1) q_B_run_55 rfl ?_
        refine aw_icmp_ne 63 q_B_run_56 rfl (fun c56 => ?_) (fun c56 => ?_)
        · skip
          refine aw_iconst 0 q_B_run_63 rfl ?_
          exact aw_iret .int q_B_run_64 rfl rfl (by rw [if_neg (by omega), if_neg (mt e0.mpr c56)]) (by rw [ha2])
        · skip
          refine aw_iconst 2 q_B_run_59 rfl ?_
          refine aw_goto 64 q_B_run_60 rfl ?_
          exact aw_iret .int q_B_run_64 rfl rfl (by rw [if_neg (by omega), if_pos (e0.mp c56)]) (by rw [ha2])
      · skip
        refine aw_iconst 1 q_B_run_49 rfl ?_
        exact absurd c46 (by decide)
  · skip
    exact absurd (zI_0.mp c4) (by rw [ndN hN1 hN]; decide)
