/-! CONTRACTS 30: the reference: backlog, rank, share, list -/
theorem c_M_backlog_no (sc : am_S) (A : ST) (q : QS) (D : ST) (t : TS) (x : Int32) (hx : ¬ (¬ x < 0 ∧ ¬ nI (x_ny D) ≤ x)) : AM sc m_M_backlog 2 [.ref 50, .int x] (hp A q D t) (some (.long (lZ (-1)))) (hp A q D t) := by
  refine AM.of (by decide) (Nat.le_of_ble_eq_true rfl) ?_
  show AW sc m_M_backlog 2 0 [some (.ref 50), some (.int x), none, none, none, none, none] [] _ _ _
  refine aw_aload_n 0 q_M_backlog_0 rfl rfl ?_
  refine aw_iload_n 1 q_M_backlog_1 rfl rfl ?_
  refine aw_V1 q_M_backlog_2 st_M_98 rfl (by omega) (Nat.le_of_ble_eq_true rfl) (c_M_isYear _ _ _ _ _ _) ?_
  refine aw_if_ne 12 q_M_backlog_5 rfl (fun c5 => ?_) (fun c5 => ?_)
  · skip
    exact (hx (of_decide_eq_true (zI_n0.mp c5))).elim
  · skip
    refine aw_ldc2 (lZ (-1)) q_M_backlog_8 (am_in3 (i := 127) rfl rfl) ?_
    exact aw_lret q_M_backlog_11 rfl rfl rfl
theorem dnb_f {D : ST} {m tt y i : Nat} (h : dnb D m tt y i = false) (h2 : (m.testBit i && decide (x_th D i = tt) && decide (x_yr D i ≤ y)) = false) : dnb D m tt y (i + 1) = false := by simp only [dnb, h, h2]; rfl
theorem dnb_t {D : ST} {m tt y i : Nat} (h2 : (m.testBit i && decide (x_th D i = tt) && decide (x_yr D i ≤ y)) = true) : dnb D m tt y (i + 1) = true := by simp only [dnb, h2, Bool.or_true]
theorem dnb_u {D : ST} {m tt y i : Nat} (h : dnb D m tt y i = true) : dnb D m tt y (i + 1) = true := by simp only [dnb, h, Bool.true_or]
theorem l_M_backlog2 (sc : am_S) (A : ST) (q : QS) (D : ST) (t : TS) (y tt : Nat) (s : Int) (b : bd D) (hp1 : pn14 D) (hy : y < 6) (htt : tt < 12) (r : Option Value) (hz : List am_C) (kk : AW sc m_M_backlog 2 102 [some (.ref 50), some (.int (nI y)), some (.long (lZ s)), none, some (.int (nI tt)), some (.int (zI (dnb D (pon D) tt y (x_nc D)))), none] [] (hp A q D t) r hz) : ∀ (n i : Nat), x_nc D - i = n → i ≤ x_nc D →  AW sc m_M_backlog 2 32 [some (.ref 50), some (.int (nI y)), some (.long (lZ s)), none, some (.int (nI tt)), some (.int (zI (dnb D (pon D) tt y i))), some (.int (nI i))] [] (hp A q D t) (r) hz := by
  intro n
  induction n using Nat.strongRecOn with
  | _ n ih =>
    intro i hn hi
    have b3 := b.2.2.1
    have b4 := b.2.2.2.1 i
    have b5 := b.2.2.2.2.1 i
    have hpl := pon_lt hp1
    refine aw_iload q_M_backlog_32 rfl ?_
    refine aw_aload_n 0 q_M_backlog_34 rfl rfl ?_
    refine aw_get 4 q_M_backlog_35 fl_M_84 rfl rfl ?_
    refine aw_icmp_ge 102 q_M_backlog_38 rfl (fun c38 => ?_) (fun c38 => ?_)
    · skip
      rw [show i = x_nc D from Nat.le_antisymm hi (nge_ge c38 (by omega) (by omega))]
      exact aw_kill [6] kk
    · skip
      have hlt : i < x_nc D := nge_lt c38 (by omega) (by omega)
      refine aw_iload q_M_backlog_41 rfl ?_
      refine aw_if_ne 89 q_M_backlog_43 rfl (fun c43 => ?_) (fun c43 => ?_)
      · skip
        have e9 : dnb D (pon D) tt y (i + 1) = true := by
          first
            | exact dnb_u (zI_n0.mp c43)
            | (refine dnb_t ?_
               have k1 := zI_n0.mp c63
               have k2 := nI_eq' (by omega) (by omega) c75
               have k3 := nI_ngt (by omega) (by omega) c86
               simp only [k1, k2, decide_eq_true k3, decide_true]; rfl)
        refine aw_iconst 1 q_M_backlog_89 rfl ?_
        refine aw_goto 94 q_M_backlog_90 rfl ?_
        refine aw_istore q_M_backlog_94 rfl rfl ?_
        refine aw_iinc _ q_M_backlog_96 rfl (am_inc _) rfl rfl ?_
        refine aw_goto 32 q_M_backlog_99 rfl ?_
        have g := ih _ (by omega) (i + 1) rfl (by omega)
        rw [e9] at g
        exact g
      · skip
        refine aw_aload_n 0 q_M_backlog_46 rfl rfl ?_
        refine aw_get 16 q_M_backlog_47 fl_M_47 rfl rfl ?_
        refine aw_iconst (-1) q_M_backlog_50 rfl ?_
        refine aw_icmp_eq 93 q_M_backlog_51 rfl (fun c51 => ?_) (fun c51 => ?_)
        · skip
          have e9 : dnb D (pon D) tt y (i + 1) = false := by
            refine dnb_f (zI_0.mp c43) ?_
            first
              | (rw [pon_0 hp1 c51]; simp)
              | (rw [zI_0.mp c63]; rfl)
              | (have k2 := nI_ne (by omega) (by omega) c75
                 simp [k2])
              | (have k3 := nI_gt (by omega) (by omega) c86
                 simp only [decide_eq_false k3, Bool.and_false])
          refine aw_iconst 0 q_M_backlog_93 rfl ?_
          refine aw_istore q_M_backlog_94 rfl rfl ?_
          refine aw_iinc _ q_M_backlog_96 rfl (am_inc _) rfl rfl ?_
          refine aw_goto 32 q_M_backlog_99 rfl ?_
          have g := ih _ (by omega) (i + 1) rfl (by omega)
          rw [e9] at g
          exact g
        · skip
          refine aw_aload_n 0 q_M_backlog_54 rfl rfl ?_
          refine aw_get 16 q_M_backlog_55 fl_M_47 rfl rfl ?_
          rw [pon_pI c51]
          refine aw_iload q_M_backlog_58 rfl ?_
          refine aw_S2 q_M_backlog_60 st_M_94 (by omega) (Nat.le_of_ble_eq_true rfl) (c_M_has _ _ _ _ (by omega) (by omega)) ?_
          refine aw_if_eq 93 q_M_backlog_63 rfl (fun c63 => ?_) (fun c63 => ?_)
          · skip
            have e9 : dnb D (pon D) tt y (i + 1) = false := by
              refine dnb_f (zI_0.mp c43) ?_
              first
                | (rw [pon_0 hp1 c51]; simp)
                | (rw [zI_0.mp c63]; rfl)
                | (have k2 := nI_ne (by omega) (by omega) c75
                   simp [k2])
                | (have k3 := nI_gt (by omega) (by omega) c86
                   simp only [decide_eq_false k3, Bool.and_false])
            refine aw_iconst 0 q_M_backlog_93 rfl ?_
            refine aw_istore q_M_backlog_94 rfl rfl ?_
            refine aw_iinc _ q_M_backlog_96 rfl (am_inc _) rfl rfl ?_
            refine aw_goto 32 q_M_backlog_99 rfl ?_
            have g := ih _ (by omega) (i + 1) rfl (by omega)
            rw [e9] at g
            exact g
          · skip
            refine aw_aload_n 0 q_M_backlog_66 rfl rfl ?_
            refine aw_get 5 q_M_backlog_67 fl_M_16 rfl rfl ?_
            refine aw_iload q_M_backlog_70 rfl ?_
            refine aw_ialdN q_M_backlog_72 rfl (by omega) rfl ?_
            refine aw_iload q_M_backlog_73 rfl ?_
            refine aw_icmp_ne 93 q_M_backlog_75 rfl (fun c75 => ?_) (fun c75 => ?_)
            · skip
              have e9 : dnb D (pon D) tt y (i + 1) = false := by
                refine dnb_f (zI_0.mp c43) ?_
                first
                  | (rw [pon_0 hp1 c51]; simp)
                  | (rw [zI_0.mp c63]; rfl)
                  | (have k2 := nI_ne (by omega) (by omega) c75
                     simp [k2])
                  | (have k3 := nI_gt (by omega) (by omega) c86
                     simp only [decide_eq_false k3, Bool.and_false])
              refine aw_iconst 0 q_M_backlog_93 rfl ?_
              refine aw_istore q_M_backlog_94 rfl rfl ?_
              refine aw_iinc _ q_M_backlog_96 rfl (am_inc _) rfl rfl ?_
              refine aw_goto 32 q_M_backlog_99 rfl ?_
              have g := ih _ (by omega) (i + 1) rfl (by omega)
              rw [e9] at g
              exact g
            · skip
              refine aw_aload_n 0 q_M_backlog_78 rfl rfl ?_
              refine aw_get 6 q_M_backlog_79 fl_M_19 rfl rfl ?_
              refine aw_iload q_M_backlog_82 rfl ?_
              refine aw_ialdN q_M_backlog_84 rfl (by omega) rfl ?_
              refine aw_iload_n 1 q_M_backlog_85 rfl rfl ?_
              refine aw_icmp_gt 93 q_M_backlog_86 rfl (fun c86 => ?_) (fun c86 => ?_)
              · skip
                have e9 : dnb D (pon D) tt y (i + 1) = false := by
                  refine dnb_f (zI_0.mp c43) ?_
                  first
                    | (rw [pon_0 hp1 c51]; simp)
                    | (rw [zI_0.mp c63]; rfl)
                    | (have k2 := nI_ne (by omega) (by omega) c75
                       simp [k2])
                    | (have k3 := nI_gt (by omega) (by omega) c86
                       simp only [decide_eq_false k3, Bool.and_false])
                refine aw_iconst 0 q_M_backlog_93 rfl ?_
                refine aw_istore q_M_backlog_94 rfl rfl ?_
                refine aw_iinc _ q_M_backlog_96 rfl (am_inc _) rfl rfl ?_
                refine aw_goto 32 q_M_backlog_99 rfl ?_
                have g := ih _ (by omega) (i + 1) rfl (by omega)
                rw [e9] at g
                exact g
              · skip
                have e9 : dnb D (pon D) tt y (i + 1) = true := by
                  first
                    | exact dnb_u (zI_n0.mp c43)
                    | (refine dnb_t ?_
                       have k1 := zI_n0.mp c63
                       have k2 := nI_eq' (by omega) (by omega) c75
                       have k3 := nI_ngt (by omega) (by omega) c86
                       simp only [k1, k2, decide_eq_true k3, decide_true]; rfl)
                refine aw_iconst 1 q_M_backlog_89 rfl ?_
                refine aw_goto 94 q_M_backlog_90 rfl ?_
                refine aw_istore q_M_backlog_94 rfl rfl ?_
                refine aw_iinc _ q_M_backlog_96 rfl (am_inc _) rfl rfl ?_
                refine aw_goto 32 q_M_backlog_99 rfl ?_
                have g := ih _ (by omega) (i + 1) rfl (by omega)
                rw [e9] at g
                exact g
theorem l_M_backlog (sc : am_S) (A : ST) (q : QS) (D : ST) (t : TS) (y : Nat) (b : bd D) (hy : y < 6) (hp1 : pn14 D) : ∀ (n i : Nat), x_nt D - i = n → i ≤ x_nt D →  AW sc m_M_backlog 2 17 [some (.ref 50), some (.int (nI y)), some (.long (lZ (sm i (fun tt => if dnb D (pon D) tt y (x_nc D) = true then 0 else mwb D tt y (x_nc D))))), none, some (.int (nI i)), none, none] [] (hp A q D t) (some (.long (lZ (sm (x_nt D) (fun tt => if dnb D (pon D) tt y (x_nc D) = true then 0 else mwb D tt y (x_nc D)))))) (hp A q D t) := by
  intro n
  induction n using Nat.strongRecOn with
  | _ n ih =>
    intro i hn hi
    have b2 := b.2.1
    refine aw_iload q_M_backlog_17 rfl ?_
    refine aw_aload_n 0 q_M_backlog_19 rfl rfl ?_
    refine aw_get 1 q_M_backlog_20 fl_M_76 rfl rfl ?_
    refine aw_icmp_ge 127 q_M_backlog_23 rfl (fun c23 => ?_) (fun c23 => ?_)
    · skip
      refine aw_lload_n 2 q_M_backlog_127 rfl rfl ?_
      exact aw_lret q_M_backlog_128 rfl (by rw [show i = x_nt D from Nat.le_antisymm hi (nge_ge c23 (by omega) (by omega))]) rfl
    · skip
      have hlt : i < x_nt D := nge_lt c23 (by omega) (by omega)
      refine aw_iconst 0 q_M_backlog_26 rfl ?_
      refine aw_istore q_M_backlog_27 rfl rfl ?_
      refine aw_iconst 0 q_M_backlog_29 rfl ?_
      refine aw_istore q_M_backlog_30 rfl rfl ?_
      refine l_M_backlog2 sc A q D t y i _ b hp1 hy (by omega) _ _ ?_ _ 0 rfl (by omega)
      refine aw_lload_n 2 q_M_backlog_102 rfl rfl ?_
      refine aw_iload q_M_backlog_103 rfl ?_
      refine aw_if_eq 112 q_M_backlog_105 rfl (fun c105 => ?_) (fun c105 => ?_)
      · skip
        refine aw_aload_n 0 q_M_backlog_112 rfl rfl ?_
        refine aw_iload q_M_backlog_113 rfl ?_
        refine aw_iload_n 1 q_M_backlog_115 rfl rfl ?_
        refine aw_V2 q_M_backlog_116 st_M_149 rfl (by omega) (Nat.le_of_ble_eq_true rfl) (c_M_mostWorth _ _ _ _ _ _ _ b (by omega) hy) ?_
        refine aw_ladd q_M_backlog_119 ?_
        refine aw_lstore_n 2 q_M_backlog_120 rfl rfl rfl ?_
        first | refine aw_iinc _ q_M_backlog_121 rfl (am_inc _) rfl rfl ?_ | refine aw_iinc _ q_M_backlog_121 rfl rfl rfl rfl ?_
        refine aw_goto 17 q_M_backlog_124 rfl ?_
        first
          | (have h9 := zI_n0.mp c105; rw [sm_t (f := (fun tt => if dnb D (pon D) tt y (x_nc D) = true then 0 else mwb D tt y (x_nc D))) (i := i) (x := 0) (by simp [h9])]; exact aw_kill [5] (ih _ (by omega) (i + 1) rfl (by omega)))
          | (have h9 := zI_0.mp c105; rw [sm_t (f := (fun tt => if dnb D (pon D) tt y (x_nc D) = true then 0 else mwb D tt y (x_nc D))) (i := i) (by simp [h9])]; exact aw_kill [5] (ih _ (by omega) (i + 1) rfl (by omega)))
      · skip
        refine aw_lconst (lZ 0) q_M_backlog_108 rfl ?_
        refine aw_goto 119 q_M_backlog_109 rfl ?_
        refine aw_ladd q_M_backlog_119 ?_
        refine aw_lstore_n 2 q_M_backlog_120 rfl rfl rfl ?_
        first | refine aw_iinc _ q_M_backlog_121 rfl (am_inc _) rfl rfl ?_ | refine aw_iinc _ q_M_backlog_121 rfl rfl rfl rfl ?_
        refine aw_goto 17 q_M_backlog_124 rfl ?_
        first
          | (have h9 := zI_n0.mp c105; rw [sm_t (f := (fun tt => if dnb D (pon D) tt y (x_nc D) = true then 0 else mwb D tt y (x_nc D))) (i := i) (x := 0) (by simp [h9])]; exact aw_kill [5] (ih _ (by omega) (i + 1) rfl (by omega)))
          | (have h9 := zI_0.mp c105; rw [sm_t (f := (fun tt => if dnb D (pon D) tt y (x_nc D) = true then 0 else mwb D tt y (x_nc D))) (i := i) (by simp [h9])]; exact aw_kill [5] (ih _ (by omega) (i + 1) rfl (by omega)))
theorem c_M_backlog (sc : am_S) (A : ST) (q : QS) (D : ST) (t : TS) (y : Nat) (b : bd D) (hy : y < x_ny D) (hp1 : pn14 D) : AM sc m_M_backlog 2 [.ref 50, .int (nI y)] (hp A q D t) (some (.long (lZ (sm (x_nt D) (fun tt => if dnb D (pon D) tt y (x_nc D) = true then 0 else mwb D tt y (x_nc D)))))) (hp A q D t) := by
  refine AM.of (by decide) (Nat.le_of_ble_eq_true rfl) ?_
  show AW sc m_M_backlog 2 0 [some (.ref 50), some (.int (nI y)), none, none, none, none, none] [] _ _ _
  have b1 := b.1
  refine aw_aload_n 0 q_M_backlog_0 rfl rfl ?_
  refine aw_iload_n 1 q_M_backlog_1 rfl rfl ?_
  refine aw_V1 q_M_backlog_2 st_M_98 rfl (by omega) (Nat.le_of_ble_eq_true rfl) (c_M_isYear _ _ _ _ _ _) ?_
  refine aw_if_ne 12 q_M_backlog_5 rfl (fun c5 => ?_) (fun c5 => ?_)
  · skip
    refine aw_lconst (lZ 0) q_M_backlog_12 rfl ?_
    refine aw_lstore_n 2 q_M_backlog_13 rfl rfl rfl ?_
    refine aw_iconst 0 q_M_backlog_14 rfl ?_
    refine aw_istore q_M_backlog_15 rfl rfl ?_
    exact l_M_backlog sc A q D t y b (by omega) hp1 _ 0 rfl (by omega)
  · skip
    exact absurd (zI_0.mp c5) (by rw [isN hy (by omega)]; decide)
def mw5 (D : ST) (tt : Nat) : Int := mwb D tt 5 (x_nc D)
def rkM (D : ST) (u v : Nat) : Bool := decide (mw5 D v < mw5 D u) || (decide (mw5 D u = mw5 D v) && (decide (x_pl D u < x_pl D v) || (decide (x_pl D u = x_pl D v) && decide (u < v))))
theorem mw5_bd {D : ST} (b : bd D) (tt : Nat) : 0 ≤ mw5 D tt ∧ mw5 D tt ≤ 1000000 := mwb_bd b tt _ _
theorem rkM_self (D : ST) (u : Nat) : rkM D u u = false := by simp [rkM]
theorem cnp_lt {p : Nat → Bool} {v : Nat} (h : p v = false) : ∀ {n : Nat}, v < n → cnp p n < n
  | 0, hn => by omega
  | n + 1, hn => by
    by_cases e : v = n
    · subst e
      have := cnp_le p v
      simp only [cnp, h]
      simp
      omega
    · have := cnp_lt h (n := n) (by omega)
      unfold cnp
      split <;> omega
def rkn (D : ST) (v : Nat) : Nat := cnp (fun o => rkM D o v) (x_nt D)
def rkf (D : ST) (f : Nat → Nat) : Nat → Nat → Nat
  | 0 => f
  | i + 1 => va_up (rkf D f i) (rkn D i) i
theorem o_M_mostWorth (sc : am_S) (A : ST) (q : QS) (D : ST) (t : TS) (tt : Nat) (b : bd D) (htt : tt < 12) : AM sc m_M_mostWorth 0 [.ref 50, .int (nI tt), .int 5] (hp A q D t) (some (.long (lZ (mw5 D tt)))) (hp A q D t) := c_M_mostWorth sc A q D t tt 5 b htt (by omega)
theorem c_M_rank_no (sc : am_S) (A : ST) (q : QS) (D : ST) (t : TS) (x : Int32) (hx : ¬ (¬ x < 0 ∧ x < nI (x_nt D))) : AM sc m_M_rank 1 [.ref 50, .int x] (hp A q D t) (some (.int (-1))) (hp A q D t) := by
  refine AM.of (by decide) (Nat.le_of_ble_eq_true rfl) ?_
  show AW sc m_M_rank 1 0 [some (.ref 50), some (.int x), none, none, none, none, none, none, none] [] _ _ _
  refine aw_iload_n 1 q_M_rank_0 rfl rfl ?_
  refine aw_if_lt 12 q_M_rank_1 rfl (fun c1 => ?_) (fun c1 => ?_)
  · skip
    refine aw_iconst (-1) q_M_rank_12 rfl ?_
    exact aw_iret .int q_M_rank_13 rfl rfl rfl rfl
  · skip
    refine aw_iload_n 1 q_M_rank_4 rfl rfl ?_
    refine aw_aload_n 0 q_M_rank_5 rfl rfl ?_
    refine aw_get 1 q_M_rank_6 fl_M_76 rfl rfl ?_
    refine aw_icmp_lt 14 q_M_rank_9 rfl (fun c9 => ?_) (fun c9 => ?_)
    · skip
      exact (hx ⟨c1, c9⟩).elim
    · skip
      refine aw_iconst (-1) q_M_rank_12 rfl ?_
      exact aw_iret .int q_M_rank_13 rfl rfl rfl rfl
theorem l_M_rank2 (sc : am_S) (A : ST) (q : QS) (D : ST) (t : TS) (k v : Nat) (f : Nat → Nat) (b : bd D) (hv : v < 12) (r : Option Value) (hz : List am_C) (kk : AW sc m_M_rank 1 123 [some (.ref 50), some (.int (nI k)), some (.int (nI v)), some (.int (nI (rkn D v))), none, none, none, none, none] [] (hp A q D t) r hz) : ∀ (n i : Nat), x_nt D - i = n → i ≤ x_nt D →  AW sc m_M_rank 1 29 [some (.ref 50), some (.int (nI k)), some (.int (nI v)), some (.int (nI (cnp (fun o => rkM D o v) i))), some (.int (nI i)), none, none, none, none] [] (hp A q D t) (r) hz := by
  intro n
  induction n using Nat.strongRecOn with
  | _ n ih =>
    intro i hn hi
    have b2 := b.2.1
    have m1 := mw5_bd b i
    have m2 := mw5_bd b v
    have p1 := b.2.2.2.2.2.2.2.2.2.2.2.1 i
    have p2 := b.2.2.2.2.2.2.2.2.2.2.2.1 v
    refine aw_iload q_M_rank_29 rfl ?_
    refine aw_aload_n 0 q_M_rank_31 rfl rfl ?_
    refine aw_get 1 q_M_rank_32 fl_M_76 rfl rfl ?_
    refine aw_icmp_ge 123 q_M_rank_35 rfl (fun c35 => ?_) (fun c35 => ?_)
    · skip
      have hk : AW sc m_M_rank 1 123 [some (.ref 50), some (.int (nI k)), some (.int (nI v)), some (.int (nI (cnp (fun o => rkM D o v) (x_nt D)))), none, none, none, none, none] [] (hp A q D t) r hz := kk
      rw [show i = x_nt D from Nat.le_antisymm hi (nge_ge c35 (by omega) (by omega))]
      exact aw_kill [4] hk
    · skip
      have hlt : i < x_nt D := nge_lt c35 (by omega) (by omega)
      refine aw_aload_n 0 q_M_rank_38 rfl rfl ?_
      refine aw_iload q_M_rank_39 rfl ?_
      refine aw_iconst 5 q_M_rank_41 rfl ?_
      refine aw_V2 q_M_rank_42 st_M_149 rfl (by omega) (Nat.le_of_ble_eq_true rfl) (o_M_mostWorth _ _ _ _ _ _ b (by omega)) ?_
      refine aw_lstore q_M_rank_45 rfl rfl ?_
      refine aw_aload_n 0 q_M_rank_47 rfl rfl ?_
      refine aw_iload_n 2 q_M_rank_48 rfl rfl ?_
      refine aw_iconst 5 q_M_rank_49 rfl ?_
      refine aw_V2 q_M_rank_50 st_M_149 rfl (by omega) (Nat.le_of_ble_eq_true rfl) (o_M_mostWorth _ _ _ _ _ _ b (by omega)) ?_
      refine aw_lstore q_M_rank_53 rfl rfl ?_
      refine aw_iload_n 3 q_M_rank_55 rfl rfl ?_
      refine aw_lload q_M_rank_56 rfl ?_
      refine aw_lload q_M_rank_58 rfl ?_
      refine aw_lcmp_gt 110 q_M_rank_60 q_M_rank_61 rfl (fun c60 => ?_) (fun c60 => ?_)
      · skip
        have e9 : rkM D i v = true := by
          unfold rkM
          simp only [Bool.or_eq_true, Bool.and_eq_true, decide_eq_true_eq]
          first
            | exact Or.inl ((lZ_lt (by omega) (by omega)).mp c60)
            | exact Or.inr ⟨(lZ_eq (by omega) (by omega)).mp c68, Or.inl ((nI_ltI (by omega) (by omega)).mp c85)⟩
            | exact Or.inr ⟨(lZ_eq (by omega) (by omega)).mp c68, Or.inr ⟨nI_eq' (by omega) (by omega) c101, nge_lt c107 (by omega) (by omega)⟩⟩
        refine aw_iconst 1 q_M_rank_110 rfl ?_
        refine aw_goto 115 q_M_rank_111 rfl ?_
        refine aw_iadd q_M_rank_115 ?_
        rw [nI_1]
        refine aw_istore_n 3 q_M_rank_116 rfl rfl rfl ?_
        refine aw_iinc _ q_M_rank_117 rfl (am_inc _) rfl rfl ?_
        refine aw_goto 29 q_M_rank_120 rfl ?_
        have g := ih _ (by omega) (i + 1) rfl (by omega)
        rw [show cnp (fun o => rkM D o v) (i + 1) = cnp (fun o => rkM D o v) i + 1 from by simp [cnp, e9]] at g
        exact aw_kill [5, 7] g
      · skip
        refine aw_lload q_M_rank_64 rfl ?_
        refine aw_lload q_M_rank_66 rfl ?_
        refine aw_lcmp_ne 114 q_M_rank_68 q_M_rank_69 rfl (fun c68 => ?_) (fun c68 => ?_)
        · skip
          have e9 : rkM D i v = false := by
            have k1 := mt (lZ_lt (a := mw5 D v) (b := mw5 D i) (by omega) (by omega)).mpr c60
            unfold rkM
            rw [decide_eq_false k1, Bool.false_or]
            first
              | (rw [decide_eq_false (mt (lZ_eq (by omega) (by omega)).mpr c68)]; rfl)
              | (have k3 := mt (nI_ltI (a := x_pl D i) (b := x_pl D v) (by omega) (by omega)).mpr c85
                 rw [decide_eq_false k3, Bool.false_or]
                 first
                   | (rw [decide_eq_false (nI_ne (by omega) (by omega) c101)]; simp)
                   | (have k4 := nge_ge c107 (by omega) (by omega); rw [decide_eq_false (show ¬ i < v by omega)]; simp))
          refine aw_iconst 0 q_M_rank_114 rfl ?_
          refine aw_iadd q_M_rank_115 ?_
          rw [nI_a0]
          refine aw_istore_n 3 q_M_rank_116 rfl rfl rfl ?_
          refine aw_iinc _ q_M_rank_117 rfl (am_inc _) rfl rfl ?_
          refine aw_goto 29 q_M_rank_120 rfl ?_
          have g := ih _ (by omega) (i + 1) rfl (by omega)
          rw [show cnp (fun o => rkM D o v) (i + 1) = cnp (fun o => rkM D o v) i from by simp [cnp, e9]] at g
          exact aw_kill [5, 7] g
        · skip
          refine aw_aload_n 0 q_M_rank_72 rfl rfl ?_
          refine aw_get 2 q_M_rank_73 fl_M_7 rfl rfl ?_
          refine aw_iload q_M_rank_76 rfl ?_
          refine aw_ialdN q_M_rank_78 rfl (by omega) rfl ?_
          refine aw_aload_n 0 q_M_rank_79 rfl rfl ?_
          refine aw_get 2 q_M_rank_80 fl_M_7 rfl rfl ?_
          refine aw_iload_n 2 q_M_rank_83 rfl rfl ?_
          refine aw_ialdN q_M_rank_84 rfl (by omega) rfl ?_
          refine aw_icmp_lt 110 q_M_rank_85 rfl (fun c85 => ?_) (fun c85 => ?_)
          · skip
            have e9 : rkM D i v = true := by
              unfold rkM
              simp only [Bool.or_eq_true, Bool.and_eq_true, decide_eq_true_eq]
              first
                | exact Or.inl ((lZ_lt (by omega) (by omega)).mp c60)
                | exact Or.inr ⟨(lZ_eq (by omega) (by omega)).mp c68, Or.inl ((nI_ltI (by omega) (by omega)).mp c85)⟩
                | exact Or.inr ⟨(lZ_eq (by omega) (by omega)).mp c68, Or.inr ⟨nI_eq' (by omega) (by omega) c101, nge_lt c107 (by omega) (by omega)⟩⟩
            refine aw_iconst 1 q_M_rank_110 rfl ?_
            refine aw_goto 115 q_M_rank_111 rfl ?_
            refine aw_iadd q_M_rank_115 ?_
            rw [nI_1]
            refine aw_istore_n 3 q_M_rank_116 rfl rfl rfl ?_
            refine aw_iinc _ q_M_rank_117 rfl (am_inc _) rfl rfl ?_
            refine aw_goto 29 q_M_rank_120 rfl ?_
            have g := ih _ (by omega) (i + 1) rfl (by omega)
            rw [show cnp (fun o => rkM D o v) (i + 1) = cnp (fun o => rkM D o v) i + 1 from by simp [cnp, e9]] at g
            exact aw_kill [5, 7] g
          · skip
            refine aw_aload_n 0 q_M_rank_88 rfl rfl ?_
            refine aw_get 2 q_M_rank_89 fl_M_7 rfl rfl ?_
            refine aw_iload q_M_rank_92 rfl ?_
            refine aw_ialdN q_M_rank_94 rfl (by omega) rfl ?_
            refine aw_aload_n 0 q_M_rank_95 rfl rfl ?_
            refine aw_get 2 q_M_rank_96 fl_M_7 rfl rfl ?_
            refine aw_iload_n 2 q_M_rank_99 rfl rfl ?_
            refine aw_ialdN q_M_rank_100 rfl (by omega) rfl ?_
            refine aw_icmp_ne 114 q_M_rank_101 rfl (fun c101 => ?_) (fun c101 => ?_)
            · skip
              have e9 : rkM D i v = false := by
                have k1 := mt (lZ_lt (a := mw5 D v) (b := mw5 D i) (by omega) (by omega)).mpr c60
                unfold rkM
                rw [decide_eq_false k1, Bool.false_or]
                first
                  | (rw [decide_eq_false (mt (lZ_eq (by omega) (by omega)).mpr c68)]; rfl)
                  | (have k3 := mt (nI_ltI (a := x_pl D i) (b := x_pl D v) (by omega) (by omega)).mpr c85
                     rw [decide_eq_false k3, Bool.false_or]
                     first
                       | (rw [decide_eq_false (nI_ne (by omega) (by omega) c101)]; simp)
                       | (have k4 := nge_ge c107 (by omega) (by omega); rw [decide_eq_false (show ¬ i < v by omega)]; simp))
              refine aw_iconst 0 q_M_rank_114 rfl ?_
              refine aw_iadd q_M_rank_115 ?_
              rw [nI_a0]
              refine aw_istore_n 3 q_M_rank_116 rfl rfl rfl ?_
              refine aw_iinc _ q_M_rank_117 rfl (am_inc _) rfl rfl ?_
              refine aw_goto 29 q_M_rank_120 rfl ?_
              have g := ih _ (by omega) (i + 1) rfl (by omega)
              rw [show cnp (fun o => rkM D o v) (i + 1) = cnp (fun o => rkM D o v) i from by simp [cnp, e9]] at g
              exact aw_kill [5, 7] g
            · skip
              refine aw_iload q_M_rank_104 rfl ?_
              refine aw_iload_n 2 q_M_rank_106 rfl rfl ?_
              refine aw_icmp_ge 114 q_M_rank_107 rfl (fun c107 => ?_) (fun c107 => ?_)
              · skip
                have e9 : rkM D i v = false := by
                  have k1 := mt (lZ_lt (a := mw5 D v) (b := mw5 D i) (by omega) (by omega)).mpr c60
                  unfold rkM
                  rw [decide_eq_false k1, Bool.false_or]
                  first
                    | (rw [decide_eq_false (mt (lZ_eq (by omega) (by omega)).mpr c68)]; rfl)
                    | (have k3 := mt (nI_ltI (a := x_pl D i) (b := x_pl D v) (by omega) (by omega)).mpr c85
                       rw [decide_eq_false k3, Bool.false_or]
                       first
                         | (rw [decide_eq_false (nI_ne (by omega) (by omega) c101)]; simp)
                         | (have k4 := nge_ge c107 (by omega) (by omega); rw [decide_eq_false (show ¬ i < v by omega)]; simp))
                refine aw_iconst 0 q_M_rank_114 rfl ?_
                refine aw_iadd q_M_rank_115 ?_
                rw [nI_a0]
                refine aw_istore_n 3 q_M_rank_116 rfl rfl rfl ?_
                refine aw_iinc _ q_M_rank_117 rfl (am_inc _) rfl rfl ?_
                refine aw_goto 29 q_M_rank_120 rfl ?_
                have g := ih _ (by omega) (i + 1) rfl (by omega)
                rw [show cnp (fun o => rkM D o v) (i + 1) = cnp (fun o => rkM D o v) i from by simp [cnp, e9]] at g
                exact aw_kill [5, 7] g
              · skip
                have e9 : rkM D i v = true := by
                  unfold rkM
                  simp only [Bool.or_eq_true, Bool.and_eq_true, decide_eq_true_eq]
                  first
                    | exact Or.inl ((lZ_lt (by omega) (by omega)).mp c60)
                    | exact Or.inr ⟨(lZ_eq (by omega) (by omega)).mp c68, Or.inl ((nI_ltI (by omega) (by omega)).mp c85)⟩
                    | exact Or.inr ⟨(lZ_eq (by omega) (by omega)).mp c68, Or.inr ⟨nI_eq' (by omega) (by omega) c101, nge_lt c107 (by omega) (by omega)⟩⟩
                refine aw_iconst 1 q_M_rank_110 rfl ?_
                refine aw_goto 115 q_M_rank_111 rfl ?_
                refine aw_iadd q_M_rank_115 ?_
                rw [nI_1]
                refine aw_istore_n 3 q_M_rank_116 rfl rfl rfl ?_
                refine aw_iinc _ q_M_rank_117 rfl (am_inc _) rfl rfl ?_
                refine aw_goto 29 q_M_rank_120 rfl ?_
                have g := ih _ (by omega) (i + 1) rfl (by omega)
                rw [show cnp (fun o => rkM D o v) (i + 1) = cnp (fun o => rkM D o v) i + 1 from by simp [cnp, e9]] at g
                exact aw_kill [5, 7] g
theorem l_M_rank (sc : am_S) (A : ST) (q : QS) (D : ST) (t : TS) (k : Nat) (f : Nat → Nat) (b : bd D) (hk : k < x_nt D) : ∀ (n i : Nat), x_nt D - i = n → i ≤ x_nt D →  AW sc m_M_rank 1 16 [some (.ref 50), some (.int (nI k)), some (.int (nI i)), none, none, none, none, none, none] [] (hp A q D (t_s_ra t (rkf D f i))) (some (.int (nI (rkf D f (x_nt D) k)))) (hp A q D (t_s_ra t (rkf D f (x_nt D)))) := by
  intro n
  induction n using Nat.strongRecOn with
  | _ n ih =>
    intro i hn hi
    have b2 := b.2.1
    refine aw_iload_n 2 q_M_rank_16 rfl rfl ?_
    refine aw_aload_n 0 q_M_rank_17 rfl rfl ?_
    refine aw_get 1 q_M_rank_18 fl_M_76 rfl rfl ?_
    refine aw_icmp_ge 136 q_M_rank_21 rfl (fun c21 => ?_) (fun c21 => ?_)
    · skip
      refine aw_aload_n 0 q_M_rank_136 rfl rfl ?_
      refine aw_get 22 q_M_rank_137 fl_M_60 rfl rfl ?_
      refine aw_iload_n 1 q_M_rank_140 rfl rfl ?_
      rw [show i = x_nt D from Nat.le_antisymm hi (nge_ge c21 (by omega) (by omega))]
      refine aw_ialdN q_M_rank_141 rfl (by omega) rfl ?_
      exact aw_iret .int q_M_rank_142 rfl rfl rfl rfl
    · skip
      have hlt : i < x_nt D := nge_lt c21 (by omega) (by omega)
      have hr : rkn D i < x_nt D := cnp_lt (p := fun o => rkM D o i) (v := i) (rkM_self D i) hlt
      refine aw_iconst 0 q_M_rank_24 rfl ?_
      refine aw_istore_n 3 q_M_rank_25 rfl rfl rfl ?_
      refine aw_iconst 0 q_M_rank_26 rfl ?_
      refine aw_istore q_M_rank_27 rfl rfl ?_
      refine l_M_rank2 sc A q D _ k i f b (by omega) _ _ ?_ _ 0 rfl (by omega)
      refine aw_aload_n 0 q_M_rank_123 rfl rfl ?_
      refine aw_get 22 q_M_rank_124 fl_M_60 rfl rfl ?_
      refine aw_iload_n 3 q_M_rank_127 rfl rfl ?_
      refine aw_iload_n 2 q_M_rank_128 rfl rfl ?_
      refine wa_63 _ q_M_rank_129 (by omega) ?_
      first | refine aw_iinc _ q_M_rank_130 rfl (am_inc _) rfl rfl ?_ | refine aw_iinc _ q_M_rank_130 rfl rfl rfl rfl ?_
      refine aw_goto 16 q_M_rank_133 rfl ?_
      exact aw_kill [3] (ih _ (by omega) (i + 1) rfl (by omega))
theorem c_M_rank (sc : am_S) (A : ST) (q : QS) (D : ST) (t : TS) (k : Nat) (b : bd D) (hk : k < x_nt D) : AM sc m_M_rank 1 [.ref 50, .int (nI k)] (hp A q D t) (some (.int (nI (rkf D (t_ra t) (x_nt D) k)))) (hp A q D (t_s_ra t (rkf D (t_ra t) (x_nt D)))) := by
  refine AM.of (by decide) (Nat.le_of_ble_eq_true rfl) ?_
  show AW sc m_M_rank 1 0 [some (.ref 50), some (.int (nI k)), none, none, none, none, none, none, none] [] _ _ _
  have b2 := b.2.1
  refine aw_iload_n 1 q_M_rank_0 rfl rfl ?_
  refine aw_if_lt 12 q_M_rank_1 rfl (fun c1 => ?_) (fun c1 => ?_)
  · skip
    first
      | exact absurd ((nI_ltI (b := 0) (by omega) (by omega)).mp c1) (by omega)
      | exact absurd ((nI_ltI (by omega) (by omega)).mpr hk) c9
  · skip
    refine aw_iload_n 1 q_M_rank_4 rfl rfl ?_
    refine aw_aload_n 0 q_M_rank_5 rfl rfl ?_
    refine aw_get 1 q_M_rank_6 fl_M_76 rfl rfl ?_
    refine aw_icmp_lt 14 q_M_rank_9 rfl (fun c9 => ?_) (fun c9 => ?_)
    · skip
      refine aw_iconst 0 q_M_rank_14 rfl ?_
      refine aw_istore_n 2 q_M_rank_15 rfl rfl rfl ?_
      exact l_M_rank sc A q D t k (t_ra t) b hk _ 0 rfl (by omega)
    · skip
      first
        | exact absurd ((nI_ltI (b := 0) (by omega) (by omega)).mp c1) (by omega)
        | exact absurd ((nI_ltI (by omega) (by omega)).mpr hk) c9
