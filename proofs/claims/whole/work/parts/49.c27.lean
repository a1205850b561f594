/-! CONTRACTS 27: the reference: the search, clash, changes, run -/
def okM (D : ST) : Prop := bd D ∧ jdo D ∧ (-1 ≤ x_fa D ∧ x_fa D ≤ 10000000)
theorem o_M_isBetter (sc : am_S) (A : ST) (q : QS) (D : ST) (t : TS) (m : Nat) (o : Option Nat) (b : bd D) (hm : m < 16384) (ho : ∀ k, o = some k → k < 16384) : AM sc m_M_isBetter 2 [.ref 50, .int (nI m), .int (pI o)] (hp A q D t) (some (.int (zI (btr D m o)))) (hp A q D t) := by
  cases o with
  | none => exact c_M_isBetter_n sc A q D t m
  | some k => exact c_M_isBetter sc A q D t m k b hm (ho k rfl)
theorem sn14 {D : ST} (b : bd D) (i : Nat) : sn D i < 16384 := by
  have := sn_lt D i
  have := p14 b.2.2.1
  omega
theorem o_M_setAt (sc : am_S) (A : ST) (q : QS) (D : ST) (t : TS) (n : Nat) (b : bd D) (hn : n < 16384) : AM sc m_M_setAt 0 [.ref 50, .int (nI n)] (hp A q D t) (some (.int (nI (sn D n)))) (hp A q D t) := c_M_setAt sc A q D t n b hn
/-- the reference's own rows while it looks -/
def bT (D : ST) (w : Nat) (t : TS) : Nat → TS
  | 0 => t
  | i + 1 => tH D w (sn D i) (bT D w t i)
def bsM (D : ST) (i : Nat) : Option Nat := bst (hwM D (x_mu D)) (btr D) (sn D) i
theorem bsM_lt {D : ST} (b : bd D) {i k : Nat} (h : bsM D i = some k) : k < 16384 := by
  have := bst_lt (sn_lt D) h
  have := p14 b.2.2.1
  omega
theorem bsM_t {D : ST} {i : Nat} (h : hwM D (x_mu D) (sn D i) = true) (h2 : btr D (sn D i) (bsM D i) = true) : bsM D (i + 1) = some (sn D i) := by
  unfold bsM at h2 ⊢
  rw [bst, h, h2]
  rfl
theorem bsM_f {D : ST} {i : Nat} (h : hwM D (x_mu D) (sn D i) = false) : bsM D (i + 1) = bsM D i := by
  unfold bsM
  rw [bst, h]
  rfl
theorem bsM_g {D : ST} {i : Nat} (h2 : btr D (sn D i) (bsM D i) = false) : bsM D (i + 1) = bsM D i := by
  unfold bsM at h2 ⊢
  rw [bst, h2]
  simp
theorem i_l {i : Nat} (h : i < 2 ^ 31) : (nI i).toInt64 = lZ (i : Int) := by rw [i2l_of, nI_toInt h]
theorem mu_b {D : ST} (b : bd D) : x_mu D < 16384 := b.2.2.2.2.2.2.2.2.2.2.2.2.1
theorem l_M_best (sc : am_S) (A : ST) (q : QS) (D : ST) (t : TS) (N : Nat) (k : okM D) (hN : N ≤ 20000) : ∀ (n i : Nat), min N (2 ^ x_nc D) - i = n → i ≤ min N (2 ^ x_nc D) →  AW sc m_M_best 4 5 [some (.ref 50), some (.long (lZ (N : Int))), none, some (.int (pI (bsM D i))), some (.int (nI i)), none] [] (hp A q D (bT D (x_mu D) t i)) (some (.int (pI (bsM D (min N (2 ^ x_nc D)))))) (hp A q D (bT D (x_mu D) t (min N (2 ^ x_nc D)))) := by
  intro n
  induction n using Nat.strongRecOn with
  | _ n ih =>
    intro i hn hi
    have b3 := k.1.2.2.1
    have h14 := p14 b3
    have hmn : min N (2 ^ x_nc D) ≤ 2 ^ x_nc D := Nat.min_le_right _ _
    refine aw_iload q_M_best_5 rfl ?_
    refine aw_i2l q_M_best_7 ?_
    rw [i_l (by omega)]
    refine aw_lload_n 1 q_M_best_8 rfl rfl ?_
    refine aw_lcmp_ge 64 q_M_best_9 q_M_best_10 rfl (fun c9 => ?_) (fun c9 => ?_)
    · skip
      have he : i = min N (2 ^ x_nc D) := Nat.le_antisymm hi (by
        first
          | (have h1 := (lZ_le (a := (N : Int)) (b := (i : Int)) (by omega) (by omega)).mp c9
             omega)
          | (have h2 := nge_ge c21 (by omega) (by omega)
             omega))
      rw [he]
      refine aw_iload_n 3 q_M_best_64 rfl rfl ?_
      exact aw_iret .int q_M_best_65 rfl rfl rfl rfl
    · skip
      refine aw_iload q_M_best_13 rfl ?_
      refine aw_iconst 1 q_M_best_15 rfl ?_
      refine aw_aload_n 0 q_M_best_16 rfl rfl ?_
      refine aw_get 4 q_M_best_17 fl_M_84 rfl rfl ?_
      refine aw_ishl q_M_best_20 ?_
      rw [bt_one (by omega)]
      refine aw_icmp_ge 64 q_M_best_21 rfl (fun c21 => ?_) (fun c21 => ?_)
      · skip
        have he : i = min N (2 ^ x_nc D) := Nat.le_antisymm hi (by
          first
            | (have h1 := (lZ_le (a := (N : Int)) (b := (i : Int)) (by omega) (by omega)).mp c9
               omega)
            | (have h2 := nge_ge c21 (by omega) (by omega)
               omega))
        rw [he]
        refine aw_iload_n 3 q_M_best_64 rfl rfl ?_
        exact aw_iret .int q_M_best_65 rfl rfl rfl rfl
      · skip
        have hlt : i < min N (2 ^ x_nc D) := by
          have h1 := mt (lZ_le (a := (N : Int)) (b := (i : Int)) (by omega) (by omega)).mpr c9
          have h2 := nge_lt c21 (by omega) (by omega)
          omega
        refine aw_aload_n 0 q_M_best_24 rfl rfl ?_
        refine aw_iload q_M_best_25 rfl ?_
        refine aw_V1 q_M_best_27 st_M_131 rfl (by omega) (Nat.le_of_ble_eq_true rfl) (o_M_setAt _ _ _ _ _ _ k.1 (by omega)) ?_
        refine aw_istore q_M_best_30 rfl rfl ?_
        refine aw_aload_n 0 q_M_best_32 rfl rfl ?_
        refine aw_iload q_M_best_33 rfl ?_
        refine aw_aload_n 0 q_M_best_35 rfl rfl ?_
        refine aw_get 9 q_M_best_36 fl_M_91 rfl rfl ?_
        refine aw_V2 q_M_best_39 st_M_134 rfl (by omega) (Nat.le_of_ble_eq_true rfl) (c_M_holdsWith _ _ _ _ _ _ _ k.1 k.2.1 (sn14 k.1 i) (mu_b k.1) k.2.2) ?_
        refine aw_if_eq 58 q_M_best_42 rfl (fun c42 => ?_) (fun c42 => ?_)
        · skip
          first | refine aw_iinc _ q_M_best_58 rfl (am_inc _) rfl rfl ?_ | refine aw_iinc _ q_M_best_58 rfl rfl rfl rfl ?_
          refine aw_goto 5 q_M_best_61 rfl ?_
          first
            | (have h9 := zI_0.mp c42
               have g := ih _ (by omega) (i + 1) rfl (by omega)
               rw [bsM_f h9] at g
               exact aw_kill [5] g)
            | (have h9 := zI_0.mp c52
               have g := ih _ (by omega) (i + 1) rfl (by omega)
               rw [bsM_g h9] at g
               exact aw_kill [5] g)
            | (have h9 := zI_n0.mp c42
               have h8 := zI_n0.mp c52
               have g := ih _ (by omega) (i + 1) rfl (by omega)
               rw [bsM_t h9 h8] at g
               exact aw_kill [5] g)
        · skip
          refine aw_aload_n 0 q_M_best_45 rfl rfl ?_
          refine aw_iload q_M_best_46 rfl ?_
          refine aw_iload_n 3 q_M_best_48 rfl rfl ?_
          refine aw_V2 q_M_best_49 st_M_137 rfl (by omega) (Nat.le_of_ble_eq_true rfl) (o_M_isBetter _ _ _ _ _ _ _ k.1 (sn14 k.1 i) (fun _ h => bsM_lt k.1 h)) ?_
          refine aw_if_eq 58 q_M_best_52 rfl (fun c52 => ?_) (fun c52 => ?_)
          · skip
            first | refine aw_iinc _ q_M_best_58 rfl (am_inc _) rfl rfl ?_ | refine aw_iinc _ q_M_best_58 rfl rfl rfl rfl ?_
            refine aw_goto 5 q_M_best_61 rfl ?_
            first
              | (have h9 := zI_0.mp c42
                 have g := ih _ (by omega) (i + 1) rfl (by omega)
                 rw [bsM_f h9] at g
                 exact aw_kill [5] g)
              | (have h9 := zI_0.mp c52
                 have g := ih _ (by omega) (i + 1) rfl (by omega)
                 rw [bsM_g h9] at g
                 exact aw_kill [5] g)
              | (have h9 := zI_n0.mp c42
                 have h8 := zI_n0.mp c52
                 have g := ih _ (by omega) (i + 1) rfl (by omega)
                 rw [bsM_t h9 h8] at g
                 exact aw_kill [5] g)
          · skip
            refine aw_iload q_M_best_55 rfl ?_
            refine aw_istore_n 3 q_M_best_57 rfl rfl rfl ?_
            first | refine aw_iinc _ q_M_best_58 rfl (am_inc _) rfl rfl ?_ | refine aw_iinc _ q_M_best_58 rfl rfl rfl rfl ?_
            refine aw_goto 5 q_M_best_61 rfl ?_
            first
              | (have h9 := zI_0.mp c42
                 have g := ih _ (by omega) (i + 1) rfl (by omega)
                 rw [bsM_f h9] at g
                 exact aw_kill [5] g)
              | (have h9 := zI_0.mp c52
                 have g := ih _ (by omega) (i + 1) rfl (by omega)
                 rw [bsM_g h9] at g
                 exact aw_kill [5] g)
              | (have h9 := zI_n0.mp c42
                 have h8 := zI_n0.mp c52
                 have g := ih _ (by omega) (i + 1) rfl (by omega)
                 rw [bsM_t h9 h8] at g
                 exact aw_kill [5] g)
theorem c_M_best (sc : am_S) (A : ST) (q : QS) (D : ST) (t : TS) (N : Nat) (k : okM D) (hN : N ≤ 20000) : AM sc m_M_best 4 [.ref 50, .long (lZ (N : Int))] (hp A q D t) (some (.int (pI (bsM D (min N (2 ^ x_nc D)))))) (hp A q D (bT D (x_mu D) t (min N (2 ^ x_nc D)))) := by
  refine AM.of (by decide) (Nat.le_of_ble_eq_true rfl) ?_
  show AW sc m_M_best 4 0 [some (.ref 50), some (.long (lZ (N : Int))), none, none, none, none] [] _ _ _
  refine aw_iconst (-1) q_M_best_0 rfl ?_
  refine aw_istore_n 3 q_M_best_1 rfl rfl rfl ?_
  refine aw_iconst 0 q_M_best_2 rfl ?_
  refine aw_istore q_M_best_3 rfl rfl ?_
  exact l_M_best sc A q D t N k hN _ 0 rfl (Nat.zero_le _)
def smH (D : ST) (w i : Nat) : Bool := anb (fun i => hwM D w (sn D i)) i
def sT (D : ST) (w : Nat) (t : TS) : Nat → TS
  | 0 => t
  | i + 1 => if smH D w i = true then sT D w t i else tH D w (sn D i) (sT D w t i)
theorem smH_up {D : ST} {w i : Nat} (h : smH D w i = true) : ∀ {n : Nat} (t : TS), i ≤ n → smH D w n = true ∧ sT D w t n = sT D w t i
  | 0, t, hn => by rw [show i = 0 by omega] at h ⊢; exact ⟨h, rfl⟩
  | n + 1, t, hn => by
    by_cases e : i = n + 1
    · subst e; exact ⟨h, rfl⟩
    · have g := smH_up h (n := n) t (by omega)
      refine ⟨?_, ?_⟩
      · show (smH D w n || _) = true
        rw [g.1]; rfl
      · show (if _ then _ else _) = _
        rw [if_pos g.1]; exact g.2
theorem smH_s {D : ST} {w i : Nat} (h : smH D w i = false) : smH D w (i + 1) = hwM D w (sn D i) := by
  show (smH D w i || _) = _
  rw [h]; rfl
theorem sT_s {D : ST} {w i : Nat} (t : TS) (h : smH D w i = false) : sT D w t (i + 1) = tH D w (sn D i) (sT D w t i) := by
  show (if _ then _ else _) = _
  rw [if_neg (by rw [h]; decide)]
def smM' (D : ST) (w : Nat) : Bool := smH D w (2 ^ x_nc D)
def sTT (D : ST) (w : Nat) (t : TS) : TS := sT D w t (2 ^ x_nc D)
theorem l_M_someHolds (sc : am_S) (A : ST) (q : QS) (D : ST) (t : TS) (w : Nat) (k : okM D) (hw : w < 16384) : ∀ (n i : Nat), 2 ^ x_nc D - i = n → i ≤ 2 ^ x_nc D →  AW sc m_M_someHolds 4 4 [some (.ref 50), some (.int (nI w)), some (.int (zI (smH D w i))), some (.int (nI i))] [] (hp A q D (sT D w t i)) (some (.int (zI (smM' D w)))) (hp A q D (sTT D w t)) := by
  intro n
  induction n using Nat.strongRecOn with
  | _ n ih =>
    intro i hn hi
    have b3 := k.1.2.2.1
    have h14 := p14 b3
    refine aw_iload_n 3 q_M_someHolds_4 rfl rfl ?_
    refine aw_iconst 1 q_M_someHolds_5 rfl ?_
    refine aw_aload_n 0 q_M_someHolds_6 rfl rfl ?_
    refine aw_get 4 q_M_someHolds_7 fl_M_84 rfl rfl ?_
    refine aw_ishl q_M_someHolds_10 ?_
    rw [bt_one (by omega)]
    refine aw_icmp_ge 35 q_M_someHolds_11 rfl (fun c11 => ?_) (fun c11 => ?_)
    · skip
      refine aw_iload_n 2 q_M_someHolds_35 rfl rfl ?_
      exact aw_iret .boolean q_M_someHolds_36 rfl (zI_nar _) (by rw [show i = 2 ^ x_nc D from Nat.le_antisymm hi (nge_ge c11 (by omega) (by omega))]; rfl) (by rw [show i = 2 ^ x_nc D from Nat.le_antisymm hi (nge_ge c11 (by omega) (by omega))]; rfl)
    · skip
      have hlt : i < 2 ^ x_nc D := nge_lt c11 (by omega) (by omega)
      refine aw_iload_n 2 q_M_someHolds_14 rfl rfl ?_
      refine aw_if_ne 35 q_M_someHolds_15 rfl (fun c15 => ?_) (fun c15 => ?_)
      · skip
        refine aw_iload_n 2 q_M_someHolds_35 rfl rfl ?_
        exact aw_iret .boolean q_M_someHolds_36 rfl (zI_nar _) (by have g := smH_up (zI_n0.mp c15) t hi; unfold smM'; rw [g.1, zI_n0.mp c15]) (by have g := smH_up (zI_n0.mp c15) t hi; unfold sTT; rw [g.2])
      · skip
        refine aw_aload_n 0 q_M_someHolds_18 rfl rfl ?_
        refine aw_aload_n 0 q_M_someHolds_19 rfl rfl ?_
        refine aw_iload_n 3 q_M_someHolds_20 rfl rfl ?_
        refine aw_V1 q_M_someHolds_21 st_M_131 rfl (by omega) (Nat.le_of_ble_eq_true rfl) (o_M_setAt _ _ _ _ _ _ k.1 (by omega)) ?_
        refine aw_iload_n 1 q_M_someHolds_24 rfl rfl ?_
        refine aw_V2 q_M_someHolds_25 st_M_134 rfl (by omega) (Nat.le_of_ble_eq_true rfl) (c_M_holdsWith _ _ _ _ _ _ _ k.1 k.2.1 (sn14 k.1 i) hw k.2.2) ?_
        refine aw_istore_n 2 q_M_someHolds_28 rfl rfl rfl ?_
        first | refine aw_iinc _ q_M_someHolds_29 rfl (am_inc _) rfl rfl ?_ | refine aw_iinc _ q_M_someHolds_29 rfl rfl rfl rfl ?_
        refine aw_goto 4 q_M_someHolds_32 rfl ?_
        have h9 := zI_0.mp c15
        have g := ih _ (by omega) (i + 1) rfl (by omega)
        rw [smH_s h9, sT_s t h9] at g
        exact g
theorem c_M_someHolds (sc : am_S) (A : ST) (q : QS) (D : ST) (t : TS) (w : Nat) (k : okM D) (hw : w < 16384) : AM sc m_M_someHolds 4 [.ref 50, .int (nI w)] (hp A q D t) (some (.int (zI (smM' D w)))) (hp A q D (sTT D w t)) := by
  refine AM.of (by decide) (Nat.le_of_ble_eq_true rfl) ?_
  show AW sc m_M_someHolds 4 0 [some (.ref 50), some (.int (nI w)), none, none] [] _ _ _
  refine aw_iconst 0 q_M_someHolds_0 rfl ?_
  refine aw_istore_n 2 q_M_someHolds_1 rfl rfl rfl ?_
  refine aw_iconst 0 q_M_someHolds_2 rfl ?_
  refine aw_istore_n 3 q_M_someHolds_3 rfl rfl rfl ?_
  exact l_M_someHolds sc A q D t w k hw _ 0 rfl (Nat.zero_le _)
theorem l_pow {c : Nat} (h : c ≤ 14) : lZ 1 <<< ((nI c).toInt64 &&& 63) = lZ ((2 ^ c : Nat) : Int) := by
  have : ∀ c, c < 15 → lZ 1 <<< ((nI c).toInt64 &&& 63) = lZ ((2 ^ c : Nat) : Int) := by decide +kernel
  exact this c (by omega)
theorem c_M_run_no (sc : am_S) (A : ST) (q : QS) (D : ST) (t : TS) (v : Int64) (hx : ¬ (¬ v < 1 ∧ ¬ 20000 < v)) : AM sc m_M_run 5 [.ref 50, .long v] (hp A q D t) (some (.int (-1))) (hp A q D t) := by
  refine AM.of (by decide) (Nat.le_of_ble_eq_true rfl) ?_
  show AW sc m_M_run 5 0 [some (.ref 50), some (.long v), none, none] [] _ _ _
  refine aw_lload_n 1 q_M_run_0 rfl rfl ?_
  refine aw_lconst 1 q_M_run_1 rfl ?_
  refine aw_ldc2 20000 q_M_run_2 (am_in4 (i := 13) rfl rfl) ?_
  refine aw_S3 q_M_run_5 st_M_72 (by omega) (Nat.le_of_ble_eq_true rfl) (c_M_in _ _ _ _ _) ?_
  refine aw_if_ne 13 q_M_run_8 rfl (fun c8 => ?_) (fun c8 => ?_)
  · skip
    exact (hx (of_decide_eq_true (zI_n0.mp c8))).elim
  · skip
    refine aw_iconst (-1) q_M_run_11 rfl ?_
    exact aw_iret .int q_M_run_12 rfl rfl rfl rfl
theorem c_M_run (sc : am_S) (A : ST) (q : QS) (D : ST) (t : TS) (N : Nat) (k : okM D) (hN1 : 1 ≤ N) (hN : N ≤ 20000) : AM sc m_M_run 5 [.ref 50, .long (lZ (N : Int))] (hp A q D t) (some (.int (if N < 2 ^ x_nc D then 1 else if bsM D (min N (2 ^ x_nc D)) = none then 2 else 0))) (hp A q (x_s_pr (x_s_pn D (bsM D (min N (2 ^ x_nc D)))) (decide (2 ^ x_nc D ≤ N))) (bT D (x_mu D) t (min N (2 ^ x_nc D)))) := by
  refine AM.of (by decide) (Nat.le_of_ble_eq_true rfl) ?_
  show AW sc m_M_run 5 0 [some (.ref 50), some (.long (lZ (N : Int))), none, none] [] _ _ _
  have b3 := k.1.2.2.1
  have h14 := p14 b3
  obtain ⟨Z, hZ⟩ : ∃ Z, bsM D (min N (2 ^ x_nc D)) = Z := ⟨_, rfl⟩
  have g := c_M_best sc A q D t N k hN
  have e0 := pI_eq (o := Z) (fun m h => by have := bsM_lt k.1 (hZ.trans h); omega)
  rw [hZ] at g
  rw [hZ]
  obtain ⟨T, hT⟩ : ∃ T, bT D (x_mu D) t (min N (2 ^ x_nc D)) = T := ⟨_, rfl⟩
  rw [hT] at g
  rw [hT]
  obtain ⟨S, hS⟩ : ∃ S, 2 ^ x_nc D = S := ⟨_, rfl⟩
  rw [hS] at h14
  rw [hS]
  refine aw_lload_n 1 q_M_run_0 rfl rfl ?_
  refine aw_lconst (lZ 1) q_M_run_1 rfl ?_
  refine aw_ldc2 (lZ (20000)) q_M_run_2 (am_in4 (i := 13) rfl rfl) ?_
  refine aw_S3 q_M_run_5 st_M_72 (by omega) (Nat.le_of_ble_eq_true rfl) (c_M_in _ _ _ _ _) ?_
  refine aw_if_ne 13 q_M_run_8 rfl (fun c8 => ?_) (fun c8 => ?_)
  · skip
    refine aw_aload_n 0 q_M_run_13 rfl rfl ?_
    refine aw_aload_n 0 q_M_run_14 rfl rfl ?_
    refine aw_lload_n 1 q_M_run_15 rfl rfl ?_
    refine aw_V1 q_M_run_16 st_M_142 rfl (by omega) (Nat.le_of_ble_eq_true rfl) g ?_
    refine wp_M_16 _ q_M_run_19 fl_M_47 ?_
    refine aw_lload_n 1 q_M_run_22 rfl rfl ?_
    refine aw_lconst (lZ 1) q_M_run_23 rfl ?_
    refine aw_aload_n 0 q_M_run_24 rfl rfl ?_
    refine aw_get 4 q_M_run_25 fl_M_84 rfl rfl ?_
    rw [xg_nc_pn]
    refine aw_lshl q_M_run_28 ?_
    rw [l_pow b3, hS]
    refine aw_lcmp_lt 37 q_M_run_29 q_M_run_30 rfl (fun c29 => ?_) (fun c29 => ?_)
    · skip
      have ha := (lZ_lt (a := (N : Int)) (b := (S : Int)) (by omega) (by omega)).mp c29
      have ha2 : decide (S ≤ N) = false := by simp; omega
      refine aw_iconst 0 q_M_run_37 rfl ?_
      refine aw_istore_n 3 q_M_run_38 rfl rfl rfl ?_
      refine aw_aload_n 0 q_M_run_39 rfl rfl ?_
      refine aw_iload_n 3 q_M_run_40 rfl rfl ?_
      refine wp_M_18 false q_M_run_41 fl_M_66 ?_
      refine aw_iload_n 3 q_M_run_44 rfl rfl ?_
      refine aw_if_ne 52 q_M_run_45 rfl (fun c45 => ?_) (fun c45 => ?_)
      · skip
        refine aw_aload_n 0 q_M_run_52 rfl rfl ?_
        refine aw_get 16 q_M_run_53 fl_M_47 rfl rfl ?_
        simp only [xg_pn_pr, xg_pn_pn]
        refine aw_iconst (-1) q_M_run_56 rfl ?_
        refine aw_icmp_ne 64 q_M_run_57 rfl (fun c57 => ?_) (fun c57 => ?_)
        · skip
          refine aw_iconst 0 q_M_run_64 rfl ?_
          exact absurd rfl c45
        · skip
          refine aw_iconst 2 q_M_run_60 rfl ?_
          refine aw_goto 65 q_M_run_61 rfl ?_
          exact absurd rfl c45
      · skip
        refine aw_iconst 1 q_M_run_48 rfl ?_
        refine aw_goto 65 q_M_run_49 rfl ?_
        exact aw_iret .int q_M_run_65 rfl rfl (by rw [if_pos (by omega)]) (by rw [ha2])
    · skip
      have ha := mt (lZ_lt (a := (N : Int)) (b := (S : Int)) (by omega) (by omega)).mpr c29
      have ha2 : decide (S ≤ N) = true := by simp; omega
      refine aw_iconst 1 q_M_run_33 rfl ?_
      refine aw_goto 38 q_M_run_34 rfl ?_
      refine aw_istore_n 3 q_M_run_38 rfl rfl rfl ?_
      refine aw_aload_n 0 q_M_run_39 rfl rfl ?_
      refine aw_iload_n 3 q_M_run_40 rfl rfl ?_
      refine wp_M_18 true q_M_run_41 fl_M_66 ?_
      refine aw_iload_n 3 q_M_run_44 rfl rfl ?_
      refine aw_if_ne 52 q_M_run_45 rfl (fun c45 => ?_) (fun c45 => ?_)
      · skip
        refine aw_aload_n 0 q_M_run_52 rfl rfl ?_
        refine aw_get 16 q_M_run_53 fl_M_47 rfl rfl ?_
        simp only [xg_pn_pr, xg_pn_pn]
        refine aw_iconst (-1) q_M_run_56 rfl ?_
        refine aw_icmp_ne 64 q_M_run_57 rfl (fun c57 => ?_) (fun c57 => ?_)
        · skip
          refine aw_iconst 0 q_M_run_64 rfl ?_
          exact aw_iret .int q_M_run_65 rfl rfl (by rw [if_neg (by omega), if_neg (mt e0.mpr c57)]) (by rw [ha2])
        · skip
          refine aw_iconst 2 q_M_run_60 rfl ?_
          refine aw_goto 65 q_M_run_61 rfl ?_
          exact aw_iret .int q_M_run_65 rfl rfl (by rw [if_neg (by omega), if_pos (e0.mp c57)]) (by rw [ha2])
      · skip
        refine aw_iconst 1 q_M_run_48 rfl ?_
        refine aw_goto 65 q_M_run_49 rfl ?_
        exact absurd c45 (by decide)
  · skip
    exact absurd (zI_0.mp c8) (by rw [inN (by omega) (by omega) (by omega)]; simp; omega)
