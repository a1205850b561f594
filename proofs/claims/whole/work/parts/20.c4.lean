/-! CONTRACTS 4: bounds by prices -/
theorem lZ_div {a c : Int} (ha : 0 ≤ a) (ha2 : a < 4611686018427387904) (hc : 0 < c) (hc2 : c < 4611686018427387904) : lZ a / lZ c = lZ (a / c) := by
  obtain ⟨n, rfl⟩ := Int.eq_ofNat_of_zero_le ha
  obtain ⟨k, rfl⟩ := Int.eq_ofNat_of_zero_le (Int.le_of_lt hc)
  rw [lZ_n, lZ_n, pk_lDiv (by omega) (by omega) (by omega)]
  rfl
/-- what a choice is worth at a price p by q, in q-th parts -/
def mpv (A : ST) (p u : Int) (c : Nat) : Int := x_wo A c * u - p * (x_co A c - sw A c (x_jt A c))
def mpt (A : ST) (tt : Nat) (p u : Int) : Nat → Int
  | 0 => 0
  | i + 1 => if x_th A i = tt then (if mpv A p u i < mpt A tt p u i then mpt A tt p u i else mpv A p u i) else mpt A tt p u i
def pq (p u : Int) : Prop := 0 ≤ p ∧ p ≤ 1000000 ∧ 1 ≤ u ∧ u ≤ 1000000
theorem mpv_bd {A : ST} (b : bd A) {p u : Int} (h : pq p u) (c : Nat) : -100000000000000 ≤ mpv A p u c ∧ mpv A p u c ≤ 100000000000000 := by
  have h1 := b.2.2.2.2.2.2.2.2.1 c
  have h2 := b.2.2.2.2.2.2.2.1 c
  have h3 := sw_bd b c (x_jt A c)
  obtain ⟨p1, p2, u1, u2⟩ := h
  unfold mpv
  have hz : -14000000 ≤ x_co A c - sw A c (x_jt A c) ∧ x_co A c - sw A c (x_jt A c) ≤ 1000000 := by omega
  generalize x_co A c - sw A c (x_jt A c) = z at *
  generalize x_wo A c = w at *
  have e1 : 0 ≤ w * u := Int.mul_nonneg h1.1 (by omega)
  have e2 : w * u ≤ 1000000 * 1000000 := Int.mul_le_mul h1.2 u2 (by omega) (by omega)
  have e3 : p * z ≤ p * 1000000 := Int.mul_le_mul_of_nonneg_left hz.2 p1
  have e4 : p * (-14000000) ≤ p * z := Int.mul_le_mul_of_nonneg_left hz.1 p1
  omega
theorem mpt_bd {A : ST} (b : bd A) {p u : Int} (h : pq p u) (tt : Nat) : ∀ i, 0 ≤ mpt A tt p u i ∧ mpt A tt p u i ≤ 100000000000000
  | 0 => by simp [mpt]
  | i + 1 => by
    have h0 := mpt_bd b h tt i
    have h1 := mpv_bd b h i
    unfold mpt
    split
    · split <;> omega
    · exact h0
theorem mpt_f {A : ST} {tt i : Nat} {p u : Int} (h : ¬ x_th A i = tt) : mpt A tt p u (i + 1) = mpt A tt p u i := by simp only [mpt, if_neg h]
theorem mpt_t {A : ST} (b : bd A) {p u : Int} (hp : pq p u) {tt i : Nat} (h : x_th A i = tt) : (if lZ (mpv A p u i) < lZ (mpt A tt p u i) then lZ (mpt A tt p u i) else lZ (mpv A p u i)) = lZ (mpt A tt p u (i + 1)) := by
  have h1 := mpt_bd b hp tt i
  have h2 := mpv_bd b hp i
  simp only [mpt, if_pos h]
  by_cases c : mpv A p u i < mpt A tt p u i
  · rw [if_pos c, if_pos ((lZ_lt (by omega) (by omega)).mpr c)]
  · rw [if_neg c, if_neg (fun z => c ((lZ_lt (by omega) (by omega)).mp z))]
theorem mpv_eq (A : ST) (p u : Int) (c : Nat) : lZ (x_wo A c) * lZ u - lZ p * (lZ (x_co A c) - lZ (sw A c (x_jt A c))) = lZ (mpv A p u c) := by
  rw [lZ_sub, lZ_mul, lZ_mul, lZ_sub]
  rfl
theorem l_N_mostPartsOf (sc : am_S) (A : ST) (q : QS) (D : ST) (t : TS) (tt : Nat) (p u : Int) (b : bd A) (htt : tt < 12) (hpq : pq p u) : ∀ (n i : Nat), x_nc A - i = n → i ≤ x_nc A →  AW sc m_N_mostPartsOf 2 6 [some (.ref 47), some (.int (nI tt)), some (.long (lZ p)), none, some (.long (lZ u)), none, some (.long (lZ (mpt A tt p u i))), none, some (.int (nI i)), none, none] [] (hp A q D t) (some (.long (lZ (mpt A tt p u (x_nc A))))) (hp A q D t) := by
  intro n
  induction n using Nat.strongRecOn with
  | _ n ih =>
    intro i hn hi
    have b3 := b.2.2.1
    have b4 := b.2.2.2.1 i
    refine aw_iload q_N_mostPartsOf_6 rfl ?_
    refine aw_aload_n 0 q_N_mostPartsOf_8 rfl rfl ?_
    refine aw_get 0 q_N_mostPartsOf_9 fl_N_7 rfl rfl ?_
    refine aw_get 5 q_N_mostPartsOf_12 fl_N_34 rfl rfl ?_
    refine aw_icmp_ge 85 q_N_mostPartsOf_15 rfl (fun c15 => ?_) (fun c15 => ?_)
    · skip
      refine aw_lload q_N_mostPartsOf_85 rfl ?_
      exact aw_lret q_N_mostPartsOf_87 rfl (by rw [show i = x_nc A from Nat.le_antisymm hi (nge_ge c15 (by omega) (by omega))]) rfl
    · skip
      have hlt : i < x_nc A := nge_lt c15 (by omega) (by omega)
      refine aw_aload_n 0 q_N_mostPartsOf_18 rfl rfl ?_
      refine aw_get 0 q_N_mostPartsOf_19 fl_N_7 rfl rfl ?_
      refine aw_get 6 q_N_mostPartsOf_22 fl_N_53 rfl rfl ?_
      refine aw_iload q_N_mostPartsOf_25 rfl ?_
      refine aw_ialdN q_N_mostPartsOf_27 rfl (by omega) rfl ?_
      refine aw_iload_n 1 q_N_mostPartsOf_28 rfl rfl ?_
      refine aw_icmp_ne 79 q_N_mostPartsOf_29 rfl (fun c29 => ?_) (fun c29 => ?_)
      · skip
        first | refine aw_iinc _ q_N_mostPartsOf_79 rfl (am_inc _) rfl rfl ?_ | refine aw_iinc _ q_N_mostPartsOf_79 rfl rfl rfl rfl ?_
        refine aw_goto 6 q_N_mostPartsOf_82 rfl ?_
        refine aw_kill [9] ?_
        first
          | (have h9 := nI_ne (by omega) (by omega) c29; rw [← mpt_f h9]; exact ih _ (by omega) (i + 1) rfl (by omega))
          | (have h9 := nI_eq' (by omega) (by omega) c29; rw [mpv_eq, mpt_t b hpq h9]; exact ih _ (by omega) (i + 1) rfl (by omega))
      · skip
        refine aw_aload_n 0 q_N_mostPartsOf_32 rfl rfl ?_
        refine aw_get 0 q_N_mostPartsOf_33 fl_N_7 rfl rfl ?_
        refine aw_get 8 q_N_mostPartsOf_36 fl_N_37 rfl rfl ?_
        refine aw_iload q_N_mostPartsOf_39 rfl ?_
        refine aw_laldN q_N_mostPartsOf_41 rfl (by omega) rfl ?_
        refine aw_aload_n 0 q_N_mostPartsOf_42 rfl rfl ?_
        refine aw_get 0 q_N_mostPartsOf_43 fl_N_7 rfl rfl ?_
        refine aw_iload q_N_mostPartsOf_46 rfl ?_
        refine aw_V1 q_N_mostPartsOf_48 st_N_57 rfl (by decide) (Nat.le_of_ble_eq_true rfl) (c_W_savesOfAllJoins _ _ _ _ _ _ b (by omega)) ?_
        refine aw_lsub q_N_mostPartsOf_51 ?_
        refine aw_lstore q_N_mostPartsOf_52 rfl rfl ?_
        refine aw_lload q_N_mostPartsOf_54 rfl ?_
        refine aw_aload_n 0 q_N_mostPartsOf_56 rfl rfl ?_
        refine aw_get 0 q_N_mostPartsOf_57 fl_N_7 rfl rfl ?_
        refine aw_get 9 q_N_mostPartsOf_60 fl_N_40 rfl rfl ?_
        refine aw_iload q_N_mostPartsOf_63 rfl ?_
        refine aw_laldN q_N_mostPartsOf_65 rfl (by omega) rfl ?_
        refine aw_lload q_N_mostPartsOf_66 rfl ?_
        refine aw_lmul q_N_mostPartsOf_68 ?_
        refine aw_lload_n 2 q_N_mostPartsOf_69 rfl rfl ?_
        refine aw_lload q_N_mostPartsOf_70 rfl ?_
        refine aw_lmul q_N_mostPartsOf_72 ?_
        refine aw_lsub q_N_mostPartsOf_73 ?_
        refine aw_maxL q_N_mostPartsOf_74 (am_in2 (i := 204) rfl rfl) (by decide) (Nat.le_of_ble_eq_true rfl) ?_
        refine aw_lstore q_N_mostPartsOf_77 rfl rfl ?_
        first | refine aw_iinc _ q_N_mostPartsOf_79 rfl (am_inc _) rfl rfl ?_ | refine aw_iinc _ q_N_mostPartsOf_79 rfl rfl rfl rfl ?_
        refine aw_goto 6 q_N_mostPartsOf_82 rfl ?_
        refine aw_kill [9] ?_
        first
          | (have h9 := nI_ne (by omega) (by omega) c29; rw [← mpt_f h9]; exact ih _ (by omega) (i + 1) rfl (by omega))
          | (have h9 := nI_eq' (by omega) (by omega) c29; rw [mpv_eq, mpt_t b hpq h9]; exact ih _ (by omega) (i + 1) rfl (by omega))
theorem c_N_mostPartsOf (sc : am_S) (A : ST) (q : QS) (D : ST) (t : TS) (tt : Nat) (p u : Int) (b : bd A) (htt : tt < 12) (hpq : pq p u) : AM sc m_N_mostPartsOf 2 [.ref 47, .int (nI tt), .long (lZ p), .long (lZ u)] (hp A q D t) (some (.long (lZ (mpt A tt p u (x_nc A))))) (hp A q D t) := by
  refine AM.of (by decide) (Nat.le_of_ble_eq_true rfl) ?_
  show AW sc m_N_mostPartsOf 2 0 [some (.ref 47), some (.int (nI tt)), some (.long (lZ p)), none, some (.long (lZ u)), none, none, none, none, none, none] [] _ _ _
  refine aw_lconst (lZ 0) q_N_mostPartsOf_0 rfl ?_
  refine aw_lstore q_N_mostPartsOf_1 rfl rfl ?_
  refine aw_iconst 0 q_N_mostPartsOf_3 rfl ?_
  refine aw_istore q_N_mostPartsOf_4 rfl rfl ?_
  exact l_N_mostPartsOf sc A q D t tt p u b htt hpq _ 0 rfl (by omega)
def bpn (A : ST) (p u ce : Int) (i : Nat) : Int := ce * p + sm i (fun tt => mpt A tt p u (x_nc A))
def bpr (A : ST) (p u ce : Int) : Int := bpn A p u ce (x_nt A) / u
def ceo (ce : Int) : Prop := 0 ≤ ce ∧ ce ≤ 2000000000
theorem bpn_bd {A : ST} (b : bd A) {p u ce : Int} (h : pq p u) (hc : ceo ce) {i : Nat} (hi : i ≤ 12) : 0 ≤ bpn A p u ce i ∧ bpn A p u ce i ≤ 10000000000000000 := by
  have h1 := sm_le (n := i) (f := fun tt => mpt A tt p u (x_nc A)) (a := 0) (b := 100000000000000) (fun tt _ => mpt_bd b h tt _)
  obtain ⟨p1, p2, u1, u2⟩ := h
  have e1 : 0 ≤ ce * p := Int.mul_nonneg hc.1 p1
  have e2 : ce * p ≤ 2000000000 * 1000000 := Int.mul_le_mul hc.2 p2 p1 (by omega)
  unfold bpn
  omega
theorem bpr_bd {A : ST} (b : bd A) {p u ce : Int} (h : pq p u) (hc : ceo ce) : 0 ≤ bpr A p u ce ∧ bpr A p u ce ≤ 10000000000000000 := by
  have h1 := bpn_bd b h hc b.2.1
  have h2 := h.2.2.1
  unfold bpr
  exact ⟨Int.ediv_nonneg h1.1 (by omega), Int.le_trans (Int.ediv_le_self _ h1.1) h1.2⟩
theorem l_N_byPrice (sc : am_S) (A : ST) (q : QS) (D : ST) (t : TS) (p u ce : Int) (b : bd A) (hpq : pq p u) (hce : ceo ce) : ∀ (n i : Nat), x_nt A - i = n → i ≤ x_nt A →  AW sc m_N_byPrice 3 9 [some (.ref 47), some (.long (lZ p)), none, some (.long (lZ u)), none, some (.long (lZ ce)), none, some (.long (lZ (bpn A p u ce i))), none, some (.int (nI i))] [] (hp A q D t) (some (.long (lZ (bpr A p u ce)))) (hp A q D t) := by
  intro n
  induction n using Nat.strongRecOn with
  | _ n ih =>
    intro i hn hi
    have b2 := b.2.1
    have hu := hpq.2.2
    refine aw_iload q_N_byPrice_9 rfl ?_
    refine aw_aload_n 0 q_N_byPrice_11 rfl rfl ?_
    refine aw_get 0 q_N_byPrice_12 fl_N_7 rfl rfl ?_
    refine aw_get 2 q_N_byPrice_15 fl_N_13 rfl rfl ?_
    refine aw_icmp_ge 40 q_N_byPrice_18 rfl (fun c18 => ?_) (fun c18 => ?_)
    · skip
      refine aw_lload_n 3 q_N_byPrice_40 rfl rfl ?_
      refine aw_lconst (lZ 0) q_N_byPrice_41 rfl ?_
      refine aw_lcmp_le 53 q_N_byPrice_42 q_N_byPrice_43 rfl (fun c42 => ?_) (fun c42 => ?_)
      · skip
        exact absurd ((lZ_le (by omega) (by omega)).mp c42) (by omega)
      · skip
        have hne : ¬ lZ u = 0 := fun z => c42 (by rw [z]; decide)
        refine aw_lload q_N_byPrice_46 rfl ?_
        refine aw_lload_n 3 q_N_byPrice_48 rfl rfl ?_
        refine aw_ldiv q_N_byPrice_49 hne ?_
        refine aw_goto 54 q_N_byPrice_50 rfl ?_
        exact aw_lret q_N_byPrice_54 rfl (by rw [show i = x_nt A from Nat.le_antisymm hi (nge_ge c18 (by omega) (by omega)), lZ_div (bpn_bd b hpq hce b2).1 (by have := (bpn_bd b hpq hce b2).2; omega) (by omega) (by omega)]; rfl) rfl
    · skip
      have hlt : i < x_nt A := nge_lt c18 (by omega) (by omega)
      refine aw_lload q_N_byPrice_21 rfl ?_
      refine aw_aload_n 0 q_N_byPrice_23 rfl rfl ?_
      refine aw_iload q_N_byPrice_24 rfl ?_
      refine aw_lload_n 1 q_N_byPrice_26 rfl rfl ?_
      refine aw_lload_n 3 q_N_byPrice_27 rfl rfl ?_
      refine aw_V3 q_N_byPrice_28 st_N_49 rfl (by decide) (Nat.le_of_ble_eq_true rfl) (c_N_mostPartsOf _ _ _ _ _ _ _ _ b (by omega) hpq) ?_
      refine aw_ladd q_N_byPrice_31 ?_
      refine aw_lstore q_N_byPrice_32 rfl rfl ?_
      first | refine aw_iinc _ q_N_byPrice_34 rfl (am_inc _) rfl rfl ?_ | refine aw_iinc _ q_N_byPrice_34 rfl rfl rfl rfl ?_
      refine aw_goto 9 q_N_byPrice_37 rfl ?_
      rw [lZ_add, show bpn A p u ce i + mpt A i p u (x_nc A) = bpn A p u ce (i + 1) from by simp only [bpn, sm]; omega]
      exact ih _ (by omega) (i + 1) rfl (by omega)
theorem c_N_byPrice (sc : am_S) (A : ST) (q : QS) (D : ST) (t : TS) (p u ce : Int) (b : bd A) (hpq : pq p u) (hce : ceo ce) : AM sc m_N_byPrice 3 [.ref 47, .long (lZ p), .long (lZ u), .long (lZ ce)] (hp A q D t) (some (.long (lZ (bpr A p u ce)))) (hp A q D t) := by
  refine AM.of (by decide) (Nat.le_of_ble_eq_true rfl) ?_
  show AW sc m_N_byPrice 3 0 [some (.ref 47), some (.long (lZ p)), none, some (.long (lZ u)), none, some (.long (lZ ce)), none, none, none, none] [] _ _ _
  refine aw_lload q_N_byPrice_0 rfl ?_
  refine aw_lload_n 1 q_N_byPrice_2 rfl rfl ?_
  refine aw_lmul q_N_byPrice_3 ?_
  refine aw_lstore q_N_byPrice_4 rfl rfl ?_
  refine aw_iconst 0 q_N_byPrice_6 rfl ?_
  refine aw_istore q_N_byPrice_7 rfl rfl ?_
  rw [lZ_mul, show ce * p = bpn A p u ce 0 from by simp only [bpn, sm]; omega]
  exact l_N_byPrice sc A q D t p u ce b hpq hce _ 0 rfl (by omega)
def bps (A : ST) (ce : Int) : Nat → Int
  | 0 => bpr A 0 1 ce
  | i + 1 => if 0 < x_co A i then (if bpr A (x_wo A i) (x_co A i) ce < bps A ce i then bpr A (x_wo A i) (x_co A i) ce else bps A ce i) else bps A ce i
theorem pq_c {A : ST} (b : bd A) {c : Nat} (h : 0 < x_co A c) : pq (x_wo A c) (x_co A c) := by
  have h1 := b.2.2.2.2.2.2.2.2.1 c
  have h2 := b.2.2.2.2.2.2.2.1 c
  unfold pq
  omega
theorem pq_0 : pq 0 1 := by unfold pq; omega
theorem bps_bd {A : ST} (b : bd A) {ce : Int} (hc : ceo ce) : ∀ i, 0 ≤ bps A ce i ∧ bps A ce i ≤ 10000000000000000
  | 0 => bpr_bd b pq_0 hc
  | i + 1 => by
    have h0 := bps_bd b hc i
    unfold bps
    split
    · next h =>
      have := bpr_bd b (pq_c b h) hc
      split <;> omega
    · exact h0
theorem bps_f {A : ST} {ce : Int} {i : Nat} (h : ¬ 0 < x_co A i) : bps A ce (i + 1) = bps A ce i := by simp only [bps, if_neg h]
theorem bps_t {A : ST} (b : bd A) {ce : Int} (hc : ceo ce) {i : Nat} (h : 0 < x_co A i) : (if lZ (bpr A (x_wo A i) (x_co A i) ce) < lZ (bps A ce i) then lZ (bpr A (x_wo A i) (x_co A i) ce) else lZ (bps A ce i)) = lZ (bps A ce (i + 1)) := by
  have h1 := bps_bd b hc i
  have h2 := bpr_bd b (pq_c b h) hc
  simp only [bps, if_pos h]
  by_cases c : bpr A (x_wo A i) (x_co A i) ce < bps A ce i
  · rw [if_pos c, if_pos ((lZ_lt (by omega) (by omega)).mpr c)]
  · rw [if_neg c, if_neg (fun z => c ((lZ_lt (by omega) (by omega)).mp z))]
def bsum (A : ST) (i : Nat) : Int := sm i (x_bu A)
theorem bsum_bd {A : ST} (b : bd A) {i : Nat} (hi : i ≤ 6) : 0 ≤ bsum A i ∧ bsum A i ≤ 1200000000 := by
  have h1 := sm_le (n := i) (f := x_bu A) (a := 0) (b := 200000000) (fun y _ => b.2.2.2.2.2.2.2.2.2.2.1 y)
  unfold bsum
  omega
theorem l_N_byPrices2 (sc : am_S) (A : ST) (q : QS) (D : ST) (t : TS) (mo ce : Int) (b : bd A) (hce : ceo ce) : ∀ (n i : Nat), x_nc A - i = n → i ≤ x_nc A →  AW sc m_N_byPrices 4 48 [some (.ref 47), some (.long (lZ mo)), none, some (.long (lZ ce)), none, some (.long (lZ (bps A ce i))), none, some (.int (nI i)), none, none] [] (hp A q D t) (some (.long (lZ (bps A ce (x_nc A))))) (hp A q D t) := by
  intro n
  induction n using Nat.strongRecOn with
  | _ n ih =>
    intro i hn hi
    have b3 := b.2.2.1
    have b8 := b.2.2.2.2.2.2.2.1 i
    refine aw_iload q_N_byPrices_48 rfl ?_
    refine aw_aload_n 0 q_N_byPrices_50 rfl rfl ?_
    refine aw_get 0 q_N_byPrices_51 fl_N_7 rfl rfl ?_
    refine aw_get 5 q_N_byPrices_54 fl_N_34 rfl rfl ?_
    refine aw_icmp_ge 117 q_N_byPrices_57 rfl (fun c57 => ?_) (fun c57 => ?_)
    · skip
      refine aw_lload q_N_byPrices_117 rfl ?_
      exact aw_lret q_N_byPrices_119 rfl (by rw [show i = x_nc A from Nat.le_antisymm hi (nge_ge c57 (by omega) (by omega))]) rfl
    · skip
      have hlt : i < x_nc A := nge_lt c57 (by omega) (by omega)
      refine aw_aload_n 0 q_N_byPrices_60 rfl rfl ?_
      refine aw_get 0 q_N_byPrices_61 fl_N_7 rfl rfl ?_
      refine aw_get 8 q_N_byPrices_64 fl_N_37 rfl rfl ?_
      refine aw_iload q_N_byPrices_67 rfl ?_
      refine aw_laldN q_N_byPrices_69 rfl (by omega) rfl ?_
      refine aw_lconst (lZ 0) q_N_byPrices_70 rfl ?_
      refine aw_lcmp_le 111 q_N_byPrices_71 q_N_byPrices_72 rfl (fun c71 => ?_) (fun c71 => ?_)
      · skip
        first | refine aw_iinc _ q_N_byPrices_111 rfl (am_inc _) rfl rfl ?_ | refine aw_iinc _ q_N_byPrices_111 rfl rfl rfl rfl ?_
        refine aw_goto 48 q_N_byPrices_114 rfl ?_
        refine aw_kill [8] ?_
        first
          | (have h9 : ¬ 0 < x_co A i := by have := (lZ_le (a := x_co A i) (b := 0) (by omega) (by omega)).mp c71; omega
             rw [← bps_f h9]; exact ih _ (by omega) (i + 1) rfl (by omega))
          | (rw [bps_t b hce hpos]; exact ih _ (by omega) (i + 1) rfl (by omega))
      · skip
        have hpos : 0 < x_co A i := by have := mt (lZ_le (a := x_co A i) (b := 0) (by omega) (by omega)).mpr c71; omega
        refine aw_aload_n 0 q_N_byPrices_75 rfl rfl ?_
        refine aw_aload_n 0 q_N_byPrices_76 rfl rfl ?_
        refine aw_get 0 q_N_byPrices_77 fl_N_7 rfl rfl ?_
        refine aw_get 9 q_N_byPrices_80 fl_N_40 rfl rfl ?_
        refine aw_iload q_N_byPrices_83 rfl ?_
        refine aw_laldN q_N_byPrices_85 rfl (by omega) rfl ?_
        refine aw_aload_n 0 q_N_byPrices_86 rfl rfl ?_
        refine aw_get 0 q_N_byPrices_87 fl_N_7 rfl rfl ?_
        refine aw_get 8 q_N_byPrices_90 fl_N_37 rfl rfl ?_
        refine aw_iload q_N_byPrices_93 rfl ?_
        refine aw_laldN q_N_byPrices_95 rfl (by omega) rfl ?_
        refine aw_lload_n 3 q_N_byPrices_96 rfl rfl ?_
        refine aw_V3 q_N_byPrices_97 st_N_30 rfl (by decide) (Nat.le_of_ble_eq_true rfl) (c_N_byPrice _ _ _ _ _ _ _ _ b (pq_c b hpos) hce) ?_
        refine aw_lstore q_N_byPrices_100 rfl rfl ?_
        refine aw_lload q_N_byPrices_102 rfl ?_
        refine aw_lload q_N_byPrices_104 rfl ?_
        refine aw_minL q_N_byPrices_106 (am_in2 (i := 205) rfl rfl) (by decide) (Nat.le_of_ble_eq_true rfl) ?_
        refine aw_lstore q_N_byPrices_109 rfl rfl ?_
        first | refine aw_iinc _ q_N_byPrices_111 rfl (am_inc _) rfl rfl ?_ | refine aw_iinc _ q_N_byPrices_111 rfl rfl rfl rfl ?_
        refine aw_goto 48 q_N_byPrices_114 rfl ?_
        refine aw_kill [8] ?_
        first
          | (have h9 : ¬ 0 < x_co A i := by have := (lZ_le (a := x_co A i) (b := 0) (by omega) (by omega)).mp c71; omega
             rw [← bps_f h9]; exact ih _ (by omega) (i + 1) rfl (by omega))
          | (rw [bps_t b hce hpos]; exact ih _ (by omega) (i + 1) rfl (by omega))
theorem l_N_byPrices1 (sc : am_S) (A : ST) (q : QS) (D : ST) (t : TS) (mo : Int) (b : bd A) (hmo : 0 ≤ mo ∧ mo ≤ 1000) : ∀ (n i : Nat), x_ny A - i = n → i ≤ x_ny A →  AW sc m_N_byPrices 4 5 [some (.ref 47), some (.long (lZ mo)), none, some (.long (lZ (mo + bsum A i))), none, some (.int (nI i)), none, none, none, none] [] (hp A q D t) (some (.long (lZ (bps A (mo + bsum A (x_ny A)) (x_nc A))))) (hp A q D t) := by
  intro n
  induction n using Nat.strongRecOn with
  | _ n ih =>
    intro i hn hi
    have b1 := b.1
    refine aw_iload q_N_byPrices_5 rfl ?_
    refine aw_aload_n 0 q_N_byPrices_7 rfl rfl ?_
    refine aw_get 0 q_N_byPrices_8 fl_N_7 rfl rfl ?_
    refine aw_get 0 q_N_byPrices_11 fl_N_23 rfl rfl ?_
    refine aw_icmp_ge 36 q_N_byPrices_14 rfl (fun c14 => ?_) (fun c14 => ?_)
    · skip
      have he : i = x_ny A := Nat.le_antisymm hi (nge_ge c14 (by omega) (by omega))
      rw [he]
      have hce : ceo (mo + bsum A (x_ny A)) := by have := bsum_bd b b1; unfold ceo; omega
      refine aw_aload_n 0 q_N_byPrices_36 rfl rfl ?_
      refine aw_lconst (lZ 0) q_N_byPrices_37 rfl ?_
      refine aw_lconst (lZ 1) q_N_byPrices_38 rfl ?_
      refine aw_lload_n 3 q_N_byPrices_39 rfl rfl ?_
      refine aw_V3 q_N_byPrices_40 st_N_30 rfl (by decide) (Nat.le_of_ble_eq_true rfl) (c_N_byPrice _ _ _ _ _ _ _ _ b pq_0 hce) ?_
      refine aw_lstore q_N_byPrices_43 rfl rfl ?_
      refine aw_iconst 0 q_N_byPrices_45 rfl ?_
      refine aw_istore q_N_byPrices_46 rfl rfl ?_
      exact l_N_byPrices2 sc A q D t mo _ b hce _ 0 rfl (by omega)
    · skip
      have hlt : i < x_ny A := nge_lt c14 (by omega) (by omega)
      refine aw_lload_n 3 q_N_byPrices_17 rfl rfl ?_
      refine aw_aload_n 0 q_N_byPrices_18 rfl rfl ?_
      refine aw_get 0 q_N_byPrices_19 fl_N_7 rfl rfl ?_
      refine aw_get 1 q_N_byPrices_22 fl_N_26 rfl rfl ?_
      refine aw_iload q_N_byPrices_25 rfl ?_
      refine aw_laldN q_N_byPrices_27 rfl (by omega) rfl ?_
      refine aw_ladd q_N_byPrices_28 ?_
      refine aw_lstore_n 3 q_N_byPrices_29 rfl rfl rfl ?_
      first | refine aw_iinc _ q_N_byPrices_30 rfl (am_inc _) rfl rfl ?_ | refine aw_iinc _ q_N_byPrices_30 rfl rfl rfl rfl ?_
      refine aw_goto 5 q_N_byPrices_33 rfl ?_
      rw [lZ_add, show mo + bsum A i + x_bu A i = mo + bsum A (i + 1) from by simp only [bsum, sm]; omega]
      exact ih _ (by omega) (i + 1) rfl (by omega)
theorem c_N_byPrices (sc : am_S) (A : ST) (q : QS) (D : ST) (t : TS) (mo : Int) (b : bd A) (hmo : 0 ≤ mo ∧ mo ≤ 1000) : AM sc m_N_byPrices 4 [.ref 47, .long (lZ mo)] (hp A q D t) (some (.long (lZ (bps A (mo + bsum A (x_ny A)) (x_nc A))))) (hp A q D t) := by
  refine AM.of (by decide) (Nat.le_of_ble_eq_true rfl) ?_
  show AW sc m_N_byPrices 4 0 [some (.ref 47), some (.long (lZ mo)), none, none, none, none, none, none, none, none] [] _ _ _
  refine aw_lload_n 1 q_N_byPrices_0 rfl rfl ?_
  refine aw_lstore_n 3 q_N_byPrices_1 rfl rfl rfl ?_
  refine aw_iconst 0 q_N_byPrices_2 rfl ?_
  refine aw_istore q_N_byPrices_3 rfl rfl ?_
  have h0 := l_N_byPrices1 sc A q D t mo b hmo _ 0 rfl (by omega)
  rw [show mo + bsum A 0 = mo from by simp only [bsum, sm]; omega] at h0
  exact h0
theorem l_N_byThings (sc : am_S) (A : ST) (q : QS) (D : ST) (t : TS)  (b : bd A) : ∀ (n i : Nat), x_nt A - i = n → i ≤ x_nt A →  AW sc m_N_byThings 3 4 [some (.ref 47), some (.long (lZ (sm i (mw A)))), none, some (.int (nI i))] [] (hp A q D t) (some (.long (lZ (sm (x_nt A) (mw A))))) (hp A q D t) := by
  intro n
  induction n using Nat.strongRecOn with
  | _ n ih =>
    intro i hn hi
    have b2 := b.2.1
    refine aw_iload_n 3 q_N_byThings_4 rfl rfl ?_
    refine aw_aload_n 0 q_N_byThings_5 rfl rfl ?_
    refine aw_get 0 q_N_byThings_6 fl_N_7 rfl rfl ?_
    refine aw_get 2 q_N_byThings_9 fl_N_13 rfl rfl ?_
    refine aw_icmp_ge 32 q_N_byThings_12 rfl (fun c12 => ?_) (fun c12 => ?_)
    · skip
      refine aw_lload_n 1 q_N_byThings_32 rfl rfl ?_
      exact aw_lret q_N_byThings_33 rfl (by rw [show i = x_nt A from Nat.le_antisymm hi (nge_ge c12 (by omega) (by omega))]) rfl
    · skip
      have hlt : i < x_nt A := nge_lt c12 (by omega) (by omega)
      refine aw_lload_n 1 q_N_byThings_15 rfl rfl ?_
      refine aw_aload_n 0 q_N_byThings_16 rfl rfl ?_
      refine aw_get 0 q_N_byThings_17 fl_N_7 rfl rfl ?_
      refine aw_iload_n 3 q_N_byThings_20 rfl rfl ?_
      refine aw_V1 q_N_byThings_21 st_N_19 rfl (by decide) (Nat.le_of_ble_eq_true rfl) (c_W_mostWorth _ _ _ _ _ _ b (by omega)) ?_
      refine aw_ladd q_N_byThings_24 ?_
      refine aw_lstore_n 1 q_N_byThings_25 rfl rfl rfl ?_
      first | refine aw_iinc _ q_N_byThings_26 rfl (am_inc _) rfl rfl ?_ | refine aw_iinc _ q_N_byThings_26 rfl rfl rfl rfl ?_
      refine aw_goto 4 q_N_byThings_29 rfl ?_
      rw [sm_t (f := mw A) (i := i) rfl]
      exact ih _ (by omega) (i + 1) rfl (by omega)
theorem c_N_byThings (sc : am_S) (A : ST) (q : QS) (D : ST) (t : TS)  (b : bd A) : AM sc m_N_byThings 3 [.ref 47] (hp A q D t) (some (.long (lZ (sm (x_nt A) (mw A))))) (hp A q D t) := by
  refine AM.of (by decide) (Nat.le_of_ble_eq_true rfl) ?_
  show AW sc m_N_byThings 3 0 [some (.ref 47), none, none, none] [] _ _ _
  refine aw_lconst (lZ 0) q_N_byThings_0 rfl ?_
  refine aw_lstore_n 1 q_N_byThings_1 rfl rfl rfl ?_
  refine aw_iconst 0 q_N_byThings_2 rfl ?_
  refine aw_istore_n 3 q_N_byThings_3 rfl rfl rfl ?_
  exact l_N_byThings sc A q D t b _ 0 rfl (by omega)
