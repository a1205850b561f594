/-! CONTRACTS 29: the reference: bounds, price -/
def mvM (D : ST) (p u : Int) (c : Nat) : Int := x_wo D c * u - p * (x_co D c - sm (x_nj D) (svb D c))
def mtM (D : ST) (p u : Int) (tt : Nat) : Nat → Int
  | 0 => 0
  | i + 1 => if x_th D i = tt ∧ mtM D p u tt i < mvM D p u i then mvM D p u i else mtM D p u tt i
theorem svb_bd {D : ST} (jd : jdo D) (c : Nat) : 0 ≤ sm (x_nj D) (svb D c) ∧ sm (x_nj D) (svb D c) ≤ 20000000 := by
  have h := sm_le (n := x_nj D) (f := svb D c) (a := 0) (b := 1000000) (fun i _ => by
    unfold svb
    have := jd.2.2.2 i
    split <;> omega)
  have := jd.1
  omega
theorem mvM_bd {D : ST} (b : bd D) (jd : jdo D) {p u : Int} (h : pq p u) (c : Nat) : -100000000000000 ≤ mvM D p u c ∧ mvM D p u c ≤ 100000000000000 := by
  have h1 := b.2.2.2.2.2.2.2.1 c
  have h2 := b.2.2.2.2.2.2.2.2.1 c
  have h3 := svb_bd jd c
  have h4 : 0 ≤ x_wo D c * u ∧ x_wo D c * u ≤ 1000000000000 := mul_bd h2 ⟨by have := h.2.2.1; omega, h.2.2.2⟩
  have e1 : p * (x_co D c - sm (x_nj D) (svb D c)) = p * x_co D c - p * sm (x_nj D) (svb D c) := Int.mul_sub _ _ _
  have h5 : 0 ≤ p * x_co D c ∧ p * x_co D c ≤ 1000000000000 := mul_bd ⟨h.1, h.2.1⟩ h1
  have h6 : 0 ≤ p * sm (x_nj D) (svb D c) := Int.mul_nonneg h.1 h3.1
  have h7 : p * sm (x_nj D) (svb D c) ≤ 1000000 * 20000000 := Int.mul_le_mul h.2.1 h3.2 h3.1 (by decide)
  unfold mvM
  rw [e1]
  omega
theorem mtM_bd {D : ST} (b : bd D) (jd : jdo D) {p u : Int} (h : pq p u) (tt : Nat) : ∀ i, 0 ≤ mtM D p u tt i ∧ mtM D p u tt i ≤ 100000000000000
  | 0 => by simp [mtM]
  | i + 1 => by
    have h1 := mtM_bd b jd h tt i
    have h2 := mvM_bd b jd h i
    unfold mtM
    split <;> omega
def bpM (D : ST) (p u : Int) (i : Nat) : Int := sm (x_ny D) (fun y => x_bu D y * p) + sm i (fun tt => mtM D p u tt (x_nc D))
def byM (D : ST) (p u : Int) : Int := bpM D p u (x_nt D) / u
theorem bpM_bd {D : ST} (b : bd D) (jd : jdo D) {p u : Int} (h : pq p u) : 0 ≤ bpM D p u (x_nt D) ∧ bpM D p u (x_nt D) ≤ 10000000000000000 := by
  have h1 := sm_le (n := x_ny D) (f := fun y => x_bu D y * p) (a := 0) (b := 200000000000000) (fun i _ => by
    have h2 := b.2.2.2.2.2.2.2.2.2.2.1 i
    refine ⟨Int.mul_nonneg h2.1 h.1, ?_⟩
    have : x_bu D i * p ≤ 200000000 * 1000000 := Int.mul_le_mul h2.2 h.2.1 h.1 (by decide)
    exact this)
  have h3 := sm_le (n := x_nt D) (f := fun tt => mtM D p u tt (x_nc D)) (a := 0) (b := 100000000000000) (fun i _ => mtM_bd b jd h i _)
  have b1 := b.1
  have b2 := b.2.1
  unfold bpM
  omega
theorem byM_bd {D : ST} (b : bd D) (jd : jdo D) {p u : Int} (h : pq p u) : 0 ≤ byM D p u ∧ byM D p u ≤ 10000000000000000 := by
  have h1 := bpM_bd b jd h
  unfold byM
  have h2 := h.2.2.1
  refine ⟨Int.ediv_nonneg h1.1 (by omega), ?_⟩
  exact Int.le_trans (Int.ediv_le_self _ h1.1) h1.2
theorem sm_t2 {f : Nat → Int} {i : Nat} {s x : Int} (h : f i = x) : lZ (s + sm i f) + lZ x = lZ (s + sm (i + 1) f) := by
  rw [lZ_add]; simp only [sm, h]; congr 1; omega
theorem l_M_byPrice3 (sc : am_S) (A : ST) (q : QS) (D : ST) (t : TS) (p u s : Int) (tt : Nat) (b : bd D) (jd : jdo D) (hpq : pq p u) (htt : tt < 12) (r : Option Value) (hz : List am_C) (kk : AW sc m_M_byPrice 1 132 [some (.ref 50), some (.long (lZ p)), none, some (.long (lZ u)), none, some (.long (lZ (s + mtM D p u tt (x_nc D)))), none, some (.int (nI tt)), none, none, none, none, none] [] (hp A q D t) r hz) : ∀ (n i : Nat), x_nc D - i = n → i ≤ x_nc D →  AW sc m_M_byPrice 1 53 [some (.ref 50), some (.long (lZ p)), none, some (.long (lZ u)), none, some (.long (lZ s)), none, some (.int (nI tt)), some (.long (lZ (mtM D p u tt i))), none, some (.int (nI i)), none, none] [] (hp A q D t) (r) hz := by
  intro n
  induction n using Nat.strongRecOn with
  | _ n ih =>
    intro i hn hi
    have b3 := b.2.2.1
    have b4 := b.2.2.2.1 i
    have hv := mvM_bd b jd hpq i
    have hm := mtM_bd b jd hpq tt i
    refine aw_iload q_M_byPrice_53 rfl ?_
    refine aw_aload_n 0 q_M_byPrice_55 rfl rfl ?_
    refine aw_get 4 q_M_byPrice_56 fl_M_84 rfl rfl ?_
    refine aw_icmp_ge 125 q_M_byPrice_59 rfl (fun c59 => ?_) (fun c59 => ?_)
    · skip
      refine aw_lload q_M_byPrice_125 rfl ?_
      refine aw_lload q_M_byPrice_127 rfl ?_
      refine aw_ladd q_M_byPrice_129 ?_
      rw [lZ_add, show i = x_nc D from Nat.le_antisymm hi (nge_ge c59 (by omega) (by omega))]
      refine aw_lstore q_M_byPrice_130 rfl rfl ?_
      exact aw_kill [8, 10] kk
    · skip
      have hlt : i < x_nc D := nge_lt c59 (by omega) (by omega)
      refine aw_aload_n 0 q_M_byPrice_62 rfl rfl ?_
      refine aw_get 8 q_M_byPrice_63 fl_M_26 rfl rfl ?_
      refine aw_iload q_M_byPrice_66 rfl ?_
      refine aw_laldN q_M_byPrice_68 rfl (by omega) rfl ?_
      refine aw_lload_n 3 q_M_byPrice_69 rfl rfl ?_
      refine aw_lmul q_M_byPrice_70 ?_
      refine aw_lload_n 1 q_M_byPrice_71 rfl rfl ?_
      refine aw_aload_n 0 q_M_byPrice_72 rfl rfl ?_
      refine aw_get 7 q_M_byPrice_73 fl_M_22 rfl rfl ?_
      refine aw_iload q_M_byPrice_76 rfl ?_
      refine aw_laldN q_M_byPrice_78 rfl (by omega) rfl ?_
      refine aw_aload_n 0 q_M_byPrice_79 rfl rfl ?_
      refine aw_iload q_M_byPrice_80 rfl ?_
      refine aw_V1 q_M_byPrice_82 st_M_146 rfl (by omega) (Nat.le_of_ble_eq_true rfl) (c_M_savedBy _ _ _ _ _ _ jd (by omega)) ?_
      refine aw_lsub q_M_byPrice_85 ?_
      refine aw_lmul q_M_byPrice_86 ?_
      refine aw_lsub q_M_byPrice_87 ?_
      rw [lZ_sub, lZ_mul, lZ_mul, lZ_sub, show x_wo D i * u - p * (x_co D i - sm (x_nj D) (svb D i)) = mvM D p u i from rfl]
      refine aw_lstore q_M_byPrice_88 rfl rfl ?_
      refine aw_aload_n 0 q_M_byPrice_90 rfl rfl ?_
      refine aw_get 5 q_M_byPrice_91 fl_M_16 rfl rfl ?_
      refine aw_iload q_M_byPrice_94 rfl ?_
      refine aw_ialdN q_M_byPrice_96 rfl (by omega) rfl ?_
      refine aw_iload q_M_byPrice_97 rfl ?_
      refine aw_icmp_ne 115 q_M_byPrice_99 rfl (fun c99 => ?_) (fun c99 => ?_)
      · skip
        refine aw_lload q_M_byPrice_115 rfl ?_
        refine aw_lstore q_M_byPrice_117 rfl rfl ?_
        first | refine aw_iinc _ q_M_byPrice_119 rfl (am_inc _) rfl rfl ?_ | refine aw_iinc _ q_M_byPrice_119 rfl rfl rfl rfl ?_
        refine aw_goto 53 q_M_byPrice_122 rfl ?_
        first
          | (have h9 := nI_ne (by omega) (by omega) c99
             have e9 : mtM D p u tt (i + 1) = mtM D p u tt i := by simp only [mtM, h9, false_and, if_false]
             have g := ih _ (by omega) (i + 1) rfl (by omega)
             rw [e9] at g
             exact aw_kill [11] g)
          | (have h9 := (lZ_le (by omega) (by omega)).mp c106
             have e9 : mtM D p u tt (i + 1) = mtM D p u tt i := by rw [mtM, if_neg (by omega)]
             have g := ih _ (by omega) (i + 1) rfl (by omega)
             rw [e9] at g
             exact aw_kill [11] g)
          | (have h9 := mt (lZ_le (by omega) (by omega)).mpr c106
             have h8 := nI_eq' (by omega) (by omega) c99
             have e9 : mtM D p u tt (i + 1) = mvM D p u i := by rw [mtM, if_pos ⟨h8, by omega⟩]
             have g := ih _ (by omega) (i + 1) rfl (by omega)
             rw [e9] at g
             exact aw_kill [11] g)
      · skip
        refine aw_lload q_M_byPrice_102 rfl ?_
        refine aw_lload q_M_byPrice_104 rfl ?_
        refine aw_lcmp_le 115 q_M_byPrice_106 q_M_byPrice_107 rfl (fun c106 => ?_) (fun c106 => ?_)
        · skip
          refine aw_lload q_M_byPrice_115 rfl ?_
          refine aw_lstore q_M_byPrice_117 rfl rfl ?_
          first | refine aw_iinc _ q_M_byPrice_119 rfl (am_inc _) rfl rfl ?_ | refine aw_iinc _ q_M_byPrice_119 rfl rfl rfl rfl ?_
          refine aw_goto 53 q_M_byPrice_122 rfl ?_
          first
            | (have h9 := nI_ne (by omega) (by omega) c99
               have e9 : mtM D p u tt (i + 1) = mtM D p u tt i := by simp only [mtM, h9, false_and, if_false]
               have g := ih _ (by omega) (i + 1) rfl (by omega)
               rw [e9] at g
               exact aw_kill [11] g)
            | (have h9 := (lZ_le (by omega) (by omega)).mp c106
               have e9 : mtM D p u tt (i + 1) = mtM D p u tt i := by rw [mtM, if_neg (by omega)]
               have g := ih _ (by omega) (i + 1) rfl (by omega)
               rw [e9] at g
               exact aw_kill [11] g)
            | (have h9 := mt (lZ_le (by omega) (by omega)).mpr c106
               have h8 := nI_eq' (by omega) (by omega) c99
               have e9 : mtM D p u tt (i + 1) = mvM D p u i := by rw [mtM, if_pos ⟨h8, by omega⟩]
               have g := ih _ (by omega) (i + 1) rfl (by omega)
               rw [e9] at g
               exact aw_kill [11] g)
        · skip
          refine aw_lload q_M_byPrice_110 rfl ?_
          refine aw_goto 117 q_M_byPrice_112 rfl ?_
          refine aw_lstore q_M_byPrice_117 rfl rfl ?_
          first | refine aw_iinc _ q_M_byPrice_119 rfl (am_inc _) rfl rfl ?_ | refine aw_iinc _ q_M_byPrice_119 rfl rfl rfl rfl ?_
          refine aw_goto 53 q_M_byPrice_122 rfl ?_
          first
            | (have h9 := nI_ne (by omega) (by omega) c99
               have e9 : mtM D p u tt (i + 1) = mtM D p u tt i := by simp only [mtM, h9, false_and, if_false]
               have g := ih _ (by omega) (i + 1) rfl (by omega)
               rw [e9] at g
               exact aw_kill [11] g)
            | (have h9 := (lZ_le (by omega) (by omega)).mp c106
               have e9 : mtM D p u tt (i + 1) = mtM D p u tt i := by rw [mtM, if_neg (by omega)]
               have g := ih _ (by omega) (i + 1) rfl (by omega)
               rw [e9] at g
               exact aw_kill [11] g)
            | (have h9 := mt (lZ_le (by omega) (by omega)).mpr c106
               have h8 := nI_eq' (by omega) (by omega) c99
               have e9 : mtM D p u tt (i + 1) = mvM D p u i := by rw [mtM, if_pos ⟨h8, by omega⟩]
               have g := ih _ (by omega) (i + 1) rfl (by omega)
               rw [e9] at g
               exact aw_kill [11] g)
theorem l_M_byPrice2 (sc : am_S) (A : ST) (q : QS) (D : ST) (t : TS) (p u : Int) (b : bd D) (jd : jdo D) (hpq : pq p u) : ∀ (n i : Nat), x_nt D - i = n → i ≤ x_nt D →  AW sc m_M_byPrice 1 38 [some (.ref 50), some (.long (lZ p)), none, some (.long (lZ u)), none, some (.long (lZ (bpM D p u i))), none, some (.int (nI i)), none, none, none, none, none] [] (hp A q D t) (some (.long (lZ (byM D p u)))) (hp A q D t) := by
  intro n
  induction n using Nat.strongRecOn with
  | _ n ih =>
    intro i hn hi
    have b2 := b.2.1
    have hb := bpM_bd b jd hpq
    have hq1 := hpq.2.2.1
    have hq2 := hpq.2.2.2
    have hu : ¬ lZ u = 0 := fun e => by have := (lZ_eq (b := 0) (by omega) (by omega)).mp (e.trans lZ_0.symm); omega
    refine aw_iload q_M_byPrice_38 rfl ?_
    refine aw_aload_n 0 q_M_byPrice_40 rfl rfl ?_
    refine aw_get 1 q_M_byPrice_41 fl_M_76 rfl rfl ?_
    refine aw_icmp_ge 138 q_M_byPrice_44 rfl (fun c44 => ?_) (fun c44 => ?_)
    · skip
      refine aw_lload q_M_byPrice_138 rfl ?_
      refine aw_lload_n 3 q_M_byPrice_140 rfl rfl ?_
      rw [show i = x_nt D from Nat.le_antisymm hi (nge_ge c44 (by omega) (by omega))]
      refine aw_ldiv q_M_byPrice_141 (by assumption) ?_
      exact aw_lret q_M_byPrice_142 rfl (by rw [lZ_div (by omega) (by omega) (by omega) (by omega)]; rfl) rfl
    · skip
      have hlt : i < x_nt D := nge_lt c44 (by omega) (by omega)
      refine aw_lconst (lZ 0) q_M_byPrice_47 rfl ?_
      refine aw_lstore q_M_byPrice_48 rfl rfl ?_
      refine aw_iconst 0 q_M_byPrice_50 rfl ?_
      refine aw_istore q_M_byPrice_51 rfl rfl ?_
      refine l_M_byPrice3 sc A q D t p u (bpM D p u i) i b jd hpq (by omega) _ _ ?_ _ 0 rfl (by omega)
      refine aw_iinc _ q_M_byPrice_132 rfl (am_inc _) rfl rfl ?_
      refine aw_goto 38 q_M_byPrice_135 rfl ?_
      have g := ih _ (by omega) (i + 1) rfl (by omega)
      rw [show bpM D p u (i + 1) = bpM D p u i + mtM D p u i (x_nc D) from by simp only [bpM, sm]; omega] at g
      exact g
theorem l_M_byPrice1 (sc : am_S) (A : ST) (q : QS) (D : ST) (t : TS) (p u : Int) (b : bd D) (jd : jdo D) (hpq : pq p u) : ∀ (n i : Nat), x_ny D - i = n → i ≤ x_ny D →  AW sc m_M_byPrice 1 6 [some (.ref 50), some (.long (lZ p)), none, some (.long (lZ u)), none, some (.long (lZ (sm i (fun y => x_bu D y * p)))), none, some (.int (nI i)), none, none, none, none, none] [] (hp A q D t) (some (.long (lZ (byM D p u)))) (hp A q D t) := by
  intro n
  induction n using Nat.strongRecOn with
  | _ n ih =>
    intro i hn hi
    have b1 := b.1
    refine aw_iload q_M_byPrice_6 rfl ?_
    refine aw_aload_n 0 q_M_byPrice_8 rfl rfl ?_
    refine aw_get 0 q_M_byPrice_9 fl_M_63 rfl rfl ?_
    refine aw_icmp_ge 35 q_M_byPrice_12 rfl (fun c12 => ?_) (fun c12 => ?_)
    · skip
      refine aw_iconst 0 q_M_byPrice_35 rfl ?_
      refine aw_istore q_M_byPrice_36 rfl rfl ?_
      rw [show i = x_ny D from Nat.le_antisymm hi (nge_ge c12 (by omega) (by omega)), show sm (x_ny D) (fun y => x_bu D y * p) = bpM D p u 0 from by simp only [bpM, sm]; omega]
      exact l_M_byPrice2 sc A q D t p u b jd hpq _ 0 rfl (by omega)
    · skip
      have hlt : i < x_ny D := nge_lt c12 (by omega) (by omega)
      refine aw_lload q_M_byPrice_15 rfl ?_
      refine aw_aload_n 0 q_M_byPrice_17 rfl rfl ?_
      refine aw_get 10 q_M_byPrice_18 fl_M_29 rfl rfl ?_
      refine aw_iload q_M_byPrice_21 rfl ?_
      refine aw_laldN q_M_byPrice_23 rfl (by omega) rfl ?_
      refine aw_lload_n 1 q_M_byPrice_24 rfl rfl ?_
      refine aw_lmul q_M_byPrice_25 ?_
      rw [lZ_mul]
      refine aw_ladd q_M_byPrice_26 ?_
      refine aw_lstore q_M_byPrice_27 rfl rfl ?_
      first | refine aw_iinc _ q_M_byPrice_29 rfl (am_inc _) rfl rfl ?_ | refine aw_iinc _ q_M_byPrice_29 rfl rfl rfl rfl ?_
      refine aw_goto 6 q_M_byPrice_32 rfl ?_
      rw [sm_t (f := fun y => x_bu D y * p) (i := i) rfl]
      exact ih _ (by omega) (i + 1) rfl (by omega)
theorem c_M_byPrice (sc : am_S) (A : ST) (q : QS) (D : ST) (t : TS) (p u : Int) (b : bd D) (jd : jdo D) (hpq : pq p u) : AM sc m_M_byPrice 1 [.ref 50, .long (lZ p), .long (lZ u)] (hp A q D t) (some (.long (lZ (byM D p u)))) (hp A q D t) := by
  refine AM.of (by decide) (Nat.le_of_ble_eq_true rfl) ?_
  show AW sc m_M_byPrice 1 0 [some (.ref 50), some (.long (lZ p)), none, some (.long (lZ u)), none, none, none, none, none, none, none, none, none] [] _ _ _
  refine aw_lconst (lZ 0) q_M_byPrice_0 rfl ?_
  refine aw_lstore q_M_byPrice_1 rfl rfl ?_
  refine aw_iconst 0 q_M_byPrice_3 rfl ?_
  refine aw_istore q_M_byPrice_4 rfl rfl ?_
  exact l_M_byPrice1 sc A q D t p u b jd hpq _ 0 rfl (by omega)
def bdP (D : ST) : Nat → Int
  | 0 => byM D 0 1
  | i + 1 => if 0 < x_co D i ∧ byM D (x_wo D i) (x_co D i) < bdP D i then byM D (x_wo D i) (x_co D i) else bdP D i
theorem bdP_bd {D : ST} (b : bd D) (jd : jdo D) : ∀ i, 0 ≤ bdP D i ∧ bdP D i ≤ 10000000000000000
  | 0 => byM_bd b jd pq_0
  | i + 1 => by
    have h := bdP_bd b jd i
    unfold bdP
    split
    · rename_i h2
      exact byM_bd b jd (pq_c b h2.1)
    · exact h
def bnd (D : ST) (x : Int32) : Int := if x = 0 then sm (x_nt D) (fun tt => mwb D tt 5 (x_nc D)) else if x = 1 then bdP D (x_nc D) else -1
theorem l_M_bound0 (sc : am_S) (A : ST) (q : QS) (D : ST) (t : TS) (x : Int32) (b : bd D) : ∀ (n i : Nat), x_nt D - i = n → i ≤ x_nt D →  AW sc m_M_bound 2 9 [some (.ref 50), some (.int x), some (.long (lZ (sm i (fun tt => mwb D tt 5 (x_nc D))))), none, some (.int (nI i)), none, none] [] (hp A q D t) (some (.long (lZ (sm (x_nt D) (fun tt => mwb D tt 5 (x_nc D)))))) (hp A q D t) := by
  intro n
  induction n using Nat.strongRecOn with
  | _ n ih =>
    intro i hn hi
    have b2 := b.2.1
    refine aw_iload q_M_bound_9 rfl ?_
    refine aw_aload_n 0 q_M_bound_11 rfl rfl ?_
    refine aw_get 1 q_M_bound_12 fl_M_76 rfl rfl ?_
    refine aw_icmp_ge 34 q_M_bound_15 rfl (fun c15 => ?_) (fun c15 => ?_)
    · skip
      refine aw_lload_n 2 q_M_bound_34 rfl rfl ?_
      exact aw_lret q_M_bound_35 rfl (by rw [show i = x_nt D from Nat.le_antisymm hi (nge_ge c15 (by omega) (by omega))]) rfl
    · skip
      have hlt : i < x_nt D := nge_lt c15 (by omega) (by omega)
      refine aw_lload_n 2 q_M_bound_18 rfl rfl ?_
      refine aw_aload_n 0 q_M_bound_19 rfl rfl ?_
      refine aw_iload q_M_bound_20 rfl ?_
      refine aw_iconst 5 q_M_bound_22 rfl ?_
      refine aw_V2 q_M_bound_23 st_M_149 rfl (by omega) (Nat.le_of_ble_eq_true rfl) (c_M_mostWorth _ _ _ _ _ _ 5 b (by omega) (by omega)) ?_
      refine aw_ladd q_M_bound_26 ?_
      refine aw_lstore_n 2 q_M_bound_27 rfl rfl rfl ?_
      first | refine aw_iinc _ q_M_bound_28 rfl (am_inc _) rfl rfl ?_ | refine aw_iinc _ q_M_bound_28 rfl rfl rfl rfl ?_
      refine aw_goto 9 q_M_bound_31 rfl ?_
      rw [sm_t (f := fun tt => mwb D tt 5 (x_nc D)) (i := i) rfl]
      exact ih _ (by omega) (i + 1) rfl (by omega)
theorem l_M_bound1 (sc : am_S) (A : ST) (q : QS) (D : ST) (t : TS) (x : Int32) (b : bd D) (jd : jdo D) : ∀ (n i : Nat), x_nc D - i = n → i ≤ x_nc D →  AW sc m_M_bound 2 55 [some (.ref 50), some (.int x), some (.long (lZ (bdP D i))), none, some (.int (nI i)), none, none] [] (hp A q D t) (some (.long (lZ (bdP D (x_nc D))))) (hp A q D t) := by
  intro n
  induction n using Nat.strongRecOn with
  | _ n ih =>
    intro i hn hi
    have b3 := b.2.2.1
    have b8 := b.2.2.2.2.2.2.2.1 i
    have hb := bdP_bd b jd i
    refine aw_iload q_M_bound_55 rfl ?_
    refine aw_aload_n 0 q_M_bound_57 rfl rfl ?_
    refine aw_get 4 q_M_bound_58 fl_M_84 rfl rfl ?_
    refine aw_icmp_ge 116 q_M_bound_61 rfl (fun c61 => ?_) (fun c61 => ?_)
    · skip
      refine aw_lload_n 2 q_M_bound_116 rfl rfl ?_
      exact aw_lret q_M_bound_117 rfl (by rw [show i = x_nc D from Nat.le_antisymm hi (nge_ge c61 (by omega) (by omega))]) rfl
    · skip
      have hlt : i < x_nc D := nge_lt c61 (by omega) (by omega)
      refine aw_aload_n 0 q_M_bound_64 rfl rfl ?_
      refine aw_get 7 q_M_bound_65 fl_M_22 rfl rfl ?_
      refine aw_iload q_M_bound_68 rfl ?_
      refine aw_laldN q_M_bound_70 rfl (by omega) rfl ?_
      refine aw_lconst (lZ 0) q_M_bound_71 rfl ?_
      refine aw_lcmp_le 110 q_M_bound_72 q_M_bound_73 rfl (fun c72 => ?_) (fun c72 => ?_)
      · skip
        first | refine aw_iinc _ q_M_bound_110 rfl (am_inc _) rfl rfl ?_ | refine aw_iinc _ q_M_bound_110 rfl rfl rfl rfl ?_
        refine aw_goto 55 q_M_bound_113 rfl ?_
        first
          | (have h9 := (lZ_le (a := x_co D i) (b := 0) (by omega) (by omega)).mp c72
             have e9 : bdP D (i + 1) = bdP D i := by rw [bdP, if_neg (by omega)]
             have g := ih _ (by omega) (i + 1) rfl (by omega)
             rw [e9] at g
             exact g)
          | (have h9 := (lZ_le (by omega) (by omega)).mp c99
             have e9 : bdP D (i + 1) = bdP D i := by rw [bdP, if_neg (by omega)]
             have g := ih _ (by omega) (i + 1) rfl (by omega)
             rw [e9] at g
             exact aw_kill [5] g)
          | (have h9 := mt (lZ_le (by omega) (by omega)).mpr c99
             have e9 : bdP D (i + 1) = byM D (x_wo D i) (x_co D i) := by rw [bdP, if_pos ⟨hc, by omega⟩]
             have g := ih _ (by omega) (i + 1) rfl (by omega)
             rw [e9] at g
             exact aw_kill [5] g)
      · skip
        have hc : 0 < x_co D i := by have := mt (lZ_le (a := x_co D i) (b := 0) (by omega) (by omega)).mpr c72; omega
        have hpc := pq_c b hc
        have hv := byM_bd b jd hpc
        refine aw_aload_n 0 q_M_bound_76 rfl rfl ?_
        refine aw_aload_n 0 q_M_bound_77 rfl rfl ?_
        refine aw_get 8 q_M_bound_78 fl_M_26 rfl rfl ?_
        refine aw_iload q_M_bound_81 rfl ?_
        refine aw_laldN q_M_bound_83 rfl (by omega) rfl ?_
        refine aw_aload_n 0 q_M_bound_84 rfl rfl ?_
        refine aw_get 7 q_M_bound_85 fl_M_22 rfl rfl ?_
        refine aw_iload q_M_bound_88 rfl ?_
        refine aw_laldN q_M_bound_90 rfl (by omega) rfl ?_
        refine aw_V2 q_M_bound_91 st_M_152 rfl (by omega) (Nat.le_of_ble_eq_true rfl) (c_M_byPrice _ _ _ _ _ _ _ b jd hpc) ?_
        refine aw_lstore q_M_bound_94 rfl rfl ?_
        refine aw_lload q_M_bound_96 rfl ?_
        refine aw_lload_n 2 q_M_bound_98 rfl rfl ?_
        refine aw_lcmp_ge 108 q_M_bound_99 q_M_bound_100 rfl (fun c99 => ?_) (fun c99 => ?_)
        · skip
          refine aw_lload_n 2 q_M_bound_108 rfl rfl ?_
          refine aw_lstore_n 2 q_M_bound_109 rfl rfl rfl ?_
          first | refine aw_iinc _ q_M_bound_110 rfl (am_inc _) rfl rfl ?_ | refine aw_iinc _ q_M_bound_110 rfl rfl rfl rfl ?_
          refine aw_goto 55 q_M_bound_113 rfl ?_
          first
            | (have h9 := (lZ_le (a := x_co D i) (b := 0) (by omega) (by omega)).mp c72
               have e9 : bdP D (i + 1) = bdP D i := by rw [bdP, if_neg (by omega)]
               have g := ih _ (by omega) (i + 1) rfl (by omega)
               rw [e9] at g
               exact g)
            | (have h9 := (lZ_le (by omega) (by omega)).mp c99
               have e9 : bdP D (i + 1) = bdP D i := by rw [bdP, if_neg (by omega)]
               have g := ih _ (by omega) (i + 1) rfl (by omega)
               rw [e9] at g
               exact aw_kill [5] g)
            | (have h9 := mt (lZ_le (by omega) (by omega)).mpr c99
               have e9 : bdP D (i + 1) = byM D (x_wo D i) (x_co D i) := by rw [bdP, if_pos ⟨hc, by omega⟩]
               have g := ih _ (by omega) (i + 1) rfl (by omega)
               rw [e9] at g
               exact aw_kill [5] g)
        · skip
          refine aw_lload q_M_bound_103 rfl ?_
          refine aw_goto 109 q_M_bound_105 rfl ?_
          refine aw_lstore_n 2 q_M_bound_109 rfl rfl rfl ?_
          first | refine aw_iinc _ q_M_bound_110 rfl (am_inc _) rfl rfl ?_ | refine aw_iinc _ q_M_bound_110 rfl rfl rfl rfl ?_
          refine aw_goto 55 q_M_bound_113 rfl ?_
          first
            | (have h9 := (lZ_le (a := x_co D i) (b := 0) (by omega) (by omega)).mp c72
               have e9 : bdP D (i + 1) = bdP D i := by rw [bdP, if_neg (by omega)]
               have g := ih _ (by omega) (i + 1) rfl (by omega)
               rw [e9] at g
               exact g)
            | (have h9 := (lZ_le (by omega) (by omega)).mp c99
               have e9 : bdP D (i + 1) = bdP D i := by rw [bdP, if_neg (by omega)]
               have g := ih _ (by omega) (i + 1) rfl (by omega)
               rw [e9] at g
               exact aw_kill [5] g)
            | (have h9 := mt (lZ_le (by omega) (by omega)).mpr c99
               have e9 : bdP D (i + 1) = byM D (x_wo D i) (x_co D i) := by rw [bdP, if_pos ⟨hc, by omega⟩]
               have g := ih _ (by omega) (i + 1) rfl (by omega)
               rw [e9] at g
               exact aw_kill [5] g)
theorem c_M_bound (sc : am_S) (A : ST) (q : QS) (D : ST) (t : TS) (x : Int32) (b : bd D) (jd : jdo D) : AM sc m_M_bound 2 [.ref 50, .int x] (hp A q D t) (some (.long (lZ (bnd D x)))) (hp A q D t) := by
  refine AM.of (by decide) (Nat.le_of_ble_eq_true rfl) ?_
  show AW sc m_M_bound 2 0 [some (.ref 50), some (.int x), none, none, none, none, none] [] _ _ _
  refine aw_lconst (lZ 0) q_M_bound_0 rfl ?_
  refine aw_lstore_n 2 q_M_bound_1 rfl rfl rfl ?_
  refine aw_iload_n 1 q_M_bound_2 rfl rfl ?_
  refine aw_if_ne 36 q_M_bound_3 rfl (fun c3 => ?_) (fun c3 => ?_)
  · skip
    refine aw_iload_n 1 q_M_bound_36 rfl rfl ?_
    refine aw_iconst 1 q_M_bound_37 rfl ?_
    refine aw_icmp_eq 45 q_M_bound_38 rfl (fun c38 => ?_) (fun c38 => ?_)
    · skip
      refine aw_aload_n 0 q_M_bound_45 rfl rfl ?_
      refine aw_lconst (lZ 0) q_M_bound_46 rfl ?_
      refine aw_lconst (lZ 1) q_M_bound_47 rfl ?_
      refine aw_V2 q_M_bound_48 st_M_152 rfl (by omega) (Nat.le_of_ble_eq_true rfl) (c_M_byPrice _ _ _ _ _ _ _ b jd pq_0) ?_
      refine aw_lstore_n 2 q_M_bound_51 rfl rfl rfl ?_
      refine aw_iconst 0 q_M_bound_52 rfl ?_
      refine aw_istore q_M_bound_53 rfl rfl ?_
      rw [show bnd D x = bdP D (x_nc D) from by unfold bnd; rw [if_neg c3, if_pos c38]]
      exact l_M_bound1 sc A q D t x b jd _ 0 rfl (by omega)
    · skip
      refine aw_ldc2 (lZ (-1)) q_M_bound_41 (am_in3 (i := 127) rfl rfl) ?_
      exact aw_lret q_M_bound_44 rfl (by unfold bnd; rw [if_neg c3, if_neg c38]) rfl
  · skip
    refine aw_iconst 0 q_M_bound_6 rfl ?_
    refine aw_istore q_M_bound_7 rfl rfl ?_
    rw [show bnd D x = sm (x_nt D) (fun tt => mwb D tt 5 (x_nc D)) from by unfold bnd; rw [if_pos c3]]
    exact l_M_bound0 sc A q D t x b _ 0 rfl (by omega)
def D1 (D : ST) (y : Nat) : ST := x_s_bu D (va_up (x_bu D) y (x_bu D y + 1000))
theorem D1_bd {D : ST} (b : bd D) (hb : ∀ y, x_bu D y ≤ 100000000) (y : Nat) : bd (D1 D y) := by
  refine ⟨b.1, b.2.1, b.2.2.1, b.2.2.2.1, b.2.2.2.2.1, b.2.2.2.2.2.1, b.2.2.2.2.2.2.1, b.2.2.2.2.2.2.2.1, b.2.2.2.2.2.2.2.2.1, b.2.2.2.2.2.2.2.2.2.1, fun v => ?_, b.2.2.2.2.2.2.2.2.2.2.2⟩
  have h1 := b.2.2.2.2.2.2.2.2.2.2.1 v
  have h2 := b.2.2.2.2.2.2.2.2.2.2.1 y
  have h3 := hb y
  show 0 ≤ va_up (x_bu D) y (x_bu D y + 1000) v ∧ va_up (x_bu D) y (x_bu D y + 1000) v ≤ 200000000
  unfold va_up
  split <;> omega
theorem D1_ok {D : ST} (k : okM D) (hb : ∀ y, x_bu D y ≤ 100000000) (y : Nat) : okM (D1 D y) := ⟨D1_bd k.1 hb y, k.2.1, k.2.2⟩
theorem D1_back (D : ST) (y : Nat) : x_s_bu (D1 D y) (va_up (x_bu (D1 D y)) y (x_bu (D1 D y) y - 1000)) = D := by
  have e : va_up (va_up (x_bu D) y (x_bu D y + 1000)) y (va_up (x_bu D) y (x_bu D y + 1000) y - 1000) = x_bu D := by
    funext v
    unfold va_up
    by_cases h : v = y
    · subst h; simp
    · simp [h]
  show x_s_bu D (va_up (va_up (x_bu D) y (x_bu D y + 1000)) y (va_up (x_bu D) y (x_bu D y + 1000) y - 1000)) = D
  rw [e]
  rfl
theorem tkm_bu (D : ST) (f : Nat → Int) (m : Nat) : ∀ i, tkm (x_s_bu D f) m i = tkm D m i
  | 0 => rfl
  | i + 1 => by simp only [tkm, tkm_bu D f m i, xg_th_bu]
theorem pln_bu (D : ST) (f : Nat → Int) (m : Nat) : ∀ i, pln (x_s_bu D f) m i = pln D m i
  | 0 => rfl
  | i + 1 => by simp only [pln, tkm_bu D f m i, pln_bu D f m i, xg_th_bu]
theorem udm_bu (D : ST) (f : Nat → Int) : ∀ i, udm (x_s_bu D f) i = udm D i
  | 0 => rfl
  | i + 1 => by simp only [udm, udm_bu D f i, xg_di_bu]
theorem sat_bu (D : ST) (f : Nat → Int) (n : Nat) : ∀ i, sat (x_s_bu D f) n i = sat D n i
  | 0 => rfl
  | i + 1 => by simp only [sat, sat_bu D f n i, xg_nc_bu]
theorem sn_bu (D : ST) (f : Nat → Int) (n : Nat) : sn (x_s_bu D f) n = sn D n := by
  unfold sn
  rw [sat_bu, xg_nc_bu]
theorem fiM_bu (D : ST) (f : Nat → Int) (m : Nat) : fiM (x_s_bu D f) m = fiM D m := by
  have e : lmv (x_s_bu D f) m = lmv D m := by
    unfold lmv
    rw [xg_nt_bu, udm_bu]
    rfl
  unfold fiM
  rw [e, xg_fa_bu]
theorem wam_le {D : ST} {y m : Nat} : ∀ {i : Nat}, wam D m i = true → wam (D1 D y) m i = true
  | 0, _ => rfl
  | i + 1, h => by
    unfold wam at h ⊢
    simp only [Bool.and_eq_true, decide_eq_true_eq] at h ⊢
    refine ⟨wam_le h.1, ?_⟩
    have h2 : spM (D1 D y) m i = spM D m i := rfl
    rw [h2]
    show spM D m i ≤ va_up (x_bu D) y (x_bu D y + 1000) i
    have := h.2
    unfold va_up
    split
    · rename_i e; subst e; omega
    · exact this
theorem hwM_le {D : ST} {y w m : Nat} (h : hwM D w m = true) : hwM (D1 D y) w m = true := by
  unfold hwM ftm at h ⊢
  unfold D1
  rw [pln_bu, fiM_bu, xg_nc_bu, xg_ny_bu]
  simp only [Bool.and_eq_true] at h ⊢
  exact ⟨h.1, h.2.1, wam_le h.2.2⟩
theorem bsM_more {D : ST} {y n k : Nat} (h : bsM D n = some k) : bsM (D1 D y) n ≠ none := by
  intro e
  have h1 := (bst_none (fun _ => rfl)).mp e
  have : bsM D n = none := (bst_none (fun _ => rfl)).mpr (fun i hi => by
    have h2 := h1 i hi
    cases h3 : hwM D (x_mu D) (sn D i) with
    | false => rfl
    | true =>
      have := hwM_le (y := y) h3
      rw [show sn (D1 D y) i = sn D i from sn_bu _ _ _, show x_mu (D1 D y) = x_mu D from rfl] at h2
      exact absurd (this.symm.trans h2) (by decide))
  rw [this] at h
  cases h
def nAll (D : ST) : Nat := min 20000 (2 ^ x_nc D)
def gnM (D : ST) (y : Nat) : Int := match bsM D (nAll D) with
  | none => -1
  | some m => wsum D ((bsM (D1 D y) (nAll D)).getD 0) - wsum D m
def gnT (D : ST) (y : Nat) (t : TS) : TS := match bsM D (nAll D) with
  | none => bT D (x_mu D) t (nAll D)
  | some _ => bT (D1 D y) (x_mu D) (bT D (x_mu D) t (nAll D)) (nAll D)
theorem c_M_price_no (sc : am_S) (A : ST) (q : QS) (D : ST) (t : TS) (x z : Int32) (hx : ¬ ((¬ x < 0 ∧ ¬ nI (x_ny D) ≤ x) ∧ (z = 0 ∨ z = 1))) : AM sc m_M_price 5 [.ref 50, .int x, .int z] (hp A q D t) (some (.long (lZ (-1)))) (hp A q D t) := by
  refine AM.of (by decide) (Nat.le_of_ble_eq_true rfl) ?_
  show AW sc m_M_price 5 0 [some (.ref 50), some (.int x), some (.int z), none, none, none, none] [] _ _ _
  refine aw_aload_n 0 q_M_price_0 rfl rfl ?_
  refine aw_iload_n 1 q_M_price_1 rfl rfl ?_
  refine aw_V1 q_M_price_2 st_M_98 rfl (by omega) (Nat.le_of_ble_eq_true rfl) (c_M_isYear _ _ _ _ _ _) ?_
  refine aw_if_eq 17 q_M_price_5 rfl (fun c5 => ?_) (fun c5 => ?_)
  · skip
    refine aw_ldc2 (lZ (-1)) q_M_price_17 (am_in3 (i := 127) rfl rfl) ?_
    exact aw_lret q_M_price_20 rfl rfl rfl
  · skip
    refine aw_iload_n 2 q_M_price_8 rfl rfl ?_
    refine aw_if_eq 21 q_M_price_9 rfl (fun c9 => ?_) (fun c9 => ?_)
    · skip
      first
        | exact (hx ⟨of_decide_eq_true (zI_n0.mp c5), Or.inl c9⟩).elim
        | exact (hx ⟨of_decide_eq_true (zI_n0.mp c5), Or.inr c14⟩).elim
    · skip
      refine aw_iload_n 2 q_M_price_12 rfl rfl ?_
      refine aw_iconst 1 q_M_price_13 rfl ?_
      refine aw_icmp_eq 21 q_M_price_14 rfl (fun c14 => ?_) (fun c14 => ?_)
      · skip
        first
          | exact (hx ⟨of_decide_eq_true (zI_n0.mp c5), Or.inl c9⟩).elim
          | exact (hx ⟨of_decide_eq_true (zI_n0.mp c5), Or.inr c14⟩).elim
      · skip
        refine aw_ldc2 (lZ (-1)) q_M_price_17 (am_in3 (i := 127) rfl rfl) ?_
        exact aw_lret q_M_price_20 rfl rfl rfl
theorem c_M_price_1 (sc : am_S) (A : ST) (q : QS) (D : ST) (t : TS) (y : Nat) (k : okM D) (hb : ∀ y, x_bu D y ≤ 100000000) (hy : y < x_ny D) : AM sc m_M_price 5 [.ref 50, .int (nI y), .int 1] (hp A q D t) (some (.long (lZ (bdP (D1 D y) (x_nc D) - bdP D (x_nc D))))) (hp A q D t) := by
  refine AM.of (by decide) (Nat.le_of_ble_eq_true rfl) ?_
  show AW sc m_M_price 5 0 [some (.ref 50), some (.int (nI y)), some (.int 1), none, none, none, none] [] _ _ _
  have b1 := k.1.1
  have e1 : bnd D 1 = bdP D (x_nc D) := by unfold bnd; rw [if_neg (by decide), if_pos rfl]
  have e2 : bnd (D1 D y) 1 = bdP (D1 D y) (x_nc D) := by unfold bnd; rw [if_neg (by decide), if_pos rfl]; rfl
  refine aw_aload_n 0 q_M_price_0 rfl rfl ?_
  refine aw_iload_n 1 q_M_price_1 rfl rfl ?_
  refine aw_V1 q_M_price_2 st_M_98 rfl (by omega) (Nat.le_of_ble_eq_true rfl) (c_M_isYear _ _ _ _ _ _) ?_
  refine aw_if_eq 17 q_M_price_5 rfl (fun c5 => ?_) (fun c5 => ?_)
  · skip
    first
      | exact absurd (zI_0.mp c5) (by rw [isN hy (by omega)]; decide)
      | exact absurd rfl c14
  · skip
    refine aw_iload_n 2 q_M_price_8 rfl rfl ?_
    refine aw_if_eq 21 q_M_price_9 rfl (fun c9 => ?_) (fun c9 => ?_)
    · skip
      refine aw_lconst (lZ 0) q_M_price_21 rfl ?_
      refine aw_lstore_n 3 q_M_price_22 rfl rfl rfl ?_
      refine aw_iload_n 2 q_M_price_23 rfl rfl ?_
      refine aw_if_ne 56 q_M_price_24 rfl (fun c24 => ?_) (fun c24 => ?_)
      · skip
        refine aw_aload_n 0 q_M_price_56 rfl rfl ?_
        refine aw_iconst 1 q_M_price_57 rfl ?_
        refine aw_V1 q_M_price_58 st_M_159 rfl (by omega) (Nat.le_of_ble_eq_true rfl) (c_M_bound _ _ _ _ _ 1 k.1 k.2.1) ?_
        rw [e1]
        refine aw_lstore_n 3 q_M_price_61 rfl rfl rfl ?_
        refine aw_aload_n 0 q_M_price_62 rfl rfl ?_
        refine aw_get 10 q_M_price_63 fl_M_29 rfl rfl ?_
        refine aw_iload_n 1 q_M_price_66 rfl rfl ?_
        refine aw_dup2_11 q_M_price_67 rfl rfl ?_
        refine aw_laldN q_M_price_68 rfl (by omega) rfl ?_
        refine aw_ldc2 (lZ (1000)) q_M_price_69 (am_in4 (i := 95) rfl rfl) ?_
        refine aw_ladd q_M_price_72 ?_
        rw [lZ_add]
        refine wa_56 _ q_M_price_73 (by omega) ?_
        refine aw_iload_n 2 q_M_price_74 rfl rfl ?_
        refine aw_if_ne 92 q_M_price_75 rfl (fun c75 => ?_) (fun c75 => ?_)
        · skip
          refine aw_aload_n 0 q_M_price_92 rfl rfl ?_
          refine aw_iconst 1 q_M_price_93 rfl ?_
          refine aw_V1 q_M_price_94 st_M_159 rfl (by omega) (Nat.le_of_ble_eq_true rfl) (c_M_bound _ _ _ (D1 D y) _ 1 (D1_ok k hb y).1 k.2.1) ?_
          rw [e2]
          refine aw_lstore q_M_price_97 rfl rfl ?_
          refine aw_aload_n 0 q_M_price_99 rfl rfl ?_
          refine aw_get 10 q_M_price_100 fl_M_29 rfl rfl ?_
          refine aw_iload_n 1 q_M_price_103 rfl rfl ?_
          refine aw_dup2_11 q_M_price_104 rfl rfl ?_
          refine aw_laldN q_M_price_105 rfl (by omega) rfl ?_
          refine aw_ldc2 (lZ (1000)) q_M_price_106 (am_in4 (i := 95) rfl rfl) ?_
          refine aw_lsub q_M_price_109 ?_
          rw [lZ_sub]
          refine wa_56 _ q_M_price_110 (by omega) ?_
          rw [D1_back]
          refine aw_lload q_M_price_111 rfl ?_
          refine aw_lload_n 3 q_M_price_113 rfl rfl ?_
          refine aw_lsub q_M_price_114 ?_
          rw [lZ_sub]
          exact aw_lret q_M_price_115 rfl rfl rfl
        · skip
          exact absurd c75 (by decide)
      · skip
        exact absurd c24 (by decide)
    · skip
      refine aw_iload_n 2 q_M_price_12 rfl rfl ?_
      refine aw_iconst 1 q_M_price_13 rfl ?_
      refine aw_icmp_eq 21 q_M_price_14 rfl (fun c14 => ?_) (fun c14 => ?_)
      · skip
        refine aw_lconst (lZ 0) q_M_price_21 rfl ?_
        refine aw_lstore_n 3 q_M_price_22 rfl rfl rfl ?_
        refine aw_iload_n 2 q_M_price_23 rfl rfl ?_
        refine aw_if_ne 56 q_M_price_24 rfl (fun c24 => ?_) (fun c24 => ?_)
        · skip
          refine aw_aload_n 0 q_M_price_56 rfl rfl ?_
          refine aw_iconst 1 q_M_price_57 rfl ?_
          refine aw_V1 q_M_price_58 st_M_159 rfl (by omega) (Nat.le_of_ble_eq_true rfl) (c_M_bound _ _ _ _ _ 1 k.1 k.2.1) ?_
          rw [e1]
          refine aw_lstore_n 3 q_M_price_61 rfl rfl rfl ?_
          refine aw_aload_n 0 q_M_price_62 rfl rfl ?_
          refine aw_get 10 q_M_price_63 fl_M_29 rfl rfl ?_
          refine aw_iload_n 1 q_M_price_66 rfl rfl ?_
          refine aw_dup2_11 q_M_price_67 rfl rfl ?_
          refine aw_laldN q_M_price_68 rfl (by omega) rfl ?_
          refine aw_ldc2 (lZ (1000)) q_M_price_69 (am_in4 (i := 95) rfl rfl) ?_
          refine aw_ladd q_M_price_72 ?_
          rw [lZ_add]
          refine wa_56 _ q_M_price_73 (by omega) ?_
          refine aw_iload_n 2 q_M_price_74 rfl rfl ?_
          refine aw_if_ne 92 q_M_price_75 rfl (fun c75 => ?_) (fun c75 => ?_)
          · skip
            refine aw_aload_n 0 q_M_price_92 rfl rfl ?_
            refine aw_iconst 1 q_M_price_93 rfl ?_
            refine aw_V1 q_M_price_94 st_M_159 rfl (by omega) (Nat.le_of_ble_eq_true rfl) (c_M_bound _ _ _ (D1 D y) _ 1 (D1_ok k hb y).1 k.2.1) ?_
            rw [e2]
            refine aw_lstore q_M_price_97 rfl rfl ?_
            refine aw_aload_n 0 q_M_price_99 rfl rfl ?_
            refine aw_get 10 q_M_price_100 fl_M_29 rfl rfl ?_
            refine aw_iload_n 1 q_M_price_103 rfl rfl ?_
            refine aw_dup2_11 q_M_price_104 rfl rfl ?_
            refine aw_laldN q_M_price_105 rfl (by omega) rfl ?_
            refine aw_ldc2 (lZ (1000)) q_M_price_106 (am_in4 (i := 95) rfl rfl) ?_
            refine aw_lsub q_M_price_109 ?_
            rw [lZ_sub]
            refine wa_56 _ q_M_price_110 (by omega) ?_
            rw [D1_back]
            refine aw_lload q_M_price_111 rfl ?_
            refine aw_lload_n 3 q_M_price_113 rfl rfl ?_
            refine aw_lsub q_M_price_114 ?_
            rw [lZ_sub]
            exact aw_lret q_M_price_115 rfl rfl rfl
          · skip
            exact absurd c75 (by decide)
        · skip
          exact absurd c24 (by decide)
      · skip
        first
          | exact absurd (zI_0.mp c5) (by rw [isN hy (by omega)]; decide)
          | exact absurd rfl c14
theorem c_M_price_0 (sc : am_S) (A : ST) (q : QS) (D : ST) (t : TS) (y : Nat) (k : okM D) (hb : ∀ y, x_bu D y ≤ 100000000) (hy : y < x_ny D) : AM sc m_M_price 5 [.ref 50, .int (nI y), .int 0] (hp A q D t) (some (.long (lZ (gnM D y)))) (hp A q D (gnT D y t)) := by
  refine AM.of (by decide) (Nat.le_of_ble_eq_true rfl) ?_
  show AW sc m_M_price 5 0 [some (.ref 50), some (.int (nI y)), some (.int 0), none, none, none, none] [] _ _ _
  have b1 := k.1.1
  have e0 := pI_eq (o := bsM D (nAll D)) (fun m h => by have := bsM_lt k.1 h; omega)
  have g1 := c_M_best sc A q D t 20000 k (by omega)
  rw [show min 20000 (2 ^ x_nc D) = nAll D from rfl] at g1
  have g2 := c_M_best sc A q (D1 D y) (bT D (x_mu D) t (nAll D)) 20000 (D1_ok k hb y) (by omega)
  rw [show min 20000 (2 ^ x_nc (D1 D y)) = nAll D from rfl, show x_mu (D1 D y) = x_mu D from rfl] at g2
  refine aw_aload_n 0 q_M_price_0 rfl rfl ?_
  refine aw_iload_n 1 q_M_price_1 rfl rfl ?_
  refine aw_V1 q_M_price_2 st_M_98 rfl (by omega) (Nat.le_of_ble_eq_true rfl) (c_M_isYear _ _ _ _ _ _) ?_
  refine aw_if_eq 17 q_M_price_5 rfl (fun c5 => ?_) (fun c5 => ?_)
  · skip
    first
      | exact absurd (zI_0.mp c5) (by rw [isN hy (by omega)]; decide)
      | exact absurd rfl c9
  · skip
    refine aw_iload_n 2 q_M_price_8 rfl rfl ?_
    refine aw_if_eq 21 q_M_price_9 rfl (fun c9 => ?_) (fun c9 => ?_)
    · skip
      refine aw_lconst (lZ 0) q_M_price_21 rfl ?_
      refine aw_lstore_n 3 q_M_price_22 rfl rfl rfl ?_
      refine aw_iload_n 2 q_M_price_23 rfl rfl ?_
      refine aw_if_ne 56 q_M_price_24 rfl (fun c24 => ?_) (fun c24 => ?_)
      · skip
        exact absurd rfl c24
      · skip
        refine aw_aload_n 0 q_M_price_27 rfl rfl ?_
        refine aw_ldc2 (lZ (20000)) q_M_price_28 (am_in4 (i := 13) rfl rfl) ?_
        refine aw_V1 q_M_price_31 st_M_142 rfl (by omega) (Nat.le_of_ble_eq_true rfl) g1 ?_
        refine aw_istore q_M_price_34 rfl rfl ?_
        refine aw_iload q_M_price_36 rfl ?_
        refine aw_iconst (-1) q_M_price_38 rfl ?_
        refine aw_icmp_ne 46 q_M_price_39 rfl (fun c39 => ?_) (fun c39 => ?_)
        · skip
          obtain ⟨m, hm⟩ := Option.ne_none_iff_exists'.mp (mt e0.mpr c39)
          have hm2 := bsM_lt k.1 hm
          obtain ⟨n, hn⟩ := Option.ne_none_iff_exists'.mp (bsM_more (y := y) hm)
          have hn2 := bsM_lt (D1_ok k hb y).1 hn
          rw [show pI (bsM D (nAll D)) = nI m from by rw [hm]; rfl]
          refine aw_aload_n 0 q_M_price_46 rfl rfl ?_
          refine aw_iload q_M_price_47 rfl ?_
          refine aw_V1 q_M_price_49 st_M_123 rfl (by omega) (Nat.le_of_ble_eq_true rfl) (c_M_worthOf _ _ _ _ _ m k.1 hm2) ?_
          refine aw_lstore_n 3 q_M_price_52 rfl rfl rfl ?_
          refine aw_goto 62 q_M_price_53 rfl ?_
          refine aw_aload_n 0 q_M_price_62 rfl rfl ?_
          refine aw_get 10 q_M_price_63 fl_M_29 rfl rfl ?_
          refine aw_iload_n 1 q_M_price_66 rfl rfl ?_
          refine aw_dup2_11 q_M_price_67 rfl rfl ?_
          refine aw_laldN q_M_price_68 rfl (by omega) rfl ?_
          refine aw_ldc2 (lZ (1000)) q_M_price_69 (am_in4 (i := 95) rfl rfl) ?_
          refine aw_ladd q_M_price_72 ?_
          rw [lZ_add]
          refine wa_56 _ q_M_price_73 (by omega) ?_
          refine aw_iload_n 2 q_M_price_74 rfl rfl ?_
          refine aw_if_ne 92 q_M_price_75 rfl (fun c75 => ?_) (fun c75 => ?_)
          · skip
            exact absurd rfl c75
          · skip
            refine aw_aload_n 0 q_M_price_78 rfl rfl ?_
            refine aw_aload_n 0 q_M_price_79 rfl rfl ?_
            refine aw_ldc2 (lZ (20000)) q_M_price_80 (am_in4 (i := 13) rfl rfl) ?_
            refine aw_V1 q_M_price_83 st_M_142 rfl (by omega) (Nat.le_of_ble_eq_true rfl) g2 ?_
            rw [show pI (bsM (D1 D y) (nAll D)) = nI n from by rw [hn]; rfl]
            refine aw_V1 q_M_price_86 st_M_123 rfl (by omega) (Nat.le_of_ble_eq_true rfl) (c_M_worthOf _ _ _ (D1 D y) _ n (D1_ok k hb y).1 hn2) ?_
            refine aw_goto 97 q_M_price_89 rfl ?_
            refine aw_lstore q_M_price_97 rfl rfl ?_
            refine aw_aload_n 0 q_M_price_99 rfl rfl ?_
            refine aw_get 10 q_M_price_100 fl_M_29 rfl rfl ?_
            refine aw_iload_n 1 q_M_price_103 rfl rfl ?_
            refine aw_dup2_11 q_M_price_104 rfl rfl ?_
            refine aw_laldN q_M_price_105 rfl (by omega) rfl ?_
            refine aw_ldc2 (lZ (1000)) q_M_price_106 (am_in4 (i := 95) rfl rfl) ?_
            refine aw_lsub q_M_price_109 ?_
            rw [lZ_sub]
            refine wa_56 _ q_M_price_110 (by omega) ?_
            rw [D1_back]
            refine aw_lload q_M_price_111 rfl ?_
            refine aw_lload_n 3 q_M_price_113 rfl rfl ?_
            refine aw_lsub q_M_price_114 ?_
            rw [lZ_sub]
            exact aw_lret q_M_price_115 rfl (by unfold gnM; rw [hm, hn]; rfl) (by unfold gnT; rw [hm])
        · skip
          refine aw_ldc2 (lZ (-1)) q_M_price_42 (am_in3 (i := 127) rfl rfl) ?_
          exact aw_lret q_M_price_45 rfl (by unfold gnM; rw [e0.mp c39]) (by unfold gnT; rw [e0.mp c39])
    · skip
      exact absurd rfl c9
