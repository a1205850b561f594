/-! CONTRACTS 28: the reference: clash, changes, bounds, price -/
def cwM (D : ST) : Nat → Nat
  | 0 => x_mu D
  | i + 1 => if ((cwM D i).testBit i && !smM' D (clr (cwM D i) i)) = true then clr (cwM D i) i else cwM D i
def cwT (D : ST) (t : TS) : Nat → TS
  | 0 => t
  | i + 1 => if (cwM D i).testBit i = true then sTT D (clr (cwM D i) i) (cwT D t i) else cwT D t i
theorem cwM_lt {D : ST} (b : bd D) : ∀ i, cwM D i < 16384
  | 0 => mu_b b
  | i + 1 => by
    have := cwM_lt b i
    unfold cwM
    split
    · exact Nat.lt_of_le_of_lt (clr_le _ _) this
    · exact this
def clM (D : ST) (x : Int32) : Option Nat := if smM' D (x_mu D) = true then none else fnd (mbp (cwM D (x_nc D)) x) (x_nc D)
theorem l_M_clash2 (sc : am_S) (A : ST) (q : QS) (D : ST) (t : TS) (x : Int32) (s : Nat) (b : bd D) (hs : s < 16384) : ∀ (n i : Nat), x_nc D - i = n → i ≤ x_nc D → fnd (mbp s x) i = none → AW sc m_M_clash 5 69 [some (.ref 50), some (.int x), some (.int (nI s)), some (.int (nI (cnp (fun c => s.testBit c) i))), some (.int (nI i))] [] (hp A q D t) (some (.int (pI (fnd (mbp s x) (x_nc D))))) (hp A q D t) := by
  intro n
  induction n using Nat.strongRecOn with
  | _ n ih =>
    intro i hn hi
    intro hw
    have b3 := b.2.2.1
    refine aw_iload q_M_clash_69 rfl ?_
    refine aw_aload_n 0 q_M_clash_71 rfl rfl ?_
    refine aw_get 4 q_M_clash_72 fl_M_84 rfl rfl ?_
    refine aw_icmp_ge 104 q_M_clash_75 rfl (fun c75 => ?_) (fun c75 => ?_)
    · skip
      refine aw_iconst (-1) q_M_clash_104 rfl ?_
      exact aw_iret .int q_M_clash_105 rfl rfl (by rw [show i = x_nc D from Nat.le_antisymm hi (nge_ge c75 (by omega) (by omega))] at hw; rw [hw]; rfl) rfl
    · skip
      have hlt : i < x_nc D := nge_lt c75 (by omega) (by omega)
      refine aw_iload_n 2 q_M_clash_78 rfl rfl ?_
      refine aw_iload q_M_clash_79 rfl ?_
      refine aw_S2 q_M_clash_81 st_M_94 (by omega) (Nat.le_of_ble_eq_true rfl) (c_M_has _ _ _ _ (by omega) (by omega)) ?_
      refine aw_if_eq 98 q_M_clash_84 rfl (fun c84 => ?_) (fun c84 => ?_)
      · skip
        first | refine aw_iinc _ q_M_clash_98 rfl (am_inc _) rfl rfl ?_ | refine aw_iinc _ q_M_clash_98 rfl rfl rfl rfl ?_
        refine aw_goto 69 q_M_clash_101 rfl ?_
        first
          | (have h9 := zI_0.mp c84; have e9 : cnp (fun c => s.testBit c) (i + 1) = cnp (fun c => s.testBit c) i := by simp only [cnp, h9]; rfl
             rw [← e9]; exact ih _ (by omega) (i + 1) rfl (by omega) (fnd_miss hw (by simp only [mbp, h9]; rfl)))
          | (have h9 := zI_n0.mp c84; have e9 : cnp (fun c => s.testBit c) (i + 1) = cnp (fun c => s.testBit c) i + 1 := by simp only [cnp, h9]; rfl
             rw [← e9]; exact ih _ (by omega) (i + 1) rfl (by omega) (fnd_miss hw (by simp only [mbp, c89, decide_false, Bool.and_false])))
      · skip
        refine aw_iload_n 3 q_M_clash_87 rfl rfl ?_
        refine aw_iload_n 1 q_M_clash_88 rfl rfl ?_
        refine aw_icmp_ne 95 q_M_clash_89 rfl (fun c89 => ?_) (fun c89 => ?_)
        · skip
          first | refine aw_iinc _ q_M_clash_95 rfl (am_inc _) rfl rfl ?_ | refine aw_iinc _ q_M_clash_95 rfl rfl rfl rfl ?_
          first | refine aw_iinc _ q_M_clash_98 rfl (am_inc _) rfl rfl ?_ | refine aw_iinc _ q_M_clash_98 rfl rfl rfl rfl ?_
          refine aw_goto 69 q_M_clash_101 rfl ?_
          first
            | (have h9 := zI_0.mp c84; have e9 : cnp (fun c => s.testBit c) (i + 1) = cnp (fun c => s.testBit c) i := by simp only [cnp, h9]; rfl
               rw [← e9]; exact ih _ (by omega) (i + 1) rfl (by omega) (fnd_miss hw (by simp only [mbp, h9]; rfl)))
            | (have h9 := zI_n0.mp c84; have e9 : cnp (fun c => s.testBit c) (i + 1) = cnp (fun c => s.testBit c) i + 1 := by simp only [cnp, h9]; rfl
               rw [← e9]; exact ih _ (by omega) (i + 1) rfl (by omega) (fnd_miss hw (by simp only [mbp, c89, decide_false, Bool.and_false])))
        · skip
          refine aw_iload q_M_clash_92 rfl ?_
          exact aw_iret .int q_M_clash_94 rfl rfl (by rw [fnd_hit hw (by simp only [mbp, zI_n0.mp c84, c89]; rfl) hlt]; rfl) rfl
theorem l_M_clash (sc : am_S) (A : ST) (q : QS) (D : ST) (t : TS) (x : Int32) (k : okM D) : ∀ (n i : Nat), x_nc D - i = n → i ≤ x_nc D →  AW sc m_M_clash 5 20 [some (.ref 50), some (.int x), some (.int (nI (cwM D i))), some (.int (nI i)), none] [] (hp A q D (cwT D t i)) (some (.int (pI (fnd (mbp (cwM D (x_nc D)) x) (x_nc D))))) (hp A q D (cwT D t (x_nc D))) := by
  intro n
  induction n using Nat.strongRecOn with
  | _ n ih =>
    intro i hn hi
    have b3 := k.1.2.2.1
    have hw := cwM_lt k.1 i
    refine aw_iload_n 3 q_M_clash_20 rfl rfl ?_
    refine aw_aload_n 0 q_M_clash_21 rfl rfl ?_
    refine aw_get 4 q_M_clash_22 fl_M_84 rfl rfl ?_
    refine aw_icmp_ge 64 q_M_clash_25 rfl (fun c25 => ?_) (fun c25 => ?_)
    · skip
      rw [show i = x_nc D from Nat.le_antisymm hi (nge_ge c25 (by omega) (by omega))]
      refine aw_iconst 0 q_M_clash_64 rfl ?_
      refine aw_istore_n 3 q_M_clash_65 rfl rfl rfl ?_
      refine aw_iconst 0 q_M_clash_66 rfl ?_
      refine aw_istore q_M_clash_67 rfl rfl ?_
      exact l_M_clash2 sc A q D _ x _ k.1 (cwM_lt k.1 _) _ 0 rfl (by omega) rfl
    · skip
      have hlt : i < x_nc D := nge_lt c25 (by omega) (by omega)
      refine aw_iload_n 2 q_M_clash_28 rfl rfl ?_
      refine aw_iload_n 3 q_M_clash_29 rfl rfl ?_
      refine aw_S2 q_M_clash_30 st_M_94 (by omega) (Nat.le_of_ble_eq_true rfl) (c_M_has _ _ _ _ (by omega) (by omega)) ?_
      refine aw_if_eq 58 q_M_clash_33 rfl (fun c33 => ?_) (fun c33 => ?_)
      · skip
        first | refine aw_iinc _ q_M_clash_58 rfl (am_inc _) rfl rfl ?_ | refine aw_iinc _ q_M_clash_58 rfl rfl rfl rfl ?_
        refine aw_goto 20 q_M_clash_61 rfl ?_
        first
          | (have h9 := zI_0.mp c33
             have e9 : cwM D (i + 1) = cwM D i := by simp only [cwM, h9]; rfl
             have e8 : cwT D t (i + 1) = cwT D t i := by simp [cwT, h9]
             have g := ih _ (by omega) (i + 1) rfl (by omega)
             rw [e9, e8] at g
             exact g)
          | (have h9 := zI_n0.mp c33
             have e8 : cwT D t (i + 1) = sTT D (clr (cwM D i) i) (cwT D t i) := by simp only [cwT, if_pos h9]
             have g := ih _ (by omega) (i + 1) rfl (by omega)
             rw [e8] at g
             first
               | (have h7 := zI_0.mp c47
                  have e9 : cwM D (i + 1) = clr (cwM D i) i := by simp only [cwM, h9, h7]; rfl
                  rw [e9] at g
                  exact g)
               | (have h7 := zI_n0.mp c47
                  have e9 : cwM D (i + 1) = cwM D i := by simp only [cwM, h9, h7]; rfl
                  rw [e9] at g
                  exact g))
      · skip
        refine aw_aload_n 0 q_M_clash_36 rfl rfl ?_
        refine aw_iload_n 2 q_M_clash_37 rfl rfl ?_
        refine aw_iconst 1 q_M_clash_38 rfl ?_
        refine aw_iload_n 3 q_M_clash_39 rfl rfl ?_
        refine aw_ishl q_M_clash_40 ?_
        refine aw_iconst (-1) q_M_clash_41 rfl ?_
        refine aw_ixor q_M_clash_42 ?_
        refine aw_iand q_M_clash_43 ?_
        rw [bt_one (by omega), clr_nI]
        refine aw_V1 q_M_clash_44 st_M_156 rfl (by omega) (Nat.le_of_ble_eq_true rfl) (c_M_someHolds _ _ _ _ _ _ k (Nat.lt_of_le_of_lt (clr_le _ _) hw)) ?_
        refine aw_if_ne 58 q_M_clash_47 rfl (fun c47 => ?_) (fun c47 => ?_)
        · skip
          first | refine aw_iinc _ q_M_clash_58 rfl (am_inc _) rfl rfl ?_ | refine aw_iinc _ q_M_clash_58 rfl rfl rfl rfl ?_
          refine aw_goto 20 q_M_clash_61 rfl ?_
          first
            | (have h9 := zI_0.mp c33
               have e9 : cwM D (i + 1) = cwM D i := by simp only [cwM, h9]; rfl
               have e8 : cwT D t (i + 1) = cwT D t i := by simp [cwT, h9]
               have g := ih _ (by omega) (i + 1) rfl (by omega)
               rw [e9, e8] at g
               exact g)
            | (have h9 := zI_n0.mp c33
               have e8 : cwT D t (i + 1) = sTT D (clr (cwM D i) i) (cwT D t i) := by simp only [cwT, if_pos h9]
               have g := ih _ (by omega) (i + 1) rfl (by omega)
               rw [e8] at g
               first
                 | (have h7 := zI_0.mp c47
                    have e9 : cwM D (i + 1) = clr (cwM D i) i := by simp only [cwM, h9, h7]; rfl
                    rw [e9] at g
                    exact g)
                 | (have h7 := zI_n0.mp c47
                    have e9 : cwM D (i + 1) = cwM D i := by simp only [cwM, h9, h7]; rfl
                    rw [e9] at g
                    exact g))
        · skip
          refine aw_iload_n 2 q_M_clash_50 rfl rfl ?_
          refine aw_iconst 1 q_M_clash_51 rfl ?_
          refine aw_iload_n 3 q_M_clash_52 rfl rfl ?_
          refine aw_ishl q_M_clash_53 ?_
          refine aw_iconst (-1) q_M_clash_54 rfl ?_
          refine aw_ixor q_M_clash_55 ?_
          refine aw_iand q_M_clash_56 ?_
          rw [bt_one (by omega), clr_nI]
          refine aw_istore_n 2 q_M_clash_57 rfl rfl rfl ?_
          first | refine aw_iinc _ q_M_clash_58 rfl (am_inc _) rfl rfl ?_ | refine aw_iinc _ q_M_clash_58 rfl rfl rfl rfl ?_
          refine aw_goto 20 q_M_clash_61 rfl ?_
          first
            | (have h9 := zI_0.mp c33
               have e9 : cwM D (i + 1) = cwM D i := by simp only [cwM, h9]; rfl
               have e8 : cwT D t (i + 1) = cwT D t i := by simp [cwT, h9]
               have g := ih _ (by omega) (i + 1) rfl (by omega)
               rw [e9, e8] at g
               exact g)
            | (have h9 := zI_n0.mp c33
               have e8 : cwT D t (i + 1) = sTT D (clr (cwM D i) i) (cwT D t i) := by simp only [cwT, if_pos h9]
               have g := ih _ (by omega) (i + 1) rfl (by omega)
               rw [e8] at g
               first
                 | (have h7 := zI_0.mp c47
                    have e9 : cwM D (i + 1) = clr (cwM D i) i := by simp only [cwM, h9, h7]; rfl
                    rw [e9] at g
                    exact g)
                 | (have h7 := zI_n0.mp c47
                    have e9 : cwM D (i + 1) = cwM D i := by simp only [cwM, h9, h7]; rfl
                    rw [e9] at g
                    exact g))
def clTT (D : ST) (t : TS) : TS := if smM' D (x_mu D) = true then sTT D (x_mu D) t else cwT D (sTT D (x_mu D) t) (x_nc D)
theorem c_M_clash (sc : am_S) (A : ST) (q : QS) (D : ST) (t : TS) (x : Int32) (k : okM D) : AM sc m_M_clash 5 [.ref 50, .int x] (hp A q D t) (some (.int (pI (clM D x)))) (hp A q D (clTT D t)) := by
  refine AM.of (by decide) (Nat.le_of_ble_eq_true rfl) ?_
  show AW sc m_M_clash 5 0 [some (.ref 50), some (.int x), none, none, none] [] _ _ _
  refine aw_aload_n 0 q_M_clash_0 rfl rfl ?_
  refine aw_aload_n 0 q_M_clash_1 rfl rfl ?_
  refine aw_get 9 q_M_clash_2 fl_M_91 rfl rfl ?_
  refine aw_V1 q_M_clash_5 st_M_156 rfl (by omega) (Nat.le_of_ble_eq_true rfl) (c_M_someHolds _ _ _ _ _ _ k (mu_b k.1)) ?_
  refine aw_if_eq 13 q_M_clash_8 rfl (fun c8 => ?_) (fun c8 => ?_)
  · skip
    refine aw_aload_n 0 q_M_clash_13 rfl rfl ?_
    refine aw_get 9 q_M_clash_14 fl_M_91 rfl rfl ?_
    refine aw_istore_n 2 q_M_clash_17 rfl rfl rfl ?_
    refine aw_iconst 0 q_M_clash_18 rfl ?_
    refine aw_istore_n 3 q_M_clash_19 rfl rfl rfl ?_
    have hs := zI_0.mp c8
    have g := l_M_clash sc A q D (sTT D (x_mu D) t) x k _ 0 rfl (by omega)
    rw [show clM D x = fnd (mbp (cwM D (x_nc D)) x) (x_nc D) from by unfold clM; rw [if_neg (by rw [hs]; decide)], show clTT D t = cwT D (sTT D (x_mu D) t) (x_nc D) from by unfold clTT; rw [if_neg (by rw [hs]; decide)]]
    exact g
  · skip
    refine aw_iconst (-1) q_M_clash_11 rfl ?_
    exact aw_iret .int q_M_clash_12 rfl rfl (by unfold clM; rw [if_pos (zI_n0.mp c8)]; rfl) (by unfold clTT; rw [if_pos (zI_n0.mp c8)])
def dfM (D : ST) (m : Nat) : Nat := cnp (fun c => (m ^^^ x_od D).testBit c) (x_nc D)
theorem dfM_le {D : ST} (b : bd D) (m : Nat) : dfM D m ≤ 14 := Nat.le_trans (cnp_le _ _) b.2.2.1
def bdM (D : ST) (m : Nat) (o : Option Nat) : Bool := match o with
  | none => true
  | some n => decide (dfM D m < dfM D n) || (decide (dfM D m = dfM D n) && btr D m (some n))
def nrM (D : ST) (i : Nat) : Option Nat := bst (hwM D (x_mu D)) (bdM D) (sn D) i
theorem nrM_lt {D : ST} (b : bd D) {i k : Nat} (h : nrM D i = some k) : k < 16384 := by
  have := bst_lt (sn_lt D) h
  have := p14 b.2.2.1
  omega
theorem nrM_t {D : ST} {i : Nat} (h : hwM D (x_mu D) (sn D i) = true) (h2 : bdM D (sn D i) (nrM D i) = true) : nrM D (i + 1) = some (sn D i) := by
  unfold nrM at h2 ⊢
  rw [bst, h, h2]
  rfl
theorem nrM_f {D : ST} {i : Nat} (h : hwM D (x_mu D) (sn D i) = false) : nrM D (i + 1) = nrM D i := by
  unfold nrM
  rw [bst, h]
  rfl
theorem nrM_g {D : ST} {i : Nat} (h2 : bdM D (sn D i) (nrM D i) = false) : nrM D (i + 1) = nrM D i := by
  unfold nrM at h2 ⊢
  rw [bst, h2]
  simp
theorem bdM_1 {D : ST} {m n : Nat} (h : dfM D m < dfM D n) : bdM D m (some n) = true := by simp [bdM, h]
theorem bdM_2 {D : ST} {m n : Nat} (h : ¬ dfM D m < dfM D n) (h2 : ¬ dfM D m = dfM D n) : bdM D m (some n) = false := by simp [bdM, h, h2]
theorem bdM_3 {D : ST} {m n : Nat} (h2 : dfM D m = dfM D n) {z : Bool} (h : btr D m (some n) = z) : bdM D m (some n) = z := by simp [bdM, h2, h]
theorem o_M_differ (sc : am_S) (A : ST) (q : QS) (D : ST) (t : TS) (m : Nat) (b : bd D) (hm : m < 16384) (ho : x_od D < 16384) : AM sc m_M_differ 1 [.ref 50, .int (nI m)] (hp A q D t) (some (.int (nI (dfM D m)))) (hp A q D t) := c_M_differ sc A q D t m b hm ho
def chv (D : ST) (o : Option Nat) : Int32 := match o with
  | none => -1
  | some m => nI (dfM D m)
def chM (D : ST) (N : Nat) : Int32 := chv D (nrM D (min N (2 ^ x_nc D)))
theorem c_M_changes_no (sc : am_S) (A : ST) (q : QS) (D : ST) (t : TS) (v : Int64) (hx : ¬ (¬ v < 1 ∧ ¬ 20000 < v)) : AM sc m_M_changes 5 [.ref 50, .long v] (hp A q D t) (some (.int (-1))) (hp A q D t) := by
  refine AM.of (by decide) (Nat.le_of_ble_eq_true rfl) ?_
  show AW sc m_M_changes 5 0 [some (.ref 50), some (.long v), none, none, none, none, none] [] _ _ _
  refine aw_lload_n 1 q_M_changes_0 rfl rfl ?_
  refine aw_lconst 1 q_M_changes_1 rfl ?_
  refine aw_ldc2 20000 q_M_changes_2 (am_in4 (i := 13) rfl rfl) ?_
  refine aw_S3 q_M_changes_5 st_M_72 (by omega) (Nat.le_of_ble_eq_true rfl) (c_M_in _ _ _ _ _) ?_
  refine aw_if_ne 13 q_M_changes_8 rfl (fun c8 => ?_) (fun c8 => ?_)
  · skip
    exact (hx (of_decide_eq_true (zI_n0.mp c8))).elim
  · skip
    refine aw_iconst (-1) q_M_changes_11 rfl ?_
    exact aw_iret .int q_M_changes_12 rfl rfl rfl rfl
theorem l_M_changes3 (sc : am_S) (A : ST) (q : QS) (D : ST) (t : TS) (N : Nat) (k : okM D) (ho : x_od D < 16384) (o : Option Nat) (hn : ∀ m, o = some m → m < 16384) : ∀ (i : Nat) (u1 u2 : Option Value), AW sc m_M_changes 5 126 [some (.ref 50), some (.long (lZ (N : Int))), none, some (.int (pI o)), some (.int (nI i)), none, none] [] (hp A q D t) (some (.int (chv D o))) (hp A q (x_s_pn D o) t) := by
  intro i u1 u2
  have e0 := pI_eq (o := o) (fun m h => by have := hn m h; omega)
  refine aw_aload_n 0 q_M_changes_126 rfl rfl ?_
  refine aw_iload_n 3 q_M_changes_127 rfl rfl ?_
  refine wp_M_16 _ q_M_changes_128 fl_M_47 ?_
  refine aw_iload_n 3 q_M_changes_131 rfl rfl ?_
  refine aw_iconst (-1) q_M_changes_132 rfl ?_
  refine aw_icmp_ne 140 q_M_changes_133 rfl (fun c133 => ?_) (fun c133 => ?_)
  · skip
    obtain ⟨m, hm⟩ := Option.ne_none_iff_exists'.mp (mt e0.mpr c133)
    subst hm
    have hm2 := hn m rfl
    refine aw_aload_n 0 q_M_changes_140 rfl rfl ?_
    refine aw_iload_n 3 q_M_changes_141 rfl rfl ?_
    rw [show pI (some m) = nI m from rfl]
    refine aw_V1 q_M_changes_142 st_M_167 rfl (by omega) (Nat.le_of_ble_eq_true rfl) (o_M_differ _ _ _ (x_s_pn D (some m)) _ m k.1 hm2 ho) ?_
    exact aw_iret .int q_M_changes_145 rfl rfl rfl rfl
  · skip
    refine aw_iconst (-1) q_M_changes_136 rfl ?_
    refine aw_goto 145 q_M_changes_137 rfl ?_
    exact aw_iret .int q_M_changes_145 rfl rfl (by rw [e0.mp c133]; rfl) rfl
theorem t_M_changes (sc : am_S) (A : ST) (q : QS) (D : ST) (t : TS) (N i : Nat) (k : okM D) (ho : x_od D < 16384) (o o' : Option Nat) (r : Option Value) (h' : List am_C) (m : Nat) (hm : m < 16384) (hn : ∀ n, o = some n → n < 16384) (ho' : o' = if bdM D m o = true then some m else o)
  (kk : AW sc m_M_changes 5 120 [some (.ref 50), some (.long (lZ (N : Int))), none, some (.int (pI o')), some (.int (nI i)), none, none] [] (hp A q D t) r h') : AW sc m_M_changes 5 58 [some (.ref 50), some (.long (lZ (N : Int))), none, some (.int (pI o)), some (.int (nI i)), some (.int (nI m)), none] [] (hp A q D t) r h' := by
  have e0 := pI_eq (o := o) (fun m h => by have := hn m h; omega)
  refine aw_iload_n 3 q_M_changes_58 rfl rfl ?_
  refine aw_iconst (-1) q_M_changes_59 rfl ?_
  refine aw_icmp_eq 77 q_M_changes_60 rfl (fun c60 => ?_) (fun c60 => ?_)
  · skip
    have eb : o' = some m := by
      rw [ho', if_pos]
      first
        | (rw [e0.mp c60]; rfl)
        | exact bdM_1 (nge_lt c74 (by omega) (by omega))
    refine aw_iconst 1 q_M_changes_77 rfl ?_
    refine aw_goto 82 q_M_changes_78 rfl ?_
    refine aw_istore q_M_changes_82 rfl rfl ?_
    refine aw_iload q_M_changes_84 rfl ?_
    refine aw_if_ne 113 q_M_changes_86 rfl (fun _ => ?_) (fun c87 => absurd c87 (by decide))
    refine aw_iload q_M_changes_113 rfl ?_
    refine aw_goto 119 q_M_changes_115 rfl ?_
    refine aw_istore_n 3 q_M_changes_119 rfl rfl rfl ?_
    rw [eb] at kk
    exact aw_kill [5, 6] kk
  · skip
    obtain ⟨n, hn1⟩ := Option.ne_none_iff_exists'.mp (mt e0.mpr c60)
    subst hn1
    have hn2 := hn n rfl
    have l1 := dfM_le k.1 m
    have l2 := dfM_le k.1 n
    refine aw_aload_n 0 q_M_changes_63 rfl rfl ?_
    refine aw_iload q_M_changes_64 rfl ?_
    refine aw_V1 q_M_changes_66 st_M_167 rfl (by omega) (Nat.le_of_ble_eq_true rfl) (o_M_differ _ _ _ _ _ _ k.1 hm ho) ?_
    refine aw_aload_n 0 q_M_changes_69 rfl rfl ?_
    refine aw_iload_n 3 q_M_changes_70 rfl rfl ?_
    refine aw_V1 q_M_changes_71 st_M_167 rfl (by omega) (Nat.le_of_ble_eq_true rfl) (o_M_differ _ _ _ _ _ n k.1 hn2 ho) ?_
    refine aw_icmp_ge 81 q_M_changes_74 rfl (fun c74 => ?_) (fun c74 => ?_)
    · skip
      have c86 := nge_ge c74 (by omega) (by omega)
      refine aw_iconst 0 q_M_changes_81 rfl ?_
      refine aw_istore q_M_changes_82 rfl rfl ?_
      refine aw_iload q_M_changes_84 rfl ?_
      refine aw_if_ne 113 q_M_changes_86 rfl (fun c87 => absurd rfl c87) (fun _ => ?_)
      refine aw_aload_n 0 q_M_changes_89 rfl rfl ?_
      refine aw_iload q_M_changes_90 rfl ?_
      refine aw_V1 q_M_changes_92 st_M_167 rfl (by omega) (Nat.le_of_ble_eq_true rfl) (o_M_differ _ _ _ _ _ _ k.1 hm ho) ?_
      refine aw_aload_n 0 q_M_changes_95 rfl rfl ?_
      refine aw_iload_n 3 q_M_changes_96 rfl rfl ?_
      refine aw_V1 q_M_changes_97 st_M_167 rfl (by omega) (Nat.le_of_ble_eq_true rfl) (o_M_differ _ _ _ _ _ n k.1 hn2 ho) ?_
      refine aw_icmp_ne 118 q_M_changes_100 rfl (fun c100 => ?_) (fun c100 => ?_)
      · skip
        have eb : o' = some n := by
          rw [ho', if_neg]
          first
            | (rw [bdM_2 (by omega) (nI_ne (by omega) (by omega) c100)]; decide)
            | (rw [bdM_3 (nI_eq' (by omega) (by omega) c100) (zI_0.mp c110)]; decide)
        refine aw_iload_n 3 q_M_changes_118 rfl rfl ?_
        refine aw_istore_n 3 q_M_changes_119 rfl rfl rfl ?_
        rw [eb] at kk
        exact aw_kill [5, 6] kk
      · skip
        refine aw_aload_n 0 q_M_changes_103 rfl rfl ?_
        refine aw_iload q_M_changes_104 rfl ?_
        refine aw_iload_n 3 q_M_changes_106 rfl rfl ?_
        refine aw_V2 q_M_changes_107 st_M_137 rfl (by omega) (Nat.le_of_ble_eq_true rfl) (c_M_isBetter _ _ _ _ _ _ n k.1 hm hn2) ?_
        refine aw_if_eq 118 q_M_changes_110 rfl (fun c110 => ?_) (fun c110 => ?_)
        · skip
          have eb : o' = some n := by
            rw [ho', if_neg]
            first
              | (rw [bdM_2 (by omega) (nI_ne (by omega) (by omega) c100)]; decide)
              | (rw [bdM_3 (nI_eq' (by omega) (by omega) c100) (zI_0.mp c110)]; decide)
          refine aw_iload_n 3 q_M_changes_118 rfl rfl ?_
          refine aw_istore_n 3 q_M_changes_119 rfl rfl rfl ?_
          rw [eb] at kk
          exact aw_kill [5, 6] kk
        · skip
          have eb : o' = some m := by
            rw [ho', if_pos]
            exact bdM_3 (nI_eq' (by omega) (by omega) c100) (zI_n0.mp c110)
          refine aw_iload q_M_changes_113 rfl ?_
          refine aw_goto 119 q_M_changes_115 rfl ?_
          refine aw_istore_n 3 q_M_changes_119 rfl rfl rfl ?_
          rw [eb] at kk
          exact aw_kill [5, 6] kk
    · skip
      have eb : o' = some m := by
        rw [ho', if_pos]
        first
          | (rw [e0.mp c60]; rfl)
          | exact bdM_1 (nge_lt c74 (by omega) (by omega))
      refine aw_iconst 1 q_M_changes_77 rfl ?_
      refine aw_goto 82 q_M_changes_78 rfl ?_
      refine aw_istore q_M_changes_82 rfl rfl ?_
      refine aw_iload q_M_changes_84 rfl ?_
      refine aw_if_ne 113 q_M_changes_86 rfl (fun _ => ?_) (fun c87 => absurd c87 (by decide))
      refine aw_iload q_M_changes_113 rfl ?_
      refine aw_goto 119 q_M_changes_115 rfl ?_
      refine aw_istore_n 3 q_M_changes_119 rfl rfl rfl ?_
      rw [eb] at kk
      exact aw_kill [5, 6] kk
theorem l_M_changes (sc : am_S) (A : ST) (q : QS) (D : ST) (t : TS) (N : Nat) (k : okM D) (ho : x_od D < 16384) (hN : N ≤ 20000) : ∀ (n i : Nat), min N (2 ^ x_nc D) - i = n → i ≤ min N (2 ^ x_nc D) →  AW sc m_M_changes 5 18 [some (.ref 50), some (.long (lZ (N : Int))), none, some (.int (pI (nrM D i))), some (.int (nI i)), none, none] [] (hp A q D (bT D (x_mu D) t i)) (some (.int (chM D N))) (hp A q (x_s_pn D (nrM D (min N (2 ^ x_nc D)))) (bT D (x_mu D) t (min N (2 ^ x_nc D)))) := by
  intro n
  induction n using Nat.strongRecOn with
  | _ n ih =>
    intro i hn hi
    have b3 := k.1.2.2.1
    have h14 := p14 b3
    have hmn : min N (2 ^ x_nc D) ≤ 2 ^ x_nc D := Nat.min_le_right _ _
    have hs := sn14 k.1 i
    refine aw_iload q_M_changes_18 rfl ?_
    refine aw_i2l q_M_changes_20 ?_
    rw [i_l (by omega)]
    refine aw_lload_n 1 q_M_changes_21 rfl rfl ?_
    refine aw_lcmp_ge 126 q_M_changes_22 q_M_changes_23 rfl (fun c22 => ?_) (fun c22 => ?_)
    · skip
      have he : i = min N (2 ^ x_nc D) := Nat.le_antisymm hi (by
        first
          | (have h1 := (lZ_le (a := (N : Int)) (b := (i : Int)) (by omega) (by omega)).mp c22
             omega)
          | (have h2 := nge_ge c34 (by omega) (by omega)
             omega))
      unfold chM
      rw [← he]
      exact l_M_changes3 sc A q D _ N k ho (nrM D i) (fun _ h => nrM_lt k.1 h) i none none
    · skip
      refine aw_iload q_M_changes_26 rfl ?_
      refine aw_iconst 1 q_M_changes_28 rfl ?_
      refine aw_aload_n 0 q_M_changes_29 rfl rfl ?_
      refine aw_get 4 q_M_changes_30 fl_M_84 rfl rfl ?_
      refine aw_ishl q_M_changes_33 ?_
      rw [bt_one (by omega)]
      refine aw_icmp_ge 126 q_M_changes_34 rfl (fun c34 => ?_) (fun c34 => ?_)
      · skip
        have he : i = min N (2 ^ x_nc D) := Nat.le_antisymm hi (by
          first
            | (have h1 := (lZ_le (a := (N : Int)) (b := (i : Int)) (by omega) (by omega)).mp c22
               omega)
            | (have h2 := nge_ge c34 (by omega) (by omega)
               omega))
        unfold chM
        rw [← he]
        exact l_M_changes3 sc A q D _ N k ho (nrM D i) (fun _ h => nrM_lt k.1 h) i none none
      · skip
        have hlt : i < min N (2 ^ x_nc D) := by
          have h1 := mt (lZ_le (a := (N : Int)) (b := (i : Int)) (by omega) (by omega)).mpr c22
          have h2 := nge_lt c34 (by omega) (by omega)
          omega
        refine aw_aload_n 0 q_M_changes_37 rfl rfl ?_
        refine aw_iload q_M_changes_38 rfl ?_
        refine aw_V1 q_M_changes_40 st_M_131 rfl (by omega) (Nat.le_of_ble_eq_true rfl) (o_M_setAt _ _ _ _ _ _ k.1 (by omega)) ?_
        refine aw_istore q_M_changes_43 rfl rfl ?_
        refine aw_aload_n 0 q_M_changes_45 rfl rfl ?_
        refine aw_iload q_M_changes_46 rfl ?_
        refine aw_aload_n 0 q_M_changes_48 rfl rfl ?_
        refine aw_get 9 q_M_changes_49 fl_M_91 rfl rfl ?_
        refine aw_V2 q_M_changes_52 st_M_134 rfl (by omega) (Nat.le_of_ble_eq_true rfl) (c_M_holdsWith _ _ _ _ _ _ _ k.1 k.2.1 (sn14 k.1 i) (mu_b k.1) k.2.2) ?_
        refine aw_if_eq 120 q_M_changes_55 rfl (fun c55 => ?_) (fun c55 => ?_)
        · skip
          first | refine aw_iinc _ q_M_changes_120 rfl (am_inc _) rfl rfl ?_ | refine aw_iinc _ q_M_changes_120 rfl rfl rfl rfl ?_
          refine aw_goto 18 q_M_changes_123 rfl ?_
          have h8 := zI_0.mp c55
          have g := ih _ (by omega) (i + 1) rfl (by omega)
          rw [nrM_f h8] at g
          exact aw_kill [5, 6] g
        · skip
          have h9 := zI_n0.mp c55
          refine t_M_changes sc A q D _ N i k ho (nrM D i) (nrM D (i + 1)) _ _ (sn D i) hs (fun _ h => nrM_lt k.1 h) ?_ ?_
          · unfold nrM
            rw [bst, h9]
            rfl
          · refine aw_iinc _ q_M_changes_120 rfl (am_inc _) rfl rfl ?_
            refine aw_goto 18 q_M_changes_123 rfl ?_
            exact ih _ (by omega) (i + 1) rfl (by omega)
theorem c_M_changes (sc : am_S) (A : ST) (q : QS) (D : ST) (t : TS) (N : Nat) (k : okM D) (ho : x_od D < 16384) (hN1 : 1 ≤ N) (hN : N ≤ 20000) : AM sc m_M_changes 5 [.ref 50, .long (lZ (N : Int))] (hp A q D t) (some (.int (chM D N))) (hp A q (x_s_pn D (nrM D (min N (2 ^ x_nc D)))) (bT D (x_mu D) t (min N (2 ^ x_nc D)))) := by
  refine AM.of (by decide) (Nat.le_of_ble_eq_true rfl) ?_
  show AW sc m_M_changes 5 0 [some (.ref 50), some (.long (lZ (N : Int))), none, none, none, none, none] [] _ _ _
  refine aw_lload_n 1 q_M_changes_0 rfl rfl ?_
  refine aw_lconst (lZ 1) q_M_changes_1 rfl ?_
  refine aw_ldc2 (lZ (20000)) q_M_changes_2 (am_in4 (i := 13) rfl rfl) ?_
  refine aw_S3 q_M_changes_5 st_M_72 (by omega) (Nat.le_of_ble_eq_true rfl) (c_M_in _ _ _ _ _) ?_
  refine aw_if_ne 13 q_M_changes_8 rfl (fun c8 => ?_) (fun c8 => ?_)
  · skip
    refine aw_iconst (-1) q_M_changes_13 rfl ?_
    refine aw_istore_n 3 q_M_changes_14 rfl rfl rfl ?_
    refine aw_iconst 0 q_M_changes_15 rfl ?_
    refine aw_istore q_M_changes_16 rfl rfl ?_
    exact l_M_changes sc A q D t N k ho hN _ 0 rfl (Nat.zero_le _)
  · skip
    exact absurd (zI_0.mp c8) (by rw [inN (by omega) (by omega) (by omega)]; simp; omega)
