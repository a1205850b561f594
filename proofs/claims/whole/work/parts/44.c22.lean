/-! CONTRACTS 22: the searches by their answers; clash, price, old, changes of the class -/
def sq (q q' : QS) : Prop := q_bk q' = q_bk q ∧ q_ba q' = q_ba q ∧ q_ck q' = q_ck q ∧ q_cl q' = q_cl q
theorem sq_tr {a b c : QS} (h : sq a b) (k : sq b c) : sq a c := ⟨k.1.trans h.1, k.2.1.trans h.2.1, k.2.2.1.trans h.2.2.1, k.2.2.2.trans h.2.2.2⟩
theorem sq_rf (a : QS) : sq a a := ⟨rfl, rfl, rfl, rfl⟩
/-- the class's rows after a search -/
def eS (A : ST) (q : QS) (NI : Int) (N m : Nat) (li : Nat → Int) (od cm : Nat) (oe : Bool) : QS := pst A (zq (QF A q NI m li od cm oe) (SR A (QF A q NI m li od cm oe) N (x_nc A) 0 0 (z0 q))) 0
theorem sq_eS (A : ST) (q : QS) (NI : Int) (N m : Nat) (li : Nat → Int) (od cm : Nat) (oe : Bool) : sq q (eS A q NI N m li od cm oe) := by
  refine ⟨?_, ?_, ?_, ?_⟩
  · unfold eS; rw [ps_bk, zq_bk]; simp only [QF, q_bk]
  · unfold eS; rw [ps_ba, zq_ba]; simp only [QF, q_ba]
  · unfold eS; rw [ps_ck, zq_ck]; simp only [QF, q_ck]
  · unfold eS; rw [ps_cl, zq_cl]; simp only [QF, q_cl]
/-- what the searches ask of what was told -/
def okS (A : ST) : Prop := bd A ∧ jy A ∧ bu0 A ∧ (-1 ≤ x_fa A ∧ x_fa A ≤ 10000000) ∧ x_mu A < 2 ^ x_nc A
theorem rst_eS {A : ST} (b : bd A) {q : QS} (r : rst q) {NI : Int} {N m : Nat} {li : Nat → Int} {od cm : Nat} {oe : Bool} (hN : 0 ≤ NI ∧ NI ≤ 1000000) (hm : m < 16384) (hcm : cm < 16384) (hli : ∀ y, 0 ≤ li y ∧ li y ≤ 1000000000) (h6 : ∀ y, 6 ≤ y → li y = 0) : rst (eS A q NI N m li od cm oe) := by
  unfold eS
  refine rst_end (QF_f b r hN hm hcm (fun y => ?_)) (SR_jz b (x_nc A) 0 0 0 (z0 q) (by omega) (by decide) (z0_jz r)) ?_ ?_
  · have := hli y; omega
  · rw [QF_gli]; exact h6
  · rw [QF_gor]; exact r.2.2.2.2.2.2.2.2.2
theorem bst_lt {hw : Nat → Bool} {bt : Nat → Option Nat → Bool} {f : Nat → Nat} {S : Nat} (hf : ∀ i, f i < S) : ∀ {n m : Nat}, bst hw bt f n = some m → m < S
  | 0, m, h => by simp [bst] at h
  | n + 1, m, h => by
    unfold bst at h
    split at h
    · have e : f n = m := by simpa using h
      rw [← e]; exact hf n
    · exact bst_lt hf h
theorem bst_none {hw : Nat → Bool} {bt : Nat → Option Nat → Bool} {f : Nat → Nat} (hb : ∀ m, bt m none = true) : ∀ {n : Nat}, bst hw bt f n = none ↔ ∀ i, i < n → hw (f i) = false
  | 0 => by simp [bst]
  | n + 1 => by
    have ih := bst_none (hw := hw) (f := f) hb (n := n)
    unfold bst
    constructor
    · intro h
      split at h
      · simp at h
      · rename_i h2
        have i2 := ih.mp h
        intro i hi
        by_cases e : i = n
        · subst e
          rw [h, hb] at h2
          simpa using h2
        · exact i2 i (by omega)
    · intro h
      have i2 := ih.mpr (fun i hi => h i (by omega))
      rw [h n (by omega)]
      simpa using i2
theorem bestP_lt {A : ST} (b : bd A) {mu : Nat} {li : Nat → Int} {N m : Nat} (h : bestP A mu li N = some m) : m < 16384 := by
  have := bst_lt (sn_lt A) h
  have := p14 b.2.2.1
  omega
theorem nearP_lt {A : ST} (b : bd A) {mu : Nat} {li : Nat → Int} {od N m : Nat} (h : nearP A mu li od N = some m) : m < 16384 := by
  have := bst_lt (sn_lt A) h
  have := p14 b.2.2.1
  omega
theorem gd_le {A : ST} {mu : Nat} {li li' : Nat → Int} (h : ∀ y, li y ≤ li' y) {m : Nat} (g : gd A mu li m = true) : gd A mu li' m = true := by
  unfold gd at g ⊢
  simp only [Bool.and_eq_true] at g ⊢
  refine ⟨g.1, waL_iff.mpr (fun y hy => ?_)⟩
  have := waL_iff.mp g.2 y hy
  have := h y
  omega
theorem bestP_more {A : ST} {mu : Nat} {li li' : Nat → Int} (h : ∀ y, li y ≤ li' y) {N m : Nat} (g : bestP A mu li N = some m) : bestP A mu li' N ≠ none := by
  intro e
  have h1 := (bst_none (fun _ => rfl)).mp e
  have : bestP A mu li N = none := (bst_none (fun _ => rfl)).mpr (fun i hi => by
    have h2 := h1 i hi
    by_cases h3 : hw A mu li (sn A i) = true
    · unfold hw at h2 h3
      rw [Bool.and_eq_true] at h3
      rw [gd_le h h3.1, h3.2] at h2
      simp at h2
    · simpa using h3)
  rw [this] at g
  cases g
theorem bu_b {A : ST} (b : bd A) (y : Nat) : 0 ≤ x_bu A y ∧ x_bu A y ≤ 1000000000 := by
  have := b.2.2.2.2.2.2.2.2.2.2.1 y
  omega
def buM (A : ST) (y : Nat) : Nat → Int := va_up (x_bu A) y (x_bu A y + 1000)
theorem buM_b {A : ST} (b : bd A) (y v : Nat) : 0 ≤ buM A y v ∧ buM A y v ≤ 1000000000 := by
  have h1 := b.2.2.2.2.2.2.2.2.2.2.1 y
  have h2 := b.2.2.2.2.2.2.2.2.2.2.1 v
  unfold buM va_up
  split <;> omega
theorem e_S_bestPlan (sc : am_S) (A : ST) (q : QS) (D : ST) (t : TS) (N : Nat) (k : okS A) (r : rst q) (hN : N ≤ 20000) : AM sc m_S_bestPlan 40 [.ref 26, .long (lZ (N : Int))] (hp A q D t) (some (.int (pI (bestP A (x_mu A) (x_bu A) N)))) (hp A (eS A q (N : Int) N (x_mu A) (x_bu A) 0 0 false) D t) := by
  have := c_S_bestPlan sc A q D t N k.1 k.2.1 r k.2.2.1 k.2.2.2.1 hN
  rw [SR_best k.1 k.2.1 q _ N k.2.2.2.2 (fun y => (bu_b k.1 y).1) 0 0] at this
  exact this
theorem e_S_bestPlanWithMore (sc : am_S) (A : ST) (q : QS) (D : ST) (t : TS) (y : Nat) (k : okS A) (r : rst q) (hy : y < 6) : AM sc m_S_bestPlanWithMore 40 [.ref 26, .int (nI y), .long (lZ 1000)] (hp A q D t) (some (.int (pI (bestP A (x_mu A) (buM A y) 16384)))) (hp A (eS A q 16384 16384 (x_mu A) (buM A y) 0 0 false) D t) := by
  have := c_S_bestPlanWithMore sc A q D t y 1000 k.1 k.2.1 r k.2.2.1 k.2.2.2.1 hy (by omega)
  rw [show va_up (x_bu A) y (x_bu A y + 1000) = buM A y from rfl, SR_best k.1 k.2.1 q _ 16384 k.2.2.2.2 (fun v => (buM_b k.1 y v).1) 0 0] at this
  exact this
theorem e_S_nearestPlan (sc : am_S) (A : ST) (q : QS) (D : ST) (t : TS) (N od : Nat) (k : okS A) (r : rst q) (hN : N ≤ 20000) : AM sc m_S_nearestPlan 40 [.ref 26, .long (lZ (N : Int)), .int (nI od)] (hp A q D t) (some (.int (pI (nearP A (x_mu A) (x_bu A) od N)))) (hp A (eS A q (N : Int) N (x_mu A) (x_bu A) od (2 ^ x_nc A - 1) false) D t) := by
  have := c_S_nearestPlan sc A q D t N od k.1 k.2.1 r k.2.2.1 k.2.2.2.1 hN
  rw [SR_best k.1 k.2.1 q _ N k.2.2.2.2 (fun y => (bu_b k.1 y).1) od _] at this
  exact this
theorem e_S_someHolds (sc : am_S) (A : ST) (q : QS) (D : ST) (t : TS) (m : Nat) (k : okS A) (r : rst q) (hm : m < 2 ^ x_nc A) : AM sc m_S_someHolds 40 [.ref 26, .int (nI m)] (hp A q D t) (some (.int (zI (someP A m (x_bu A))))) (hp A (eS A q 16384 16384 m (x_bu A) 0 0 true) D t) := by
  have := c_S_someHolds sc A q D t m k.1 k.2.1 r k.2.2.1 k.2.2.2.1 (by have := p14 k.1.2.2.1; omega)
  rw [SR_any k.1 k.2.1 q _ hm (fun y => (bu_b k.1 y).1) 0 0] at this
  exact this
/-- a set without a choice -/
def clr (a c : Nat) : Nat := a &&& (2 ^ c ^^^ 4294967295)
theorem clr_nI (a c : Nat) : nI a &&& (nI (2 ^ c) ^^^ -1) = nI (clr a c) := by
  rw [show (-1 : Int32) = nI 4294967295 from by decide, nI_xor, nI_and]
  rfl
theorem clr_le (a c : Nat) : clr a c ≤ a := Nat.and_le_left
theorem clr_bit {a c o : Nat} (ho : o < 32) : (clr a c).testBit o = (a.testBit o && !decide (o = c)) := by
  unfold clr
  rw [Nat.testBit_and, Nat.testBit_xor, show (4294967295 : Nat) = 2 ^ 32 - 1 from rfl, Nat.testBit_two_pow_sub_one, Nat.testBit_two_pow]
  by_cases h : o = c
  · subst h; simp [ho]
  · have : ¬ c = o := fun e => h e.symm
    simp [ho, h, this]
theorem clr_id {a c : Nat} (ha : a < 2 ^ 31) (hc : c < 31) : clr a c = a ↔ a.testBit c = false := by
  constructor
  · intro h
    have := clr_bit (a := a) (c := c) (o := c) (by omega)
    rw [h] at this
    simpa using this
  · intro h
    refine Nat.eq_of_testBit_eq (fun o => ?_)
    by_cases ho : o < 32
    · rw [clr_bit ho]
      by_cases e : o = c
      · subst e; simp [h]
      · simp [e]
    · have h1 : a < 2 ^ o := Nat.lt_of_lt_of_le ha (Nat.pow_le_pow_right (by decide) (by omega))
      rw [Nat.testBit_lt_two_pow h1, Nat.testBit_lt_two_pow (Nat.lt_of_le_of_lt (clr_le a c) h1)]
/-- the musts that clash, while the choices below i were looked at -/
def clw (A : ST) : Nat → Nat
  | 0 => x_mu A
  | i + 1 => if ((clw A i).testBit i && !someP A (clr (clw A i) i) (x_bu A)) = true then clr (clw A i) i else clw A i
def clq (A : ST) (q : QS) : Nat → QS
  | 0 => q
  | i + 1 => if (clw A i).testBit i = true then eS A (clq A q i) 16384 16384 (clr (clw A i) i) (x_bu A) 0 0 true else clq A q i
theorem clw_lt {A : ST} (k : okS A) : ∀ i, clw A i < 2 ^ x_nc A
  | 0 => k.2.2.2.2
  | i + 1 => by
    have := clw_lt k i
    unfold clw
    split
    · exact Nat.lt_of_le_of_lt (clr_le _ _) this
    · exact this
theorem clq_rst {A : ST} (k : okS A) {q : QS} (r : rst q) : ∀ i, rst (clq A q i)
  | 0 => r
  | i + 1 => by
    have h := clq_rst k r i
    unfold clq
    split
    · refine rst_eS k.1 h (by omega) (Nat.lt_of_le_of_lt (clr_le _ _) ?_) (by decide) (bu_b k.1) k.2.2.1
      have := clw_lt k i
      have := p14 k.1.2.2.1
      omega
    · exact h
theorem clq_sq (A : ST) (q : QS) : ∀ i, sq q (clq A q i)
  | 0 => sq_rf q
  | i + 1 => by
    have h := clq_sq A q i
    unfold clq
    split
    · exact sq_tr h (sq_eS _ _ _ _ _ _ _ _ _)
    · exact h
theorem l_B_clashingMusts (sc : am_S) (A : ST) (q : QS) (D : ST) (t : TS)  (k : okS A) (r : rst q) : ∀ (n i : Nat), x_nc A - i = n → i ≤ x_nc A →  AW sc m_B_clashingMusts 41 10 [some (.ref 1), some (.int (nI (clw A i))), some (.int (nI i)), none] [] (hp A (clq A q i) D t) (some (.int (nI (clw A (x_nc A))))) (hp A (clq A q (x_nc A)) D t) := by
  intro n
  induction n using Nat.strongRecOn with
  | _ n ih =>
    intro i hn hi
    have b3 := k.1.2.2.1
    have h14 := p14 b3
    have hw := clw_lt k i
    refine aw_iload_n 2 q_B_clashingMusts_10 rfl rfl ?_
    refine aw_aload_n 0 q_B_clashingMusts_11 rfl rfl ?_
    refine aw_get 0 q_B_clashingMusts_12 fl_B_23 rfl rfl ?_
    refine aw_get 5 q_B_clashingMusts_15 fl_B_71 rfl rfl ?_
    refine aw_icmp_ge 53 q_B_clashingMusts_18 rfl (fun c18 => ?_) (fun c18 => ?_)
    · skip
      refine aw_iload_n 1 q_B_clashingMusts_53 rfl rfl ?_
      exact aw_iret .int q_B_clashingMusts_54 rfl rfl (by rw [show i = x_nc A from Nat.le_antisymm hi (nge_ge c18 (by omega) (by omega))]) (by rw [show i = x_nc A from Nat.le_antisymm hi (nge_ge c18 (by omega) (by omega))])
    · skip
      have hlt : i < x_nc A := nge_lt c18 (by omega) (by omega)
      refine aw_iload_n 1 q_B_clashingMusts_21 rfl rfl ?_
      refine aw_iconst 1 q_B_clashingMusts_22 rfl ?_
      refine aw_iload_n 2 q_B_clashingMusts_23 rfl rfl ?_
      refine aw_ishl q_B_clashingMusts_24 ?_
      refine aw_iconst (-1) q_B_clashingMusts_25 rfl ?_
      refine aw_ixor q_B_clashingMusts_26 ?_
      refine aw_iand q_B_clashingMusts_27 ?_
      rw [bt_one (by omega), clr_nI]
      refine aw_istore_n 3 q_B_clashingMusts_28 rfl rfl rfl ?_
      refine aw_iload_n 3 q_B_clashingMusts_29 rfl rfl ?_
      refine aw_iload_n 1 q_B_clashingMusts_30 rfl rfl ?_
      refine aw_icmp_eq 47 q_B_clashingMusts_31 rfl (fun c31 => ?_) (fun c31 => ?_)
      · skip
        first | refine aw_iinc _ q_B_clashingMusts_47 rfl (am_inc _) rfl rfl ?_ | refine aw_iinc _ q_B_clashingMusts_47 rfl rfl rfl rfl ?_
        refine aw_goto 10 q_B_clashingMusts_50 rfl ?_
        first
          | (have h9 : (clw A i).testBit i = false := (clr_id (by omega) (by omega)).mp (nI_eq' (by have := clr_le (clw A i) i; omega) (by omega) c31)
             have e9 : clw A (i + 1) = clw A i := by simp only [clw, h9]; rfl
             have e8 : clq A q (i + 1) = clq A q i := by simp [clq, h9]
             refine aw_kill [3] ?_
             have g := ih _ (by omega) (i + 1) rfl (by omega)
             rw [e9, e8] at g
             exact g)
          | (have h9 : (clw A i).testBit i = true := by
               cases h8 : (clw A i).testBit i with
               | true => rfl
               | false => exact absurd (congrArg nI ((clr_id (a := clw A i) (c := i) (by omega) (by omega)).mpr h8)) c31
             have e8 : clq A q (i + 1) = eS A (clq A q i) 16384 16384 (clr (clw A i) i) (x_bu A) 0 0 true := by simp only [clq, if_pos h9]
             refine aw_kill [3] ?_
             have g := ih _ (by omega) (i + 1) rfl (by omega)
             rw [e8] at g
             first
               | (have h7 := zI_0.mp c42
                  have e9 : clw A (i + 1) = clr (clw A i) i := by simp only [clw, h9, h7]; rfl
                  rw [e9] at g
                  exact g)
               | (have h7 := zI_n0.mp c42
                  have e9 : clw A (i + 1) = clw A i := by simp only [clw, h9, h7]; rfl
                  rw [e9] at g
                  exact g))
      · skip
        refine aw_aload_n 0 q_B_clashingMusts_34 rfl rfl ?_
        refine aw_get 1 q_B_clashingMusts_35 fl_B_32 rfl rfl ?_
        refine aw_iload_n 3 q_B_clashingMusts_38 rfl rfl ?_
        refine aw_V1 q_B_clashingMusts_39 st_B_159 rfl (by omega) (Nat.le_of_ble_eq_true rfl) (e_S_someHolds _ _ _ _ _ _ k (clq_rst k r i) (Nat.lt_of_le_of_lt (clr_le _ _) hw)) ?_
        refine aw_if_ne 47 q_B_clashingMusts_42 rfl (fun c42 => ?_) (fun c42 => ?_)
        · skip
          first | refine aw_iinc _ q_B_clashingMusts_47 rfl (am_inc _) rfl rfl ?_ | refine aw_iinc _ q_B_clashingMusts_47 rfl rfl rfl rfl ?_
          refine aw_goto 10 q_B_clashingMusts_50 rfl ?_
          first
            | (have h9 : (clw A i).testBit i = false := (clr_id (by omega) (by omega)).mp (nI_eq' (by have := clr_le (clw A i) i; omega) (by omega) c31)
               have e9 : clw A (i + 1) = clw A i := by simp only [clw, h9]; rfl
               have e8 : clq A q (i + 1) = clq A q i := by simp [clq, h9]
               refine aw_kill [3] ?_
               have g := ih _ (by omega) (i + 1) rfl (by omega)
               rw [e9, e8] at g
               exact g)
            | (have h9 : (clw A i).testBit i = true := by
                 cases h8 : (clw A i).testBit i with
                 | true => rfl
                 | false => exact absurd (congrArg nI ((clr_id (a := clw A i) (c := i) (by omega) (by omega)).mpr h8)) c31
               have e8 : clq A q (i + 1) = eS A (clq A q i) 16384 16384 (clr (clw A i) i) (x_bu A) 0 0 true := by simp only [clq, if_pos h9]
               refine aw_kill [3] ?_
               have g := ih _ (by omega) (i + 1) rfl (by omega)
               rw [e8] at g
               first
                 | (have h7 := zI_0.mp c42
                    have e9 : clw A (i + 1) = clr (clw A i) i := by simp only [clw, h9, h7]; rfl
                    rw [e9] at g
                    exact g)
                 | (have h7 := zI_n0.mp c42
                    have e9 : clw A (i + 1) = clw A i := by simp only [clw, h9, h7]; rfl
                    rw [e9] at g
                    exact g))
        · skip
          refine aw_iload_n 3 q_B_clashingMusts_45 rfl rfl ?_
          refine aw_istore_n 1 q_B_clashingMusts_46 rfl rfl rfl ?_
          first | refine aw_iinc _ q_B_clashingMusts_47 rfl (am_inc _) rfl rfl ?_ | refine aw_iinc _ q_B_clashingMusts_47 rfl rfl rfl rfl ?_
          refine aw_goto 10 q_B_clashingMusts_50 rfl ?_
          first
            | (have h9 : (clw A i).testBit i = false := (clr_id (by omega) (by omega)).mp (nI_eq' (by have := clr_le (clw A i) i; omega) (by omega) c31)
               have e9 : clw A (i + 1) = clw A i := by simp only [clw, h9]; rfl
               have e8 : clq A q (i + 1) = clq A q i := by simp [clq, h9]
               refine aw_kill [3] ?_
               have g := ih _ (by omega) (i + 1) rfl (by omega)
               rw [e9, e8] at g
               exact g)
            | (have h9 : (clw A i).testBit i = true := by
                 cases h8 : (clw A i).testBit i with
                 | true => rfl
                 | false => exact absurd (congrArg nI ((clr_id (a := clw A i) (c := i) (by omega) (by omega)).mpr h8)) c31
               have e8 : clq A q (i + 1) = eS A (clq A q i) 16384 16384 (clr (clw A i) i) (x_bu A) 0 0 true := by simp only [clq, if_pos h9]
               refine aw_kill [3] ?_
               have g := ih _ (by omega) (i + 1) rfl (by omega)
               rw [e8] at g
               first
                 | (have h7 := zI_0.mp c42
                    have e9 : clw A (i + 1) = clr (clw A i) i := by simp only [clw, h9, h7]; rfl
                    rw [e9] at g
                    exact g)
                 | (have h7 := zI_n0.mp c42
                    have e9 : clw A (i + 1) = clw A i := by simp only [clw, h9, h7]; rfl
                    rw [e9] at g
                    exact g))
theorem c_B_clashingMusts (sc : am_S) (A : ST) (q : QS) (D : ST) (t : TS)  (k : okS A) (r : rst q) : AM sc m_B_clashingMusts 41 [.ref 1] (hp A q D t) (some (.int (nI (clw A (x_nc A))))) (hp A (clq A q (x_nc A)) D t) := by
  refine AM.of (by decide) (Nat.le_of_ble_eq_true rfl) ?_
  show AW sc m_B_clashingMusts 41 0 [some (.ref 1), none, none, none] [] _ _ _
  refine aw_aload_n 0 q_B_clashingMusts_0 rfl rfl ?_
  refine aw_get 0 q_B_clashingMusts_1 fl_B_23 rfl rfl ?_
  refine aw_get 10 q_B_clashingMusts_4 fl_B_87 rfl rfl ?_
  refine aw_istore_n 1 q_B_clashingMusts_7 rfl rfl rfl ?_
  refine aw_iconst 0 q_B_clashingMusts_8 rfl ?_
  refine aw_istore_n 2 q_B_clashingMusts_9 rfl rfl rfl ?_
  exact l_B_clashingMusts sc A q D t k r _ 0 rfl (by omega)
def cla (A : ST) : Nat := if someP A (x_mu A) (x_bu A) = true then 0 else clw A (x_nc A)
theorem cla_lt {A : ST} (k : okS A) : cla A < 16384 := by
  have := clw_lt k (x_nc A)
  have := p14 k.1.2.2.1
  unfold cla
  split <;> omega
def clQ (A : ST) (q : QS) : QS := if someP A (x_mu A) (x_bu A) = true then eS A q 16384 16384 (x_mu A) (x_bu A) 0 0 true else clq A (eS A q 16384 16384 (x_mu A) (x_bu A) 0 0 true) (x_nc A)
theorem mu14 {A : ST} (k : okS A) : x_mu A < 16384 := k.1.2.2.2.2.2.2.2.2.2.2.2.2.1
theorem clQ0_rst {A : ST} (k : okS A) {q : QS} (r : rst q) : rst (eS A q 16384 16384 (x_mu A) (x_bu A) 0 0 true) := rst_eS k.1 r (by omega) (mu14 k) (by decide) (bu_b k.1) k.2.2.1
theorem clQ_rst {A : ST} (k : okS A) {q : QS} (r : rst q) : rst (clQ A q) := by
  unfold clQ
  split
  · exact clQ0_rst k r
  · exact clq_rst k (clQ0_rst k r) _
theorem clQ_sq (A : ST) (q : QS) : sq q (clQ A q) := by
  unfold clQ
  split
  · exact sq_eS _ _ _ _ _ _ _ _ _
  · exact sq_tr (sq_eS _ _ _ _ _ _ _ _ _) (clq_sq _ _ _)
theorem c_B_clash_k (sc : am_S) (A : ST) (q : QS) (D : ST) (t : TS) (x : Int32) (k : okS A) (hk : q_ck q = true) (hc : q_cl q = cla A) : AM sc m_B_clash 42 [.ref 1, .int x] (hp A q D t) (some (.int (pI (mbo (cla A) x)))) (hp A q D t) := by
  refine AM.of (by decide) (Nat.le_of_ble_eq_true rfl) ?_
  show AW sc m_B_clash 42 0 [some (.ref 1), some (.int x)] [] _ _ _
  have hl : q_cl q < 16384 := by rw [hc]; exact cla_lt k
  refine aw_aload_n 0 q_B_clash_0 rfl rfl ?_
  refine aw_get 9 q_B_clash_1 fl_B_156 rfl rfl ?_
  refine aw_if_ne 41 q_B_clash_4 rfl (fun c4 => ?_) (fun c4 => ?_)
  · skip
    refine aw_aload_n 0 q_B_clash_41 rfl rfl ?_
    refine aw_get 10 q_B_clash_42 fl_B_165 rfl rfl ?_
    refine aw_iload_n 1 q_B_clash_45 rfl rfl ?_
    refine aw_S2 q_B_clash_46 st_B_168 (by omega) (Nat.le_of_ble_eq_true rfl) (c_B_memberOf _ _ _ _ (by first | assumption | exact absurd (zI_0.mpr hk) c4)) ?_
    exact aw_iret .int q_B_clash_49 rfl rfl (by rw [hc]) rfl
  · skip
    exact absurd (zI_0.mp c4) (by rw [hk]; decide)
theorem c_B_clash_n (sc : am_S) (A : ST) (q : QS) (D : ST) (t : TS) (x : Int32) (k : okS A) (r : rst q) (hk : q_ck q = false) : AM sc m_B_clash 42 [.ref 1, .int x] (hp A q D t) (some (.int (pI (mbo (cla A) x)))) (hp A (q_s_ck (q_s_cl (clQ A q) (cla A)) true) D t) := by
  refine AM.of (by decide) (Nat.le_of_ble_eq_true rfl) ?_
  show AW sc m_B_clash 42 0 [some (.ref 1), some (.int x)] [] _ _ _
  have hl := cla_lt k
  refine aw_aload_n 0 q_B_clash_0 rfl rfl ?_
  refine aw_get 9 q_B_clash_1 fl_B_156 rfl rfl ?_
  refine aw_if_ne 41 q_B_clash_4 rfl (fun c4 => ?_) (fun c4 => ?_)
  · skip
    refine aw_aload_n 0 q_B_clash_41 rfl rfl ?_
    refine aw_get 10 q_B_clash_42 fl_B_165 rfl rfl ?_
    refine aw_iload_n 1 q_B_clash_45 rfl rfl ?_
    refine aw_S2 q_B_clash_46 st_B_168 (by omega) (Nat.le_of_ble_eq_true rfl) (c_B_memberOf _ _ _ _ (by first | assumption | exact absurd (zI_0.mpr hk) c4)) ?_
    exact absurd (zI_0.mpr hk) c4
  · skip
    refine aw_aload_n 0 q_B_clash_7 rfl rfl ?_
    refine aw_aload_n 0 q_B_clash_8 rfl rfl ?_
    refine aw_get 1 q_B_clash_9 fl_B_32 rfl rfl ?_
    refine aw_aload_n 0 q_B_clash_12 rfl rfl ?_
    refine aw_get 0 q_B_clash_13 fl_B_23 rfl rfl ?_
    refine aw_get 10 q_B_clash_16 fl_B_87 rfl rfl ?_
    refine aw_V1 q_B_clash_19 st_B_159 rfl (by omega) (Nat.le_of_ble_eq_true rfl) (e_S_someHolds _ _ _ _ _ _ k r k.2.2.2.2) ?_
    refine aw_if_eq 29 q_B_clash_22 rfl (fun c22 => ?_) (fun c22 => ?_)
    · skip
      have hs := zI_0.mp c22
      have e1 : cla A = clw A (x_nc A) := by simp [cla, hs]
      have e2 : clQ A q = clq A (eS A q 16384 16384 (x_mu A) (x_bu A) 0 0 true) (x_nc A) := by simp [clQ, hs]
      refine aw_aload_n 0 q_B_clash_29 rfl rfl ?_
      refine aw_V0 q_B_clash_30 st_B_162 rfl (by omega) (Nat.le_of_ble_eq_true rfl) (c_B_clashingMusts _ _ _ _ _ k (clQ0_rst k r)) ?_
      rw [← e2]
      first
        | rw [show (0 : Int32) = nI (cla A) from by rw [e1]; rfl]
        | rw [← e1]
      refine wp_B_10 _ q_B_clash_33 fl_B_165 ?_
      refine aw_aload_n 0 q_B_clash_36 rfl rfl ?_
      refine aw_iconst 1 q_B_clash_37 rfl ?_
      refine wp_B_9 true q_B_clash_38 fl_B_156 ?_
      refine aw_aload_n 0 q_B_clash_41 rfl rfl ?_
      refine aw_get 10 q_B_clash_42 fl_B_165 rfl rfl ?_
      refine aw_iload_n 1 q_B_clash_45 rfl rfl ?_
      refine aw_S2 q_B_clash_46 st_B_168 (by omega) (Nat.le_of_ble_eq_true rfl) (c_B_memberOf _ _ _ _ (by first | assumption | exact absurd (zI_0.mpr hk) c4)) ?_
      exact aw_iret .int q_B_clash_49 rfl rfl rfl rfl
    · skip
      have hs := zI_n0.mp c22
      have e1 : cla A = 0 := by simp only [cla, if_pos hs]
      have e2 : clQ A q = eS A q 16384 16384 (x_mu A) (x_bu A) 0 0 true := by simp only [clQ, if_pos hs]
      refine aw_iconst 0 q_B_clash_25 rfl ?_
      refine aw_goto 33 q_B_clash_26 rfl ?_
      rw [← e2]
      first
        | rw [show (0 : Int32) = nI (cla A) from by rw [e1]; rfl]
        | rw [← e1]
      refine wp_B_10 _ q_B_clash_33 fl_B_165 ?_
      refine aw_aload_n 0 q_B_clash_36 rfl rfl ?_
      refine aw_iconst 1 q_B_clash_37 rfl ?_
      refine wp_B_9 true q_B_clash_38 fl_B_156 ?_
      refine aw_aload_n 0 q_B_clash_41 rfl rfl ?_
      refine aw_get 10 q_B_clash_42 fl_B_165 rfl rfl ?_
      refine aw_iload_n 1 q_B_clash_45 rfl rfl ?_
      refine aw_S2 q_B_clash_46 st_B_168 (by omega) (Nat.le_of_ble_eq_true rfl) (c_B_memberOf _ _ _ _ (by first | assumption | exact absurd (zI_0.mpr hk) c4)) ?_
      exact aw_iret .int q_B_clash_49 rfl rfl rfl rfl
