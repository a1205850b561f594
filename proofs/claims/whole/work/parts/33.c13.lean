/-! CONTRACTS 13: the class's own small methods -/
/-- the first number below n that has p -/
def fnd (p : Nat → Bool) : Nat → Option Nat
  | 0 => none
  | n + 1 => match fnd p n with
    | some i => some i
    | none => if p n = true then some n else none
theorem fnd_hit {p : Nat → Bool} {i : Nat} (h0 : fnd p i = none) (h : p i = true) : ∀ {n : Nat}, i < n → fnd p n = some i
  | 0, hn => by omega
  | n + 1, hn => by
    by_cases e : i = n
    · subst e
      simp only [fnd, h0, if_pos h]
    · simp only [fnd, fnd_hit h0 h (n := n) (by omega)]
theorem fnd_miss {p : Nat → Bool} {i : Nat} (h0 : fnd p i = none) (h : p i = false) : fnd p (i + 1) = none := by simp [fnd, h0, h]
/-- how many below i have p -/
def cnp (p : Nat → Bool) : Nat → Nat
  | 0 => 0
  | n + 1 => if p n = true then cnp p n + 1 else cnp p n
theorem cnp_le (p : Nat → Bool) : ∀ n, cnp p n ≤ n
  | 0 => Nat.le_refl _
  | n + 1 => by
    have := cnp_le p n
    unfold cnp
    split <;> omega
/-- the k-th member of a set below 14 -/
def mbp (m : Nat) (k : Int32) : Nat → Bool := fun i => m.testBit i && decide (nI (cnp (fun c => m.testBit c) i) = k)
def mbo (m : Nat) (k : Int32) : Option Nat := fnd (mbp m k) 14
theorem l_B_memberOf (sc : am_S) (h : List am_C) (m : Nat) (k : Int32) (hm : m < 16384) : ∀ (n i : Nat), 14 - i = n → i ≤ 14 → fnd (mbp m k) i = none → AW sc m_B_memberOf 1 4 [some (.int (nI m)), some (.int k), some (.int (nI (cnp (fun c => m.testBit c) i))), some (.int (nI i))] [] h (some (.int (pI (mbo m k)))) h := by
  intro n
  induction n using Nat.strongRecOn with
  | _ n ih =>
    intro i hn hi
    intro hw
    refine aw_iload_n 3 q_B_memberOf_4 rfl rfl ?_
    refine aw_bipush 14 q_B_memberOf_5 rfl ?_
    refine aw_icmp_ge 34 q_B_memberOf_7 rfl (fun c7 => ?_) (fun c7 => ?_)
    · skip
      refine aw_iconst (-1) q_B_memberOf_34 rfl ?_
      exact aw_iret .int q_B_memberOf_35 rfl rfl (by unfold mbo; rw [show i = 14 from Nat.le_antisymm hi (nge_ge (b := 14) c7 (by omega) (by omega))] at hw; rw [hw]; rfl) rfl
    · skip
      have hlt : i < 14 := nge_lt (b := 14) c7 (by omega) (by omega)
      refine aw_iload_n 0 q_B_memberOf_10 rfl rfl ?_
      refine aw_iload_n 3 q_B_memberOf_11 rfl rfl ?_
      refine aw_S2 q_B_memberOf_12 st_B_90 (by omega) (Nat.le_of_ble_eq_true rfl) (c_B_isIn _ _ _ _ (by omega) (by omega)) ?_
      refine aw_if_eq 28 q_B_memberOf_15 rfl (fun c15 => ?_) (fun c15 => ?_)
      · skip
        first | refine aw_iinc _ q_B_memberOf_28 rfl (am_inc _) rfl rfl ?_ | refine aw_iinc _ q_B_memberOf_28 rfl rfl rfl rfl ?_
        refine aw_goto 4 q_B_memberOf_31 rfl ?_
        first
          | (have h9 := zI_0.mp c15; have e9 : cnp (fun c => m.testBit c) (i + 1) = cnp (fun c => m.testBit c) i := by simp [cnp, h9]
             rw [← e9]; exact ih _ (by omega) (i + 1) rfl (by omega) (fnd_miss hw (by simp [mbp, h9])))
          | (have h9 := zI_n0.mp c15; have e9 : cnp (fun c => m.testBit c) (i + 1) = cnp (fun c => m.testBit c) i + 1 := by simp [cnp, h9]
             rw [← e9]; exact ih _ (by omega) (i + 1) rfl (by omega) (fnd_miss hw (by simp [mbp, c20])))
      · skip
        refine aw_iload_n 2 q_B_memberOf_18 rfl rfl ?_
        refine aw_iload_n 1 q_B_memberOf_19 rfl rfl ?_
        refine aw_icmp_ne 25 q_B_memberOf_20 rfl (fun c20 => ?_) (fun c20 => ?_)
        · skip
          first | refine aw_iinc _ q_B_memberOf_25 rfl (am_inc _) rfl rfl ?_ | refine aw_iinc _ q_B_memberOf_25 rfl rfl rfl rfl ?_
          first | refine aw_iinc _ q_B_memberOf_28 rfl (am_inc _) rfl rfl ?_ | refine aw_iinc _ q_B_memberOf_28 rfl rfl rfl rfl ?_
          refine aw_goto 4 q_B_memberOf_31 rfl ?_
          first
            | (have h9 := zI_0.mp c15; have e9 : cnp (fun c => m.testBit c) (i + 1) = cnp (fun c => m.testBit c) i := by simp [cnp, h9]
               rw [← e9]; exact ih _ (by omega) (i + 1) rfl (by omega) (fnd_miss hw (by simp [mbp, h9])))
            | (have h9 := zI_n0.mp c15; have e9 : cnp (fun c => m.testBit c) (i + 1) = cnp (fun c => m.testBit c) i + 1 := by simp [cnp, h9]
               rw [← e9]; exact ih _ (by omega) (i + 1) rfl (by omega) (fnd_miss hw (by simp [mbp, c20])))
        · skip
          refine aw_iload_n 3 q_B_memberOf_23 rfl rfl ?_
          exact aw_iret .int q_B_memberOf_24 rfl rfl (by unfold mbo; rw [fnd_hit hw (by simp [mbp, zI_n0.mp c15, c20]) hlt]; rfl) rfl
theorem c_B_memberOf (sc : am_S) (h : List am_C) (m : Nat) (k : Int32) (hm : m < 16384) : AM sc m_B_memberOf 1 [.int (nI m), .int k] h (some (.int (pI (mbo m k)))) h := by
  refine AM.of (by decide) (Nat.le_of_ble_eq_true rfl) ?_
  show AW sc m_B_memberOf 1 0 [some (.int (nI m)), some (.int k), none, none] [] _ _ _
  refine aw_iconst 0 q_B_memberOf_0 rfl ?_
  refine aw_istore_n 2 q_B_memberOf_1 rfl rfl rfl ?_
  refine aw_iconst 0 q_B_memberOf_2 rfl ?_
  refine aw_istore_n 3 q_B_memberOf_3 rfl rfl rfl ?_
  exact l_B_memberOf sc h m k hm _ 0 rfl (by omega) rfl
def fgA (A : ST) : ST := x_s_pr (x_s_pn A none) false
def fgq (q : QS) : QS := q_s_ck (q_s_bk q false) false
theorem c_B_forget (sc : am_S) (A : ST) (q : QS) (D : ST) (t : TS)   : AM sc m_B_forget 0 [.ref 1] (hp A q D t) (none) (hp (fgA A) (fgq q) D t) := by
  refine AM.of (by decide) (Nat.le_of_ble_eq_true rfl) ?_
  show AW sc m_B_forget 0 0 [some (.ref 1)] [] _ _ _
  refine aw_aload_n 0 q_B_forget_0 rfl rfl ?_
  refine aw_iconst (-1) q_B_forget_1 rfl ?_
  refine wp_B_4 none q_B_forget_2 fl_B_50 ?_
  refine aw_aload_n 0 q_B_forget_5 rfl rfl ?_
  refine aw_iconst 0 q_B_forget_6 rfl ?_
  refine wp_B_6 false q_B_forget_7 fl_B_137 ?_
  refine aw_aload_n 0 q_B_forget_10 rfl rfl ?_
  refine aw_iconst 0 q_B_forget_11 rfl ?_
  refine wp_B_7 false q_B_forget_12 fl_B_222 ?_
  refine aw_aload_n 0 q_B_forget_15 rfl rfl ?_
  refine aw_iconst 0 q_B_forget_16 rfl ?_
  refine wp_B_9 false q_B_forget_17 fl_B_156 ?_
  exact aw_vret q_B_forget_20 rfl rfl rfl
def pon (A : ST) : Nat := (x_pn A).getD 0
def pn14 (A : ST) : Prop := ∀ m, x_pn A = some m → m < 16384
theorem pn_eq {A : ST} (h : pn14 A) : pI (x_pn A) = -1 ↔ x_pn A = none := pI_eq (fun m e => by have := h m e; omega)
theorem pon_lt {A : ST} (h : pn14 A) : pon A < 16384 := by
  unfold pon
  cases e : x_pn A with
  | none => simp
  | some m => exact h m e
theorem c_B_planOrNothing (sc : am_S) (A : ST) (q : QS) (D : ST) (t : TS)  (hp1 : pn14 A) : AM sc m_B_planOrNothing 0 [.ref 1] (hp A q D t) (some (.int (nI (pon A)))) (hp A q D t) := by
  refine AM.of (by decide) (Nat.le_of_ble_eq_true rfl) ?_
  show AW sc m_B_planOrNothing 0 0 [some (.ref 1)] [] _ _ _
  refine aw_aload_n 0 q_B_planOrNothing_0 rfl rfl ?_
  refine aw_get 4 q_B_planOrNothing_1 fl_B_50 rfl rfl ?_
  refine aw_iconst (-1) q_B_planOrNothing_4 rfl ?_
  refine aw_icmp_ne 12 q_B_planOrNothing_5 rfl (fun c5 => ?_) (fun c5 => ?_)
  · skip
    refine aw_aload_n 0 q_B_planOrNothing_12 rfl rfl ?_
    refine aw_get 4 q_B_planOrNothing_13 fl_B_50 rfl rfl ?_
    exact aw_iret .int q_B_planOrNothing_16 rfl rfl (by have e := mt (pn_eq hp1).mpr c5; unfold pon; cases e2 : x_pn A with
      | none => exact absurd e2 e
      | some m => rfl) rfl
  · skip
    refine aw_iconst 0 q_B_planOrNothing_8 rfl ?_
    refine aw_goto 16 q_B_planOrNothing_9 rfl ?_
    exact aw_iret .int q_B_planOrNothing_16 rfl rfl (by have e := (pn_eq hp1).mp c5; unfold pon; rw [e]; rfl) rfl
theorem c_B_proved (sc : am_S) (A : ST) (q : QS) (D : ST) (t : TS)   : AM sc m_B_proved 0 [.ref 1] (hp A q D t) (some (.int (zI (x_pr A)))) (hp A q D t) := by
  refine AM.of (by decide) (Nat.le_of_ble_eq_true rfl) ?_
  show AW sc m_B_proved 0 0 [some (.ref 1)] [] _ _ _
  refine aw_aload_n 0 q_B_proved_0 rfl rfl ?_
  refine aw_get 6 q_B_proved_1 fl_B_137 rfl rfl ?_
  exact aw_iret .boolean q_B_proved_4 rfl (zI_nar _) rfl rfl
theorem c_B_chosen (sc : am_S) (A : ST) (q : QS) (D : ST) (t : TS) (x : Int32) (b : bd A) (hp1 : pn14 A) : AM sc m_B_chosen 1 [.ref 1, .int x] (hp A q D t) (some (.int (zI (decide (¬ x < 0 ∧ ¬ nI (x_nc A) ≤ x) && (pon A).testBit x.toNatClampNeg)))) (hp A q D t) := by
  refine AM.of (by decide) (Nat.le_of_ble_eq_true rfl) ?_
  show AW sc m_B_chosen 1 0 [some (.ref 1), some (.int x)] [] _ _ _
  have b3 := b.2.2.1
  have hpl := pon_lt hp1
  refine aw_aload_n 0 q_B_chosen_0 rfl rfl ?_
  refine aw_get 0 q_B_chosen_1 fl_B_23 rfl rfl ?_
  refine aw_iload_n 1 q_B_chosen_4 rfl rfl ?_
  refine aw_V1 q_B_chosen_5 st_B_84 rfl (by omega) (Nat.le_of_ble_eq_true rfl) (c_W_isChoice _ _ _ _ _ _) ?_
  refine aw_if_eq 26 q_B_chosen_8 rfl (fun c8 => ?_) (fun c8 => ?_)
  · skip
    refine aw_iconst 0 q_B_chosen_26 rfl ?_
    exact aw_iret .boolean q_B_chosen_27 rfl rfl (aw_rz0 (by rw [zI_0.mp c8]; rfl)) rfl
  · skip
    obtain ⟨c, hc, rfl⟩ : ∃ c, c < x_nc A ∧ x = nI c := by
      have h9 := zI_n0.mp c8
      simp at h9
      obtain ⟨c, h1, h2⟩ := nI_of (x := x) (by simpa using h9.1)
      refine ⟨c, ?_, h2⟩
      rw [h2] at h9
      exact (nI_ltI h1 (by omega)).mp (by simpa using h9.2)
    refine aw_aload_n 0 q_B_chosen_11 rfl rfl ?_
    refine aw_V0 q_B_chosen_12 st_B_141 rfl (by omega) (Nat.le_of_ble_eq_true rfl) (c_B_planOrNothing _ _ _ _ _ hp1) ?_
    refine aw_iload_n 1 q_B_chosen_15 rfl rfl ?_
    refine aw_S2 q_B_chosen_16 st_B_90 (by omega) (Nat.le_of_ble_eq_true rfl) (c_B_isIn _ _ _ _ (by omega) (by omega)) ?_
    refine aw_if_eq 26 q_B_chosen_19 rfl (fun c19 => ?_) (fun c19 => ?_)
    · skip
      refine aw_iconst 0 q_B_chosen_26 rfl ?_
      exact aw_iret .boolean q_B_chosen_27 rfl rfl (aw_rz0 (by rw [nI_clamp (by omega), zI_0.mp c19, Bool.and_false])) rfl
    · skip
      refine aw_iconst 1 q_B_chosen_22 rfl ?_
      refine aw_goto 27 q_B_chosen_23 rfl ?_
      exact aw_iret .boolean q_B_chosen_27 rfl rfl (aw_rz1 (by rw [zI_n0.mp c8, nI_clamp (by omega), zI_n0.mp c19]; rfl)) rfl
theorem c_B_worth (sc : am_S) (A : ST) (q : QS) (D : ST) (t : TS)  (b : bd A) (hp1 : pn14 A) : AM sc m_B_worth 2 [.ref 1] (hp A q D t) (some (.long (lZ (match x_pn A with | none => -1 | some m => wsum A m)))) (hp A q D t) := by
  refine AM.of (by decide) (Nat.le_of_ble_eq_true rfl) ?_
  show AW sc m_B_worth 2 0 [some (.ref 1)] [] _ _ _
  refine aw_aload_n 0 q_B_worth_0 rfl rfl ?_
  refine aw_get 4 q_B_worth_1 fl_B_50 rfl rfl ?_
  refine aw_iconst (-1) q_B_worth_4 rfl ?_
  refine aw_icmp_ne 14 q_B_worth_5 rfl (fun c5 => ?_) (fun c5 => ?_)
  · skip
    obtain ⟨m, hm⟩ : ∃ m, x_pn A = some m := Option.ne_none_iff_exists'.mp (mt (pn_eq hp1).mpr c5)
    have hm2 := hp1 m hm
    simp only [hm]
    refine aw_aload_n 0 q_B_worth_14 rfl rfl ?_
    refine aw_get 0 q_B_worth_15 fl_B_23 rfl rfl ?_
    refine aw_aload_n 0 q_B_worth_18 rfl rfl ?_
    refine aw_get 4 q_B_worth_19 fl_B_50 rfl rfl ?_
    rw [show pI (x_pn A) = nI m from by rw [hm]; rfl]
    refine aw_V1 q_B_worth_22 st_B_144 rfl (by omega) (Nat.le_of_ble_eq_true rfl) (c_W_worthOfPlan _ _ _ _ _ _ b hm2) ?_
    exact aw_lret q_B_worth_25 rfl rfl rfl
  · skip
    refine aw_ldc2 (lZ (-1)) q_B_worth_8 (am_in2 (i := 67) rfl rfl) ?_
    refine aw_goto 25 q_B_worth_11 rfl ?_
    exact aw_lret q_B_worth_25 rfl (by rw [(pn_eq hp1).mp c5]) rfl
