/-! CONTRACTS 23: price, old, changes of the class -/
def gnb (A : ST) (y : Nat) : Int := match bestP A (x_mu A) (x_bu A) 16384 with
  | none => -1
  | some m => wsum A ((bestP A (x_mu A) (buM A y) 16384).getD 0) - wsum A m
def gnq (A : ST) (q : QS) (y : Nat) : QS := match bestP A (x_mu A) (x_bu A) 16384 with
  | none => q
  | some _ => eS A q 16384 16384 (x_mu A) (buM A y) 0 0 false
theorem gnq_rst {A : ST} (k : okS A) {q : QS} (r : rst q) {y : Nat} (hy : y < 6) : rst (gnq A q y) := by
  unfold gnq
  split
  · exact r
  · refine rst_eS k.1 r (by omega) (mu14 k) (by decide) (buM_b k.1 y) (fun v hv => ?_)
    unfold buM va_up
    rw [if_neg (by omega)]
    exact k.2.2.1 v hv
theorem gnq_sq (A : ST) (q : QS) (y : Nat) : sq q (gnq A q y) := by
  unfold gnq
  split
  · exact sq_rf q
  · exact sq_eS _ _ _ _ _ _ _ _ _
theorem buM_le (A : ST) (y v : Nat) : x_bu A v ≤ buM A y v := by
  unfold buM va_up
  split
  · rename_i e; subst e; omega
  · omega
theorem gn_then {A : ST} (k : okS A) {y m : Nat} (h : bestP A (x_mu A) (x_bu A) 16384 = some m) : ∃ n, bestP A (x_mu A) (buM A y) 16384 = some n ∧ n < 16384 := by
  obtain ⟨n, hn⟩ := Option.ne_none_iff_exists'.mp (bestP_more (buM_le A y) h)
  exact ⟨n, hn, bestP_lt k.1 hn⟩
def bkq (A : ST) (q : QS) : QS := q_s_bk (q_s_ba (eS A q 16384 16384 (x_mu A) (x_bu A) 0 0 false) (bestP A (x_mu A) (x_bu A) 16384)) true
theorem rst_ba {q : QS} (r : rst q) (o : Option Nat) : rst (q_s_ba q o) := r
theorem rst_bk {q : QS} (r : rst q) (o : Bool) : rst (q_s_bk q o) := r
theorem rst_ck {q : QS} (r : rst q) (o : Bool) : rst (q_s_ck q o) := r
theorem rst_cl {q : QS} (r : rst q) (o : Nat) : rst (q_s_cl q o) := r
theorem bkq_rst {A : ST} (k : okS A) {q : QS} (r : rst q) : rst (bkq A q) := rst_bk (rst_ba (rst_eS k.1 r (by omega) (mu14 k) (by decide) (bu_b k.1) k.2.2.1) _) _
theorem c_B_gainOfBest_k (sc : am_S) (A : ST) (q : QS) (D : ST) (t : TS) (y : Nat) (k : okS A) (r : rst q) (hy : y < 6) (hk : q_bk q = true) (hb : q_ba q = bestP A (x_mu A) (x_bu A) 16384) : AM sc m_B_gainOfBest 41 [.ref 1, .int (nI y)] (hp A q D t) (some (.long (lZ (gnb A y)))) (hp A (gnq A q y) D t) := by
  refine AM.of (by decide) (Nat.le_of_ble_eq_true rfl) ?_
  show AW sc m_B_gainOfBest 41 0 [some (.ref 1), some (.int (nI y)), none] [] _ _ _
  have e0 := pI_eq (o := q_ba q) (fun m h => by rw [hb] at h; have := bestP_lt k.1 h; omega)
  refine aw_aload_n 0 q_B_gainOfBest_0 rfl rfl ?_
  refine aw_get 7 q_B_gainOfBest_1 fl_B_222 rfl rfl ?_
  refine aw_if_ne 26 q_B_gainOfBest_4 rfl (fun c4 => ?_) (fun c4 => ?_)
  · skip
    refine aw_aload_n 0 q_B_gainOfBest_26 rfl rfl ?_
    refine aw_get 8 q_B_gainOfBest_27 fl_B_227 rfl rfl ?_
    refine aw_iconst (-1) q_B_gainOfBest_30 rfl ?_
    refine aw_icmp_ne 38 q_B_gainOfBest_31 rfl (fun c31 => ?_) (fun c31 => ?_)
    · skip
      obtain ⟨m, hm⟩ : ∃ m, bestP A (x_mu A) (x_bu A) 16384 = some m := Option.ne_none_iff_exists'.mp (fun e => c31 (e0.mpr (hb.trans e)))
      obtain ⟨n, hn, hn2⟩ := gn_then k (y := y) hm
      have hm2 := bestP_lt k.1 hm
      have r1 : rst (q) := r
      refine aw_aload_n 0 q_B_gainOfBest_38 rfl rfl ?_
      refine aw_get 1 q_B_gainOfBest_39 fl_B_32 rfl rfl ?_
      refine aw_iload_n 1 q_B_gainOfBest_42 rfl rfl ?_
      refine aw_ldc2 (lZ (1000)) q_B_gainOfBest_43 (am_in2 (i := 237) rfl rfl) ?_
      refine aw_V2 q_B_gainOfBest_46 st_B_230 rfl (by omega) (Nat.le_of_ble_eq_true rfl) (e_S_bestPlanWithMore _ _ _ _ _ _ k r1 hy) ?_
      rw [show pI (bestP A (x_mu A) (buM A y) 16384) = nI n from by rw [hn]; rfl]
      refine aw_istore_n 2 q_B_gainOfBest_49 rfl rfl rfl ?_
      refine aw_aload_n 0 q_B_gainOfBest_50 rfl rfl ?_
      refine aw_get 0 q_B_gainOfBest_51 fl_B_23 rfl rfl ?_
      refine aw_iload_n 2 q_B_gainOfBest_54 rfl rfl ?_
      refine aw_V1 q_B_gainOfBest_55 st_B_144 rfl (by omega) (Nat.le_of_ble_eq_true rfl) (c_W_worthOfPlan _ _ _ _ _ _ k.1 (by assumption)) ?_
      refine aw_aload_n 0 q_B_gainOfBest_58 rfl rfl ?_
      refine aw_get 0 q_B_gainOfBest_59 fl_B_23 rfl rfl ?_
      refine aw_aload_n 0 q_B_gainOfBest_62 rfl rfl ?_
      refine aw_get 8 q_B_gainOfBest_63 fl_B_227 rfl rfl ?_
      rw [show q_ba (eS A q 16384 16384 (x_mu A) (buM A y) 0 0 false) = some m from (sq_eS _ _ _ _ _ _ _ _ _).2.1.trans (hb.trans hm)]
      rw [show pI (some m) = nI m from rfl]
      refine aw_V1 q_B_gainOfBest_66 st_B_144 rfl (by omega) (Nat.le_of_ble_eq_true rfl) (c_W_worthOfPlan _ _ _ _ _ _ k.1 (by assumption)) ?_
      refine aw_lsub q_B_gainOfBest_69 ?_
      rw [lZ_sub]
      exact aw_lret q_B_gainOfBest_70 rfl (by simp only [gnb, hm, hn]; rfl) (by simp only [gnq, hm])
    · skip
      refine aw_ldc2 (lZ (-1)) q_B_gainOfBest_34 (am_in2 (i := 67) rfl rfl) ?_
      exact aw_lret q_B_gainOfBest_37 rfl (by simp only [gnb, hb.symm.trans (e0.mp c31)]) (by simp only [gnq, hb.symm.trans (e0.mp c31)])
  · skip
    exact absurd (zI_0.mp c4) (by rw [hk]; decide)
theorem gnb_k {A : ST} {y m n : Nat} (h : bestP A (x_mu A) (x_bu A) 16384 = some m) (h2 : bestP A (x_mu A) (buM A y) 16384 = some n) : gnb A y = wsum A n - wsum A m := by simp only [gnb, h, h2]; rfl
theorem g_B_gainOfBest (sc : am_S) (A : ST) (q : QS) (D : ST) (t : TS) (y : Nat) (k : okS A) (r : rst q) (hy : y < 6) (hb : q_ba q = bestP A (x_mu A) (x_bu A) 16384) : AW sc m_B_gainOfBest 41 26 [some (.ref 1), some (.int (nI y)), none] [] (hp A q D t) (some (.long (lZ (gnb A y)))) (hp A (gnq A q y) D t) := by
  have e0 := pI_eq (o := q_ba q) (fun m h => by rw [hb] at h; have := bestP_lt k.1 h; omega)
  refine aw_aload_n 0 q_B_gainOfBest_26 rfl rfl ?_
  refine aw_get 8 q_B_gainOfBest_27 fl_B_227 rfl rfl ?_
  refine aw_iconst (-1) q_B_gainOfBest_30 rfl ?_
  refine aw_icmp_ne 38 q_B_gainOfBest_31 rfl (fun c31 => ?_) (fun c31 => ?_)
  · skip
    obtain ⟨m, hm⟩ : ∃ m, bestP A (x_mu A) (x_bu A) 16384 = some m := Option.ne_none_iff_exists'.mp (fun e => c31 (e0.mpr (hb.trans e)))
    obtain ⟨n, hn, hn2⟩ := gn_then k (y := y) hm
    have hm2 := bestP_lt k.1 hm
    have r1 : rst (q) := r
    refine aw_aload_n 0 q_B_gainOfBest_38 rfl rfl ?_
    refine aw_get 1 q_B_gainOfBest_39 fl_B_32 rfl rfl ?_
    refine aw_iload_n 1 q_B_gainOfBest_42 rfl rfl ?_
    refine aw_ldc2 (lZ (1000)) q_B_gainOfBest_43 (am_in2 (i := 237) rfl rfl) ?_
    refine aw_V2 q_B_gainOfBest_46 st_B_230 rfl (by omega) (Nat.le_of_ble_eq_true rfl) (e_S_bestPlanWithMore _ _ _ _ _ _ k r1 hy) ?_
    rw [show pI (bestP A (x_mu A) (buM A y) 16384) = nI n from by rw [hn]; rfl]
    refine aw_istore_n 2 q_B_gainOfBest_49 rfl rfl rfl ?_
    refine aw_aload_n 0 q_B_gainOfBest_50 rfl rfl ?_
    refine aw_get 0 q_B_gainOfBest_51 fl_B_23 rfl rfl ?_
    refine aw_iload_n 2 q_B_gainOfBest_54 rfl rfl ?_
    refine aw_V1 q_B_gainOfBest_55 st_B_144 rfl (by omega) (Nat.le_of_ble_eq_true rfl) (c_W_worthOfPlan _ _ _ _ _ _ k.1 (by assumption)) ?_
    refine aw_aload_n 0 q_B_gainOfBest_58 rfl rfl ?_
    refine aw_get 0 q_B_gainOfBest_59 fl_B_23 rfl rfl ?_
    refine aw_aload_n 0 q_B_gainOfBest_62 rfl rfl ?_
    refine aw_get 8 q_B_gainOfBest_63 fl_B_227 rfl rfl ?_
    rw [show q_ba (eS A q 16384 16384 (x_mu A) (buM A y) 0 0 false) = some m from (sq_eS _ _ _ _ _ _ _ _ _).2.1.trans (hb.trans hm)]
    rw [show pI (some m) = nI m from rfl]
    refine aw_V1 q_B_gainOfBest_66 st_B_144 rfl (by omega) (Nat.le_of_ble_eq_true rfl) (c_W_worthOfPlan _ _ _ _ _ _ k.1 (by assumption)) ?_
    refine aw_lsub q_B_gainOfBest_69 ?_
    rw [lZ_sub]
    exact aw_lret q_B_gainOfBest_70 rfl (by simp only [gnb, hm, hn]; rfl) (by simp only [gnq, hm])
  · skip
    refine aw_ldc2 (lZ (-1)) q_B_gainOfBest_34 (am_in2 (i := 67) rfl rfl) ?_
    exact aw_lret q_B_gainOfBest_37 rfl (by simp only [gnb, hb.symm.trans (e0.mp c31)]) (by simp only [gnq, hb.symm.trans (e0.mp c31)])
theorem c_B_gainOfBest_n (sc : am_S) (A : ST) (q : QS) (D : ST) (t : TS) (y : Nat) (k : okS A) (r : rst q) (hy : y < 6) (hk : q_bk q = false) : AM sc m_B_gainOfBest 41 [.ref 1, .int (nI y)] (hp A q D t) (some (.long (lZ (gnb A y)))) (hp A (gnq A (bkq A q) y) D t) := by
  refine AM.of (by decide) (Nat.le_of_ble_eq_true rfl) ?_
  show AW sc m_B_gainOfBest 41 0 [some (.ref 1), some (.int (nI y)), none] [] _ _ _
  refine aw_aload_n 0 q_B_gainOfBest_0 rfl rfl ?_
  refine aw_get 7 q_B_gainOfBest_1 fl_B_222 rfl rfl ?_
  refine aw_if_ne 26 q_B_gainOfBest_4 rfl (fun c4 => ?_) (fun c4 => ?_)
  · skip
    first
      | exact absurd (zI_0.mpr hk) c4
      | exact g_B_gainOfBest sc A (bkq A q) D t y k (bkq_rst k r) hy rfl
  · skip
    refine aw_aload_n 0 q_B_gainOfBest_7 rfl rfl ?_
    refine aw_aload_n 0 q_B_gainOfBest_8 rfl rfl ?_
    refine aw_get 1 q_B_gainOfBest_9 fl_B_32 rfl rfl ?_
    refine aw_ldc2 (lZ (16384)) q_B_gainOfBest_12 (am_in2 (i := 236) rfl rfl) ?_
    refine aw_V1 q_B_gainOfBest_15 st_B_129 rfl (by omega) (Nat.le_of_ble_eq_true rfl) (e_S_bestPlan _ _ _ _ _ 16384 k r (by omega)) ?_
    refine wp_B_8 (bestP A (x_mu A) (x_bu A) 16384) q_B_gainOfBest_18 fl_B_227 ?_
    refine aw_aload_n 0 q_B_gainOfBest_21 rfl rfl ?_
    refine aw_iconst 1 q_B_gainOfBest_22 rfl ?_
    refine wp_B_7 true q_B_gainOfBest_23 fl_B_222 ?_
    first
      | exact absurd (zI_0.mpr hk) c4
      | exact g_B_gainOfBest sc A (bkq A q) D t y k (bkq_rst k r) hy rfl
theorem c_B_price_no (sc : am_S) (A : ST) (q : QS) (D : ST) (t : TS) (x z : Int32) (hx : ¬ ((¬ x < 0 ∧ ¬ nI (x_ny A) ≤ x) ∧ (z = 0 ∨ z = 1))) : AM sc m_B_price 42 [.ref 1, .int x, .int z] (hp A q D t) (some (.long (lZ (-1)))) (hp A q D t) := by
  refine AM.of (by decide) (Nat.le_of_ble_eq_true rfl) ?_
  show AW sc m_B_price 42 0 [some (.ref 1), some (.int x), some (.int z)] [] _ _ _
  refine aw_aload_n 0 q_B_price_0 rfl rfl ?_
  refine aw_get 0 q_B_price_1 fl_B_23 rfl rfl ?_
  refine aw_iload_n 1 q_B_price_4 rfl rfl ?_
  refine aw_V1 q_B_price_5 st_B_68 rfl (by omega) (Nat.le_of_ble_eq_true rfl) (c_W_isYear _ _ _ _ _ _) ?_
  refine aw_if_ne 15 q_B_price_8 rfl (fun c8 => ?_) (fun c8 => ?_)
  · skip
    refine aw_iload_n 2 q_B_price_15 rfl rfl ?_
    refine aw_if_ne 25 q_B_price_16 rfl (fun c16 => ?_) (fun c16 => ?_)
    · skip
      refine aw_iload_n 2 q_B_price_25 rfl rfl ?_
      refine aw_iconst 1 q_B_price_26 rfl ?_
      refine aw_icmp_ne 52 q_B_price_27 rfl (fun c27 => ?_) (fun c27 => ?_)
      · skip
        refine aw_ldc2 (lZ (-1)) q_B_price_52 (am_in2 (i := 67) rfl rfl) ?_
        exact aw_lret q_B_price_55 rfl rfl rfl
      · skip
        exact (hx ⟨of_decide_eq_true (zI_n0.mp c8), Or.inr c27⟩).elim
    · skip
      exact (hx ⟨of_decide_eq_true (zI_n0.mp c8), Or.inl c16⟩).elim
  · skip
    refine aw_ldc2 (lZ (-1)) q_B_price_11 (am_in2 (i := 67) rfl rfl) ?_
    exact aw_lret q_B_price_14 rfl rfl rfl
theorem c_B_price_1 (sc : am_S) (A : ST) (q : QS) (D : ST) (t : TS) (y : Nat) (b : bd A) (hy : y < x_ny A) : AM sc m_B_price 42 [.ref 1, .int (nI y), .int 1] (hp A q D t) (some (.long (lZ (bps A (1000 + bsum A (x_ny A)) (x_nc A) - bps A (bsum A (x_ny A)) (x_nc A))))) (hp A q D t) := by
  refine AM.of (by decide) (Nat.le_of_ble_eq_true rfl) ?_
  show AW sc m_B_price 42 0 [some (.ref 1), some (.int (nI y)), some (.int 1)] [] _ _ _
  have b1 := b.1
  refine aw_aload_n 0 q_B_price_0 rfl rfl ?_
  refine aw_get 0 q_B_price_1 fl_B_23 rfl rfl ?_
  refine aw_iload_n 1 q_B_price_4 rfl rfl ?_
  refine aw_V1 q_B_price_5 st_B_68 rfl (by omega) (Nat.le_of_ble_eq_true rfl) (c_W_isYear _ _ _ _ _ _) ?_
  refine aw_if_ne 15 q_B_price_8 rfl (fun c8 => ?_) (fun c8 => ?_)
  · skip
    refine aw_iload_n 2 q_B_price_15 rfl rfl ?_
    refine aw_if_ne 25 q_B_price_16 rfl (fun c16 => ?_) (fun c16 => ?_)
    · skip
      refine aw_iload_n 2 q_B_price_25 rfl rfl ?_
      refine aw_iconst 1 q_B_price_26 rfl ?_
      refine aw_icmp_ne 52 q_B_price_27 rfl (fun c27 => ?_) (fun c27 => ?_)
      · skip
        exact absurd rfl c27
      · skip
        refine aw_aload_n 0 q_B_price_30 rfl rfl ?_
        refine aw_get 2 q_B_price_31 fl_B_39 rfl rfl ?_
        refine aw_ldc2 (lZ (1000)) q_B_price_34 (am_in2 (i := 237) rfl rfl) ?_
        refine aw_V1 q_B_price_37 st_B_152 rfl (by omega) (Nat.le_of_ble_eq_true rfl) (c_N_byPrices _ _ _ _ _ _ b (by omega)) ?_
        refine aw_aload_n 0 q_B_price_40 rfl rfl ?_
        refine aw_get 2 q_B_price_41 fl_B_39 rfl rfl ?_
        refine aw_lconst (lZ 0) q_B_price_44 rfl ?_
        refine aw_V1 q_B_price_45 st_B_152 rfl (by omega) (Nat.le_of_ble_eq_true rfl) (c_N_byPrices _ _ _ _ _ _ b (by omega)) ?_
        refine aw_lsub q_B_price_48 ?_
        rw [lZ_sub, show (0 : Int) + bsum A (x_ny A) = bsum A (x_ny A) from Int.zero_add _]
        refine aw_goto 55 q_B_price_49 rfl ?_
        exact aw_lret q_B_price_55 rfl rfl rfl
    · skip
      exact absurd c16 (by decide)
  · skip
    exact absurd (zI_0.mp c8) (by rw [isN hy (by omega)]; decide)
theorem c_B_price_0k (sc : am_S) (A : ST) (q : QS) (D : ST) (t : TS) (y : Nat) (k : okS A) (r : rst q) (hy : y < x_ny A) (hk : q_bk q = true) (hb : q_ba q = bestP A (x_mu A) (x_bu A) 16384) : AM sc m_B_price 42 [.ref 1, .int (nI y), .int 0] (hp A q D t) (some (.long (lZ (gnb A y)))) (hp A (gnq A q y) D t) := by
  refine AM.of (by decide) (Nat.le_of_ble_eq_true rfl) ?_
  show AW sc m_B_price 42 0 [some (.ref 1), some (.int (nI y)), some (.int 0)] [] _ _ _
  have b1 := k.1.1
  refine aw_aload_n 0 q_B_price_0 rfl rfl ?_
  refine aw_get 0 q_B_price_1 fl_B_23 rfl rfl ?_
  refine aw_iload_n 1 q_B_price_4 rfl rfl ?_
  refine aw_V1 q_B_price_5 st_B_68 rfl (by omega) (Nat.le_of_ble_eq_true rfl) (c_W_isYear _ _ _ _ _ _) ?_
  refine aw_if_ne 15 q_B_price_8 rfl (fun c8 => ?_) (fun c8 => ?_)
  · skip
    refine aw_iload_n 2 q_B_price_15 rfl rfl ?_
    refine aw_if_ne 25 q_B_price_16 rfl (fun c16 => ?_) (fun c16 => ?_)
    · skip
      exact absurd rfl c16
    · skip
      refine aw_aload_n 0 q_B_price_19 rfl rfl ?_
      refine aw_iload_n 1 q_B_price_20 rfl rfl ?_
      refine aw_V1 q_B_price_21 st_B_171 rfl (by omega) (Nat.le_of_ble_eq_true rfl) (c_B_gainOfBest_k _ _ _ _ _ _ k r (by omega) hk hb) ?_
      exact aw_lret q_B_price_24 rfl rfl rfl
  · skip
    exact absurd (zI_0.mp c8) (by rw [isN hy (by omega)]; decide)
theorem c_B_price_0n (sc : am_S) (A : ST) (q : QS) (D : ST) (t : TS) (y : Nat) (k : okS A) (r : rst q) (hy : y < x_ny A) (hk : q_bk q = false) : AM sc m_B_price 42 [.ref 1, .int (nI y), .int 0] (hp A q D t) (some (.long (lZ (gnb A y)))) (hp A (gnq A (bkq A q) y) D t) := by
  refine AM.of (by decide) (Nat.le_of_ble_eq_true rfl) ?_
  show AW sc m_B_price 42 0 [some (.ref 1), some (.int (nI y)), some (.int 0)] [] _ _ _
  have b1 := k.1.1
  refine aw_aload_n 0 q_B_price_0 rfl rfl ?_
  refine aw_get 0 q_B_price_1 fl_B_23 rfl rfl ?_
  refine aw_iload_n 1 q_B_price_4 rfl rfl ?_
  refine aw_V1 q_B_price_5 st_B_68 rfl (by omega) (Nat.le_of_ble_eq_true rfl) (c_W_isYear _ _ _ _ _ _) ?_
  refine aw_if_ne 15 q_B_price_8 rfl (fun c8 => ?_) (fun c8 => ?_)
  · skip
    refine aw_iload_n 2 q_B_price_15 rfl rfl ?_
    refine aw_if_ne 25 q_B_price_16 rfl (fun c16 => ?_) (fun c16 => ?_)
    · skip
      exact absurd rfl c16
    · skip
      refine aw_aload_n 0 q_B_price_19 rfl rfl ?_
      refine aw_iload_n 1 q_B_price_20 rfl rfl ?_
      refine aw_V1 q_B_price_21 st_B_171 rfl (by omega) (Nat.le_of_ble_eq_true rfl) (c_B_gainOfBest_n _ _ _ _ _ _ k r (by omega) hk) ?_
      exact aw_lret q_B_price_24 rfl rfl rfl
  · skip
    exact absurd (zI_0.mp c8) (by rw [isN hy (by omega)]; decide)
theorem c_B_old_no (sc : am_S) (A : ST) (q : QS) (D : ST) (t : TS) (x : Int32) (on : Bool) (hx : ¬ (¬ x < 0 ∧ ¬ nI (x_nc A) ≤ x)) : AM sc m_B_old 1 [.ref 1, .int x, .int (zI on)] (hp A q D t) (some (.int 0)) (hp A q D t) := by
  refine AM.of (by decide) (Nat.le_of_ble_eq_true rfl) ?_
  show AW sc m_B_old 1 0 [some (.ref 1), some (.int x), some (.int (zI on))] [] _ _ _
  refine aw_aload_n 0 q_B_old_0 rfl rfl ?_
  refine aw_get 0 q_B_old_1 fl_B_23 rfl rfl ?_
  refine aw_iload_n 1 q_B_old_4 rfl rfl ?_
  refine aw_V1 q_B_old_5 st_B_84 rfl (by omega) (Nat.le_of_ble_eq_true rfl) (c_W_isChoice _ _ _ _ _ _) ?_
  refine aw_if_ne 13 q_B_old_8 rfl (fun c8 => ?_) (fun c8 => ?_)
  · skip
    exact (hx (of_decide_eq_true (zI_n0.mp c8))).elim
  · skip
    refine aw_iconst 0 q_B_old_11 rfl ?_
    exact aw_iret .boolean q_B_old_12 rfl rfl rfl rfl
def odN (A : ST) (c : Nat) (on : Bool) : Nat := if on = true then x_od A ||| 2 ^ c else clr (x_od A) c
theorem c_B_old (sc : am_S) (A : ST) (q : QS) (D : ST) (t : TS) (c : Nat) (on : Bool) (b : bd A) (hc : c < x_nc A) : AM sc m_B_old 1 [.ref 1, .int (nI c), .int (zI on)] (hp A q D t) (some (.int 1)) (hp (x_s_od A (odN A c on)) q D t) := by
  refine AM.of (by decide) (Nat.le_of_ble_eq_true rfl) ?_
  show AW sc m_B_old 1 0 [some (.ref 1), some (.int (nI c)), some (.int (zI on))] [] _ _ _
  have b3 := b.2.2.1
  refine aw_aload_n 0 q_B_old_0 rfl rfl ?_
  refine aw_get 0 q_B_old_1 fl_B_23 rfl rfl ?_
  refine aw_iload_n 1 q_B_old_4 rfl rfl ?_
  refine aw_V1 q_B_old_5 st_B_84 rfl (by omega) (Nat.le_of_ble_eq_true rfl) (c_W_isChoice _ _ _ _ _ _) ?_
  refine aw_if_ne 13 q_B_old_8 rfl (fun c8 => ?_) (fun c8 => ?_)
  · skip
    refine aw_aload_n 0 q_B_old_13 rfl rfl ?_
    refine aw_iload_n 2 q_B_old_14 rfl rfl ?_
    refine aw_if_eq 29 q_B_old_15 rfl (fun c15 => ?_) (fun c15 => ?_)
    · skip
      refine aw_aload_n 0 q_B_old_29 rfl rfl ?_
      refine aw_get 5 q_B_old_30 fl_B_176 rfl rfl ?_
      refine aw_iconst 1 q_B_old_33 rfl ?_
      refine aw_iload_n 1 q_B_old_34 rfl rfl ?_
      refine aw_ishl q_B_old_35 ?_
      refine aw_iconst (-1) q_B_old_36 rfl ?_
      refine aw_ixor q_B_old_37 ?_
      refine aw_iand q_B_old_38 ?_
      first
        | (rw [bt_one (by omega), clr_nI]
           rw [show clr (x_od A) c = odN A c on from by simp [odN, zI_0.mp c15]])
        | skip
      refine wp_B_5 _ q_B_old_39 fl_B_176 ?_
      refine aw_iconst 1 q_B_old_42 rfl ?_
      exact aw_iret .boolean q_B_old_43 rfl rfl rfl rfl
    · skip
      refine aw_aload_n 0 q_B_old_18 rfl rfl ?_
      refine aw_get 5 q_B_old_19 fl_B_176 rfl rfl ?_
      refine aw_iconst 1 q_B_old_22 rfl ?_
      refine aw_iload_n 1 q_B_old_23 rfl rfl ?_
      refine aw_ishl q_B_old_24 ?_
      rw [bt_one (by omega)]
      refine aw_ior q_B_old_25 ?_
      rw [nI_or]
      rw [show x_od A ||| 2 ^ c = odN A c on from by simp [odN, zI_n0.mp c15]]
      refine aw_goto 39 q_B_old_26 rfl ?_
      first
        | (rw [bt_one (by omega), clr_nI]
           rw [show clr (x_od A) c = odN A c on from by simp [odN, zI_0.mp c15]])
        | skip
      refine wp_B_5 _ q_B_old_39 fl_B_176 ?_
      refine aw_iconst 1 q_B_old_42 rfl ?_
      exact aw_iret .boolean q_B_old_43 rfl rfl rfl rfl
  · skip
    exact absurd (zI_0.mp c8) (by rw [isN hc (by omega)]; decide)
theorem c_B_changes_no (sc : am_S) (A : ST) (q : QS) (D : ST) (t : TS) (v : Int64) (hx : ¬ (¬ v < 1 ∧ ¬ 20000 < v)) : AM sc m_B_changes 41 [.ref 1, .long v] (hp A q D t) (some (.int (-1))) (hp A q D t) := by
  refine AM.of (by decide) (Nat.le_of_ble_eq_true rfl) ?_
  show AW sc m_B_changes 41 0 [some (.ref 1), some (.long v), none] [] _ _ _
  refine aw_lload_n 1 q_B_changes_0 rfl rfl ?_
  refine aw_S1 q_B_changes_1 st_B_125 (by omega) (Nat.le_of_ble_eq_true rfl) (c_B_isNodes _ _ _) ?_
  refine aw_if_ne 9 q_B_changes_4 rfl (fun c4 => ?_) (fun c4 => ?_)
  · skip
    exact (hx (of_decide_eq_true (zI_n0.mp c4))).elim
  · skip
    refine aw_iconst (-1) q_B_changes_7 rfl ?_
    exact aw_iret .int q_B_changes_8 rfl rfl rfl rfl
def chn (A : ST) (N : Nat) : Int32 := match nearP A (x_mu A) (x_bu A) (x_od A) N with
  | none => -1
  | some m => nI (cnp (fun c => (m ^^^ x_od A).testBit c) 14)
def npq (A : ST) (q : QS) (N : Nat) : QS := eS A q (N : Int) N (x_mu A) (x_bu A) (x_od A) (2 ^ x_nc A - 1) false
theorem c_B_changes (sc : am_S) (A : ST) (q : QS) (D : ST) (t : TS) (N : Nat) (k : okS A) (r : rst q) (ho : x_od A < 16384) (hN1 : 1 ≤ N) (hN : N ≤ 20000) : AM sc m_B_changes 41 [.ref 1, .long (lZ (N : Int))] (hp A q D t) (some (.int (chn A N))) (hp (x_s_pn A (nearP A (x_mu A) (x_bu A) (x_od A) N)) (npq A q N) D t) := by
  refine AM.of (by decide) (Nat.le_of_ble_eq_true rfl) ?_
  show AW sc m_B_changes 41 0 [some (.ref 1), some (.long (lZ (N : Int))), none] [] _ _ _
  have e0 := pI_eq (o := nearP A (x_mu A) (x_bu A) (x_od A) N) (fun m h => by have := nearP_lt k.1 h; omega)
  refine aw_lload_n 1 q_B_changes_0 rfl rfl ?_
  refine aw_S1 q_B_changes_1 st_B_125 (by omega) (Nat.le_of_ble_eq_true rfl) (c_B_isNodes _ _ _) ?_
  refine aw_if_ne 9 q_B_changes_4 rfl (fun c4 => ?_) (fun c4 => ?_)
  · skip
    refine aw_aload_n 0 q_B_changes_9 rfl rfl ?_
    refine aw_aload_n 0 q_B_changes_10 rfl rfl ?_
    refine aw_get 1 q_B_changes_11 fl_B_32 rfl rfl ?_
    refine aw_lload_n 1 q_B_changes_14 rfl rfl ?_
    refine aw_aload_n 0 q_B_changes_15 rfl rfl ?_
    refine aw_get 5 q_B_changes_16 fl_B_176 rfl rfl ?_
    refine aw_V2 q_B_changes_19 st_B_179 rfl (by omega) (Nat.le_of_ble_eq_true rfl) (e_S_nearestPlan _ _ _ _ _ _ _ k r hN) ?_
    refine wp_B_4 _ q_B_changes_22 fl_B_50 ?_
    refine aw_aload_n 0 q_B_changes_25 rfl rfl ?_
    refine aw_get 4 q_B_changes_26 fl_B_50 rfl rfl ?_
    simp only [xg_pn_pn]
    refine aw_iconst (-1) q_B_changes_29 rfl ?_
    refine aw_icmp_ne 37 q_B_changes_30 rfl (fun c30 => ?_) (fun c30 => ?_)
    · skip
      obtain ⟨m, hm⟩ := Option.ne_none_iff_exists'.mp (mt e0.mpr c30)
      have hm2 := nearP_lt k.1 hm
      refine aw_aload_n 0 q_B_changes_37 rfl rfl ?_
      refine aw_get 4 q_B_changes_38 fl_B_50 rfl rfl ?_
      refine aw_aload_n 0 q_B_changes_41 rfl rfl ?_
      refine aw_get 5 q_B_changes_42 fl_B_176 rfl rfl ?_
      simp only [xg_pn_pn, xg_od_pn]
      rw [show pI (nearP A (x_mu A) (x_bu A) (x_od A) N) = nI m from by rw [hm]; rfl]
      refine aw_ixor q_B_changes_45 ?_
      rw [nI_xor]
      refine aw_S1 q_B_changes_46 st_B_183 (by omega) (Nat.le_of_ble_eq_true rfl) (c_JI_bitCount _ _ _) ?_
      exact aw_iret .int q_B_changes_49 rfl rfl (by rw [bc_pcr (Nat.xor_lt_two_pow (n := 14) hm2 ho), pcr_cnp]; simp only [chn, hm]) rfl
    · skip
      refine aw_iconst (-1) q_B_changes_33 rfl ?_
      refine aw_goto 49 q_B_changes_34 rfl ?_
      exact aw_iret .int q_B_changes_49 rfl rfl (by simp only [chn, e0.mp c30]) rfl
  · skip
    exact absurd (zI_0.mp c4) (by rw [ndN hN1 hN]; decide)
