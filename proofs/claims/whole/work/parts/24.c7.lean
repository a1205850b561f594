/-! CONTRACTS 7: the search's steps: the path as a set -/
def nsm (n : Nat) (f : Nat → Nat) : Nat := match n with
  | 0 => 0
  | n + 1 => nsm n f + f n
def ysum (A : ST) (m : Nat) : Nat := nsm (x_nc A) (fun c => if m.testBit c = true then x_yr A c else 0)
/-- the search's rows on the way, by the set that is picked -/
def pst (A : ST) (q : QS) (P : Nat) : QS := (q_bk q, q_ba q, q_ck q, q_cl q, q_no q, q_mu q, q_od q, q_cm q, q_oe q, q_ud q, q_li q, q_sf q, q_wf q, P, tkm A P (x_nc A), ysum A P, wsum A P, (fun y => sps A P y), (fun d => dsum A P d), q_be q, q_bc q, q_bw q, q_bs q, q_or q)
abbrev Z4 : Type := Option Nat × Nat × Int × Nat
def zq (q : QS) (z : Z4) : QS := (q_bk q, q_ba q, q_ck q, q_cl q, q_no q, q_mu q, q_od q, q_cm q, q_oe q, q_ud q, q_li q, q_sf q, q_wf q, q_pk q, q_tk q, q_sy q, q_ga q, q_sp q, q_gi q, z.1, z.2.1, z.2.2.1, z.2.2.2, q_or q)
theorem sm_one {n c : Nat} {f g : Nat → Int} {x : Int} (hc : c < n) (h : ∀ o, o ≠ c → g o = f o) (hx : g c = f c + x) : sm n g = sm n f + x := by
  induction n with
  | zero => omega
  | succ n ih =>
    simp only [sm]
    by_cases e : c = n
    · subst e
      rw [hx, sm_congr (f := g) (g := f) (fun i hi => h i (by omega))]
      omega
    · rw [ih (by omega), h n (fun q => e q.symm)]
      omega
theorem nsm_congr {n : Nat} {f g : Nat → Nat} (h : ∀ i, i < n → f i = g i) : nsm n f = nsm n g := by
  induction n with
  | zero => rfl
  | succ n ih => simp only [nsm]; rw [ih (fun i hi => h i (by omega)), h n (by omega)]
theorem nsm_one {n c : Nat} {f g : Nat → Nat} {x : Nat} (hc : c < n) (h : ∀ o, o ≠ c → g o = f o) (hx : g c = f c + x) : nsm n g = nsm n f + x := by
  induction n with
  | zero => omega
  | succ n ih =>
    simp only [nsm]
    by_cases e : c = n
    · subst e
      rw [hx, nsm_congr (f := g) (g := f) (fun i hi => h i (by omega))]
      omega
    · rw [ih (by omega), h n (fun q => e q.symm)]
      omega
theorem nsm_le {n b : Nat} {f : Nat → Nat} (h : ∀ i, i < n → f i ≤ b) : nsm n f ≤ b * n := by
  induction n with
  | zero => simp [nsm]
  | succ n ih =>
    have h1 := ih (fun i hi => h i (by omega))
    have h2 := h n (by omega)
    simp only [nsm]
    rw [Nat.mul_succ]
    omega
theorem tb_or (P c o : Nat) : (P ||| 2 ^ c).testBit o = (P.testBit o || decide (c = o)) := by rw [Nat.testBit_or, Nat.testBit_two_pow]
theorem tb_ge {P c o : Nat} (h : P < 2 ^ c) (ho : c ≤ o) : P.testBit o = false := Nat.testBit_lt_two_pow (Nat.lt_of_lt_of_le h (Nat.pow_le_pow_right (by decide) ho))
theorem wsum_or {A : ST} {P c : Nat} (hP : P < 2 ^ c) (hc : c < x_nc A) : wsum A (P ||| 2 ^ c) = wsum A P + x_wo A c := by
  refine sm_one hc (fun o ho => ?_) ?_
  · simp only [tb_or, decide_eq_false (Ne.symm ho), Bool.or_false]
  · simp [tb_or, tb_ge hP (Nat.le_refl c)]
theorem ysum_or {A : ST} {P c : Nat} (hP : P < 2 ^ c) (hc : c < x_nc A) : ysum A (P ||| 2 ^ c) = ysum A P + x_yr A c := by
  refine nsm_one hc (fun o ho => ?_) ?_
  · simp only [tb_or, decide_eq_false (Ne.symm ho), Bool.or_false]
  · simp [tb_or, tb_ge hP (Nat.le_refl c)]
theorem dsum_or {A : ST} {P c : Nat} (hP : P < 2 ^ c) (hc : c < x_nc A) (d : Nat) : dsum A (P ||| 2 ^ c) d = dsum A P d + (if x_di A (x_th A c) = d then x_wo A c else 0) := by
  refine sm_one hc (fun o ho => ?_) ?_
  · simp only [tb_or, decide_eq_false (Ne.symm ho), Bool.or_false]
  · simp [tb_or, tb_ge hP (Nat.le_refl c)]
theorem tkm_or {A : ST} {P c : Nat} (hP : P < 2 ^ c) : ∀ i, tkm A (P ||| 2 ^ c) i = if c < i then tkm A P i ||| 2 ^ x_th A c else tkm A P i
  | 0 => by simp [tkm]
  | i + 1 => by
    simp only [tkm, tkm_or hP i, tb_or]
    rcases Nat.lt_trichotomy c i with h | h | h
    · simp only [decide_eq_false (show ¬ c = i by omega), Bool.or_false, if_pos h, if_pos (show c < i + 1 by omega), tb_ge hP (show c ≤ i by omega)]
      simp
    · subst h
      simp [tb_ge hP (Nat.le_refl c)]
    · simp only [decide_eq_false (show ¬ c = i by omega), Bool.or_false, if_neg (show ¬ c < i by omega), if_neg (show ¬ c < i + 1 by omega)]
theorem cmk_bit (A : ST) (m y : Nat) : ∀ i o, (cmk A m y i).testBit o = (decide (o < i) && m.testBit o && decide (x_yr A o = y))
  | 0, o => by simp [cmk]
  | i + 1, o => by
    unfold cmk
    split
    · next h =>
      rw [tb_or, cmk_bit A m y i o]
      by_cases e : i = o
      · subst e; simp [h.1, h.2]
      · by_cases e2 : o < i
        · simp [e, e2, show o < i + 1 by omega]
        · simp [e, e2, show ¬ o < i + 1 by omega]
    · next h =>
      rw [cmk_bit A m y i o]
      by_cases e : i = o
      · subst e
        simp only [Nat.lt_irrefl, decide_false, Bool.false_and, Nat.lt_succ_self, decide_true, Bool.true_and]
        cases hb : m.testBit i with
        | false => rfl
        | true =>
          have : ¬ x_yr A i = y := fun q => h ⟨hb, q⟩
          simp [this]
      · by_cases e2 : o < i
        · simp [e2, show o < i + 1 by omega]
        · simp [e2, show ¬ o < i + 1 by omega]
theorem cmk_or {A : ST} {P c y i : Nat} (hi : i ≤ c) : cmk A (P ||| 2 ^ c) y i = cmk A P y i := by
  apply Nat.eq_of_testBit_eq
  intro o
  rw [cmk_bit, cmk_bit, tb_or]
  by_cases h : o < i
  · simp [show ¬ c = o by omega]
  · simp [h]
/-- joins are of one year, and none with itself -/
def jy (A : ST) : Prop := ∀ c o, (x_jt A c).testBit o = true → x_yr A o = x_yr A c ∧ o ≠ c
theorem sw_ext {A : ST} {c s s' : Nat} (h : ∀ o, (x_jt A c).testBit o = true → s.testBit o = s'.testBit o) : sw A c s = sw A c s' := by
  refine sm_congr (fun o _ => ?_)
  simp only [swf, Nat.testBit_and]
  cases hb : (x_jt A c).testBit o with
  | false => simp
  | true => rw [h o hb]
theorem sw_cmk {A : ST} (j : jy A) {P c y : Nat} (hP : P < 2 ^ c) (hy : x_yr A c = y) : sw A c (cmk A P y c) = sw A c P := by
  refine sw_ext (fun o ho => ?_)
  rw [cmk_bit, (j c o ho).1, hy]
  by_cases h : o < c
  · simp [h]
  · simp [h, tb_ge hP (show c ≤ o by omega)]
theorem sw_self {A : ST} (j : jy A) (P c : Nat) : sw A c (P ||| 2 ^ c) = sw A c P := by
  refine sw_ext (fun o ho => ?_)
  rw [tb_or, decide_eq_false (fun q => (j c o ho).2 q.symm), Bool.or_false]
theorem sps_or {A : ST} (j : jy A) {P c : Nat} (hP : P < 2 ^ c) (hc : c < x_nc A) (y : Nat) : sps A (P ||| 2 ^ c) y = sps A P y + (if x_yr A c = y then x_co A c - sw A c P else 0) := by
  refine sm_one hc (fun o ho => ?_) ?_
  · simp only [spf, tb_or, decide_eq_false (Ne.symm ho), Bool.or_false]
    rcases Nat.lt_or_ge c o with h | h
    · simp [tb_ge hP (Nat.le_of_lt h)]
    · rw [cmk_or h]
  · simp only [spf, tb_or, decide_true, Bool.or_true, tb_ge hP (Nat.le_refl c), true_and, cmk_or (Nat.le_refl c)]
    simp only [Bool.false_eq_true, false_and, if_false, Int.zero_add]
    by_cases h : x_yr A c = y
    · rw [if_pos h, if_pos h, sw_cmk j hP h]
    · rw [if_neg h, if_neg h]
theorem xor_or {P c : Nat} (hP : P < 2 ^ c) : P ^^^ 2 ^ c = P ||| 2 ^ c := by
  apply Nat.eq_of_testBit_eq
  intro o
  rw [Nat.testBit_xor, Nat.testBit_two_pow, tb_or]
  by_cases h : c = o
  · subst h; simp [tb_ge hP (Nat.le_refl c)]
  · simp [h]
theorem xor_or' {P c : Nat} (hP : P.testBit c = false) : P ^^^ 2 ^ c = P ||| 2 ^ c := by
  apply Nat.eq_of_testBit_eq
  intro o
  rw [Nat.testBit_xor, Nat.testBit_two_pow, tb_or]
  by_cases h : c = o
  · subst h; simp [hP]
  · simp [h]
theorem or_xor {P c : Nat} (hP : P.testBit c = false) : (P ||| 2 ^ c) ^^^ 2 ^ c = P := by
  apply Nat.eq_of_testBit_eq
  intro o
  rw [Nat.testBit_xor, Nat.testBit_two_pow, tb_or]
  by_cases h : c = o
  · subst h; simp [hP]
  · simp [h]
/-- the rows behind a choice taken in (g 1) or out (g -1) -/
def pkq (A : ST) (q : QS) (c : Nat) (g : Int) (sy : Nat) : QS := q_s_tk (q_s_pk (q_s_sy (q_s_ga (q_s_gi (q_s_sp q (va_up (q_sp q) (x_yr A c) (q_sp q (x_yr A c) + g * (x_co A c - sw A c (q_pk q))))) (va_up (q_gi q) (x_di A (x_th A c)) (q_gi q (x_di A (x_th A c)) + g * x_wo A c))) (q_ga q + g * x_wo A c)) sy) (q_pk q ^^^ 2 ^ c)) (q_tk q ^^^ 2 ^ x_th A c)
theorem pkq_t (A : ST) (q : QS) (c : Nat) (g : Int) (sy : Nat) : pkq A q c g sy = (q_bk q, q_ba q, q_ck q, q_cl q, q_no q, q_mu q, q_od q, q_cm q, q_oe q, q_ud q, q_li q, q_sf q, q_wf q, q_pk q ^^^ 2 ^ c, q_tk q ^^^ 2 ^ x_th A c, sy, q_ga q + g * x_wo A c, va_up (q_sp q) (x_yr A c) (q_sp q (x_yr A c) + g * (x_co A c - sw A c (q_pk q))), va_up (q_gi q) (x_di A (x_th A c)) (q_gi q (x_di A (x_th A c)) + g * x_wo A c), q_be q, q_bc q, q_bw q, q_bs q, q_or q) := by
  simp only [pkq, q_s_tk, q_s_pk, q_s_sy, q_s_ga, q_s_gi, q_s_sp, q_bk, q_ba, q_ck, q_cl, q_no, q_mu, q_od, q_cm, q_oe, q_ud, q_li, q_sf, q_wf, q_pk, q_tk, q_sy, q_ga, q_sp, q_gi, q_be, q_bc, q_bw, q_bs, q_or]
theorem pkq_in {A : ST} (j : jy A) {q : QS} {P c : Nat} (hP : P < 2 ^ c) (hc : c < x_nc A) (hk : (tkm A P (x_nc A)).testBit (x_th A c) = false) : pkq A (pst A q P) c 1 (ysum A P + x_yr A c) = pst A q (P ||| 2 ^ c) := by
  have e1 := xor_or hP
  have e2 : tkm A (P ||| 2 ^ c) (x_nc A) = tkm A P (x_nc A) ^^^ 2 ^ x_th A c := by rw [tkm_or hP, if_pos hc, xor_or' hk]
  have e3 := ysum_or hP hc
  have e4 : wsum A (P ||| 2 ^ c) = wsum A P + 1 * x_wo A c := by rw [wsum_or hP hc]; omega
  have e5 : (fun y => sps A (P ||| 2 ^ c) y) = va_up (fun y => sps A P y) (x_yr A c) (sps A P (x_yr A c) + 1 * (x_co A c - sw A c P)) := by
    funext y
    rw [sps_or j hP hc]
    unfold va_up
    by_cases h : y = x_yr A c
    · rw [if_pos h, if_pos h.symm, h]; omega
    · rw [if_neg h, if_neg (fun z => h z.symm)]; exact Int.add_zero _
  have e6 : (fun d => dsum A (P ||| 2 ^ c) d) = va_up (fun d => dsum A P d) (x_di A (x_th A c)) (dsum A P (x_di A (x_th A c)) + 1 * x_wo A c) := by
    funext d
    rw [dsum_or hP hc]
    unfold va_up
    by_cases h : d = x_di A (x_th A c)
    · rw [if_pos h, if_pos h.symm, h]; omega
    · rw [if_neg h, if_neg (fun z => h z.symm)]; exact Int.add_zero _
  rw [pkq_t]
  show (q_bk q, q_ba q, q_ck q, q_cl q, q_no q, q_mu q, q_od q, q_cm q, q_oe q, q_ud q, q_li q, q_sf q, q_wf q, P ^^^ 2 ^ c, tkm A P (x_nc A) ^^^ 2 ^ x_th A c, ysum A P + x_yr A c, wsum A P + 1 * x_wo A c, va_up (fun y => sps A P y) (x_yr A c) (sps A P (x_yr A c) + 1 * (x_co A c - sw A c P)), va_up (fun d => dsum A P d) (x_di A (x_th A c)) (dsum A P (x_di A (x_th A c)) + 1 * x_wo A c), q_be q, q_bc q, q_bw q, q_bs q, q_or q) = pst A q (P ||| 2 ^ c)
  unfold pst
  rw [e2, e3, e4, e5, e6, e1]
theorem pkq_out {A : ST} (j : jy A) {q : QS} {P c : Nat} (hP : P < 2 ^ c) (hc : c < x_nc A) (hk : (tkm A P (x_nc A)).testBit (x_th A c) = false) : pkq A (pst A q (P ||| 2 ^ c)) c (-1) (ysum A P) = pst A q P := by
  have e1 := or_xor (tb_ge hP (Nat.le_refl c))
  have e2 : tkm A (P ||| 2 ^ c) (x_nc A) ^^^ 2 ^ x_th A c = tkm A P (x_nc A) := by rw [tkm_or hP, if_pos hc, or_xor hk]
  have e4 : wsum A (P ||| 2 ^ c) + -1 * x_wo A c = wsum A P := by rw [wsum_or hP hc]; omega
  have e5 : va_up (fun y => sps A (P ||| 2 ^ c) y) (x_yr A c) (sps A (P ||| 2 ^ c) (x_yr A c) + -1 * (x_co A c - sw A c (P ||| 2 ^ c))) = (fun y => sps A P y) := by
    funext y
    unfold va_up
    by_cases h : y = x_yr A c
    · rw [if_pos h, sps_or j hP hc, if_pos rfl, sw_self j, h]; omega
    · rw [if_neg h]; show sps A (P ||| 2 ^ c) y = _; rw [sps_or j hP hc, if_neg (fun z => h z.symm)]; omega
  have e6 : va_up (fun d => dsum A (P ||| 2 ^ c) d) (x_di A (x_th A c)) (dsum A (P ||| 2 ^ c) (x_di A (x_th A c)) + -1 * x_wo A c) = (fun d => dsum A P d) := by
    funext d
    unfold va_up
    by_cases h : d = x_di A (x_th A c)
    · rw [if_pos h, dsum_or hP hc, if_pos rfl, h]; omega
    · rw [if_neg h]; show dsum A (P ||| 2 ^ c) d = _; rw [dsum_or hP hc, if_neg (fun z => h z.symm)]; omega
  rw [pkq_t]
  show (q_bk q, q_ba q, q_ck q, q_cl q, q_no q, q_mu q, q_od q, q_cm q, q_oe q, q_ud q, q_li q, q_sf q, q_wf q, (P ||| 2 ^ c) ^^^ 2 ^ c, tkm A (P ||| 2 ^ c) (x_nc A) ^^^ 2 ^ x_th A c, ysum A P, wsum A (P ||| 2 ^ c) + -1 * x_wo A c, va_up (fun y => sps A (P ||| 2 ^ c) y) (x_yr A c) (sps A (P ||| 2 ^ c) (x_yr A c) + -1 * (x_co A c - sw A c (P ||| 2 ^ c))), va_up (fun d => dsum A (P ||| 2 ^ c) d) (x_di A (x_th A c)) (dsum A (P ||| 2 ^ c) (x_di A (x_th A c)) + -1 * x_wo A c), q_be q, q_bc q, q_bw q, q_bs q, q_or q) = pst A q P
  rw [e1, e2, e4, e5, e6]
  rfl
theorem sub_y {a y : Nat} (h : y ≤ a) : nI a + (-1) * nI y = nI (a - y) := by
  rw [← pk_sub h]
  apply Int32.toBitVec_inj.mp
  simp only [Int32.toBitVec_add, Int32.toBitVec_mul, Int32.toBitVec_sub, Int32.toBitVec_neg]
  rw [show ((1 : Int32).toBitVec) = 1#32 from rfl]
  rw [BitVec.neg_mul, BitVec.one_mul, ← BitVec.sub_eq_add_neg]
theorem c_S_pick1 (sc : am_S) (A : ST) (q : QS) (D : ST) (t : TS) (c : Nat) (b : bd A) (hc : c < 14) (hpk : q_pk q < 16384) : AM sc m_S_pick 1 [.ref 26, .int (nI c), .int 1] (hp A q D t) (none) (hp A (pkq A q c 1 (q_sy q + x_yr A c)) D t) := by
  refine AM.of (by decide) (Nat.le_of_ble_eq_true rfl) ?_
  show AW sc m_S_pick 1 0 [some (.ref 26), some (.int (nI c)), some (.int 1), none, none, none] [] _ _ _
  have b4 := b.2.2.2.1 c
  have b5 := b.2.2.2.2.1 c
  have b6 := b.2.2.2.2.2.1 (x_th A c)
  refine aw_aload_n 0 q_S_pick_0 rfl rfl ?_
  refine aw_get 0 q_S_pick_1 fl_S_29 rfl rfl ?_
  refine aw_get 7 q_S_pick_4 fl_S_100 rfl rfl ?_
  refine aw_iload_n 1 q_S_pick_7 rfl rfl ?_
  refine aw_ialdN q_S_pick_8 rfl (by omega) rfl ?_
  refine aw_istore_n 3 q_S_pick_9 rfl rfl rfl ?_
  refine aw_aload_n 0 q_S_pick_10 rfl rfl ?_
  refine aw_get 0 q_S_pick_11 fl_S_29 rfl rfl ?_
  refine aw_get 9 q_S_pick_14 fl_S_97 rfl rfl ?_
  refine aw_iload_n 1 q_S_pick_17 rfl rfl ?_
  refine aw_laldN q_S_pick_18 rfl (by omega) rfl ?_
  refine aw_lstore q_S_pick_19 rfl rfl ?_
  refine aw_aload_n 0 q_S_pick_21 rfl rfl ?_
  refine aw_get 14 q_S_pick_22 fl_S_23 rfl rfl ?_
  refine aw_iload_n 3 q_S_pick_25 rfl rfl ?_
  refine aw_dup2_11 q_S_pick_26 rfl rfl ?_
  refine aw_laldN q_S_pick_27 rfl (by omega) rfl ?_
  refine aw_iload_n 2 q_S_pick_28 rfl rfl ?_
  refine aw_i2l q_S_pick_29 ?_
  refine aw_aload_n 0 q_S_pick_30 rfl rfl ?_
  refine aw_get 0 q_S_pick_31 fl_S_29 rfl rfl ?_
  refine aw_get 8 q_S_pick_34 fl_S_135 rfl rfl ?_
  refine aw_iload_n 1 q_S_pick_37 rfl rfl ?_
  refine aw_laldN q_S_pick_38 rfl (by omega) rfl ?_
  refine aw_aload_n 0 q_S_pick_39 rfl rfl ?_
  refine aw_get 0 q_S_pick_40 fl_S_29 rfl rfl ?_
  refine aw_iload_n 1 q_S_pick_43 rfl rfl ?_
  refine aw_aload_n 0 q_S_pick_44 rfl rfl ?_
  refine aw_get 10 q_S_pick_45 fl_S_76 rfl rfl ?_
  refine aw_V2 q_S_pick_48 st_S_104 rfl (by omega) (Nat.le_of_ble_eq_true rfl) (c_W_savesWith _ _ _ _ _ _ _ b hc) ?_
  refine aw_lsub q_S_pick_51 ?_
  refine aw_lmul q_S_pick_52 ?_
  refine aw_ladd q_S_pick_53 ?_
  rw [lZ_sub, show (1 : Int32).toInt64 = lZ 1 from by decide, lZ_mul, lZ_add]
  refine wa_44 _ q_S_pick_54 (by omega) ?_
  refine aw_aload_n 0 q_S_pick_55 rfl rfl ?_
  refine aw_get 15 q_S_pick_56 fl_S_26 rfl rfl ?_
  refine aw_aload_n 0 q_S_pick_59 rfl rfl ?_
  refine aw_get 0 q_S_pick_60 fl_S_29 rfl rfl ?_
  refine aw_iload_n 1 q_S_pick_63 rfl rfl ?_
  refine aw_V1 q_S_pick_64 st_S_138 rfl (by omega) (Nat.le_of_ble_eq_true rfl) (c_W_districtOfChoice _ _ _ _ _ _ hc b4) ?_
  refine aw_dup2_11 q_S_pick_67 rfl rfl ?_
  refine aw_laldN q_S_pick_68 rfl (by omega) rfl ?_
  refine aw_iload_n 2 q_S_pick_69 rfl rfl ?_
  refine aw_i2l q_S_pick_70 ?_
  refine aw_lload q_S_pick_71 rfl ?_
  refine aw_lmul q_S_pick_73 ?_
  refine aw_ladd q_S_pick_74 ?_
  rw [show (1 : Int32).toInt64 = lZ 1 from by decide, lZ_mul, lZ_add]
  refine wa_45 _ q_S_pick_75 (by omega) ?_
  refine aw_aload_n 0 q_S_pick_76 rfl rfl ?_
  refine aw_dup q_S_pick_77 rfl ?_
  refine aw_get 13 q_S_pick_78 fl_S_85 rfl rfl ?_
  refine aw_iload_n 2 q_S_pick_81 rfl rfl ?_
  refine aw_i2l q_S_pick_82 ?_
  refine aw_lload q_S_pick_83 rfl ?_
  refine aw_lmul q_S_pick_85 ?_
  refine aw_ladd q_S_pick_86 ?_
  rw [show (1 : Int32).toInt64 = lZ 1 from by decide, lZ_mul, lZ_add]
  refine wp_S_13 _ q_S_pick_87 fl_S_85 ?_
  refine aw_aload_n 0 q_S_pick_90 rfl rfl ?_
  refine aw_dup q_S_pick_91 rfl ?_
  refine aw_get 12 q_S_pick_92 fl_S_82 rfl rfl ?_
  refine aw_iload_n 2 q_S_pick_95 rfl rfl ?_
  refine aw_iload_n 3 q_S_pick_96 rfl rfl ?_
  refine aw_imul q_S_pick_97 ?_
  refine aw_iadd q_S_pick_98 ?_
  rw [show (1 : Int32) = nI 1 from rfl, pk_mul, nI_add, Nat.one_mul]
  refine wp_S_12 _ q_S_pick_99 fl_S_82 ?_
  refine aw_aload_n 0 q_S_pick_102 rfl rfl ?_
  refine aw_dup q_S_pick_103 rfl ?_
  refine aw_get 10 q_S_pick_104 fl_S_76 rfl rfl ?_
  refine aw_iconst 1 q_S_pick_107 rfl ?_
  refine aw_iload_n 1 q_S_pick_108 rfl rfl ?_
  refine aw_ishl q_S_pick_109 ?_
  refine aw_ixor q_S_pick_110 ?_
  rw [bt_one (by omega), nI_xor]
  refine wp_S_10 _ q_S_pick_111 fl_S_76 ?_
  refine aw_aload_n 0 q_S_pick_114 rfl rfl ?_
  refine aw_dup q_S_pick_115 rfl ?_
  refine aw_get 11 q_S_pick_116 fl_S_79 rfl rfl ?_
  refine aw_iconst 1 q_S_pick_119 rfl ?_
  refine aw_aload_n 0 q_S_pick_120 rfl rfl ?_
  refine aw_get 0 q_S_pick_121 fl_S_29 rfl rfl ?_
  refine aw_get 6 q_S_pick_124 fl_S_121 rfl rfl ?_
  refine aw_iload_n 1 q_S_pick_127 rfl rfl ?_
  refine aw_ialdN q_S_pick_128 rfl (by omega) rfl ?_
  refine aw_ishl q_S_pick_129 ?_
  refine aw_ixor q_S_pick_130 ?_
  rw [bt_one (by omega), nI_xor]
  refine wp_S_11 _ q_S_pick_131 fl_S_79 ?_
  exact aw_vret q_S_pick_134 rfl rfl rfl
theorem c_S_pickm (sc : am_S) (A : ST) (q : QS) (D : ST) (t : TS) (c : Nat) (b : bd A) (hc : c < 14) (hpk : q_pk q < 16384) (hy : x_yr A c ≤ q_sy q) : AM sc m_S_pick 1 [.ref 26, .int (nI c), .int (-1)] (hp A q D t) (none) (hp A (pkq A q c (-1) (q_sy q - x_yr A c)) D t) := by
  refine AM.of (by decide) (Nat.le_of_ble_eq_true rfl) ?_
  show AW sc m_S_pick 1 0 [some (.ref 26), some (.int (nI c)), some (.int (-1)), none, none, none] [] _ _ _
  have b4 := b.2.2.2.1 c
  have b5 := b.2.2.2.2.1 c
  have b6 := b.2.2.2.2.2.1 (x_th A c)
  refine aw_aload_n 0 q_S_pick_0 rfl rfl ?_
  refine aw_get 0 q_S_pick_1 fl_S_29 rfl rfl ?_
  refine aw_get 7 q_S_pick_4 fl_S_100 rfl rfl ?_
  refine aw_iload_n 1 q_S_pick_7 rfl rfl ?_
  refine aw_ialdN q_S_pick_8 rfl (by omega) rfl ?_
  refine aw_istore_n 3 q_S_pick_9 rfl rfl rfl ?_
  refine aw_aload_n 0 q_S_pick_10 rfl rfl ?_
  refine aw_get 0 q_S_pick_11 fl_S_29 rfl rfl ?_
  refine aw_get 9 q_S_pick_14 fl_S_97 rfl rfl ?_
  refine aw_iload_n 1 q_S_pick_17 rfl rfl ?_
  refine aw_laldN q_S_pick_18 rfl (by omega) rfl ?_
  refine aw_lstore q_S_pick_19 rfl rfl ?_
  refine aw_aload_n 0 q_S_pick_21 rfl rfl ?_
  refine aw_get 14 q_S_pick_22 fl_S_23 rfl rfl ?_
  refine aw_iload_n 3 q_S_pick_25 rfl rfl ?_
  refine aw_dup2_11 q_S_pick_26 rfl rfl ?_
  refine aw_laldN q_S_pick_27 rfl (by omega) rfl ?_
  refine aw_iload_n 2 q_S_pick_28 rfl rfl ?_
  refine aw_i2l q_S_pick_29 ?_
  refine aw_aload_n 0 q_S_pick_30 rfl rfl ?_
  refine aw_get 0 q_S_pick_31 fl_S_29 rfl rfl ?_
  refine aw_get 8 q_S_pick_34 fl_S_135 rfl rfl ?_
  refine aw_iload_n 1 q_S_pick_37 rfl rfl ?_
  refine aw_laldN q_S_pick_38 rfl (by omega) rfl ?_
  refine aw_aload_n 0 q_S_pick_39 rfl rfl ?_
  refine aw_get 0 q_S_pick_40 fl_S_29 rfl rfl ?_
  refine aw_iload_n 1 q_S_pick_43 rfl rfl ?_
  refine aw_aload_n 0 q_S_pick_44 rfl rfl ?_
  refine aw_get 10 q_S_pick_45 fl_S_76 rfl rfl ?_
  refine aw_V2 q_S_pick_48 st_S_104 rfl (by omega) (Nat.le_of_ble_eq_true rfl) (c_W_savesWith _ _ _ _ _ _ _ b hc) ?_
  refine aw_lsub q_S_pick_51 ?_
  refine aw_lmul q_S_pick_52 ?_
  refine aw_ladd q_S_pick_53 ?_
  rw [lZ_sub, show ((-1) : Int32).toInt64 = lZ (-1) from by decide, lZ_mul, lZ_add]
  refine wa_44 _ q_S_pick_54 (by omega) ?_
  refine aw_aload_n 0 q_S_pick_55 rfl rfl ?_
  refine aw_get 15 q_S_pick_56 fl_S_26 rfl rfl ?_
  refine aw_aload_n 0 q_S_pick_59 rfl rfl ?_
  refine aw_get 0 q_S_pick_60 fl_S_29 rfl rfl ?_
  refine aw_iload_n 1 q_S_pick_63 rfl rfl ?_
  refine aw_V1 q_S_pick_64 st_S_138 rfl (by omega) (Nat.le_of_ble_eq_true rfl) (c_W_districtOfChoice _ _ _ _ _ _ hc b4) ?_
  refine aw_dup2_11 q_S_pick_67 rfl rfl ?_
  refine aw_laldN q_S_pick_68 rfl (by omega) rfl ?_
  refine aw_iload_n 2 q_S_pick_69 rfl rfl ?_
  refine aw_i2l q_S_pick_70 ?_
  refine aw_lload q_S_pick_71 rfl ?_
  refine aw_lmul q_S_pick_73 ?_
  refine aw_ladd q_S_pick_74 ?_
  rw [show ((-1) : Int32).toInt64 = lZ (-1) from by decide, lZ_mul, lZ_add]
  refine wa_45 _ q_S_pick_75 (by omega) ?_
  refine aw_aload_n 0 q_S_pick_76 rfl rfl ?_
  refine aw_dup q_S_pick_77 rfl ?_
  refine aw_get 13 q_S_pick_78 fl_S_85 rfl rfl ?_
  refine aw_iload_n 2 q_S_pick_81 rfl rfl ?_
  refine aw_i2l q_S_pick_82 ?_
  refine aw_lload q_S_pick_83 rfl ?_
  refine aw_lmul q_S_pick_85 ?_
  refine aw_ladd q_S_pick_86 ?_
  rw [show ((-1) : Int32).toInt64 = lZ (-1) from by decide, lZ_mul, lZ_add]
  refine wp_S_13 _ q_S_pick_87 fl_S_85 ?_
  refine aw_aload_n 0 q_S_pick_90 rfl rfl ?_
  refine aw_dup q_S_pick_91 rfl ?_
  refine aw_get 12 q_S_pick_92 fl_S_82 rfl rfl ?_
  refine aw_iload_n 2 q_S_pick_95 rfl rfl ?_
  refine aw_iload_n 3 q_S_pick_96 rfl rfl ?_
  refine aw_imul q_S_pick_97 ?_
  refine aw_iadd q_S_pick_98 ?_
  rw [sub_y (by exact hy)]
  refine wp_S_12 _ q_S_pick_99 fl_S_82 ?_
  refine aw_aload_n 0 q_S_pick_102 rfl rfl ?_
  refine aw_dup q_S_pick_103 rfl ?_
  refine aw_get 10 q_S_pick_104 fl_S_76 rfl rfl ?_
  refine aw_iconst 1 q_S_pick_107 rfl ?_
  refine aw_iload_n 1 q_S_pick_108 rfl rfl ?_
  refine aw_ishl q_S_pick_109 ?_
  refine aw_ixor q_S_pick_110 ?_
  rw [bt_one (by omega), nI_xor]
  refine wp_S_10 _ q_S_pick_111 fl_S_76 ?_
  refine aw_aload_n 0 q_S_pick_114 rfl rfl ?_
  refine aw_dup q_S_pick_115 rfl ?_
  refine aw_get 11 q_S_pick_116 fl_S_79 rfl rfl ?_
  refine aw_iconst 1 q_S_pick_119 rfl ?_
  refine aw_aload_n 0 q_S_pick_120 rfl rfl ?_
  refine aw_get 0 q_S_pick_121 fl_S_29 rfl rfl ?_
  refine aw_get 6 q_S_pick_124 fl_S_121 rfl rfl ?_
  refine aw_iload_n 1 q_S_pick_127 rfl rfl ?_
  refine aw_ialdN q_S_pick_128 rfl (by omega) rfl ?_
  refine aw_ishl q_S_pick_129 ?_
  refine aw_ixor q_S_pick_130 ?_
  rw [bt_one (by omega), nI_xor]
  refine wp_S_11 _ q_S_pick_131 fl_S_79 ?_
  exact aw_vret q_S_pick_134 rfl rfl rfl
