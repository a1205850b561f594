/-! PURE 2: the fold over all sets by their numbers -/
def sak (n : Nat) : Nat → Nat → Nat → Nat
  | 0, P, _ => P
  | k + 1, P, i => if i < 2 ^ k then sak n k (P ||| 2 ^ (n - (k + 1))) i else sak n k P (i - 2 ^ k)
theorem lf_sak (n : Nat) : ∀ k P, lf n k P = (List.range (2 ^ k)).map (sak n k P)
  | 0, P => rfl
  | k + 1, P => by
    rw [lf, lf_sak n k, lf_sak n k, show 2 ^ (k + 1) = 2 ^ k + 2 ^ k by rw [Nat.pow_succ]; omega, List.range_add, List.map_append, List.map_map]
    congr 1
    · refine List.map_congr_left (fun i hi => ?_)
      rw [List.mem_range] at hi
      simp only [sak, if_pos hi]
    · refine List.map_congr_left (fun i hi => ?_)
      simp only [Function.comp, sak, if_neg (show ¬ 2 ^ k + i < 2 ^ k by omega), Nat.add_sub_cancel_left]
theorem tb_mod (i e : Nat) : decide (i / 2 ^ e % 2 = 0) = !i.testBit e := by
  rw [Nat.testBit_eq_decide_div_mod_eq]
  have := Nat.mod_two_eq_zero_or_one (i / 2 ^ e)
  rcases this with h | h <;> simp [h]
theorem sak_bit {n : Nat} : ∀ k P i o, k ≤ n → P < 2 ^ (n - k) → i < 2 ^ k → (sak n k P i).testBit o = if o < n - k then P.testBit o else if o < n then !i.testBit (n - 1 - o) else false
  | 0, P, i, o, hk, hP, hi => by
    simp only [sak, Nat.sub_zero]
    split
    · rfl
    · exact tb_ge hP (by omega)
  | k + 1, P, i, o, hk, hP, hi => by
    obtain ⟨c, hc⟩ : ∃ c, n - (k + 1) = c := ⟨_, rfl⟩
    have hk2 : n - k = c + 1 := by omega
    rw [hc] at hP ⊢
    simp only [sak, hc]
    by_cases h : i < 2 ^ k
    · rw [if_pos h, sak_bit k _ i o (by omega) (by rw [hk2]; exact or_lt' hP) h, hk2]
      by_cases h1 : o < c
      · rw [if_pos (by omega), if_pos h1, tb_or]
        simp [show ¬ c = o by omega]
      · rw [if_neg h1]
        by_cases h2 : o = c
        · rw [if_pos (by omega), if_pos (by omega), tb_or, h2]
          rw [show n - 1 - c = k by omega, Nat.testBit_lt_two_pow h]
          simp
        · rw [if_neg (by omega)]
    · have hi2 : i - 2 ^ k < 2 ^ k := by rw [Nat.pow_succ] at hi; omega
      rw [if_neg h, sak_bit k _ _ o (by omega) (by rw [hk2]; exact lt_pw hP) hi2, hk2]
      by_cases h1 : o < c
      · rw [if_pos (by omega), if_pos h1]
      · rw [if_neg h1]
        have ei : i = 2 ^ k + (i - 2 ^ k) := by omega
        by_cases h2 : o = c
        · rw [if_pos (by omega), if_pos (by omega), h2, tb_ge hP (Nat.le_refl _), show n - 1 - c = k by omega]
          rw [ei, Nat.testBit_two_pow_add_eq, Nat.testBit_lt_two_pow hi2]
          rfl
        · rw [if_neg (by omega)]
          by_cases h3 : o < n
          · rw [if_pos h3, if_pos h3]
            congr 1
            have := Nat.testBit_two_pow_add_gt (i := k) (j := n - 1 - o) (by omega) (i - 2 ^ k)
            rw [← ei] at this
            exact this.symm
          · rw [if_neg h3, if_neg h3]
theorem sat_bit (A : ST) (i : Nat) : ∀ k o, (sat A i k).testBit o = (decide (o < k) && !i.testBit (x_nc A - 1 - o))
  | 0, o => by simp [sat]
  | k + 1, o => by
    have h := sat_bit A i k o
    have e := tb_mod i (x_nc A - 1 - k)
    unfold sat
    by_cases hb : i / 2 ^ (x_nc A - 1 - k) % 2 = 0
    · rw [if_pos hb, tb_or, h]
      rw [decide_eq_true hb] at e
      by_cases h1 : o = k
      · subst h1
        rw [← e]
        simp
      · have h2 : decide (k = o) = false := by simp; omega
        rw [h2, Bool.or_false]
        congr 1
        rw [decide_eq_decide]
        omega
    · rw [if_neg hb, h]
      rw [decide_eq_false hb] at e
      by_cases h1 : o = k
      · subst h1
        rw [← e]
        simp
      · congr 1
        rw [decide_eq_decide]
        omega
def sn (A : ST) (i : Nat) : Nat := sat A i (x_nc A)
theorem sn_lt (A : ST) (i : Nat) : sn A i < 2 ^ x_nc A := sat_lt A i _
theorem lf_sn (A : ST) : lf (x_nc A) (x_nc A) 0 = (List.range (2 ^ x_nc A)).map (sn A) := by
  rw [lf_sak]
  refine List.map_congr_left (fun i hi => ?_)
  rw [List.mem_range] at hi
  apply Nat.eq_of_testBit_eq
  intro o
  rw [sak_bit _ _ _ _ (Nat.le_refl _) (by rw [Nat.sub_self]; decide) hi, Nat.sub_self, if_neg (by omega)]
  unfold sn
  rw [sat_bit]
  by_cases h : o < x_nc A
  · rw [if_pos h]; simp [h]
  · rw [if_neg h]; simp [h]
def zf {β : Type} (step : β → Nat → β) (f : Nat → Nat) (z : β) : Nat → β
  | 0 => z
  | n + 1 => step (zf step f z n) (f n)
theorem fold_zf {β : Type} (step : β → Nat → β) (f : Nat → Nat) (z : β) : ∀ n, ((List.range n).map f).foldl step z = zf step f z n
  | 0 => rfl
  | n + 1 => by rw [List.range_succ, List.map_append, List.foldl_append, fold_zf step f z n]; rfl
theorem fold_sn {β : Type} (A : ST) (step : β → Nat → β) (z : β) (N : Nat) : ((lf (x_nc A) (x_nc A) 0).take N).foldl step z = zf step (sn A) z (min N (2 ^ x_nc A)) := by
  rw [lf_sn, ← List.map_take, List.take_range, fold_zf]
/-- the best of the sets that hold -/
def bst (hw : Nat → Bool) (bt : Nat → Option Nat → Bool) (f : Nat → Nat) : Nat → Option Nat
  | 0 => none
  | n + 1 => if (hw (f n) && bt (f n) (bst hw bt f n)) = true then some (f n) else bst hw bt f n
def anb (p : Nat → Bool) : Nat → Bool
  | 0 => false
  | n + 1 => anb p n || p n
def hw (A : ST) (mu : Nat) (li : Nat → Int) (m : Nat) : Bool := gd A mu li m && fai (x_fa A) (udm A (x_nt A)) (fun d => dsum A m d)
def chm (od cm m : Nat) : Nat := pcr 14 (((m ^^^ od) &&& cm) &&& cm)
def btc (A : ST) (od cm m : Nat) (o : Option Nat) : Bool := match o with
  | none => true
  | some k => if chm od cm m = chm od cm k then (if wsum A m = wsum A k then decide (ysum A m < ysum A k) else decide (wsum A k < wsum A m)) else decide (chm od cm m < chm od cm k)
def Rz (A : ST) (od cm : Nat) (z : Z4) (o : Option Nat) : Prop := z.1 = o ∧ ∀ m, o = some m → z.2 = (chm od cm m, wsum A m, ysum A m)
theorem stq_R {A : ST} {q : QS} (hoe : q_oe q = false) (hud : q_ud q = udm A (x_nt A)) {z : Z4} {o : Option Nat} (r : Rz A (q_od q) (q_cm q) z o) (m : Nat) : Rz A (q_od q) (q_cm q) (stq A q z m) (if (hw A (q_mu q) (q_li q) m && btc A (q_od q) (q_cm q) m o) = true then some m else o) := by
  obtain ⟨r1, r2⟩ := r
  unfold stq
  rw [hoe, Bool.false_and, if_neg (by decide)]
  unfold hw
  by_cases hg : gd A (q_mu q) (q_li q) m = true
  · rw [if_pos hg, hg, Bool.true_and]
    have e : (z.1.isNone || isb (pst A (zq q z) m) (chg (pst A (zq q z) m) (q_cm q))) = btc A (q_od q) (q_cm q) m o := by
      rw [r1]
      unfold isb chg
      simp only [ps_bc, ps_pk, ps_od, ps_cm, ps_ga, ps_bw, ps_sy, ps_bs, zq_bc, zq_od, zq_cm, zq_bw, zq_bs]
      cases o with
      | none => rfl
      | some k =>
        have e2 := r2 k rfl
        rw [e2]
        rfl
    have ec : chg (pst A (zq q z) m) (q_cm q) = chm (q_od q) (q_cm q) m := by
      unfold chg chm
      simp only [ps_pk, ps_od, ps_cm, zq_od, zq_cm]
    unfold stp
    rw [e, ec, hud]
    split
    · exact ⟨rfl, fun k hk => by cases hk; rfl⟩
    · exact ⟨r1, r2⟩
  · rw [if_neg hg]
    rw [Bool.not_eq_true] at hg
    rw [hg, Bool.false_and, Bool.false_and, if_neg (by decide)]
    exact ⟨r1, r2⟩
theorem zf_R {A : ST} {q : QS} (hoe : q_oe q = false) (hud : q_ud q = udm A (x_nt A)) {z : Z4} (hz : z.1 = none) (f : Nat → Nat) : ∀ n, Rz A (q_od q) (q_cm q) (zf (stq A q) f z n) (bst (hw A (q_mu q) (q_li q)) (btc A (q_od q) (q_cm q)) f n)
  | 0 => ⟨hz, fun m h => by cases h⟩
  | n + 1 => stq_R hoe hud (zf_R hoe hud hz f n) (f n)
theorem zf_any {A : ST} {q : QS} (hoe : q_oe q = true) (hud : q_ud q = udm A (x_nt A)) {z : Z4} (hz : z.1 = none) (f : Nat → Nat) : ∀ n, (zf (stq A q) f z n).1.isSome = anb (fun i => hw A (q_mu q) (q_li q) (f i)) n
  | 0 => by simp [zf, anb, hz]
  | n + 1 => by
    have ih := zf_any hoe hud hz f n
    unfold zf anb
    rw [← ih]
    generalize zf (stq A q) f z n = w
    unfold stq
    rw [hoe, Bool.true_and]
    cases e : w.1 with
    | some k => simp [e]
    | none =>
      simp only [Option.isSome_none, Bool.false_eq_true, if_false, Bool.false_or]
      unfold hw stp
      by_cases hg : gd A (q_mu q) (q_li q) (f n) = true
      · rw [if_pos hg, hg, hud, e]
        cases hf : fai (x_fa A) (udm A (x_nt A)) (fun d => dsum A (f n) d) <;> simp [e]
      · rw [if_neg hg]
        rw [Bool.not_eq_true] at hg
        simp [hg, e]
/-- the plan of most worth, the nearest plan, is there a plan -/
def bestP (A : ST) (mu : Nat) (li : Nat → Int) (N : Nat) : Option Nat := bst (hw A mu li) (btc A 0 0) (sn A) (min N (2 ^ x_nc A))
def nearP (A : ST) (mu : Nat) (li : Nat → Int) (od N : Nat) : Option Nat := bst (hw A mu li) (btc A od (2 ^ x_nc A - 1)) (sn A) (min N (2 ^ x_nc A))
def someP (A : ST) (mu : Nat) (li : Nat → Int) : Bool := anb (fun i => hw A mu li (sn A i)) (2 ^ x_nc A)
theorem QF_sf {A : ST} (b : bd A) (q : QS) (N : Int) (m : Nat) (li : Nat → Int) (od cm : Nat) (oe : Bool) (a y : Nat) (ha : a ≤ x_nc A) (hy : y < 6) : q_sf (QF A q N m li od cm oe) a y = SF A a y := by
  rw [QF_gsf, wRS_sf b, if_pos ⟨ha, hy⟩]
theorem QF_wf {A : ST} (q : QS) (N : Int) (m : Nat) (li : Nat → Int) (od cm : Nat) (oe : Bool) (c : Nat) (hc : c ≤ x_nc A) : q_wf (QF A q N m li od cm oe) c = WF A c := by
  rw [QF_gwf, wRS_wf, if_pos hc]
theorem SR_best {A : ST} (b : bd A) (j : jy A) (q : QS) (NI : Int) (N : Nat) {mu : Nat} (hmu : mu < 2 ^ x_nc A) {li : Nat → Int} (hli : ∀ y, 0 ≤ li y) (od cm : Nat) : (SR A (QF A q NI mu li od cm false) N (x_nc A) 0 0 (z0 q)).1 = bst (hw A mu li) (btc A od cm) (sn A) (min N (2 ^ x_nc A)) := by
  rw [SR_pure b j (fun a y ha hy => QF_sf b q _ _ _ _ _ _ a y ha hy) (fun c hc => QF_wf q _ _ _ _ _ _ c hc) (by rw [QF_gmu]; exact hmu) (by rw [QF_gli]; exact hli), fold_sn]
  have h := (zf_R (A := A) (q := QF A q NI mu li od cm false) (by rw [QF_goe]) (by rw [QF_gud]) (z := z0 q) rfl (sn A) (min N (2 ^ x_nc A))).1
  rw [QF_gmu, QF_gli, QF_god, QF_gcm] at h
  exact h
theorem SR_any {A : ST} (b : bd A) (j : jy A) (q : QS) (NI : Int) {mu : Nat} (hmu : mu < 2 ^ x_nc A) {li : Nat → Int} (hli : ∀ y, 0 ≤ li y) (od cm : Nat) : (SR A (QF A q NI mu li od cm true) 16384 (x_nc A) 0 0 (z0 q)).1.isSome = someP A mu li := by
  rw [SR_pure b j (fun a y ha hy => QF_sf b q _ _ _ _ _ _ a y ha hy) (fun c hc => QF_wf q _ _ _ _ _ _ c hc) (by rw [QF_gmu]; exact hmu) (by rw [QF_gli]; exact hli), fold_sn]
  have h := zf_any (A := A) (q := QF A q NI mu li od cm true) (by rw [QF_goe]) (by rw [QF_gud]) (z := z0 q) rfl (sn A) (min 16384 (2 ^ x_nc A))
  rw [QF_gmu, QF_gli] at h
  rw [h, Nat.min_eq_right (p14 b.2.2.1)]
  rfl
