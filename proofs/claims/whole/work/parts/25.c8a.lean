/-! CONTRACTS 8: the search itself -/
theorem ps_bk (A : ST) (q : QS) (P : Nat) : q_bk (pst A q P) = q_bk q := by simp only [pst, q_bk]
theorem zq_bk (q : QS) (z : Z4) : q_bk (zq q z) = q_bk q := by simp only [zq, q_bk]
theorem ps_ba (A : ST) (q : QS) (P : Nat) : q_ba (pst A q P) = q_ba q := by simp only [pst, q_ba]
theorem zq_ba (q : QS) (z : Z4) : q_ba (zq q z) = q_ba q := by simp only [zq, q_ba]
theorem ps_ck (A : ST) (q : QS) (P : Nat) : q_ck (pst A q P) = q_ck q := by simp only [pst, q_ck]
theorem zq_ck (q : QS) (z : Z4) : q_ck (zq q z) = q_ck q := by simp only [zq, q_ck]
theorem ps_cl (A : ST) (q : QS) (P : Nat) : q_cl (pst A q P) = q_cl q := by simp only [pst, q_cl]
theorem zq_cl (q : QS) (z : Z4) : q_cl (zq q z) = q_cl q := by simp only [zq, q_cl]
theorem ps_no (A : ST) (q : QS) (P : Nat) : q_no (pst A q P) = q_no q := by simp only [pst, q_no]
theorem zq_no (q : QS) (z : Z4) : q_no (zq q z) = q_no q := by simp only [zq, q_no]
theorem ps_mu (A : ST) (q : QS) (P : Nat) : q_mu (pst A q P) = q_mu q := by simp only [pst, q_mu]
theorem zq_mu (q : QS) (z : Z4) : q_mu (zq q z) = q_mu q := by simp only [zq, q_mu]
theorem ps_od (A : ST) (q : QS) (P : Nat) : q_od (pst A q P) = q_od q := by simp only [pst, q_od]
theorem zq_od (q : QS) (z : Z4) : q_od (zq q z) = q_od q := by simp only [zq, q_od]
theorem ps_cm (A : ST) (q : QS) (P : Nat) : q_cm (pst A q P) = q_cm q := by simp only [pst, q_cm]
theorem zq_cm (q : QS) (z : Z4) : q_cm (zq q z) = q_cm q := by simp only [zq, q_cm]
theorem ps_oe (A : ST) (q : QS) (P : Nat) : q_oe (pst A q P) = q_oe q := by simp only [pst, q_oe]
theorem zq_oe (q : QS) (z : Z4) : q_oe (zq q z) = q_oe q := by simp only [zq, q_oe]
theorem ps_ud (A : ST) (q : QS) (P : Nat) : q_ud (pst A q P) = q_ud q := by simp only [pst, q_ud]
theorem zq_ud (q : QS) (z : Z4) : q_ud (zq q z) = q_ud q := by simp only [zq, q_ud]
theorem ps_li (A : ST) (q : QS) (P : Nat) : q_li (pst A q P) = q_li q := by simp only [pst, q_li]
theorem zq_li (q : QS) (z : Z4) : q_li (zq q z) = q_li q := by simp only [zq, q_li]
theorem ps_sf (A : ST) (q : QS) (P : Nat) : q_sf (pst A q P) = q_sf q := by simp only [pst, q_sf]
theorem zq_sf (q : QS) (z : Z4) : q_sf (zq q z) = q_sf q := by simp only [zq, q_sf]
theorem ps_wf (A : ST) (q : QS) (P : Nat) : q_wf (pst A q P) = q_wf q := by simp only [pst, q_wf]
theorem zq_wf (q : QS) (z : Z4) : q_wf (zq q z) = q_wf q := by simp only [zq, q_wf]
theorem ps_pk (A : ST) (q : QS) (P : Nat) : q_pk (pst A q P) = P := by simp only [pst, q_pk]
theorem zq_pk (q : QS) (z : Z4) : q_pk (zq q z) = q_pk q := by simp only [zq, q_pk]
theorem ps_tk (A : ST) (q : QS) (P : Nat) : q_tk (pst A q P) = tkm A P (x_nc A) := by simp only [pst, q_tk]
theorem zq_tk (q : QS) (z : Z4) : q_tk (zq q z) = q_tk q := by simp only [zq, q_tk]
theorem ps_sy (A : ST) (q : QS) (P : Nat) : q_sy (pst A q P) = ysum A P := by simp only [pst, q_sy]
theorem zq_sy (q : QS) (z : Z4) : q_sy (zq q z) = q_sy q := by simp only [zq, q_sy]
theorem ps_ga (A : ST) (q : QS) (P : Nat) : q_ga (pst A q P) = wsum A P := by simp only [pst, q_ga]
theorem zq_ga (q : QS) (z : Z4) : q_ga (zq q z) = q_ga q := by simp only [zq, q_ga]
theorem ps_sp (A : ST) (q : QS) (P : Nat) : q_sp (pst A q P) = (fun y => sps A P y) := by simp only [pst, q_sp]
theorem zq_sp (q : QS) (z : Z4) : q_sp (zq q z) = q_sp q := by simp only [zq, q_sp]
theorem ps_gi (A : ST) (q : QS) (P : Nat) : q_gi (pst A q P) = (fun d => dsum A P d) := by simp only [pst, q_gi]
theorem zq_gi (q : QS) (z : Z4) : q_gi (zq q z) = q_gi q := by simp only [zq, q_gi]
theorem ps_be (A : ST) (q : QS) (P : Nat) : q_be (pst A q P) = q_be q := by simp only [pst, q_be]
theorem zq_be (q : QS) (z : Z4) : q_be (zq q z) = z.1 := by simp only [zq, q_be]
theorem ps_bc (A : ST) (q : QS) (P : Nat) : q_bc (pst A q P) = q_bc q := by simp only [pst, q_bc]
theorem zq_bc (q : QS) (z : Z4) : q_bc (zq q z) = z.2.1 := by simp only [zq, q_bc]
theorem ps_bw (A : ST) (q : QS) (P : Nat) : q_bw (pst A q P) = q_bw q := by simp only [pst, q_bw]
theorem zq_bw (q : QS) (z : Z4) : q_bw (zq q z) = z.2.2.1 := by simp only [zq, q_bw]
theorem ps_bs (A : ST) (q : QS) (P : Nat) : q_bs (pst A q P) = q_bs q := by simp only [pst, q_bs]
theorem zq_bs (q : QS) (z : Z4) : q_bs (zq q z) = z.2.2.2 := by simp only [zq, q_bs]
theorem ps_or (A : ST) (q : QS) (P : Nat) : q_or (pst A q P) = q_or q := by simp only [pst, q_or]
theorem zq_or (q : QS) (z : Z4) : q_or (zq q z) = q_or q := by simp only [zq, q_or]
theorem ovs_zq (A : ST) (q : QS) (z : Z4) (P c : Nat) : ovs A (pst A (zq q z) P) c = ovs A (pst A q P) c := by simp only [ovs, ps_li, ps_sp, ps_sf, zq_li, zq_sf]
def bqf (q : QS) : Prop := q_cm q < 16384 ∧ (∀ c, -1000000000000 ≤ q_wf q c ∧ q_wf q c ≤ 1000000000000) ∧ (∀ a y, -1000000000000 ≤ q_sf q a y ∧ q_sf q a y ≤ 1000000000000) ∧ (∀ y, -1000000000000 ≤ q_li q y ∧ q_li q y ≤ 1000000000000) ∧ q_ud q < 16 ∧ q_mu q < 16384 ∧ (0 ≤ q_no q ∧ q_no q ≤ 1000000)
def jz (z : Z4) : Prop := (∀ m, z.1 = some m → m < 16384) ∧ z.2.1 < 100 ∧ (-1000000000000 ≤ z.2.2.1 ∧ z.2.2.1 ≤ 1000000000000) ∧ z.2.2.2 < 1000
theorem ysum_lt {A : ST} (b : bd A) (m : Nat) : ysum A m < 100 := by
  have h := nsm_le (n := x_nc A) (b := 5) (f := fun c => if m.testBit c = true then x_yr A c else 0) (fun i _ => by
    have := b.2.2.2.2.1 i
    split <;> omega)
  have := b.2.2.1
  unfold ysum
  omega
theorem bq_pst {A : ST} (b : bd A) {q : QS} (f : bqf q) {z : Z4} (hz : jz z) {P : Nat} (hP : P < 16384) : bq (pst A (zq q z) P) := by
  have w := wsum_bd b P
  have s := fun y => sps_bd b P y
  have g := fun d => dsum_bd b P d
  have y := ysum_lt b P
  have k := tkm_lt b P (x_nc A)
  refine ⟨f.1, hz.1, hz.2.1, ⟨?_, ?_⟩, f.2.1, hz.2.2.1, ⟨?_, hz.2.2.2⟩, fun y => ⟨?_, ?_⟩, f.2.2.1, f.2.2.2.1, fun d => ⟨?_, ?_⟩, f.2.2.2.2.1, hP, ?_, f.2.2.2.2.2.1, f.2.2.2.2.2.2⟩
  · show -1000000000000 ≤ wsum A P; omega
  · show wsum A P ≤ 1000000000000; omega
  · show ysum A P < 1000; omega
  · show -1000000000000 ≤ sps A P y; have := s y; omega
  · show sps A P y ≤ 1000000000000; have := s y; omega
  · show -1000000000000 ≤ dsum A P d; have := g d; omega
  · show dsum A P d ≤ 1000000000000; have := g d; omega
  · show tkm A P (x_nc A) < 16384; omega
/-- the best so far behind a set that was looked at -/
def stp (A : ST) (q : QS) (z : Z4) (P : Nat) : Z4 := if (fai (x_fa A) (q_ud q) (fun d => dsum A P d) && (z.1.isNone || isb (pst A (zq q z) P) (chg (pst A (zq q z) P) (q_cm q)))) = true then (some P, chg (pst A (zq q z) P) (q_cm q), wsum A P, ysum A P) else z
theorem chg_le (q : QS) (e : Nat) : chg q e ≤ 14 := pcr_le _ _
theorem stp_jz {A : ST} (b : bd A) {q : QS} {z : Z4} (hz : jz z) {P : Nat} (hP : P < 16384) : jz (stp A q z P) := by
  unfold stp
  split
  · have w := wsum_bd b P
    have y := ysum_lt b P
    have c := chg_le (pst A (zq q z) P) (q_cm q)
    refine ⟨fun m h => ?_, ?_, ⟨?_, ?_⟩, ?_⟩
    · cases h; exact hP
    · show chg _ _ < 100; omega
    · show -1000000000000 ≤ wsum A P; omega
    · show wsum A P ≤ 1000000000000; omega
    · show ysum A P < 1000; omega
  · exact hz
theorem wgh_t (q : QS) (a : Option Nat) (e : Nat) (f : Int) (g : Nat) : q_s_bs (q_s_bw (q_s_bc (q_s_be q a) e) f) g = zq q (a, e, f, g) := by
  simp only [q_s_bs, q_s_bw, q_s_bc, q_s_be, zq, q_bk, q_ba, q_ck, q_cl, q_no, q_mu, q_od, q_cm, q_oe, q_ud, q_li, q_sf, q_wf, q_pk, q_tk, q_sy, q_ga, q_sp, q_gi, q_be, q_bc, q_bw, q_bs, q_or]
theorem wgh_pst (A : ST) (q : QS) (z : Z4) (P : Nat) : wgh A (pst A (zq q z) P) = pst A (zq q (stp A q z P)) P := by
  unfold wgh stp
  by_cases h : (fai (x_fa A) (q_ud q) (fun d => dsum A P d) && (z.1.isNone || isb (pst A (zq q z) P) (chg (pst A (zq q z) P) (q_cm q)))) = true
  · rw [if_pos h]
    refine (if_pos h).trans ?_
    rw [wgh_t]
    rfl
  · rw [if_neg h]
    exact if_neg h
def hopf (A : ST) (q : QS) (k P : Nat) (z : Z4) : Bool := hpl (pst A (zq q z) P) (x_nc A - k)
def bdW (A : ST) (q : QS) (k P : Nat) : Bool := (tkm A P (x_nc A)).testBit (x_th A (x_nc A - k)) || ovs A (pst A q (P ||| 2 ^ (x_nc A - k))) (x_nc A - k)
def bdO (A : ST) (q : QS) (k P : Nat) : Bool := (q_mu q).testBit (x_nc A - k) || ovs A (pst A q P) (x_nc A - k)
/-- what the search leaves as the best -/
def SR (A : ST) (q : QS) (N k b P : Nat) (z : Z4) : Z4 := sr (x_nc A) N (hopf A q) (bdW A q) (bdO A q) (stp A q) k b P z
theorem SR_cut {A : ST} {q : QS} {N k b P : Nat} {z : Z4} (h : N ≤ b ∨ hopf A q k P z = true) : SR A q N k b P z = z := by
  cases k with
  | zero => exact if_pos h
  | succ k => exact if_pos h
theorem SR_leaf {A : ST} {q : QS} {N b P : Nat} {z : Z4} (h1 : ¬ N ≤ b) (h2 : hopf A q 0 P z = false) : SR A q N 0 b P z = stp A q z P := if_neg (by rintro (x | x); exact h1 x; rw [h2] at x; cases x)
def SW (A : ST) (q : QS) (N k b P : Nat) (z : Z4) : Z4 := if bdW A q (k + 1) P = true then z else SR A q N k b (P ||| 2 ^ (x_nc A - (k + 1))) z
def SO (A : ST) (q : QS) (N k b P : Nat) (z : Z4) : Z4 := if bdO A q (k + 1) P = true then z else SR A q N k b P z
theorem SR_go {A : ST} {q : QS} {N k b P : Nat} {z : Z4} (h1 : ¬ N ≤ b) (h2 : hopf A q (k + 1) P z = false) : SR A q N (k + 1) b P z = SO A q N k (b + 2 ^ k) P (SW A q N k b P z) := if_neg (by rintro (x | x); exact h1 x; rw [h2] at x; cases x)
theorem or_lt' {P c : Nat} (h : P < 2 ^ c) : P ||| 2 ^ c < 2 ^ (c + 1) := or_lt (Nat.lt_trans h (Nat.pow_lt_pow_right (by decide) (by omega))) (Nat.pow_lt_pow_right (by decide) (by omega))
theorem SR_jz {A : ST} (b : bd A) {q : QS} {N : Nat} : ∀ (k c bb P : Nat) (z : Z4), c + k = x_nc A → P < 2 ^ c → jz z → jz (SR A q N k bb P z)
  | 0, c, bb, P, z, hc, hP, hz => by
    have h14 := p14 (i := c) (by have := b.2.2.1; omega)
    by_cases h : N ≤ bb ∨ hopf A q 0 P z = true
    · rw [SR_cut h]; exact hz
    · rw [SR_leaf (fun x => h (Or.inl x)) (by simpa using fun x => h (Or.inr x))]
      exact stp_jz b hz (by omega)
  | k + 1, c, bb, P, z, hc, hP, hz => by
    by_cases h : N ≤ bb ∨ hopf A q (k + 1) P z = true
    · rw [SR_cut h]; exact hz
    · rw [SR_go (fun x => h (Or.inl x)) (by simpa using fun x => h (Or.inr x))]
      have e : x_nc A - (k + 1) = c := by omega
      have hw : jz (SW A q N k bb P z) := by
        unfold SW
        split
        · exact hz
        · rw [e]
          exact SR_jz b k (c + 1) bb _ z (by omega) (or_lt' hP) hz
      unfold SO
      split
      · exact hw
      · exact SR_jz b k (c + 1) _ P _ (by omega) (Nat.lt_trans hP (Nat.pow_lt_pow_right (by decide) (by omega))) hw
theorem ls_dec : ∀ e, e < 14 → (lZ 1) <<< ((nI e).toInt64 &&& 63) = lZ ((2 ^ e : Nat) : Int) := by decide +kernel
