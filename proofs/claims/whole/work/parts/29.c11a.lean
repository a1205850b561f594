/-! CONTRACTS 11: the four searches -/
theorem aw_q {sc : am_S} {M : am_M} {d pc : Nat} {L : List (Option Value)} {st : List Value} {r : Option Value} {h' : List am_C} {A : ST} {q1 q2 : QS} {D : ST} {t : TS} (e : q1 = q2) (kk : AW sc M d pc L st (hp A q2 D t) r h') : AW sc M d pc L st (hp A q1 D t) r h' := by
  subst e
  exact kk
theorem sm_0 (n : Nat) : sm n (fun _ => 0) = 0 := by
  induction n with
  | zero => rfl
  | succ n ih => simp only [sm, ih]; rfl
theorem nsm_0 (n : Nat) : nsm n (fun _ => 0) = 0 := by
  induction n with
  | zero => rfl
  | succ n ih => simp only [nsm, ih]
theorem wsum_0 (A : ST) : wsum A 0 = 0 := by simp [wsum, sm_0]
theorem ysum_0 (A : ST) : ysum A 0 = 0 := by simp [ysum, nsm_0]
theorem dsum_0 (A : ST) (d : Nat) : dsum A 0 d = 0 := by simp [dsum, sm_0]
theorem sps_0 (A : ST) (y : Nat) : sps A 0 y = 0 := by
  have : spf A 0 y = fun _ => 0 := by funext c; simp [spf]
  unfold sps
  rw [this, sm_0]
theorem tkm_0 (A : ST) : ∀ i, tkm A 0 i = 0
  | 0 => rfl
  | i + 1 => by simp [tkm, tkm_0 A i]
/-- the class's rows between two calls -/
def rst (q : QS) : Prop := q_sp q = z0f ∧ q_gi q = z0f ∧ (∀ y, 6 ≤ y → q_li q y = 0) ∧ (∀ c, -1000000000000 ≤ q_wf q c ∧ q_wf q c ≤ 1000000000000) ∧ (∀ a y, -1000000000000 ≤ q_sf q a y ∧ q_sf q a y ≤ 1000000000000) ∧ (∀ y, -1000000000000 ≤ q_li q y ∧ q_li q y ≤ 1000000000000) ∧ q_bc q < 100 ∧ (-1000000000000 ≤ q_bw q ∧ q_bw q ≤ 1000000000000) ∧ q_bs q < 1000 ∧ ∀ i, q_or q i < 14
def bu0 (A : ST) : Prop := ∀ y, 6 ≤ y → x_bu A y = 0
def wRS (A : ST) (q : QS) : FG := RS A (rs0 A q) (x_nc A)
/-- the search's rows when it begins -/
def QF (A : ST) (q : QS) (N : Int) (m : Nat) (li : Nat → Int) (od cm : Nat) (oe : Bool) : QS := (q_bk q, q_ba q, q_ck q, q_cl q, N, m, od, cm, oe, udm A (x_nt A), li, (wRS A q).2, (wRS A q).1, 0, 0, 0, 0, z0f, z0f, none, q_bc q, q_bw q, q_bs q, q_or q)
def z0 (q : QS) : Z4 := (none, q_bc q, q_bw q, q_bs q)
theorem ul_z {f : Nat → Int} {n : Nat} (h : f = z0f) : ul f z0f n = z0f := by
  subst h
  funext y
  unfold ul
  split <;> rfl
theorem ul_bu {A : ST} {f : Nat → Int} (h : ∀ y, 6 ≤ y → f y = 0) (h0 : bu0 A) : ul f (x_bu A) 6 = x_bu A := by
  funext y
  unfold ul
  by_cases hy : y < 6
  · rw [if_pos hy]
  · rw [if_neg hy, h y (by omega), h0 y (by omega)]
theorem rs0_qpp (A : ST) (q : QS) (N : Int) (m : Nat) : rs0 A (qpp A q N m) = rs0 A q := by simp only [rs0, qpp, qp, q_wf, q_sf]
theorem qpf_QF {A : ST} {q : QS} (r : rst q) (h0 : bu0 A) (N : Int) (m : Nat) : qpf A q N m = QF A q N m (x_bu A) 0 0 false := by
  unfold qpf
  rw [rs0_qpp]
  unfold qpp
  rw [ul_z r.1, ul_z r.2.1, ul_bu r.2.2.1 h0]
  simp only [qr, qp, QF, wRS, q_bk, q_ba, q_ck, q_cl, q_no, q_mu, q_od, q_cm, q_oe, q_ud, q_li, q_sf, q_wf, q_pk, q_tk, q_sy, q_ga, q_sp, q_gi, q_be, q_bc, q_bw, q_bs, q_or]
theorem QF_pst (A : ST) (q : QS) (N : Int) (m : Nat) (li : Nat → Int) (od cm : Nat) (oe : Bool) : QF A q N m li od cm oe = pst A (zq (QF A q N m li od cm oe) (z0 q)) 0 := by
  have e1 : (fun y => sps A 0 y) = z0f := by funext y; exact sps_0 A y
  have e2 : (fun d => dsum A 0 d) = z0f := by funext d; exact dsum_0 A d
  unfold pst
  rw [tkm_0, ysum_0, wsum_0, e1, e2]
  simp only [zq, QF, z0, q_bk, q_ba, q_ck, q_cl, q_no, q_mu, q_od, q_cm, q_oe, q_ud, q_li, q_sf, q_wf, q_pk, q_tk, q_sy, q_ga, q_sp, q_gi, q_be, q_bc, q_bw, q_bs, q_or]
theorem QF_li (A : ST) (q : QS) (N : Int) (m : Nat) (li f : Nat → Int) (od cm : Nat) (oe : Bool) : q_s_li (QF A q N m li od cm oe) f = QF A q N m f od cm oe := by simp only [q_s_li, QF, q_bk, q_ba, q_ck, q_cl, q_no, q_mu, q_od, q_cm, q_oe, q_ud, q_li, q_sf, q_wf, q_pk, q_tk, q_sy, q_ga, q_sp, q_gi, q_be, q_bc, q_bw, q_bs, q_or]
theorem QF_gli (A : ST) (q : QS) (N : Int) (m : Nat) (li : Nat → Int) (od cm : Nat) (oe : Bool) : q_li (QF A q N m li od cm oe) = li := by simp only [QF, q_li]
theorem QF_gcm (A : ST) (q : QS) (N : Int) (m : Nat) (li : Nat → Int) (od cm : Nat) (oe : Bool) : q_cm (QF A q N m li od cm oe) = cm := by simp only [QF, q_cm]
theorem QF_gwf (A : ST) (q : QS) (N : Int) (m : Nat) (li : Nat → Int) (od cm : Nat) (oe : Bool) : q_wf (QF A q N m li od cm oe) = (wRS A q).1 := by simp only [QF, q_wf]
theorem QF_gsf (A : ST) (q : QS) (N : Int) (m : Nat) (li : Nat → Int) (od cm : Nat) (oe : Bool) : q_sf (QF A q N m li od cm oe) = (wRS A q).2 := by simp only [QF, q_sf]
theorem QF_gud (A : ST) (q : QS) (N : Int) (m : Nat) (li : Nat → Int) (od cm : Nat) (oe : Bool) : q_ud (QF A q N m li od cm oe) = udm A (x_nt A) := by simp only [QF, q_ud]
theorem QF_gmu (A : ST) (q : QS) (N : Int) (m : Nat) (li : Nat → Int) (od cm : Nat) (oe : Bool) : q_mu (QF A q N m li od cm oe) = m := by simp only [QF, q_mu]
theorem QF_god (A : ST) (q : QS) (N : Int) (m : Nat) (li : Nat → Int) (od cm : Nat) (oe : Bool) : q_od (QF A q N m li od cm oe) = od := by simp only [QF, q_od]
theorem QF_goe (A : ST) (q : QS) (N : Int) (m : Nat) (li : Nat → Int) (od cm : Nat) (oe : Bool) : q_oe (QF A q N m li od cm oe) = oe := by simp only [QF, q_oe]
theorem QF_gor (A : ST) (q : QS) (N : Int) (m : Nat) (li : Nat → Int) (od cm : Nat) (oe : Bool) : q_or (QF A q N m li od cm oe) = q_or q := by simp only [QF, q_or]
theorem QF_gno (A : ST) (q : QS) (N : Int) (m : Nat) (li : Nat → Int) (od cm : Nat) (oe : Bool) : q_no (QF A q N m li od cm oe) = N := by simp only [QF, q_no]
theorem QF_od (A : ST) (q : QS) (N : Int) (m : Nat) (li : Nat → Int) (od cm : Nat) (oe : Bool) (z : Nat) : q_s_od (QF A q N m li od cm oe) z = QF A q N m li z cm oe := by simp only [q_s_od, QF, q_bk, q_ba, q_ck, q_cl, q_no, q_mu, q_od, q_cm, q_oe, q_ud, q_li, q_sf, q_wf, q_pk, q_tk, q_sy, q_ga, q_sp, q_gi, q_be, q_bc, q_bw, q_bs, q_or]
theorem QF_cm (A : ST) (q : QS) (N : Int) (m : Nat) (li : Nat → Int) (od cm : Nat) (oe : Bool) (z : Nat) : q_s_cm (QF A q N m li od cm oe) z = QF A q N m li od z oe := by simp only [q_s_cm, QF, q_bk, q_ba, q_ck, q_cl, q_no, q_mu, q_od, q_cm, q_oe, q_ud, q_li, q_sf, q_wf, q_pk, q_tk, q_sy, q_ga, q_sp, q_gi, q_be, q_bc, q_bw, q_bs, q_or]
theorem QF_oe (A : ST) (q : QS) (N : Int) (m : Nat) (li : Nat → Int) (od cm : Nat) (oe : Bool) (z : Bool) : q_s_oe (QF A q N m li od cm oe) z = QF A q N m li od cm z := by simp only [q_s_oe, QF, q_bk, q_ba, q_ck, q_cl, q_no, q_mu, q_od, q_cm, q_oe, q_ud, q_li, q_sf, q_wf, q_pk, q_tk, q_sy, q_ga, q_sp, q_gi, q_be, q_bc, q_bw, q_bs, q_or]
theorem WF_bd {A : ST} (b : bd A) {c : Nat} (hc : c ≤ 14) : -100000000 ≤ WF A c ∧ WF A c ≤ 100000000 := by
  have h1 := sm_le (n := x_nc A) (f := x_wo A) (a := 0) (b := 1000000) (fun i _ => b.2.2.2.2.2.2.2.2.1 i)
  have h2 := sm_le (n := c) (f := x_wo A) (a := 0) (b := 1000000) (fun i _ => b.2.2.2.2.2.2.2.2.1 i)
  have h3 := b.2.2.1
  unfold WF
  omega
theorem SF_bd {A : ST} (b : bd A) {c : Nat} (hc : c ≤ 14) (y : Nat) : -1000000000 ≤ SF A c y ∧ SF A c y ≤ 1000000000 := by
  have h0 : ∀ i, 0 ≤ sfg A y i ∧ sfg A y i ≤ 14000000 := fun i => by
    have := sw_bd b i (2 ^ i - 1)
    unfold sfg
    split <;> omega
  have h1 := sm_le (n := x_nc A) (f := sfg A y) (a := 0) (b := 14000000) (fun i _ => h0 i)
  have h2 := sm_le (n := c) (f := sfg A y) (a := 0) (b := 14000000) (fun i _ => h0 i)
  have h3 := b.2.2.1
  unfold SF
  omega
theorem wRS_wf (A : ST) (q : QS) (c : Nat) : (wRS A q).1 c = if c ≤ x_nc A then WF A c else q_wf q c := by
  unfold wRS
  rw [RS_wf (by simp [rs0, va_up]) _ (Nat.le_refl _)]
  by_cases h : c ≤ x_nc A
  · rw [if_pos h, if_pos (by omega)]
  · rw [if_neg h, if_neg (by omega)]
    simp [rs0, va_up, show ¬ c = x_nc A by omega]
theorem wRS_sf {A : ST} (b : bd A) (q : QS) (a y : Nat) : (wRS A q).2 a y = if a ≤ x_nc A ∧ y < 6 then SF A a y else q_sf q a y := by
  unfold wRS
  rw [RS_sf b (fun y hy => by simp [rs0, g1, hy]) _ (Nat.le_refl _)]
  by_cases h : a ≤ x_nc A ∧ y < 6
  · rw [if_pos h, if_pos (by omega)]
  · rw [if_neg h, if_neg (by omega)]
    show g1 _ _ _ a y = _
    unfold g1
    rw [if_neg (by omega)]
theorem QF_f {A : ST} (b : bd A) {q : QS} (r : rst q) {N : Int} {m : Nat} {li : Nat → Int} {od cm : Nat} {oe : Bool} (hN : 0 ≤ N ∧ N ≤ 1000000) (hm : m < 16384) (hcm : cm < 16384) (hli : ∀ y, -1000000000000 ≤ li y ∧ li y ≤ 1000000000000) : bqf (QF A q N m li od cm oe) := by
  have b3 := b.2.2.1
  refine ⟨by rw [QF_gcm]; exact hcm, fun c => ?_, fun a y => ?_, by rw [QF_gli]; exact hli, by rw [QF_gud]; exact udm_lt b _, by rw [QF_gmu]; exact hm, by rw [QF_gno]; exact hN⟩
  · rw [QF_gwf, wRS_wf]
    split
    · have := WF_bd b (c := c) (by omega); omega
    · exact r.2.2.2.1 c
  · rw [QF_gsf, wRS_sf b]
    split
    · have := SF_bd b (c := a) (by omega) y; omega
    · exact r.2.2.2.2.1 a y
theorem z0_jz {q : QS} (r : rst q) : jz (z0 q) := ⟨fun m h => (by cases h), r.2.2.2.2.2.2.1, r.2.2.2.2.2.2.2.1, r.2.2.2.2.2.2.2.2.1⟩
theorem rst_end {A : ST} {Q : QS} (f : bqf Q) {z : Z4} (hz : jz z) (h6 : ∀ y, 6 ≤ y → q_li Q y = 0) (ho : ∀ i, q_or Q i < 14) : rst (pst A (zq Q z) 0) := by
  refine ⟨by rw [ps_sp]; funext y; exact sps_0 A y, by rw [ps_gi]; funext d; exact dsum_0 A d, ?_, ?_, ?_, ?_, ?_, ?_, ?_, ?_⟩
  · intro y hy; rw [ps_li, zq_li]; exact h6 y hy
  · intro c; rw [ps_wf, zq_wf]; exact f.2.1 c
  · intro a y; rw [ps_sf, zq_sf]; exact f.2.2.1 a y
  · intro y; rw [ps_li, zq_li]; exact f.2.2.2.1 y
  · rw [ps_bc, zq_bc]; exact hz.2.1
  · rw [ps_bw, zq_bw]; exact hz.2.2.1
  · rw [ps_bs, zq_bs]; exact hz.2.2.2
  · intro i; rw [ps_or, zq_or]; exact ho i
