/-! PURE 6: bounds, shares, lists; what does not look at the plan -/
theorem mpv_mvM {A : ST} (k : okH A) (p u : Int) (c : Nat) : mpv A p u c = mvM A p u c := by
  unfold mpv mvM
  rw [sw_all k.2.1]
theorem mpt_mtM {A : ST} (k : okH A) (tt : Nat) (p u : Int) : ∀ i, mpt A tt p u i = mtM A p u tt i
  | 0 => rfl
  | i + 1 => by
    simp only [mpt, mtM]
    rw [mpt_mtM k tt p u i, mpv_mvM k]
    by_cases h : x_th A i = tt
    · rw [if_pos h]
      by_cases h2 : mvM A p u i < mtM A p u tt i
      · rw [if_pos h2, if_neg (by omega)]
      · rw [if_neg h2]
        by_cases h3 : mtM A p u tt i < mvM A p u i
        · rw [if_pos ⟨h, h3⟩]
        · rw [if_neg (fun z => h3 z.2)]; omega
    · rw [if_neg h, if_neg (fun z => h z.1)]
theorem bpr_byM {A : ST} (k : okH A) (p u : Int) : bpr A p u (bsum A (x_ny A)) = byM A p u := by
  unfold bpr byM bpn bpM bsum
  rw [sm_mulr]
  congr 2
  exact sm_congr (fun i _ => mpt_mtM k i p u _)
theorem bps_bdP {A : ST} (k : okH A) : ∀ i, bps A (bsum A (x_ny A)) i = bdP A i
  | 0 => bpr_byM k 0 1
  | i + 1 => by
    simp only [bps, bdP]
    rw [bps_bdP k i, bpr_byM k]
    by_cases h : 0 < x_co A i
    · rw [if_pos h]
      by_cases h2 : byM A (x_wo A i) (x_co A i) < bdP A i
      · rw [if_pos h2, if_pos ⟨h, h2⟩]
      · rw [if_neg h2, if_neg (fun z => h2 z.2)]
    · rw [if_neg h, if_neg (fun z => h z.1)]
theorem bnd_eq {A : ST} (k : okH A) (x : Int32) : (if x = 0 then sm (x_nt A) (mw A) else if x = 1 then bps A (bsum A (x_ny A)) (x_nc A) else -1) = bnd A x := by
  unfold bnd
  rw [bps_bdP k]
  rw [sm_congr (f := mw A) (g := fun tt => mwb A tt 5 (x_nc A)) (fun i _ => mw_mw5 k i)]
theorem mpt_bu (A : ST) (f : Nat → Int) (tt : Nat) (p u : Int) : ∀ i, mpt (x_s_bu A f) tt p u i = mpt A tt p u i
  | 0 => rfl
  | i + 1 => by
    simp only [mpt, mpt_bu A f tt p u i, xg_th_bu]
    rfl
theorem bpr_bu (A : ST) (f : Nat → Int) (p u ce : Int) : bpr (x_s_bu A f) p u ce = bpr A p u ce := by
  unfold bpr bpn
  rw [xg_nt_bu, xg_nc_bu]
  congr 2
  exact sm_congr (fun i _ => mpt_bu A f i p u _)
theorem bps_bu (A : ST) (f : Nat → Int) (ce : Int) : ∀ i, bps (x_s_bu A f) ce i = bps A ce i
  | 0 => bpr_bu A f 0 1 ce
  | i + 1 => by simp only [bps, bps_bu A f ce i, bpr_bu, xg_co_bu, xg_wo_bu]
theorem sm_up (n y : Nat) (f : Nat → Int) (x : Int) (hy : y < n) : sm n (va_up f y (f y + x)) = x + sm n f := by
  have e : ∀ i, i < n → va_up f y (f y + x) i = f i + (if i = y then x else 0) := by
    intro i _
    unfold va_up
    by_cases h : i = y
    · subst h; simp
    · simp [h]
  rw [sm_congr e, sm_add, sm_ind, if_pos hy]
  omega
theorem price_eq {A : ST} (k : okH A) (hb : ∀ y, x_bu A y ≤ 100000000) {y : Nat} (hy : y < x_ny A) : bps A (1000 + bsum A (x_ny A)) (x_nc A) - bps A (bsum A (x_ny A)) (x_nc A) = bdP (D1 A y) (x_nc A) - bdP A (x_nc A) := by
  rw [bps_bdP k]
  have h := bps_bdP (D1_H k hb y) (x_nc A)
  have e : bsum (D1 A y) (x_ny (D1 A y)) = 1000 + bsum A (x_ny A) := sm_up _ _ _ _ hy
  rw [e] at h
  rw [← h]
  congr 1
  exact (bps_bu _ _ _ _).symm
theorem shv_shM {A : ST} (b : bd A) (m d : Nat) {p : Nat} (hp : p < 2) : shv A m d p = shM A m d p := by
  have hw := wsum_bd b m
  have hv := dsum_bd b m d
  have hle := dsum_le b m d
  obtain ⟨g, hg⟩ : ∃ g : Nat, wsum A m = (g : Int) := Int.eq_ofNat_of_zero_le hw.1
  obtain ⟨l, hl⟩ : ∃ l : Nat, dsum A m d = (l : Int) := Int.eq_ofNat_of_zero_le hv.1
  unfold shv shM
  rw [hg, hl]
  simp only [Int.toNat_natCast]
  by_cases h0 : g = 0
  · have hl0 : l = 0 := by omega
    subst h0; subst hl0
    simp
  · have hgc : ¬ Nat.gcd g l = 0 := fun e => h0 (Nat.eq_zero_of_gcd_eq_zero_left e)
    rw [if_neg hgc]
    by_cases hl0 : l = 0
    · subst hl0
      rw [if_pos (show (g : Int) = 0 ∨ ((0 : Nat) : Int) = 0 from Or.inr rfl), Nat.gcd_zero_right]
      by_cases hp0 : p = 0
      · subst hp0; simp
      · rw [if_neg hp0, show p = 1 by omega, Int.ediv_self (by omega)]
        rfl
    · rw [if_neg (show ¬ ((g : Int) = 0 ∨ (l : Int) = 0) by omega)]
/-! lists -/
theorem pom_bit (A : ST) (m d y : Nat) : ∀ i o, (pom A m d y i).testBit o = (decide (o < i) && lsp A m d y o)
  | 0, o => by simp [pom]
  | i + 1, o => by
    have ih := pom_bit A m d y i o
    unfold pom
    by_cases h : m.testBit i = true ∧ x_di A (x_th A i) = d ∧ x_yr A i = y
    · rw [if_pos h, tb_or, ih]
      by_cases e : i = o
      · subst e
        simp [lsp, h]
      · by_cases e2 : o < i
        · simp [e, e2, show o < i + 1 by omega]
        · simp [e, e2, show ¬ o < i + 1 by omega]
    · rw [if_neg h, ih]
      by_cases e : i = o
      · subst e
        have : lsp A m d y i = false := by
          unfold lsp
          cases h1 : m.testBit i with
          | false => rfl
          | true =>
            rw [Bool.true_and, Bool.and_eq_false_iff, decide_eq_false_iff_not, decide_eq_false_iff_not]
            by_cases h2 : x_yr A i = y
            · exact Or.inr (fun h3 => h ⟨h1, h3, h2⟩)
            · exact Or.inl h2
        simp [this]
      · by_cases e2 : o < i
        · simp [e2, show o < i + 1 by omega]
        · simp [e2, show ¬ o < i + 1 by omega]
theorem lcn_eq {A : ST} (b : bd A) (m d y : Nat) : lcn A m d y = cnp (lsp A m d y) (x_nc A) := by
  unfold lcn
  rw [cnp_pw (pom_lt A m d y (x_nc A)) b.2.2.1]
  exact cnp_congr (fun i hi => by rw [pom_bit]; simp [hi])
theorem cnp_up {p : Nat → Bool} {i : Nat} : ∀ {n : Nat}, i ≤ n → cnp p i ≤ cnp p n
  | 0, h => by rw [show i = 0 by omega]; exact Nat.le_refl _
  | n + 1, h => by
    by_cases e : i = n + 1
    · rw [e]; exact Nat.le_refl _
    · have := cnp_up (p := p) (n := n) (i := i) (by omega)
      simp only [cnp]
      split <;> omega
theorem fnd_over {p : Nat → Bool} {n k : Nat} (h : cnp p n ≤ k) : fnd (fun c => p c && decide (cnp p c = k)) n = none := by
  cases e : fnd (fun c => p c && decide (cnp p c = k)) n with
  | none => rfl
  | some i =>
    exfalso
    obtain ⟨h1, h2⟩ := fnd_some e
    rw [Bool.and_eq_true, decide_eq_true_eq] at h1
    have h3 := cnp_up (p := p) (i := i + 1) (n := n) (by omega)
    simp only [cnp, if_pos h1.1] at h3
    omega
theorem lst_lsM {A : ST} (b : bd A) (m d : Nat) : ∀ n y k, k < 2 ^ 31 → lst A m d n y k = lsM A m d n y k
  | 0, _, _, _ => rfl
  | n + 1, y, k, hk => by
    have b3 := b.2.2.1
    unfold lst lsM
    rw [lcn_eq b]
    by_cases h : k < cnp (lsp A m d y) (x_nc A)
    · rw [if_pos h, mbo_nc (pom_lt A m d y (x_nc A)) b3]
      have e1 : fnd (mbp (pom A m d y (x_nc A)) (nI k)) (x_nc A) = fnd (fun c => lsp A m d y c && decide (cnp (lsp A m d y) c = k)) (x_nc A) := by
        refine fnd_congr (fun i hi => ?_)
        unfold mbp
        rw [pom_bit, decide_eq_true hi, Bool.true_and]
        have e2 : cnp (fun c => (pom A m d y (x_nc A)).testBit c) i = cnp (lsp A m d y) i := cnp_congr (fun j hj => by rw [pom_bit]; simp [show j < x_nc A by omega])
        rw [e2]
        congr 1
        have h3 := cnp_le (lsp A m d y) i
        exact decide_eq_decide.mpr ⟨fun e => nI_eq' (by omega) (by omega) e, fun e => by rw [e]⟩
      rw [e1]
      cases e : fnd (fun c => lsp A m d y c && decide (cnp (lsp A m d y) c = k)) (x_nc A) with
      | some c => rfl
      | none =>
        have := fnd_cnt e
        omega
    · rw [if_neg h, fnd_over (by omega)]
      exact lst_lsM b m d n (y + 1) _ (by omega)
theorem lst_0 {A : ST} (b : bd A) (d : Nat) : ∀ n y k, lst A 0 d n y k = none
  | 0, _, _ => rfl
  | n + 1, y, k => by
    unfold lst
    have e : lcn A 0 d y = 0 := by
      rw [lcn_eq b]
      have : ∀ n, cnp (lsp A 0 d y) n = 0 := by
        intro n
        induction n with
        | zero => rfl
        | succ n ih => simp [cnp, lsp, ih]
      exact this _
    rw [e, if_neg (by omega)]
    exact lst_0 b d n (y + 1) _
/-! the plan, the old plan and the proof are not looked at by a search -/
def coA (A : ST) : ST := x_s_pr (x_s_od (x_s_pn A none) 0) false
theorem co_ny (A : ST) : x_ny (coA A) = x_ny A := by simp only [coA, xg_ny_pr, xg_ny_od, xg_ny_pn]
theorem co_nt (A : ST) : x_nt (coA A) = x_nt A := by simp only [coA, xg_nt_pr, xg_nt_od, xg_nt_pn]
theorem co_nc (A : ST) : x_nc (coA A) = x_nc A := by simp only [coA, xg_nc_pr, xg_nc_od, xg_nc_pn]
theorem co_mu (A : ST) : x_mu (coA A) = x_mu A := by simp only [coA, xg_mu_pr, xg_mu_od, xg_mu_pn]
theorem co_nj (A : ST) : x_nj (coA A) = x_nj A := by simp only [coA, xg_nj_pr, xg_nj_od, xg_nj_pn]
theorem co_fa (A : ST) : x_fa (coA A) = x_fa A := by simp only [coA, xg_fa_pr, xg_fa_od, xg_fa_pn]
theorem co_bu (A : ST) : x_bu (coA A) = x_bu A := by simp only [coA, xg_bu_pr, xg_bu_od, xg_bu_pn]
theorem co_pl (A : ST) : x_pl (coA A) = x_pl A := by simp only [coA, xg_pl_pr, xg_pl_od, xg_pl_pn]
theorem co_di (A : ST) : x_di (coA A) = x_di A := by simp only [coA, xg_di_pr, xg_di_od, xg_di_pn]
theorem co_th (A : ST) : x_th (coA A) = x_th A := by simp only [coA, xg_th_pr, xg_th_od, xg_th_pn]
theorem co_yr (A : ST) : x_yr (coA A) = x_yr A := by simp only [coA, xg_yr_pr, xg_yr_od, xg_yr_pn]
theorem co_cs (A : ST) : x_co (coA A) = x_co A := by simp only [coA, xg_co_pr, xg_co_od, xg_co_pn]
theorem co_wo (A : ST) : x_wo (coA A) = x_wo A := by simp only [coA, xg_wo_pr, xg_wo_od, xg_wo_pn]
theorem co_jt (A : ST) : x_jt (coA A) = x_jt A := by simp only [coA, xg_jt_pr, xg_jt_od, xg_jt_pn]
theorem co_sv (A : ST) : x_sv (coA A) = x_sv A := by simp only [coA, xg_sv_pr, xg_sv_od, xg_sv_pn]
theorem tkm_co (A : ST) (m : Nat) : ∀ i, tkm (coA A) m i = tkm A m i
  | 0 => rfl
  | i + 1 => by simp only [tkm, tkm_co A m i, co_th]
theorem pln_co (A : ST) (m : Nat) : ∀ i, pln (coA A) m i = pln A m i
  | 0 => rfl
  | i + 1 => by simp only [pln, pln_co A m i, tkm_co A m i, co_th]
theorem udm_co (A : ST) : ∀ i, udm (coA A) i = udm A i
  | 0 => rfl
  | i + 1 => by simp only [udm, udm_co A i, co_di]
theorem sat_co (A : ST) (n : Nat) : ∀ i, sat (coA A) n i = sat A n i
  | 0 => rfl
  | i + 1 => by simp only [sat, sat_co A n i, co_nc]
theorem cmk_co (A : ST) (m y : Nat) : ∀ i, cmk (coA A) m y i = cmk A m y i
  | 0 => rfl
  | i + 1 => by simp only [cmk, cmk_co A m y i, co_yr]
theorem sw_co (A : ST) (c s : Nat) : sw (coA A) c s = sw A c s := by
  unfold sw
  rw [co_nc]
  refine sm_congr (fun o _ => ?_)
  unfold swf
  rw [co_jt, co_sv]
theorem sps_co (A : ST) (m y : Nat) : sps (coA A) m y = sps A m y := by
  unfold sps
  rw [co_nc]
  refine sm_congr (fun c _ => ?_)
  unfold spf
  rw [cmk_co, co_yr, co_cs, sw_co]
theorem waL_co (A : ST) (li : Nat → Int) (m : Nat) : ∀ i, waL (coA A) li m i = waL A li m i
  | 0 => rfl
  | i + 1 => by simp only [waL, waL_co A li m i, sps_co]
theorem dsum_co (A : ST) (m d : Nat) : dsum (coA A) m d = dsum A m d := by
  unfold dsum
  rw [co_nc, co_di, co_th, co_wo]
theorem wsum_co (A : ST) (m : Nat) : wsum (coA A) m = wsum A m := by
  unfold wsum
  rw [co_nc, co_wo]
theorem ysum_co (A : ST) (m : Nat) : ysum (coA A) m = ysum A m := by
  unfold ysum
  rw [co_nc, co_yr]
theorem hw_co (A : ST) (mu : Nat) (li : Nat → Int) (m : Nat) : hw (coA A) mu li m = hw A mu li m := by
  unfold hw gd
  rw [waL_co, co_nc, pln_co, co_nt, udm_co, co_fa, show (fun d => dsum (coA A) m d) = fun d => dsum A m d from funext (fun d => dsum_co A m d)]
theorem btr_co (A : ST) (m : Nat) (o : Option Nat) : btr (coA A) m o = btr A m o := by
  unfold btr
  cases o with
  | none => rfl
  | some k => simp only [wsum_co, ysum_co]
theorem sn_co (A : ST) : sn (coA A) = sn A := by
  funext i
  unfold sn
  rw [sat_co, co_nc]
theorem bestP_co (A : ST) (mu : Nat) (li : Nat → Int) (N : Nat) : bestP (coA A) mu li N = bestP A mu li N := by
  unfold bestP
  rw [sn_co, co_nc]
  exact bst_congr (sn_lt A) (fun m _ => hw_co A mu li m) (fun m o _ _ => by rw [btr_btc, btr_btc, btr_co]) _
theorem someP_co (A : ST) (mu : Nat) (li : Nat → Int) : someP (coA A) mu li = someP A mu li := by
  unfold someP
  rw [sn_co, co_nc]
  exact anb_congr (fun i => hw_co A mu li _) _
theorem clw_co (A : ST) : ∀ i, clw (coA A) i = clw A i
  | 0 => by simp only [clw, co_mu]
  | i + 1 => by simp only [clw, clw_co A i, someP_co, co_bu]
theorem cla_co (A : ST) : cla (coA A) = cla A := by
  unfold cla
  rw [someP_co, clw_co, co_mu, co_bu, co_nc]
theorem bestP_al {A B : ST} (h : coA A = coA B) (mu : Nat) (li : Nat → Int) (N : Nat) : bestP A mu li N = bestP B mu li N := by
  rw [← bestP_co A, ← bestP_co B, h]
theorem cla_al {A B : ST} (h : coA A = coA B) : cla A = cla B := by
  rw [← cla_co A, ← cla_co B, h]
