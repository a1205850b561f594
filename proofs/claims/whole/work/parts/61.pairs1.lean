/-! PAIRS: a call of the class and the same call of the reference answer the same, and the invariant is kept -/
def PRI (sc : am_S) (M1 : am_M) (d1 : Nat) (M2 : am_M) (d2 : Nat) (as : List Value) (A : ST) (q : QS) (t : TS) : Prop := ∃ (v : Int32) (A1 : ST) (q1 : QS) (A2 : ST) (q2 : QS) (t2 : TS), AM sc M1 d1 (.ref 1 :: as) (hp A q A t) (some (.int v)) (hp A1 q1 A t) ∧ AM sc M2 d2 (.ref 50 :: as) (hp A1 q1 A t) (some (.int v)) (hp A2 q2 A2 t2) ∧ INV A2 q2
def PRL (sc : am_S) (M1 : am_M) (d1 : Nat) (M2 : am_M) (d2 : Nat) (as : List Value) (A : ST) (q : QS) (t : TS) : Prop := ∃ (v : Int64) (A1 : ST) (q1 : QS) (A2 : ST) (q2 : QS) (t2 : TS), AM sc M1 d1 (.ref 1 :: as) (hp A q A t) (some (.long v)) (hp A1 q1 A t) ∧ AM sc M2 d2 (.ref 50 :: as) (hp A1 q1 A t) (some (.long v)) (hp A2 q2 A2 t2) ∧ INV A2 q2
theorem rgI {x : Int32} {n : Nat} (hn : n < 2 ^ 31) (h : ¬ x < 0 ∧ ¬ nI n ≤ x) : ∃ u, u < n ∧ x = nI u := by
  obtain ⟨c, h1, h2⟩ := nI_of (x := x) (by simpa using h.1)
  subst h2
  exact ⟨c, nge_lt h.2 h1 hn, rfl⟩
theorem rgT {x : Int32} {n : Nat} (hn : n < 2 ^ 31) : (0 ≤ x.toInt ∧ x.toInt ≤ (n : Int) - 1) ↔ (¬ x < 0 ∧ ¬ nI n ≤ x) := by
  have e : (nI n).toInt = (n : Int) := nI_toInt hn
  rw [Int32.lt_iff_toInt_lt, Int32.le_iff_toInt_le, e, show (0 : Int32).toInt = 0 from rfl]
  omega
theorem rgL {v : Int64} {M : Int} (hM : 0 ≤ M ∧ M < 4611686018427387904) (h : ¬ v < lZ 0 ∧ ¬ lZ M < v) : ∃ z, (0 ≤ z ∧ z ≤ M) ∧ v = lZ z := by
  have h1 := Int64.le_toInt v
  have h2 := Int64.toInt_lt v
  refine ⟨v.toInt, ?_, lZ_of v⟩
  rw [lZ_of v] at h
  rw [lZ_lt (by omega) (by omega), lZ_lt (by omega) (by omega)] at h
  omega
theorem rgN {v : Int64} (h : ¬ v < 1 ∧ ¬ 20000 < v) : ∃ N : Nat, (1 ≤ N ∧ N ≤ 20000) ∧ v = lZ (N : Int) := by
  have h1 := Int64.le_toInt v
  have h2 := Int64.toInt_lt v
  rw [show (1 : Int64) = lZ 1 from by decide, show (20000 : Int64) = lZ 20000 from by decide, lZ_of v] at h
  rw [lZ_lt (by omega) (by omega), lZ_lt (by omega) (by omega)] at h
  refine ⟨v.toInt.toNat, by omega, ?_⟩
  rw [Int.toNat_of_nonneg (by omega)]
  exact lZ_of v
theorem p_thing (sc : am_S) (x : Int32) {A : ST} {q : QS} (i : INV A q) (t : TS) : PRI sc m_B_thing 1 m_M_thing 1 [.int x] A q t := by
  have b := i.1.1.1
  have b2 := b.2.1
  by_cases h : (¬ x < 0 ∧ ¬ 999 < x) ∧ x_nt A < 12
  · obtain ⟨⟨h1, h2⟩, h3⟩ := h
    obtain ⟨p, hp0, rfl⟩ := nI_of (x := x) (by simpa using h1)
    have hp1 : p ≤ 999 := by
      have := mt (nI_ltI (a := 999) (b := p) (by omega) (by omega)).mpr h2
      omega
    have g2 := c_M_thing sc (thA (fgA A) p) (fgq q) A t p hp1 h3
    rw [th_eq (i.1.2.2.2.2.2.2.2 _ (Nat.le_refl _))] at g2
    exact ⟨_, _, _, _, _, _, c_B_thing sc A q A t p b hp1 h3, g2, ok_th (ok_fg i.1) hp1 (by rw [fg_nt]; exact h3), kq_fg i.2.1 _⟩
  · refine ⟨_, _, _, _, _, _, c_B_thing_no sc A q A t x b ?_, c_M_thing_no sc A q A t x b ?_, i⟩
    · by_cases h1 : x < 0
      · exact Or.inl h1
      · by_cases h2 : 999 < x
        · exact Or.inr (Or.inl h2)
        · exact Or.inr (Or.inr (Nat.le_of_not_lt (fun h3 => h ⟨⟨h1, h2⟩, h3⟩)))
    · rintro ⟨h1, h3⟩
      apply h
      refine ⟨?_, h3⟩
      have := (rgT (x := x) (n := 1000) (by omega)).mp (by omega)
      refine ⟨this.1, fun e => this.2 ?_⟩
      rw [Int32.le_iff_toInt_le, show (nI 1000).toInt = 1000 from rfl]
      rw [Int32.lt_iff_toInt_lt, show (999 : Int32).toInt = 999 from rfl] at e
      omega
theorem p_choice (sc : am_S) (x y : Int32) (v w : Int64) {A : ST} {q : QS} (i : INV A q) (t : TS) : PRI sc m_B_choice 1 m_M_choice 1 [.int x, .int y, .long v, .long w] A q t := by
  have b := i.1.1.1
  have b1 := b.1
  have b2 := b.2.1
  by_cases h : (¬ x < 0 ∧ ¬ nI (x_nt A) ≤ x) ∧ (¬ y < 0 ∧ ¬ nI (x_ny A) ≤ y) ∧ x_nc A < 14 ∧ (¬ v < 0 ∧ ¬ 1000000 < v) ∧ (¬ w < 0 ∧ ¬ 1000000 < w)
  · obtain ⟨h1, h2, h3, h4, h5⟩ := h
    obtain ⟨u, hu, rfl⟩ := rgI (by omega) h1
    obtain ⟨z, hz, rfl⟩ := rgI (by omega) h2
    rw [show (0 : Int64) = lZ 0 from by decide, show (1000000 : Int64) = lZ 1000000 from by decide] at h4 h5
    obtain ⟨v, hv, rfl⟩ := rgL (by omega) h4
    obtain ⟨w, hw, rfl⟩ := rgL (by omega) h5
    have g2 := c_M_choice sc (chA (fgA A) u z v w) (fgq q) A t u z v w b hu hz h3 hv hw
    rw [ch_eq] at g2
    exact ⟨_, _, _, _, _, _, c_B_choice sc A q A t u z v w b hu hz h3 hv hw, g2, ok_ch (ok_fg i.1) (by rw [fg_nt]; exact hu) (by rw [fg_ny]; exact hz) (by rw [fg_nc]; exact h3) hv hw, kq_fg i.2.1 _⟩
  · refine ⟨_, _, _, _, _, _, c_B_choice_no sc A q A t x y v w b h, c_M_choice_no sc A q A t x y v w b ?_, i⟩
    rintro ⟨h1, h2, h4, h5, h3⟩
    rw [show (0 : Int64) = lZ 0 from by decide, show (1000000 : Int64) = lZ 1000000 from by decide] at h
    exact h ⟨(rgT (by omega)).mp h1, (rgT (by omega)).mp h2, h3, h4, h5⟩
theorem p_must (sc : am_S) (x : Int32) {A : ST} {q : QS} (i : INV A q) (t : TS) : PRI sc m_B_must 1 m_M_must 1 [.int x] A q t := by
  have b := i.1.1.1
  have b3 := b.2.2.1
  by_cases h : ¬ x < 0 ∧ ¬ nI (x_nc A) ≤ x
  · obtain ⟨c, hc, rfl⟩ := rgI (by omega) h
    cases hb : (x_mu A).testBit c with
    | true => exact ⟨_, _, _, _, _, _, c_B_must_was sc A q A t c b hc hb, c_M_must_was sc A q A t c b hc hb, i⟩
    | false =>
      have g2 := c_M_must sc (muA (fgA A) c) (fgq q) A t c b hc hb
      rw [mu_eq] at g2
      exact ⟨_, _, _, _, _, _, c_B_must sc A q A t c b hc hb, g2, ok_mu (ok_fg i.1) (by rw [fg_nc]; exact hc), kq_fg i.2.1 _⟩
  · exact ⟨_, _, _, _, _, _, c_B_must_no sc A q A t x b h, c_M_must_no sc A q A t x h, i⟩
theorem p_budget (sc : am_S) (x : Int32) (v : Int64) {A : ST} {q : QS} (i : INV A q) (t : TS) : PRI sc m_B_budget 1 m_M_budget 1 [.int x, .long v] A q t := by
  have b := i.1.1.1
  have b1 := b.1
  by_cases h : (¬ x < 0 ∧ ¬ nI (x_ny A) ≤ x) ∧ (¬ v < 0 ∧ ¬ 100000000 < v)
  · obtain ⟨h1, h2⟩ := h
    obtain ⟨y, hy, rfl⟩ := rgI (by omega) h1
    rw [show (0 : Int64) = lZ 0 from by decide, show (100000000 : Int64) = lZ 100000000 from by decide] at h2
    obtain ⟨v, hv, rfl⟩ := rgL (by omega) h2
    have g2 := c_M_budget sc (buA (fgA A) y v) (fgq q) A t y v b hy hv
    rw [bu_eq] at g2
    exact ⟨_, _, _, _, _, _, c_B_budget sc A q A t y v b hy hv, g2, ok_bu (ok_fg i.1) (by rw [fg_ny]; exact hy) hv, kq_fg i.2.1 _⟩
  · exact ⟨_, _, _, _, _, _, c_B_budget_no sc A q A t x v b h, c_M_budget_no sc A q A t x v h, i⟩
theorem p_district (sc : am_S) (x y : Int32) {A : ST} {q : QS} (i : INV A q) (t : TS) : PRI sc m_B_district 1 m_M_district 1 [.int x, .int y] A q t := by
  have b := i.1.1.1
  have b2 := b.2.1
  by_cases h : (¬ x < 0 ∧ ¬ nI (x_nt A) ≤ x) ∧ (¬ y < 0 ∧ ¬ 4 ≤ y)
  · obtain ⟨h1, h2⟩ := h
    obtain ⟨u, hu, rfl⟩ := rgI (by omega) h1
    obtain ⟨d, hd, rfl⟩ := rgI (n := 4) (by omega) h2
    have g2 := c_M_district sc (diA (fgA A) u d) (fgq q) A t u d b hu hd
    rw [di_eq] at g2
    exact ⟨_, _, _, _, _, _, c_B_district sc A q A t u d b hu hd, g2, ok_di (ok_fg i.1) (by rw [fg_nt]; exact hu) hd, kq_fg i.2.1 _⟩
  · refine ⟨_, _, _, _, _, _, c_B_district_no sc A q A t x y b h, c_M_district_no sc A q A t x y b ?_, i⟩
    rintro ⟨h1, h2⟩
    exact h ⟨(rgT (by omega)).mp h1, (rgT (n := 4) (by omega)).mp h2⟩
theorem p_fair (sc : am_S) (v : Int64) {A : ST} {q : QS} (i : INV A q) (t : TS) : PRI sc m_B_fair 1 m_M_fair 1 [.long v] A q t := by
  by_cases h : 10000000 < v
  · exact ⟨_, _, _, _, _, _, c_B_fair_no sc A q A t v h, c_M_fair_no sc A q A t v h, i⟩
  · have h1 := Int64.le_toInt v
    have h2 := Int64.toInt_lt v
    obtain ⟨z, hz, rfl⟩ : ∃ z : Int, (-9223372036854775808 ≤ z ∧ z ≤ 10000000) ∧ v = lZ z := by
      refine ⟨v.toInt, ?_, lZ_of v⟩
      rw [show (10000000 : Int64) = lZ 10000000 from by decide, lZ_of v, lZ_lt (by omega) (by omega)] at h
      omega
    have g2 := c_M_fair sc (faA (fgA A) z) (fgq q) A t z hz
    rw [fa_eq] at g2
    exact ⟨_, _, _, _, _, _, c_B_fair sc A q A t z hz, g2, ok_fa (ok_fg i.1) hz.2, kq_fg i.2.1 _⟩
theorem cnj_iff {A : ST} (j : jrl A) (u v : Nat) : cnj A u v = true ↔ (¬ x_th A u = x_th A v ∧ x_yr A u = x_yr A v) ∧ jex A u v (x_nj A) = false := by
  unfold cnj
  rw [Bool.and_eq_true, decide_eq_true_eq, j.2.1]
  simp
theorem p_join (sc : am_S) (x y : Int32) (w : Int64) {A : ST} {q : QS} (i : INV A q) (t : TS) : PRI sc m_B_join 2 m_M_join 1 [.int x, .int y, .long w] A q t := by
  have b := i.1.1.1
  have b3 := b.2.2.1
  have jd := i.1.2.1
  have j := i.1.2.2.1
  by_cases h : (¬ x < 0 ∧ ¬ nI (x_nc A) ≤ x) ∧ (¬ y < 0 ∧ ¬ nI (x_nc A) ≤ y) ∧ (¬ w < 0 ∧ ¬ 1000000 < w)
  · obtain ⟨h1, h2, h3⟩ := h
    obtain ⟨u, hu, rfl⟩ := rgI (by omega) h1
    obtain ⟨v, hv, rfl⟩ := rgI (by omega) h2
    rw [show (0 : Int64) = lZ 0 from by decide, show (1000000 : Int64) = lZ 1000000 from by decide] at h3
    obtain ⟨s, hs, rfl⟩ := rgL (by omega) h3
    by_cases hx : cnj A u v = true ∧ x_nj A < 20
    · obtain ⟨hc, hj⟩ := (cnj_iff j u v).mp hx.1
      have g2 := c_M_join sc (ajn (fgA A) u v s) (fgq q) A t u v s jd b hu hv hs hc hx.2 hj
      rw [jn_hp] at g2
      have hj2 : jex (fgA A) u v (x_nj (fgA A)) = false := by
        rw [jex_al (fg_ja A) (fg_jb A), fg_nj]
        exact hj
      exact ⟨_, _, _, _, _, _, c_B_join sc A q A t u v s b hu hv hs hx.1 hx.2, g2, ok_jn (ok_fg i.1) (by rw [fg_nc]; exact hu) (by rw [fg_nc]; exact hv) hs (by rw [fg_th]; exact hc.1) (by rw [fg_yr]; exact hc.2) hj2 (by rw [fg_nj]; exact hx.2), kq_fg i.2.1 _⟩
    · refine ⟨_, _, _, _, _, _, c_B_join_no2 sc A q A t u v s b hu hv hs jd.1 hx, c_M_join_no2 sc A q A t u v s jd b hu hv hs ?_, i⟩
      rintro ⟨e1, e2, e3⟩
      exact hx ⟨(cnj_iff j u v).mpr ⟨e1, e3⟩, e2⟩
  · exact ⟨_, _, _, _, _, _, c_B_join_no1 sc A q A t x y w h, c_M_join_no1 sc A q A t x y w h, i⟩
