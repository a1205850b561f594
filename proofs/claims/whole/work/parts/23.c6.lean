theorem c_S_countOfChanges (sc : am_S) (A : ST) (q : QS) (D : ST) (t : TS) (e : Nat) (hcm : q_cm q < 16384) : AM sc m_S_countOfChanges 1 [.ref 26, .int (nI e)] (hp A q D t) (some (.int (nI (pcr 14 (((q_pk q ^^^ q_od q) &&& q_cm q) &&& e))))) (hp A q D t) := by
  refine AM.of (by decide) (Nat.le_of_ble_eq_true rfl) ?_
  show AW sc m_S_countOfChanges 1 0 [some (.ref 26), some (.int (nI e))] [] _ _ _
  refine aw_aload_n 0 q_S_countOfChanges_0 rfl rfl ?_
  refine aw_get 10 q_S_countOfChanges_1 fl_S_76 rfl rfl ?_
  refine aw_aload_n 0 q_S_countOfChanges_4 rfl rfl ?_
  refine aw_get 3 q_S_countOfChanges_5 fl_S_52 rfl rfl ?_
  refine aw_ixor q_S_countOfChanges_8 ?_
  refine aw_aload_n 0 q_S_countOfChanges_9 rfl rfl ?_
  refine aw_get 4 q_S_countOfChanges_10 fl_S_59 rfl rfl ?_
  refine aw_iand q_S_countOfChanges_13 ?_
  refine aw_iload_n 1 q_S_countOfChanges_14 rfl rfl ?_
  refine aw_iand q_S_countOfChanges_15 ?_
  rw [nI_xor, nI_and, nI_and]
  refine aw_S1 q_S_countOfChanges_16 st_S_151 (by omega) (Nat.le_of_ble_eq_true rfl) (c_JI_bitCount _ _ _) ?_
  exact aw_iret .int q_S_countOfChanges_19 rfl rfl (by rw [bc_pcr (and_lt 16384 (Nat.lt_of_le_of_lt Nat.and_le_right hcm))]) rfl
/-- the changes of what is decided; is nothing better below -/
def chg (q : QS) (e : Nat) : Nat := pcr 14 (((q_pk q ^^^ q_od q) &&& q_cm q) &&& e)
def hpl (q : QS) (c : Nat) : Bool := (q_be q).isSome && (q_oe q || decide (q_bc q < chg q (2 ^ c - 1)) || (decide (chg q (2 ^ c - 1) = q_bc q) && decide (q_ga q + q_wf q c < q_bw q)))
def bq (q : QS) : Prop := q_cm q < 16384 ∧ (∀ m, q_be q = some m → m < 16384) ∧ q_bc q < 100 ∧ (-1000000000000 ≤ q_ga q ∧ q_ga q ≤ 1000000000000) ∧ (∀ c, -1000000000000 ≤ q_wf q c ∧ q_wf q c ≤ 1000000000000) ∧ (-1000000000000 ≤ q_bw q ∧ q_bw q ≤ 1000000000000) ∧ (q_sy q < 1000 ∧ q_bs q < 1000) ∧ (∀ y, -1000000000000 ≤ q_sp q y ∧ q_sp q y ≤ 1000000000000) ∧ (∀ a y, -1000000000000 ≤ q_sf q a y ∧ q_sf q a y ≤ 1000000000000) ∧ (∀ y, -1000000000000 ≤ q_li q y ∧ q_li q y ≤ 1000000000000) ∧ (∀ d, -1000000000000 ≤ q_gi q d ∧ q_gi q d ≤ 1000000000000) ∧ q_ud q < 16 ∧ q_pk q < 16384 ∧ q_tk q < 16384 ∧ q_mu q < 16384 ∧ (0 ≤ q_no q ∧ q_no q ≤ 1000000)
theorem pk_pow {c : Nat} (h : c < 31) : nI (2 ^ c) - 1 = nI (2 ^ c - 1) := by
  rw [show (1 : Int32) = nI 1 from rfl, pk_sub (Nat.two_pow_pos c)]
theorem c_S_isHopeless (sc : am_S) (A : ST) (q : QS) (D : ST) (t : TS) (c : Nat) (z : bq q) (hc : c < 15) : AM sc m_S_isHopeless 2 [.ref 26, .int (nI c)] (hp A q D t) (some (.int (zI (hpl q c)))) (hp A q D t) := by
  refine AM.of (by decide) (Nat.le_of_ble_eq_true rfl) ?_
  show AW sc m_S_isHopeless 2 0 [some (.ref 26), some (.int (nI c)), none, none] [] _ _ _
  have z0 := pI_eq (o := q_be q) (fun m h => by have := z.2.1 m h; omega)
  obtain ⟨ch, hch⟩ : ∃ ch, chg q (2 ^ c - 1) = ch := ⟨_, rfl⟩
  have z1 : ch ≤ 14 := by rw [← hch]; exact pcr_le _ _
  have z2 := z.2.2.1
  have z3 := z.2.2.2.1
  have z4 := z.2.2.2.2.1 c
  have z5 := z.2.2.2.2.2.1
  refine aw_aload_n 0 q_S_isHopeless_0 rfl rfl ?_
  refine aw_get 16 q_S_isHopeless_1 fl_S_47 rfl rfl ?_
  refine aw_iconst (-1) q_S_isHopeless_4 rfl ?_
  refine aw_icmp_ne 10 q_S_isHopeless_5 rfl (fun c5 => ?_) (fun c5 => ?_)
  · skip
    refine aw_iconst 1 q_S_isHopeless_10 rfl ?_
    refine aw_iload_n 1 q_S_isHopeless_11 rfl rfl ?_
    refine aw_ishl q_S_isHopeless_12 ?_
    refine aw_iconst 1 q_S_isHopeless_13 rfl ?_
    refine aw_isub q_S_isHopeless_14 ?_
    rw [bt_one (by omega), pk_pow (by omega)]
    refine aw_istore_n 2 q_S_isHopeless_15 rfl rfl rfl ?_
    have hs : (q_be q).isSome = true := by rw [← Option.not_isNone, Bool.not_eq_true', Option.isNone_eq_false_iff, Option.isSome_iff_ne_none]; exact mt z0.mpr c5
    refine aw_aload_n 0 q_S_isHopeless_16 rfl rfl ?_
    refine aw_iload_n 2 q_S_isHopeless_17 rfl rfl ?_
    refine aw_V1 q_S_isHopeless_18 st_S_142 rfl (by omega) (Nat.le_of_ble_eq_true rfl) (c_S_countOfChanges _ _ _ _ _ _ z.1) ?_
    rw [show pcr 14 (((q_pk q ^^^ q_od q) &&& q_cm q) &&& (2 ^ c - 1)) = ch from hch]
    refine aw_istore_n 3 q_S_isHopeless_21 rfl rfl rfl ?_
    refine aw_aload_n 0 q_S_isHopeless_22 rfl rfl ?_
    refine aw_get 5 q_S_isHopeless_23 fl_S_62 rfl rfl ?_
    refine aw_if_ne 64 q_S_isHopeless_26 rfl (fun c26 => ?_) (fun c26 => ?_)
    · skip
      refine aw_iconst 1 q_S_isHopeless_64 rfl ?_
      refine aw_goto 69 q_S_isHopeless_65 rfl ?_
      exact aw_iret .boolean q_S_isHopeless_69 rfl rfl (aw_rz1 (by simp [hpl, hs, zI_n0.mp c26])) rfl
    · skip
      refine aw_iload_n 3 q_S_isHopeless_29 rfl rfl ?_
      refine aw_aload_n 0 q_S_isHopeless_30 rfl rfl ?_
      refine aw_get 17 q_S_isHopeless_31 fl_S_145 rfl rfl ?_
      refine aw_icmp_gt 64 q_S_isHopeless_34 rfl (fun c34 => ?_) (fun c34 => ?_)
      · skip
        refine aw_iconst 1 q_S_isHopeless_64 rfl ?_
        refine aw_goto 69 q_S_isHopeless_65 rfl ?_
        exact aw_iret .boolean q_S_isHopeless_69 rfl rfl (aw_rz1 (by have e := (nI_ltI (by omega) (by omega)).mp c34; simp [hpl, hs, hch, e])) rfl
      · skip
        refine aw_iload_n 3 q_S_isHopeless_37 rfl rfl ?_
        refine aw_aload_n 0 q_S_isHopeless_38 rfl rfl ?_
        refine aw_get 17 q_S_isHopeless_39 fl_S_145 rfl rfl ?_
        refine aw_icmp_ne 68 q_S_isHopeless_42 rfl (fun c42 => ?_) (fun c42 => ?_)
        · skip
          refine aw_iconst 0 q_S_isHopeless_68 rfl ?_
          exact aw_iret .boolean q_S_isHopeless_69 rfl rfl (aw_rz0 (by have e0 := zI_0.mp c26; have e1 := mt (nI_ltI (by omega) (by omega)).mpr c34; have e2 := nI_ne (by omega) (by omega) c42; simp [hpl, hs, hch, e0, e2]; omega)) rfl
        · skip
          refine aw_aload_n 0 q_S_isHopeless_45 rfl rfl ?_
          refine aw_get 13 q_S_isHopeless_46 fl_S_85 rfl rfl ?_
          refine aw_aload_n 0 q_S_isHopeless_49 rfl rfl ?_
          refine aw_get 9 q_S_isHopeless_50 fl_S_20 rfl rfl ?_
          refine aw_iload_n 1 q_S_isHopeless_53 rfl rfl ?_
          refine aw_laldN q_S_isHopeless_54 rfl (by omega) rfl ?_
          refine aw_ladd q_S_isHopeless_55 ?_
          refine aw_aload_n 0 q_S_isHopeless_56 rfl rfl ?_
          refine aw_get 18 q_S_isHopeless_57 fl_S_148 rfl rfl ?_
          refine aw_lcmp_ge 68 q_S_isHopeless_60 q_S_isHopeless_61 rfl (fun c60 => ?_) (fun c60 => ?_)
          · skip
            refine aw_iconst 0 q_S_isHopeless_68 rfl ?_
            exact aw_iret .boolean q_S_isHopeless_69 rfl rfl (aw_rz0 (by have e0 := zI_0.mp c26; have e1 := mt (nI_ltI (by omega) (by omega)).mpr c34; rw [lZ_add] at c60; have e3 := (lZ_le (by omega) (by omega)).mp c60; simp [hpl, hs, hch, e0]; omega)) rfl
          · skip
            refine aw_iconst 1 q_S_isHopeless_64 rfl ?_
            refine aw_goto 69 q_S_isHopeless_65 rfl ?_
            exact aw_iret .boolean q_S_isHopeless_69 rfl rfl (aw_rz1 (by have e2 := nI_eq' (by omega) (by omega) c42; rw [lZ_add] at c60; have e3 := mt (lZ_le (by omega) (by omega)).mpr c60; simp [hpl, hs, hch, e2]; right; omega)) rfl
  · skip
    refine aw_iconst 0 q_S_isHopeless_8 rfl ?_
    exact aw_iret .boolean q_S_isHopeless_9 rfl rfl (aw_rz0 (by simp [hpl, z0.mp c5])) rfl
def isb (q : QS) (ch : Nat) : Bool := if ch = q_bc q then (if q_ga q = q_bw q then decide (q_sy q < q_bs q) else decide (q_bw q < q_ga q)) else decide (ch < q_bc q)
theorem c_S_isBetter (sc : am_S) (A : ST) (q : QS) (D : ST) (t : TS) (c : Nat) (z : bq q) (hc : c < 100) : AM sc m_S_isBetter 0 [.ref 26, .int (nI c)] (hp A q D t) (some (.int (zI (isb q c)))) (hp A q D t) := by
  refine AM.of (by decide) (Nat.le_of_ble_eq_true rfl) ?_
  show AW sc m_S_isBetter 0 0 [some (.ref 26), some (.int (nI c))] [] _ _ _
  have z2 := z.2.2.1
  have z3 := z.2.2.2.1
  have z5 := z.2.2.2.2.2.1
  have z6 := z.2.2.2.2.2.2.1
  refine aw_iload_n 1 q_S_isBetter_0 rfl rfl ?_
  refine aw_aload_n 0 q_S_isBetter_1 rfl rfl ?_
  refine aw_get 17 q_S_isBetter_2 fl_S_145 rfl rfl ?_
  refine aw_icmp_eq 22 q_S_isBetter_5 rfl (fun c5 => ?_) (fun c5 => ?_)
  · skip
    refine aw_aload_n 0 q_S_isBetter_22 rfl rfl ?_
    refine aw_get 13 q_S_isBetter_23 fl_S_85 rfl rfl ?_
    refine aw_aload_n 0 q_S_isBetter_26 rfl rfl ?_
    refine aw_get 18 q_S_isBetter_27 fl_S_148 rfl rfl ?_
    refine aw_lcmp_eq 54 q_S_isBetter_30 q_S_isBetter_31 rfl (fun c30 => ?_) (fun c30 => ?_)
    · skip
      refine aw_aload_n 0 q_S_isBetter_54 rfl rfl ?_
      refine aw_get 12 q_S_isBetter_55 fl_S_82 rfl rfl ?_
      refine aw_aload_n 0 q_S_isBetter_58 rfl rfl ?_
      refine aw_get 19 q_S_isBetter_59 fl_S_163 rfl rfl ?_
      refine aw_icmp_ge 69 q_S_isBetter_62 rfl (fun c62 => ?_) (fun c62 => ?_)
      · skip
        refine aw_iconst 0 q_S_isBetter_69 rfl ?_
        exact aw_iret .boolean q_S_isBetter_70 rfl rfl (aw_rz0 (by have e := nI_eq' (by omega) (by omega) c5; have e2 := (lZ_eq (by omega) (by omega)).mp c30; have e3 := nge_ge c62 (by omega) (by omega); simp [isb, e, e2]; omega)) rfl
      · skip
        refine aw_iconst 1 q_S_isBetter_65 rfl ?_
        refine aw_goto 70 q_S_isBetter_66 rfl ?_
        exact aw_iret .boolean q_S_isBetter_70 rfl rfl (aw_rz1 (by have e := nI_eq' (by omega) (by omega) c5; have e2 := (lZ_eq (by omega) (by omega)).mp c30; have e3 := nge_lt c62 (by omega) (by omega); simp [isb, e, e2]; omega)) rfl
    · skip
      refine aw_aload_n 0 q_S_isBetter_34 rfl rfl ?_
      refine aw_get 13 q_S_isBetter_35 fl_S_85 rfl rfl ?_
      refine aw_aload_n 0 q_S_isBetter_38 rfl rfl ?_
      refine aw_get 18 q_S_isBetter_39 fl_S_148 rfl rfl ?_
      refine aw_lcmp_le 50 q_S_isBetter_42 q_S_isBetter_43 rfl (fun c42 => ?_) (fun c42 => ?_)
      · skip
        refine aw_iconst 0 q_S_isBetter_50 rfl ?_
        refine aw_goto 70 q_S_isBetter_51 rfl ?_
        exact aw_iret .boolean q_S_isBetter_70 rfl rfl (aw_rz0 (by have e := nI_eq' (by omega) (by omega) c5; have e2 := mt (lZ_eq (by omega) (by omega)).mpr c30; have e3 := (lZ_le (by omega) (by omega)).mp c42; simp [isb, e, e2]; omega)) rfl
      · skip
        refine aw_iconst 1 q_S_isBetter_46 rfl ?_
        refine aw_goto 70 q_S_isBetter_47 rfl ?_
        exact aw_iret .boolean q_S_isBetter_70 rfl rfl (aw_rz1 (by have e := nI_eq' (by omega) (by omega) c5; have e2 := mt (lZ_eq (by omega) (by omega)).mpr c30; have e3 := mt (lZ_le (by omega) (by omega)).mpr c42; simp [isb, e, e2]; omega)) rfl
  · skip
    refine aw_iload_n 1 q_S_isBetter_8 rfl rfl ?_
    refine aw_aload_n 0 q_S_isBetter_9 rfl rfl ?_
    refine aw_get 17 q_S_isBetter_10 fl_S_145 rfl rfl ?_
    refine aw_icmp_ge 20 q_S_isBetter_13 rfl (fun c13 => ?_) (fun c13 => ?_)
    · skip
      refine aw_iconst 0 q_S_isBetter_20 rfl ?_
      exact aw_iret .boolean q_S_isBetter_21 rfl rfl (aw_rz0 (by have e := nI_ne (by omega) (by omega) c5; have e2 := nge_ge c13 (by omega) (by omega); simp [isb, e]; omega)) rfl
    · skip
      refine aw_iconst 1 q_S_isBetter_16 rfl ?_
      refine aw_goto 21 q_S_isBetter_17 rfl ?_
      exact aw_iret .boolean q_S_isBetter_21 rfl rfl (aw_rz1 (by have e := nI_ne (by omega) (by omega) c5; have e2 := nge_lt c13 (by omega) (by omega); simp [isb, e]; omega)) rfl
def ovs (A : ST) (q : QS) (c : Nat) : Bool := decide (q_li q (x_yr A c) < q_sp q (x_yr A c) - q_sf q (c + 1) (x_yr A c))
theorem c_S_isOverspent (sc : am_S) (A : ST) (q : QS) (D : ST) (t : TS) (c : Nat) (b : bd A) (z : bq q) (hc : c < 14) : AM sc m_S_isOverspent 0 [.ref 26, .int (nI c)] (hp A q D t) (some (.int (zI (ovs A q c)))) (hp A q D t) := by
  refine AM.of (by decide) (Nat.le_of_ble_eq_true rfl) ?_
  show AW sc m_S_isOverspent 0 0 [some (.ref 26), some (.int (nI c)), none] [] _ _ _
  have b5 := b.2.2.2.2.1 c
  have z7 := z.2.2.2.2.2.2.2.1 (x_yr A c)
  have z8 := z.2.2.2.2.2.2.2.2.1 (c + 1) (x_yr A c)
  have z9 := z.2.2.2.2.2.2.2.2.2.1 (x_yr A c)
  refine aw_aload_n 0 q_S_isOverspent_0 rfl rfl ?_
  refine aw_get 0 q_S_isOverspent_1 fl_S_29 rfl rfl ?_
  refine aw_get 7 q_S_isOverspent_4 fl_S_100 rfl rfl ?_
  refine aw_iload_n 1 q_S_isOverspent_7 rfl rfl ?_
  refine aw_ialdN q_S_isOverspent_8 rfl (by omega) rfl ?_
  refine aw_istore_n 2 q_S_isOverspent_9 rfl rfl rfl ?_
  refine aw_aload_n 0 q_S_isOverspent_10 rfl rfl ?_
  refine aw_get 14 q_S_isOverspent_11 fl_S_23 rfl rfl ?_
  refine aw_iload_n 2 q_S_isOverspent_14 rfl rfl ?_
  refine aw_laldN q_S_isOverspent_15 rfl (by omega) rfl ?_
  refine aw_aload_n 0 q_S_isOverspent_16 rfl rfl ?_
  refine aw_get 8 q_S_isOverspent_17 fl_S_17 rfl rfl ?_
  refine aw_iload_n 1 q_S_isOverspent_20 rfl rfl ?_
  refine aw_iconst 1 q_S_isOverspent_21 rfl ?_
  refine aw_iadd q_S_isOverspent_22 ?_
  rw [nI_1]
  refine aw_aaldN q_S_isOverspent_23 rfl (by omega) rfl ?_
  refine aw_iload_n 2 q_S_isOverspent_24 rfl rfl ?_
  refine aw_laldN q_S_isOverspent_25 (hp_sf _ _ _ _ _ (by omega)) (by omega) rfl ?_
  refine aw_lsub q_S_isOverspent_26 ?_
  refine aw_aload_n 0 q_S_isOverspent_27 rfl rfl ?_
  refine aw_get 7 q_S_isOverspent_28 fl_S_9 rfl rfl ?_
  refine aw_iload_n 2 q_S_isOverspent_31 rfl rfl ?_
  refine aw_laldN q_S_isOverspent_32 rfl (by omega) rfl ?_
  rw [lZ_sub]
  refine aw_lcmp_le 41 q_S_isOverspent_33 q_S_isOverspent_34 rfl (fun c33 => ?_) (fun c33 => ?_)
  · skip
    refine aw_iconst 0 q_S_isOverspent_41 rfl ?_
    exact aw_iret .boolean q_S_isOverspent_42 rfl rfl (aw_rz0 (by have e := (lZ_le (by omega) (by omega)).mp c33; simp [ovs]; omega)) rfl
  · skip
    refine aw_iconst 1 q_S_isOverspent_37 rfl ?_
    refine aw_goto 42 q_S_isOverspent_38 rfl ?_
    exact aw_iret .boolean q_S_isOverspent_42 rfl rfl (aw_rz1 (by have e := mt (lZ_le (by omega) (by omega)).mpr c33; simp [ovs]; omega)) rfl
def fri (fa : Int) (ud : Nat) (g : Nat → Int) (a : Nat) : Nat → Bool
  | 0 => true
  | j + 1 => fri fa ud g a j && !(ud.testBit a && ud.testBit j && decide (fa < g a - g j))
def fro (fa : Int) (ud : Nat) (g : Nat → Int) : Nat → Bool
  | 0 => true
  | i + 1 => fro fa ud g i && fri fa ud g i 4
def fai (fa : Int) (ud : Nat) (g : Nat → Int) : Bool := decide (fa = -1) || fro fa ud g 4
theorem fri_mono {fa : Int} {ud : Nat} {g : Nat → Int} {a i : Nat} : ∀ {n : Nat}, i ≤ n → fri fa ud g a i = false → fri fa ud g a n = false
  | 0, h, e => by rw [show i = 0 by omega] at e; exact e
  | n + 1, h, e => by
    by_cases q : i = n + 1
    · rw [← q]; exact e
    · unfold fri
      rw [fri_mono (n := n) (by omega) e]
      rfl
theorem fro_mono {fa : Int} {ud : Nat} {g : Nat → Int} {i : Nat} : ∀ {n : Nat}, i ≤ n → fro fa ud g i = false → fro fa ud g n = false
  | 0, h, e => by rw [show i = 0 by omega] at e; exact e
  | n + 1, h, e => by
    by_cases q : i = n + 1
    · rw [← q]; exact e
    · unfold fro
      rw [fro_mono (n := n) (by omega) e]
      rfl
theorem fai_no {fa : Int} {ud : Nat} {g : Nat → Int} {a j : Nat} (hfa : ¬ fa = -1) (ha : a < 4) (hj : j < 4) (h : fri fa ud g a (j + 1) = false) : fai fa ud g = false := by
  have h1 := fri_mono (n := 4) (by omega) h
  have h2 : fro fa ud g (a + 1) = false := by simp only [fro, h1, Bool.and_false]
  simp [fai, hfa, fro_mono (n := 4) (by omega) h2]
theorem l_S_isFair1 (sc : am_S) (A : ST) (q : QS) (D : ST) (t : TS) (a : Nat) (z : bq q) (hfa : -1 ≤ x_fa A ∧ x_fa A ≤ 10000000) (hn1 : ¬ x_fa A = -1) (ha : a < 4) (kk : fri (x_fa A) (q_ud q) (q_gi q) a 4 = true → AW sc m_S_isFair 1 84 [some (.ref 26), some (.int (nI a)), some (.int (nI 4))] [] (hp A q D t) (some (.int (zI (fai (x_fa A) (q_ud q) (q_gi q))))) (hp A q D t)) : ∀ (n i : Nat), 4 - i = n → i ≤ 4 → fri (x_fa A) (q_ud q) (q_gi q) a i = true → AW sc m_S_isFair 1 25 [some (.ref 26), some (.int (nI a)), some (.int (nI i))] [] (hp A q D t) (some (.int (zI (fai (x_fa A) (q_ud q) (q_gi q))))) (hp A q D t) := by
  intro n
  induction n using Nat.strongRecOn with
  | _ n ih =>
    intro i hn hi
    intro hw
    have z10 := z.2.2.2.2.2.2.2.2.2.2.1 a
    have z11 := z.2.2.2.2.2.2.2.2.2.2.1 i
    have z12 := z.2.2.2.2.2.2.2.2.2.2.2.1
    refine aw_iload_n 2 q_S_isFair_25 rfl rfl ?_
    refine aw_iconst 4 q_S_isFair_26 rfl ?_
    refine aw_icmp_ge 84 q_S_isFair_27 rfl (fun c27 => ?_) (fun c27 => ?_)
    · skip
      have he : i = 4 := Nat.le_antisymm hi (nge_ge (b := 4) c27 (by omega) (by omega))
      subst he
      exact kk hw
    · skip
      have hlt : i < 4 := nge_lt (b := 4) c27 (by omega) (by omega)
      refine aw_aload_n 0 q_S_isFair_30 rfl rfl ?_
      refine aw_get 6 q_S_isFair_31 fl_S_74 rfl rfl ?_
      refine aw_iload_n 1 q_S_isFair_34 rfl rfl ?_
      refine aw_S2 q_S_isFair_35 st_S_124 (by omega) (Nat.le_of_ble_eq_true rfl) (c_B_isIn _ _ _ _ (by omega) (by omega)) ?_
      refine aw_if_eq 78 q_S_isFair_38 rfl (fun c38 => ?_) (fun c38 => ?_)
      · skip
        first | refine aw_iinc _ q_S_isFair_78 rfl (am_inc _) rfl rfl ?_ | refine aw_iinc _ q_S_isFair_78 rfl rfl rfl rfl ?_
        refine aw_goto 25 q_S_isFair_81 rfl ?_
        first
          | (have h9 := zI_0.mp c38; exact ih _ (by omega) (i + 1) rfl (by omega) (by simp [fri, hw, h9]))
          | (have h9 := zI_0.mp c49; exact ih _ (by omega) (i + 1) rfl (by omega) (by simp [fri, hw, h9]))
          | (have h9 := (lZ_le (by omega) (by omega)).mp c72; exact ih _ (by omega) (i + 1) rfl (by omega) (by simp [fri, hw]; intros; omega))
      · skip
        refine aw_aload_n 0 q_S_isFair_41 rfl rfl ?_
        refine aw_get 6 q_S_isFair_42 fl_S_74 rfl rfl ?_
        refine aw_iload_n 2 q_S_isFair_45 rfl rfl ?_
        refine aw_S2 q_S_isFair_46 st_S_124 (by omega) (Nat.le_of_ble_eq_true rfl) (c_B_isIn _ _ _ _ (by omega) (by omega)) ?_
        refine aw_if_eq 78 q_S_isFair_49 rfl (fun c49 => ?_) (fun c49 => ?_)
        · skip
          first | refine aw_iinc _ q_S_isFair_78 rfl (am_inc _) rfl rfl ?_ | refine aw_iinc _ q_S_isFair_78 rfl rfl rfl rfl ?_
          refine aw_goto 25 q_S_isFair_81 rfl ?_
          first
            | (have h9 := zI_0.mp c38; exact ih _ (by omega) (i + 1) rfl (by omega) (by simp [fri, hw, h9]))
            | (have h9 := zI_0.mp c49; exact ih _ (by omega) (i + 1) rfl (by omega) (by simp [fri, hw, h9]))
            | (have h9 := (lZ_le (by omega) (by omega)).mp c72; exact ih _ (by omega) (i + 1) rfl (by omega) (by simp [fri, hw]; intros; omega))
        · skip
          refine aw_aload_n 0 q_S_isFair_52 rfl rfl ?_
          refine aw_get 15 q_S_isFair_53 fl_S_26 rfl rfl ?_
          refine aw_iload_n 1 q_S_isFair_56 rfl rfl ?_
          refine aw_laldN q_S_isFair_57 rfl (by omega) rfl ?_
          refine aw_aload_n 0 q_S_isFair_58 rfl rfl ?_
          refine aw_get 15 q_S_isFair_59 fl_S_26 rfl rfl ?_
          refine aw_iload_n 2 q_S_isFair_62 rfl rfl ?_
          refine aw_laldN q_S_isFair_63 rfl (by omega) rfl ?_
          refine aw_lsub q_S_isFair_64 ?_
          rw [lZ_sub]
          refine aw_aload_n 0 q_S_isFair_65 rfl rfl ?_
          refine aw_get 0 q_S_isFair_66 fl_S_29 rfl rfl ?_
          refine aw_get 14 q_S_isFair_69 fl_S_166 rfl rfl ?_
          refine aw_lcmp_le 78 q_S_isFair_72 q_S_isFair_73 rfl (fun c72 => ?_) (fun c72 => ?_)
          · skip
            first | refine aw_iinc _ q_S_isFair_78 rfl (am_inc _) rfl rfl ?_ | refine aw_iinc _ q_S_isFair_78 rfl rfl rfl rfl ?_
            refine aw_goto 25 q_S_isFair_81 rfl ?_
            first
              | (have h9 := zI_0.mp c38; exact ih _ (by omega) (i + 1) rfl (by omega) (by simp [fri, hw, h9]))
              | (have h9 := zI_0.mp c49; exact ih _ (by omega) (i + 1) rfl (by omega) (by simp [fri, hw, h9]))
              | (have h9 := (lZ_le (by omega) (by omega)).mp c72; exact ih _ (by omega) (i + 1) rfl (by omega) (by simp [fri, hw]; intros; omega))
          · skip
            refine aw_iconst 0 q_S_isFair_76 rfl ?_
            exact aw_iret .boolean q_S_isFair_77 rfl rfl (aw_rz0 (fai_no hn1 ha hlt (by have e := mt (lZ_le (by omega) (by omega)).mpr c72; simp [fri, hw, zI_n0.mp c38, zI_n0.mp c49]; omega))) rfl
theorem l_S_isFair (sc : am_S) (A : ST) (q : QS) (D : ST) (t : TS)  (z : bq q) (hfa : -1 ≤ x_fa A ∧ x_fa A ≤ 10000000) (hn1 : ¬ x_fa A = -1) : ∀ (n i : Nat), 4 - i = n → i ≤ 4 → fro (x_fa A) (q_ud q) (q_gi q) i = true → AW sc m_S_isFair 1 18 [some (.ref 26), some (.int (nI i)), none] [] (hp A q D t) (some (.int (zI (fai (x_fa A) (q_ud q) (q_gi q))))) (hp A q D t) := by
  intro n
  induction n using Nat.strongRecOn with
  | _ n ih =>
    intro i hn hi
    intro hw
    refine aw_iload_n 1 q_S_isFair_18 rfl rfl ?_
    refine aw_iconst 4 q_S_isFair_19 rfl ?_
    refine aw_icmp_ge 90 q_S_isFair_20 rfl (fun c20 => ?_) (fun c20 => ?_)
    · skip
      refine aw_iconst 1 q_S_isFair_90 rfl ?_
      exact aw_iret .boolean q_S_isFair_91 rfl rfl (aw_rz1 (by rw [show i = 4 from Nat.le_antisymm hi (nge_ge (b := 4) c20 (by omega) (by omega))] at hw; simp [fai, hw])) rfl
    · skip
      have hlt : i < 4 := nge_lt (b := 4) c20 (by omega) (by omega)
      refine aw_iconst 0 q_S_isFair_23 rfl ?_
      refine aw_istore_n 2 q_S_isFair_24 rfl rfl rfl ?_
      refine l_S_isFair1 sc A q D t i z hfa hn1 hlt (fun hk => ?_) _ 0 rfl (by omega) rfl
      first | refine aw_iinc _ q_S_isFair_84 rfl (am_inc _) rfl rfl ?_ | refine aw_iinc _ q_S_isFair_84 rfl rfl rfl rfl ?_
      refine aw_goto 18 q_S_isFair_87 rfl ?_
      refine aw_kill [2] ?_
      exact ih _ (by omega) (i + 1) rfl (by omega) (by simp only [fro, hw, hk]; rfl)
theorem c_S_isFair (sc : am_S) (A : ST) (q : QS) (D : ST) (t : TS)  (z : bq q) (hfa : -1 ≤ x_fa A ∧ x_fa A ≤ 10000000) : AM sc m_S_isFair 1 [.ref 26] (hp A q D t) (some (.int (zI (fai (x_fa A) (q_ud q) (q_gi q))))) (hp A q D t) := by
  refine AM.of (by decide) (Nat.le_of_ble_eq_true rfl) ?_
  show AW sc m_S_isFair 1 0 [some (.ref 26), none, none] [] _ _ _
  refine aw_aload_n 0 q_S_isFair_0 rfl rfl ?_
  refine aw_get 0 q_S_isFair_1 fl_S_29 rfl rfl ?_
  refine aw_get 14 q_S_isFair_4 fl_S_166 rfl rfl ?_
  refine aw_ldc2 (lZ (-1)) q_S_isFair_7 (am_in2 (i := 122) rfl rfl) ?_
  refine aw_lcmp_ne 16 q_S_isFair_10 q_S_isFair_11 rfl (fun c10 => ?_) (fun c10 => ?_)
  · skip
    have hn1 : ¬ x_fa A = -1 := fun e => c10 (by rw [e])
    refine aw_iconst 0 q_S_isFair_16 rfl ?_
    refine aw_istore_n 1 q_S_isFair_17 rfl rfl rfl ?_
    exact l_S_isFair sc A q D t z hfa hn1 _ 0 rfl (by omega) rfl
  · skip
    refine aw_iconst 1 q_S_isFair_14 rfl ?_
    exact aw_iret .boolean q_S_isFair_15 rfl rfl (aw_rz1 (by have e := (lZ_eq (by omega) (by omega)).mp c10; simp [fai, e])) rfl
def wgh (A : ST) (q : QS) : QS := if (fai (x_fa A) (q_ud q) (q_gi q) && ((q_be q).isNone || isb q (chg q (q_cm q)))) = true then q_s_bs (q_s_bw (q_s_bc (q_s_be q (some (q_pk q))) (chg q (q_cm q))) (q_ga q)) (q_sy q) else q
theorem c_S_weigh (sc : am_S) (A : ST) (q : QS) (D : ST) (t : TS)  (z : bq q) (hfa : -1 ≤ x_fa A ∧ x_fa A ≤ 10000000) : AM sc m_S_weigh 2 [.ref 26] (hp A q D t) (none) (hp A (wgh A q) D t) := by
  refine AM.of (by decide) (Nat.le_of_ble_eq_true rfl) ?_
  show AW sc m_S_weigh 2 0 [some (.ref 26), none] [] _ _ _
  have z0 := pI_eq (o := q_be q) (fun m h => by have := z.2.1 m h; omega)
  have z1 := pcr_le 14 (((q_pk q ^^^ q_od q) &&& q_cm q) &&& q_cm q)
  refine aw_aload_n 0 q_S_weigh_0 rfl rfl ?_
  refine aw_aload_n 0 q_S_weigh_1 rfl rfl ?_
  refine aw_get 4 q_S_weigh_2 fl_S_59 rfl rfl ?_
  refine aw_V1 q_S_weigh_5 st_S_142 rfl (by omega) (Nat.le_of_ble_eq_true rfl) (c_S_countOfChanges _ _ _ _ _ _ z.1) ?_
  refine aw_istore_n 1 q_S_weigh_8 rfl rfl rfl ?_
  refine aw_aload_n 0 q_S_weigh_9 rfl rfl ?_
  refine aw_V0 q_S_weigh_10 st_S_156 rfl (by omega) (Nat.le_of_ble_eq_true rfl) (c_S_isFair _ _ _ _ _ z hfa) ?_
  refine aw_if_eq 61 q_S_weigh_13 rfl (fun c13 => ?_) (fun c13 => ?_)
  · skip
    exact aw_vret q_S_weigh_61 rfl rfl (by simp [wgh, zI_0.mp c13])
  · skip
    refine aw_aload_n 0 q_S_weigh_16 rfl rfl ?_
    refine aw_get 16 q_S_weigh_17 fl_S_47 rfl rfl ?_
    refine aw_iconst (-1) q_S_weigh_20 rfl ?_
    refine aw_icmp_eq 32 q_S_weigh_21 rfl (fun c21 => ?_) (fun c21 => ?_)
    · skip
      refine aw_aload_n 0 q_S_weigh_32 rfl rfl ?_
      refine aw_aload_n 0 q_S_weigh_33 rfl rfl ?_
      refine aw_get 10 q_S_weigh_34 fl_S_76 rfl rfl ?_
      refine wp_S_16 (some (q_pk q)) q_S_weigh_37 fl_S_47 ?_
      refine aw_aload_n 0 q_S_weigh_40 rfl rfl ?_
      refine aw_iload_n 1 q_S_weigh_41 rfl rfl ?_
      refine wp_S_17 _ q_S_weigh_42 fl_S_145 ?_
      refine aw_aload_n 0 q_S_weigh_45 rfl rfl ?_
      refine aw_aload_n 0 q_S_weigh_46 rfl rfl ?_
      refine aw_get 13 q_S_weigh_47 fl_S_85 rfl rfl ?_
      refine wp_S_18 _ q_S_weigh_50 fl_S_148 ?_
      refine aw_aload_n 0 q_S_weigh_53 rfl rfl ?_
      refine aw_aload_n 0 q_S_weigh_54 rfl rfl ?_
      refine aw_get 12 q_S_weigh_55 fl_S_82 rfl rfl ?_
      refine wp_S_19 _ q_S_weigh_58 fl_S_163 ?_
      exact aw_vret q_S_weigh_61 rfl rfl (by simp [wgh, zI_n0.mp c13, z0.mp c21]; rfl)
    · skip
      refine aw_aload_n 0 q_S_weigh_24 rfl rfl ?_
      refine aw_iload_n 1 q_S_weigh_25 rfl rfl ?_
      refine aw_V1 q_S_weigh_26 st_S_160 rfl (by omega) (Nat.le_of_ble_eq_true rfl) (c_S_isBetter _ _ _ _ _ _ z (by omega)) ?_
      refine aw_if_eq 61 q_S_weigh_29 rfl (fun c29 => ?_) (fun c29 => ?_)
      · skip
        exact aw_vret q_S_weigh_61 rfl rfl (by have e := mt z0.mpr c21; have e2 := zI_0.mp c29; simp [wgh, e, chg, e2])
      · skip
        refine aw_aload_n 0 q_S_weigh_32 rfl rfl ?_
        refine aw_aload_n 0 q_S_weigh_33 rfl rfl ?_
        refine aw_get 10 q_S_weigh_34 fl_S_76 rfl rfl ?_
        refine wp_S_16 (some (q_pk q)) q_S_weigh_37 fl_S_47 ?_
        refine aw_aload_n 0 q_S_weigh_40 rfl rfl ?_
        refine aw_iload_n 1 q_S_weigh_41 rfl rfl ?_
        refine wp_S_17 _ q_S_weigh_42 fl_S_145 ?_
        refine aw_aload_n 0 q_S_weigh_45 rfl rfl ?_
        refine aw_aload_n 0 q_S_weigh_46 rfl rfl ?_
        refine aw_get 13 q_S_weigh_47 fl_S_85 rfl rfl ?_
        refine wp_S_18 _ q_S_weigh_50 fl_S_148 ?_
        refine aw_aload_n 0 q_S_weigh_53 rfl rfl ?_
        refine aw_aload_n 0 q_S_weigh_54 rfl rfl ?_
        refine aw_get 12 q_S_weigh_55 fl_S_82 rfl rfl ?_
        refine wp_S_19 _ q_S_weigh_58 fl_S_163 ?_
        exact aw_vret q_S_weigh_61 rfl rfl (by have e2 := zI_n0.mp c29; simp [wgh, zI_n0.mp c13, chg, e2]; rfl)
