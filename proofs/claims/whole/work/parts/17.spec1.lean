/-! PURE MEANINGS 1: what the rows of what was told say of a set -/
theorem sm_t {f : Nat → Int} {i : Nat} {x : Int} (h : f i = x) : lZ (sm i f) + lZ x = lZ (sm (i + 1) f) := by
  rw [lZ_add]; simp only [sm, h]
theorem sm_f {f : Nat → Int} {i : Nat} (h : f i = 0) : lZ (sm i f) = lZ (sm (i + 1) f) := by
  simp only [sm, h, Int.add_zero]
theorem sm_tail {f : Nat → Int} {i : Nat} : ∀ {n : Nat}, i ≤ n → (∀ o, i ≤ o → o < n → f o = 0) → sm n f = sm i f
  | 0, h, _ => by rw [show i = 0 by omega]
  | n + 1, h, h0 => by
    by_cases e : i = n + 1
    · rw [e]
    · have := sm_tail (n := n) (by omega) (fun o h1 h2 => h0 o h1 (by omega))
      simp only [sm]
      rw [this, h0 n (by omega) (by omega)]
      omega
/-- the simple bounds of what was told -/
def bd (A : ST) : Prop := x_ny A ≤ 6 ∧ x_nt A ≤ 12 ∧ x_nc A ≤ 14 ∧ (∀ c, x_th A c < 12) ∧ (∀ c, x_yr A c < 6) ∧ (∀ i, x_di A i < 4) ∧ (∀ c, x_jt A c < 16384) ∧ (∀ c, 0 ≤ x_co A c ∧ x_co A c ≤ 1000000) ∧ (∀ c, 0 ≤ x_wo A c ∧ x_wo A c ≤ 1000000) ∧ (∀ a b, 0 ≤ x_sv A a b ∧ x_sv A a b ≤ 1000000) ∧ (∀ y, 0 ≤ x_bu A y ∧ x_bu A y ≤ 200000000) ∧ (∀ i, x_pl A i ≤ 999) ∧ x_mu A < 16384 ∧ 1 ≤ x_ny A
def wsum (A : ST) (m : Nat) : Int := sm (x_nc A) (fun c => if m.testBit c = true then x_wo A c else 0)
def dsum (A : ST) (m d : Nat) : Int := sm (x_nc A) (fun c => if m.testBit c = true ∧ x_di A (x_th A c) = d then x_wo A c else 0)
/-- what the joins of a choice with a set save -/
def swf (A : ST) (c s : Nat) : Nat → Int := fun o => if (x_jt A c &&& s).testBit o = true then x_sv A c o else 0
def sw (A : ST) (c s : Nat) : Int := sm (x_nc A) (swf A c s)
/-- the choices of a set and a year below i -/
def cmk (A : ST) (m y : Nat) : Nat → Nat
  | 0 => 0
  | i + 1 => if m.testBit i = true ∧ x_yr A i = y then cmk A m y i ||| 2 ^ i else cmk A m y i
def spf (A : ST) (m y : Nat) : Nat → Int := fun c => if m.testBit c = true ∧ x_yr A c = y then x_co A c - sw A c (cmk A m y c) else 0
/-- what a set spends in a year, by its sign -/
def sps (A : ST) (m y : Nat) : Int := sm (x_nc A) (spf A m y)
def spI (A : ST) (m y : Nat) : Int := if sps A m y < 0 then 0 else sps A m y
theorem or_lt {a b n : Nat} (ha : a < 2 ^ n) (hb : b < 2 ^ n) : a ||| b < 2 ^ n := Nat.or_lt_two_pow ha hb
theorem and_lt {a b : Nat} (n : Nat) (ha : a < n) : a &&& b < n := Nat.lt_of_le_of_lt Nat.and_le_left ha
theorem cmk_lt (A : ST) (m y : Nat) : ∀ i, cmk A m y i < 2 ^ i
  | 0 => by simp [cmk]
  | i + 1 => by
    have h := cmk_lt A m y i
    have h2 : 2 ^ i < 2 ^ (i + 1) := Nat.pow_lt_pow_right (by decide) (by omega)
    unfold cmk
    split
    · exact or_lt (Nat.lt_trans h h2) h2
    · exact Nat.lt_trans h h2
theorem p14 {i : Nat} (h : i ≤ 14) : 2 ^ i ≤ 16384 := Nat.pow_le_pow_right (by decide) h
theorem sw_bd {A : ST} (b : bd A) (c s : Nat) : 0 ≤ sw A c s ∧ sw A c s ≤ 14000000 := by
  have h := sm_le (n := x_nc A) (f := swf A c s) (a := 0) (b := 1000000) (fun i _ => by
    unfold swf
    have := b.2.2.2.2.2.2.2.2.2.1 c i
    split <;> omega)
  have hn := b.2.2.1
  unfold sw
  omega
theorem sps_bd {A : ST} (b : bd A) (m y : Nat) : -1000000000 ≤ sps A m y ∧ sps A m y ≤ 1000000000 := by
  have h := sm_le (n := x_nc A) (f := spf A m y) (a := -14000000) (b := 1000000) (fun i _ => by
    unfold spf
    have h1 := b.2.2.2.2.2.2.2.1 i
    have h2 := sw_bd b i (cmk A m y i)
    split <;> omega)
  have hn := b.2.2.1
  unfold sps
  omega
theorem spI_bd {A : ST} (b : bd A) (m y : Nat) : 0 ≤ spI A m y ∧ spI A m y ≤ 1000000000 := by
  have := sps_bd b m y
  unfold spI
  split <;> omega
theorem wsum_bd {A : ST} (b : bd A) (m : Nat) : 0 ≤ wsum A m ∧ wsum A m ≤ 14000000 := by
  have h := sm_le (n := x_nc A) (f := fun c => if m.testBit c = true then x_wo A c else 0) (a := 0) (b := 1000000) (fun i _ => by
    have := b.2.2.2.2.2.2.2.2.1 i
    split <;> omega)
  have hn := b.2.2.1
  unfold wsum
  omega
theorem dsum_bd {A : ST} (b : bd A) (m d : Nat) : 0 ≤ dsum A m d ∧ dsum A m d ≤ 14000000 := by
  have h := sm_le (n := x_nc A) (f := fun c => if m.testBit c = true ∧ x_di A (x_th A c) = d then x_wo A c else 0) (a := 0) (b := 1000000) (fun i _ => by
    have := b.2.2.2.2.2.2.2.2.1 i
    split <;> omega)
  have hn := b.2.2.1
  unfold dsum
  omega
/-- the things that a set takes, by its choices below i; whether each was free -/
def tkm (A : ST) (m : Nat) : Nat → Nat
  | 0 => 0
  | i + 1 => if m.testBit i = true then tkm A m i ||| 2 ^ x_th A i else tkm A m i
def pln (A : ST) (m : Nat) : Nat → Bool
  | 0 => true
  | i + 1 => pln A m i && !(m.testBit i && (tkm A m i).testBit (x_th A i))
theorem tkm_lt {A : ST} (b : bd A) (m : Nat) : ∀ i, tkm A m i < 4096
  | 0 => by simp [tkm]
  | i + 1 => by
    have h := tkm_lt b m i
    have h2 : 2 ^ x_th A i < 2 ^ 12 := Nat.pow_lt_pow_right (by decide) (b.2.2.2.1 i)
    unfold tkm
    split
    · exact or_lt (n := 12) h h2
    · exact h
theorem pln_mono {A : ST} {m i : Nat} : ∀ {n : Nat}, i ≤ n → pln A m i = false → pln A m n = false
  | 0, h, e => by rw [show i = 0 by omega] at e; exact e
  | n + 1, h, e => by
    by_cases q : i = n + 1
    · rw [← q]; exact e
    · unfold pln
      rw [pln_mono (n := n) (by omega) e]
      rfl
def wal (A : ST) (m : Nat) : Nat → Bool
  | 0 => true
  | y + 1 => wal A m y && decide (spI A m y ≤ x_bu A y)
theorem wal_mono {A : ST} {m i : Nat} : ∀ {n : Nat}, i ≤ n → wal A m i = false → wal A m n = false
  | 0, h, e => by rw [show i = 0 by omega] at e; exact e
  | n + 1, h, e => by
    by_cases q : i = n + 1
    · rw [← q]; exact e
    · unfold wal
      rw [wal_mono (n := n) (by omega) e]
      rfl
/-- the districts that have things -/
def udm (A : ST) : Nat → Nat
  | 0 => 0
  | i + 1 => udm A i ||| 2 ^ x_di A i
theorem udm_lt {A : ST} (b : bd A) : ∀ i, udm A i < 16
  | 0 => by simp [udm]
  | i + 1 => by
    have h := udm_lt b i
    have h2 : 2 ^ x_di A i < 2 ^ 4 := Nat.pow_lt_pow_right (by decide) (b.2.2.2.2.2.1 i)
    exact or_lt (n := 4) h h2
/-- the choices of a set, a district and a year below i -/
def pom (A : ST) (m d y : Nat) : Nat → Nat
  | 0 => 0
  | i + 1 => if m.testBit i = true ∧ x_di A (x_th A i) = d ∧ x_yr A i = y then pom A m d y i ||| 2 ^ i else pom A m d y i
theorem pom_lt (A : ST) (m d y : Nat) : ∀ i, pom A m d y i < 2 ^ i
  | 0 => by simp [pom]
  | i + 1 => by
    have h := pom_lt A m d y i
    have h2 : 2 ^ i < 2 ^ (i + 1) := Nat.pow_lt_pow_right (by decide) (by omega)
    unfold pom
    split
    · exact or_lt (Nat.lt_trans h h2) h2
    · exact Nat.lt_trans h h2
/-- is a thing done by a year, by choices below i -/
def dnb (A : ST) (m tt y : Nat) : Nat → Bool
  | 0 => false
  | i + 1 => dnb A m tt y i || (m.testBit i && decide (x_th A i = tt) && decide (x_yr A i ≤ y))
theorem dnb_mono {A : ST} {m tt y i : Nat} : ∀ {n : Nat}, i ≤ n → dnb A m tt y i = true → dnb A m tt y n = true
  | 0, h, e => by rw [show i = 0 by omega] at e; exact e
  | n + 1, h, e => by
    by_cases q : i = n + 1
    · rw [← q]; exact e
    · unfold dnb
      rw [dnb_mono (n := n) (by omega) e]
      rfl
/-- the most worth of a thing by a year, by choices below i -/
def mwb (A : ST) (tt y : Nat) : Nat → Int
  | 0 => 0
  | i + 1 => if x_th A i = tt ∧ x_yr A i ≤ y then (if x_wo A i < mwb A tt y i then mwb A tt y i else x_wo A i) else mwb A tt y i
theorem mwb_bd {A : ST} (b : bd A) (tt y : Nat) : ∀ i, 0 ≤ mwb A tt y i ∧ mwb A tt y i ≤ 1000000
  | 0 => by simp [mwb]
  | i + 1 => by
    have h := mwb_bd b tt y i
    have h1 := b.2.2.2.2.2.2.2.2.1 i
    unfold mwb
    split
    · split
      · exact h
      · exact h1
    · exact h
theorem nI_ne {a b : Nat} (ha : a < 2 ^ 31) (hb : b < 2 ^ 31) (h : ¬ nI a = nI b) : ¬ a = b := fun e => h (by rw [e])
theorem nI_eq' {a b : Nat} (ha : a < 2 ^ 31) (hb : b < 2 ^ 31) (h : nI a = nI b) : a = b := (nI_eq ha hb).mp h
