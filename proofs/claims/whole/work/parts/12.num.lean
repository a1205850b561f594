/-! NUMBERS: ints by their naturals (nI), longs by their integers (lZ), booleans (zI), plans (pI), bits of masks -/
theorem am_inc (k : Nat) : nI k + Int32.ofInt 1 = nI (k + 1) := by
  rw [show Int32.ofInt 1 = (1 : Int32) from by decide]
  exact nI_1 k
theorem am_dec (k : Nat) : nI (k + 1) + Int32.ofInt (-1) = nI k := by
  rw [show Int32.ofInt (-1) = (-1 : Int32) from by decide]
  exact pk_m1 k
def lZ (z : Int) : Int64 := Int64.ofInt z
theorem lZ_add (a b : Int) : lZ a + lZ b = lZ (a + b) := (Int64.ofInt_add a b).symm
theorem lZ_sub (a b : Int) : lZ a - lZ b = lZ (a - b) := (Int64.ofInt_sub a b).symm
theorem lZ_mul (a b : Int) : lZ a * lZ b = lZ (a * b) := (Int64.ofInt_mul a b).symm
theorem lZ_0 : lZ 0 = 0 := by decide
theorem lZ_toInt {z : Int} (h1 : -9223372036854775808 ≤ z) (h2 : z < 9223372036854775808) : (lZ z).toInt = z := Int64.toInt_ofInt_of_le h1 h2
theorem lZ_lt {a b : Int} (ha : -9223372036854775808 ≤ a ∧ a < 9223372036854775808) (hb : -9223372036854775808 ≤ b ∧ b < 9223372036854775808) : lZ a < lZ b ↔ a < b := by
  rw [Int64.lt_iff_toInt_lt, lZ_toInt ha.1 ha.2, lZ_toInt hb.1 hb.2]
theorem lZ_le {a b : Int} (ha : -9223372036854775808 ≤ a ∧ a < 9223372036854775808) (hb : -9223372036854775808 ≤ b ∧ b < 9223372036854775808) : lZ a ≤ lZ b ↔ a ≤ b := by
  rw [Int64.le_iff_toInt_le, lZ_toInt ha.1 ha.2, lZ_toInt hb.1 hb.2]
theorem lZ_eq {a b : Int} (ha : -9223372036854775808 ≤ a ∧ a < 9223372036854775808) (hb : -9223372036854775808 ≤ b ∧ b < 9223372036854775808) : lZ a = lZ b ↔ a = b := by
  rw [← Int64.toInt_inj, lZ_toInt ha.1 ha.2, lZ_toInt hb.1 hb.2]
theorem lZ_of (x : Int64) : x = lZ x.toInt := (Int64.ofInt_toInt x).symm
theorem lZ_n (n : Nat) : lZ (n : Int) = lN n := rfl
def zI (b : Bool) : Int32 := if b = true then 1 else 0
theorem zI_nar (b : Bool) : narrow .boolean (.int (zI b)) = .int (zI b) := by cases b <;> rfl
theorem zI_fit (b : Bool) : fits .boolean (.int (zI b)) = true := by cases b <;> rfl
theorem zI_0 {b : Bool} : zI b = 0 ↔ b = false := by cases b <;> decide
theorem zI_1 {b : Bool} : zI b = 1 ↔ b = true := by cases b <;> decide
theorem zI_n0 {b : Bool} : ¬ zI b = 0 ↔ b = true := by cases b <;> decide
def pI : Option Nat → Int32
  | none => -1
  | some m => nI m
theorem pI_eq {o : Option Nat} (h : ∀ m, o = some m → m < 2 ^ 31) : pI o = -1 ↔ o = none := by
  cases o with
  | none => simp [pI]
  | some m =>
    have h1 := nI_toInt (h m rfl)
    constructor
    · intro e
      have e2 : nI m = -1 := e
      rw [e2] at h1
      exact absurd h1 (by rw [show (-1 : Int32).toInt = -1 from by decide]; omega)
    · intro e; cases e
theorem bt_amt : ∀ c, c < 32 → ((nI c &&& 31).toBitVec.smod 32).toNat = c := by decide +kernel
theorem bt_get {m c : Nat} (hm : m < 2 ^ 31) (hc : c < 32) : (nI m >>> (nI c &&& 31)) &&& 1 = nI (m / 2 ^ c % 2) := by
  rw [pk_shrN hm _ c (bt_amt c hc)]
  exact pk_andN (n := m / 2 ^ c) (m := 1) (Nat.lt_of_le_of_lt (Nat.div_le_self _ _) (by omega)) 1 (by decide)
theorem bt_is {m c : Nat} (hm : m < 2 ^ 31) (hc : c < 32) : (nI m >>> (nI c &&& 31)) &&& 1 = 1 ↔ m.testBit c = true := by
  rw [bt_get hm hc, Nat.testBit_eq_decide_div_mod_eq, decide_eq_true_iff, show (1 : Int32) = nI 1 from rfl]
  exact nI_eq (by omega) (by omega)
theorem bt_one {c : Nat} (hc : c < 31) : (1 : Int32) <<< (nI c &&& 31) = nI (2 ^ c) := by
  have h := pk_shlN (n := 1) (nI c &&& 31) c (bt_amt c (by omega)) (by rw [Nat.one_mul]; exact Nat.pow_lt_pow_right (by decide) (by omega))
  rw [Nat.one_mul] at h
  exact h
theorem nI_bv (n : Nat) : (nI n).toBitVec = BitVec.ofNat 32 n := rfl
theorem nI_inj {x y : Int32} (h : x.toBitVec = y.toBitVec) : x = y := Int32.toBitVec_inj.mp h
theorem nI_or (a b : Nat) : nI a ||| nI b = nI (a ||| b) := by
  apply nI_inj
  rw [Int32.toBitVec_or, nI_bv, nI_bv, nI_bv]
  apply BitVec.eq_of_toNat_eq
  simp [Nat.or_mod_two_pow]
theorem nI_and (a b : Nat) : nI a &&& nI b = nI (a &&& b) := by
  apply nI_inj
  rw [Int32.toBitVec_and, nI_bv, nI_bv, nI_bv]
  apply BitVec.eq_of_toNat_eq
  simp [Nat.and_mod_two_pow]
theorem nI_xor (a b : Nat) : nI a ^^^ nI b = nI (a ^^^ b) := by
  apply nI_inj
  rw [Int32.toBitVec_xor, nI_bv, nI_bv, nI_bv]
  apply BitVec.eq_of_toNat_eq
  simp [Nat.xor_mod_two_pow]
/-- sums -/
def sm (n : Nat) (f : Nat → Int) : Int := match n with
  | 0 => 0
  | n + 1 => sm n f + f n
theorem sm_congr {n : Nat} {f g : Nat → Int} (h : ∀ i, i < n → f i = g i) : sm n f = sm n g := by
  induction n with
  | zero => rfl
  | succ n ih => simp only [sm]; rw [ih (fun i hi => h i (by omega)), h n (by omega)]
theorem sm_le {n : Nat} {f : Nat → Int} {a b : Int} (h : ∀ i, i < n → a ≤ f i ∧ f i ≤ b) : a * n ≤ sm n f ∧ sm n f ≤ b * n := by
  induction n with
  | zero => simp [sm]
  | succ n ih =>
    have h1 := ih (fun i hi => h i (by omega))
    have h2 := h n (by omega)
    simp only [sm]
    rw [show ((n + 1 : Nat) : Int) = n + 1 from by omega, Int.mul_add, Int.mul_add]
    omega
