/-! CONTRACTS 6: the search's tests -/
def pcr : Nat → Nat → Nat
  | 0, _ => 0
  | k + 1, m => m % 2 + pcr k (m / 2)
def bcN (m : Nat) : Nat :=
  let a := m - ((m / 2) &&& 1431655765)
  let b := (a &&& 858993459) + ((a / 4) &&& 858993459)
  let c := (b + b / 16) &&& 252645135
  let d := c + c / 256
  let e := d + d / 65536
  e &&& 63
theorem bcN_dec : ∀ a, a < 128 → ∀ b, b < 128 → bcN (128 * a + b) = pcr 14 (128 * a + b) := by decide +kernel
theorem bcN_pcr {m : Nat} (h : m < 16384) : bcN m = pcr 14 m := by
  have := bcN_dec (m / 128) (by omega) (m % 128) (by omega)
  rw [show 128 * (m / 128) + m % 128 = m by omega] at this
  exact this
theorem us_k {n : Nat} (hn : n < 2 ^ 32) (s : Int32) (k : Nat) (hs : ((s.toUInt32 &&& Int32.toUInt32 31).toBitVec % 32).toNat = k) : ((nI n).toUInt32 >>> (s.toUInt32 &&& Int32.toUInt32 31)).toInt32 = nI (n / 2 ^ k) := pk_ushrN hn s k hs
theorem bcI_N {m : Nat} (h : m < 16384) : bcI (nI m) = nI (bcN m) := by
  unfold bcI bcN
  simp only []
  have l1 : (m / 2) &&& 1431655765 ≤ m := Nat.le_trans Nat.and_le_left (Nat.div_le_self _ _)
  rw [us_k (by omega) 1 1 (by decide), show (1431655765 : Int32) = nI 1431655765 from rfl, nI_and, show 2 ^ 1 = 2 from rfl, pk_sub l1]
  generalize ha : m - ((m / 2) &&& 1431655765) = a
  have ha1 : a < 2 ^ 32 := by omega
  rw [us_k ha1 2 2 (by decide), show (858993459 : Int32) = nI 858993459 from rfl, nI_and, nI_and, nI_add, show 2 ^ 2 = 4 from rfl]
  generalize hb : (a &&& 858993459) + ((a / 4) &&& 858993459) = c
  have hb1 : c < 2 ^ 32 := by
    have q1 : a &&& 858993459 ≤ 858993459 := Nat.and_le_right
    have q2 : (a / 4) &&& 858993459 ≤ 858993459 := Nat.and_le_right
    omega
  rw [us_k hb1 4 4 (by decide), nI_add, show (252645135 : Int32) = nI 252645135 from rfl, nI_and, show 2 ^ 4 = 16 from rfl]
  generalize hc : (c + c / 16) &&& 252645135 = e
  have hc1 : e ≤ 252645135 := by rw [← hc]; exact Nat.and_le_right
  rw [us_k (by omega) 8 8 (by decide), nI_add, show 2 ^ 8 = 256 from rfl]
  generalize hd : e + e / 256 = f
  have hd1 : f < 2 ^ 32 := by omega
  rw [us_k hd1 16 16 (by decide), nI_add, show 2 ^ 16 = 65536 from rfl, show (63 : Int32) = nI 63 from rfl, nI_and]
theorem bc_pcr {m : Nat} (h : m < 16384) : bcI (nI m) = nI (pcr 14 m) := by rw [bcI_N h, bcN_pcr h]
theorem pcr_le : ∀ k m, pcr k m ≤ k
  | 0, _ => by simp [pcr]
  | k + 1, m => by
    have := pcr_le k (m / 2)
    simp only [pcr]
    omega
