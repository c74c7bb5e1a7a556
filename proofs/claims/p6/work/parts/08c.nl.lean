/-! ===== long numbers that are natural ones ===== -/
def nL (n : Nat) : Int64 := Int64.ofNat n
theorem nL_toInt {n : Nat} (h : n < 2 ^ 63) : (nL n).toInt = (n : Int) := by
  unfold nL
  have z : Int64.size = 18446744073709551616 := rfl
  rw [Int64.toInt_ofNat', z, Int.bmod_eq_of_le] <;> omega
theorem nL_add (a b : Nat) : nL a + nL b = nL (a + b) := (Int64.ofNat_add a b).symm
theorem nL_mul (a b : Nat) : nL a * nL b = nL (a * b) := (Int64.ofNat_mul a b).symm
theorem nL_sub {a b : Nat} (h : b ≤ a) : nL a - nL b = nL (a - b) := (Int64.ofNat_sub a b h).symm
theorem nL_div {a b : Nat} (ha : a < 2 ^ 63) (hb : b < 2 ^ 63) : nL a / nL b = nL (a / b) := by
  have : (nL a / nL b).toInt = (nL (a / b)).toInt := by
    have hq : a / b ≤ a := Nat.div_le_self a b
    rw [Int64.toInt_div, nL_toInt ha, nL_toInt hb, nL_toInt (by omega), ← Int.ofNat_tdiv]
    generalize a / b = q at *
    rw [Int.bmod_eq_of_le] <;> omega
  exact Int64.toInt_inj.mp this
theorem nL_rem {a b : Nat} (ha : a < 2 ^ 63) (hb : b < 2 ^ 63) : nL a - nL a / nL b * nL b = nL (a % b) := by
  rw [nL_div ha hb, nL_mul, nL_sub (Nat.div_mul_le_self a b)]
  congr 1
  have := Nat.div_add_mod a b
  rw [Nat.mul_comm] at this
  omega
theorem nL_lt {a b : Nat} (ha : a < 2 ^ 63) (hb : b < 2 ^ 63) : nL a < nL b ↔ a < b := by
  rw [Int64.lt_iff_toInt_lt, nL_toInt ha, nL_toInt hb]; omega
theorem nL_le {a b : Nat} (ha : a < 2 ^ 63) (hb : b < 2 ^ 63) : nL a ≤ nL b ↔ a ≤ b := by
  rw [Int64.le_iff_toInt_le, nL_toInt ha, nL_toInt hb]; omega
theorem nL_eq {a b : Nat} (ha : a < 2 ^ 63) (hb : b < 2 ^ 63) : nL a = nL b ↔ a = b := by
  rw [← Int64.toInt_inj, nL_toInt ha, nL_toInt hb]; omega
theorem nL_i (a : Nat) : (nL a).toInt32 = nI a := by
  unfold nL nI
  rw [Int64.toInt32_ofNat']
theorem nI_nL {a : Nat} (h : a < 2 ^ 31) : (nI a).toInt64 = nL a := by
  have e : (nI a).toInt = (a : Int) := by
    unfold nI
    have z : Int32.size = 4294967296 := rfl
    rw [Int32.toInt_ofNat', z, Int.bmod_eq_of_le] <;> omega
  apply Int64.toInt_inj.mp
  rw [Int32.toInt_toInt64, e, nL_toInt (by omega)]
theorem nI_dlt {u m : Nat} (hu : u < 2 ^ 30) (hm : m < 2 ^ 30) : nI u - nI m < nI 0 ↔ u < m := by
  have e : ∀ {a : Nat}, a < 2 ^ 30 → (nI a).toInt = (a : Int) := fun {a} h => by
    unfold nI
    have z : Int32.size = 4294967296 := rfl
    rw [Int32.toInt_ofNat', z, Int.bmod_eq_of_le] <;> omega
  rw [Int32.lt_iff_toInt_lt, Int32.toInt_sub, e hu, e hm, Int.bmod_eq_of_le (by omega) (by omega), e (by decide)]
  omega
theorem nI_dad {u m b : Nat} (h : m ≤ u + b) : nI u - nI m + nI b = nI (u + b - m) := by
  unfold nI
  rw [Int32.ofNat_sub _ _ h, Int32.ofNat_add]
  generalize Int32.ofNat u = x
  generalize Int32.ofNat m = y
  generalize Int32.ofNat b = z
  simp only [Int32.sub_eq_add_neg]
  rw [Int32.add_assoc, Int32.add_comm (-y), ← Int32.add_assoc]

