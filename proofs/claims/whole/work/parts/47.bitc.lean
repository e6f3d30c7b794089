/-! ===== how many bits ===== -/
theorem and_nn (m n : Nat) (hm : m < 2147483648) (hn : n < 2147483648) : iI (m : Int) &&& iI (n : Int) = iI ((m &&& n : Nat) : Int) := by
  apply Int32.toBitVec_inj.mp
  rw [Int32.toBitVec_and, iI_bv, iI_bv, iI_bv]
  apply BitVec.eq_of_toNat_eq
  have h : m &&& n < 2 ^ 32 := Nat.lt_of_le_of_lt Nat.and_le_left (by omega)
  rw [BitVec.toNat_and, BitVec.toNat_ofNat, BitVec.toNat_ofNat, BitVec.toNat_ofNat, Nat.mod_eq_of_lt (show m < 2 ^ 32 by omega), Nat.mod_eq_of_lt (show n < 2 ^ 32 by omega), Nat.mod_eq_of_lt h]
theorem land_split (a b m n : Nat) (ha : a < 16) (hm : m < 16) : (a + 16 * b) &&& (m + 16 * n) = (a &&& m) + 16 * (b &&& n) := by
  apply Nat.eq_of_testBit_eq
  intro i
  have h1 : ∀ c d : Nat, c < 16 → (c + 16 * d).testBit i = if i < 4 then c.testBit i else d.testBit (i - 4) := by
    intro c d hc
    rw [show c + 16 * d = 2 ^ 4 * d + c by omega, Nat.testBit_two_pow_mul_add _ (by omega)]
  have h2 : a &&& m < 16 := Nat.lt_of_le_of_lt Nat.and_le_left ha
  rw [Nat.testBit_and, h1 a b ha, h1 m n hm, h1 _ _ h2]
  split <;> rw [Nat.testBit_and]
theorem ushr_nn (n k : Nat) (hn : n < 2147483648) (hk : k = 1 ∨ k = 2 ∨ k = 4 ∨ k = 8 ∨ k = 16) : ((iI (n : Int)).toUInt32 >>> ((iI (k : Int)).toUInt32 &&& Int32.toUInt32 31)).toInt32 = iI ((n / 2 ^ k : Nat) : Int) := by
  have e : ((iI (k : Int)).toUInt32 &&& Int32.toUInt32 31).toBitVec % 32 = BitVec.ofNat 32 k := by
    rcases hk with rfl | rfl | rfl | rfl | rfl <;> decide
  have ek : (BitVec.ofNat 32 k).toNat = k := by rw [BitVec.toNat_ofNat]; omega
  apply Int32.toBitVec_inj.mp
  rw [UInt32.toBitVec_toInt32, UInt32.toBitVec_shiftRight, e, iI_bv, BitVec.ushiftRight_eq', ek]
  apply BitVec.eq_of_toNat_eq
  have h : n / 2 ^ k < 2 ^ 32 := Nat.lt_of_le_of_lt (Nat.div_le_self _ _) (by omega)
  rw [BitVec.toNat_ushiftRight, BitVec.toNat_ofNat, Nat.mod_eq_of_lt h, Nat.shiftRight_eq_div_pow, show (iI (n : Int)).toUInt32.toBitVec = (iI (n : Int)).toBitVec from rfl, iI_bv, BitVec.toNat_ofNat, Nat.mod_eq_of_lt (show n < 2 ^ 32 by omega)]
def y4 (a : Nat) : Nat := a - ((a / 2) &&& 5)
def w4 (a : Nat) : Nat := (y4 a &&& 3) + y4 a / 4
theorem t5 : ∀ a, a < 16 → ∀ e, e < 2 → (a / 2 + 8 * e) &&& 5 = (a / 2) &&& 5 := by decide
theorem t5' : ∀ a, a < 16 → (a / 2) &&& 21845 = (a / 2) &&& 5 := by decide
theorem t3 : ∀ a, a < 16 → ∀ e, e < 4 → (y4 a / 4 + 4 * e) &&& 3 = y4 a / 4 := by decide
theorem t3' : ∀ a, a < 16 → (y4 a / 4) &&& 13107 = y4 a / 4 := by decide
theorem t3'' : ∀ a, a < 16 → y4 a &&& 13107 = y4 a &&& 3 := by decide
theorem ty : ∀ a, a < 16 → y4 a < 16 ∧ ((a / 2) &&& 5) ≤ a ∧ w4 a ≤ 4 := by decide
