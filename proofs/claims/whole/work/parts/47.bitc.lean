/-! ===== how many bits ===== -/
theorem and_nn (m n : Nat) (hm : m < 2147483648) (hn : n < 2147483648) : iI (m : Int) &&& iI (n : Int) = iI ((m &&& n : Nat) : Int) := by
  apply Int32.toBitVec_inj.mp
  rw [Int32.toBitVec_and, iI_bv, iI_bv, iI_bv]
  apply BitVec.eq_of_toNat_eq
  have h : m &&& n < 2 ^ 32 := Nat.lt_of_le_of_lt Nat.and_le_left (by omega)
  rw [BitVec.toNat_and, BitVec.toNat_ofNat, BitVec.toNat_ofNat, BitVec.toNat_ofNat, Nat.mod_eq_of_lt (show m < 2 ^ 32 by omega), Nat.mod_eq_of_lt (show n < 2 ^ 32 by omega), Nat.mod_eq_of_lt h]
theorem land_split (a b m n : Nat) (ha : a < 16) (hm : m < 16) : (a + 16 * b) &&& (m + 16 * n) = (a &&& m) + 16 * (b &&& n) := by
  apply Nat.eq_of_testBit_eq
  intro i
  have h1 : ∀ c d : Nat, c < 16 → (c + 16 * d).testBit i = if i < 4 then c.testBit i else d.testBit (i - 4) := by
    intro c d hc
    rw [show c + 16 * d = 2 ^ 4 * d + c by omega, Nat.testBit_two_pow_mul_add _ (by omega)]
  have h2 : a &&& m < 16 := Nat.lt_of_le_of_lt Nat.and_le_left ha
  rw [Nat.testBit_and, h1 a b ha, h1 m n hm, h1 _ _ h2]
  split <;> rw [Nat.testBit_and]
