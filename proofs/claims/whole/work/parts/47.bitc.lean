/-! ===== how many bits ===== -/
theorem and_nn (m n : Nat) (hm : m < 2147483648) (hn : n < 2147483648) : iI (m : Int) &&& iI (n : Int) = iI ((m &&& n : Nat) : Int) := by
  apply Int32.toBitVec_inj.mp
  rw [Int32.toBitVec_and, iI_bv, iI_bv, iI_bv]
  apply BitVec.eq_of_toNat_eq
  have h : m &&& n < 2 ^ 32 := Nat.lt_of_le_of_lt Nat.and_le_left (by omega)
  rw [BitVec.toNat_and, BitVec.toNat_ofNat, BitVec.toNat_ofNat, BitVec.toNat_ofNat, Nat.mod_eq_of_lt (show m < 2 ^ 32 by omega), Nat.mod_eq_of_lt (show n < 2 ^ 32 by omega), Nat.mod_eq_of_lt h]
theorem land_split (a b m n : Nat) (ha : a < 16) (hm : m < 16) : (a + 16 * b) &&& (m + 16 * n) = (a &&& m) + 16 * (b &&& n) := by
  apply Nat.eq_of_testBit_eq
  intro i
  have h1 : ∀ c d : Nat, c < 16 → (c + 16 * d).testBit i = if i < 4 then c.testBit i else d.testBit (i - 4) := by
    intro c d hc
    rw [show c + 16 * d = 2 ^ 4 * d + c by omega, Nat.testBit_two_pow_mul_add _ (by omega)]
  have h2 : a &&& m < 16 := Nat.lt_of_le_of_lt Nat.and_le_left ha
  rw [Nat.testBit_and, h1 a b ha, h1 m n hm, h1 _ _ h2]
  split <;> rw [Nat.testBit_and]
theorem ushr_nn (n k : Nat) (hn : n < 2147483648) (hk : k = 1 ∨ k = 2 ∨ k = 4 ∨ k = 8 ∨ k = 16) : ((iI (n : Int)).toUInt32 >>> ((iI (k : Int)).toUInt32 &&& Int32.toUInt32 31)).toInt32 = iI ((n / 2 ^ k : Nat) : Int) := by
  have e : ((iI (k : Int)).toUInt32 &&& Int32.toUInt32 31).toBitVec % 32 = BitVec.ofNat 32 k := by
    rcases hk with rfl | rfl | rfl | rfl | rfl <;> decide
  have ek : (BitVec.ofNat 32 k).toNat = k := by rw [BitVec.toNat_ofNat]; omega
  apply Int32.toBitVec_inj.mp
  rw [UInt32.toBitVec_toInt32, UInt32.toBitVec_shiftRight, e, iI_bv, BitVec.ushiftRight_eq', ek]
  apply BitVec.eq_of_toNat_eq
  have h : n / 2 ^ k < 2 ^ 32 := Nat.lt_of_le_of_lt (Nat.div_le_self _ _) (by omega)
  rw [BitVec.toNat_ushiftRight, BitVec.toNat_ofNat, Nat.mod_eq_of_lt h, Nat.shiftRight_eq_div_pow, show (iI (n : Int)).toUInt32.toBitVec = (iI (n : Int)).toBitVec from rfl, iI_bv, BitVec.toNat_ofNat, Nat.mod_eq_of_lt (show n < 2 ^ 32 by omega)]
def y4 (a : Nat) : Nat := a - ((a / 2) &&& 5)
def w4 (a : Nat) : Nat := (y4 a &&& 3) + y4 a / 4
theorem t5 : ∀ a, a < 16 → ∀ e, e < 2 → (a / 2 + 8 * e) &&& 5 = (a / 2) &&& 5 := by decide
theorem t5' : ∀ a, a < 16 → (a / 2) &&& 21845 = (a / 2) &&& 5 := by decide
theorem t3 : ∀ a, a < 16 → ∀ e, e < 4 → (y4 a / 4 + 4 * e) &&& 3 = y4 a / 4 := by decide
theorem t3' : ∀ a, a < 16 → (y4 a / 4) &&& 13107 = y4 a / 4 := by decide
theorem t3'' : ∀ a, a < 16 → y4 a &&& 13107 = y4 a &&& 3 := by decide
theorem ty : ∀ a, a < 16 → y4 a < 16 ∧ ((a / 2) &&& 5) ≤ a ∧ w4 a ≤ 4 := by decide
def nib (a b c d e : Nat) : Nat := a + 16 * (b + 16 * (c + 16 * (d + 16 * e)))
theorem nib_and (a b c d e m n o p q : Nat) (ha : a < 16) (hb : b < 16) (hc : c < 16) (hd : d < 16) (hm : m < 16) (hn : n < 16) (ho : o < 16) (hp : p < 16) : nib a b c d e &&& nib m n o p q = nib (a &&& m) (b &&& n) (c &&& o) (d &&& p) (e &&& q) := by
  unfold nib
  rw [land_split a _ m _ ha hm, land_split b _ n _ hb hn, land_split c _ o _ hc ho, land_split d _ p _ hd hp]
theorem sw1 {a b c d e : Nat} (ha : a < 16) (hb : b < 16) (hc : c < 16) (hd : d < 16) (he : e < 16) : nib a b c d e - ((nib a b c d e / 2) &&& 1431655765) = nib (y4 a) (y4 b) (y4 c) (y4 d) (y4 e) := by
  have e1 : nib a b c d e / 2 = nib (a / 2 + 8 * (b % 2)) (b / 2 + 8 * (c % 2)) (c / 2 + 8 * (d % 2)) (d / 2 + 8 * (e % 2)) (e / 2) := by unfold nib; omega
  rw [e1, show 1431655765 = nib 5 5 5 5 21845 from rfl, nib_and _ _ _ _ _ _ _ _ _ _ (by omega) (by omega) (by omega) (by omega) (by decide) (by decide) (by decide) (by decide),
    t5 a ha _ (by omega), t5 b hb _ (by omega), t5 c hc _ (by omega), t5 d hd _ (by omega), t5' e he]
  have q1 := ty a ha
  have q2 := ty b hb
  have q3 := ty c hc
  have q4 := ty d hd
  have q5 := ty e he
  unfold nib y4
  omega
theorem sw2 {a b c d e : Nat} (ha : a < 16) (hb : b < 16) (hc : c < 16) (hd : d < 16) (he : e < 16) : (nib (y4 a) (y4 b) (y4 c) (y4 d) (y4 e) &&& 858993459) + ((nib (y4 a) (y4 b) (y4 c) (y4 d) (y4 e) / 4) &&& 858993459) = nib (w4 a) (w4 b) (w4 c) (w4 d) (w4 e) := by
  have q1 := ty a ha
  have q2 := ty b hb
  have q3 := ty c hc
  have q4 := ty d hd
  have q5 := ty e he
  have e1 : nib (y4 a) (y4 b) (y4 c) (y4 d) (y4 e) / 4 = nib (y4 a / 4 + 4 * (y4 b % 4)) (y4 b / 4 + 4 * (y4 c % 4)) (y4 c / 4 + 4 * (y4 d % 4)) (y4 d / 4 + 4 * (y4 e % 4)) (y4 e / 4) := by unfold nib; omega
  rw [e1, show 858993459 = nib 3 3 3 3 13107 from rfl, nib_and _ _ _ _ _ _ _ _ _ _ q1.1 q2.1 q3.1 q4.1 (by decide) (by decide) (by decide) (by decide), nib_and _ _ _ _ _ _ _ _ _ _ (by omega) (by omega) (by omega) (by omega) (by decide) (by decide) (by decide) (by decide),
    t3 a ha _ (by omega), t3 b hb _ (by omega), t3 c hc _ (by omega), t3 d hd _ (by omega), t3' e he, t3'' e he]
  unfold nib w4
  omega
theorem sw3 {a b c d e : Nat} (ha : a ≤ 4) (hb : b ≤ 4) (hc : c ≤ 4) (hd : d ≤ 4) (he : e ≤ 4) : ((nib a b c d e + nib a b c d e / 16) &&& 252645135) = (a + b) + 256 * (c + d) + 65536 * e := by
  have f1 : ∀ x, x < 16 → x &&& 15 = x := by decide
  have f2 : ∀ x, x < 16 → x &&& 3855 = x := by decide
  have e1 : nib a b c d e + nib a b c d e / 16 = nib (a + b) (b + c) (c + d) (d + e) e := by unfold nib; omega
  rw [e1, show 252645135 = nib 15 0 15 0 3855 from rfl, nib_and _ _ _ _ _ _ _ _ _ _ (by omega) (by omega) (by omega) (by omega) (by decide) (by decide) (by decide) (by decide), f1 _ (by omega), f1 _ (by omega), f2 _ (by omega), Nat.and_zero, Nat.and_zero]
  unfold nib
  omega
theorem sw5 {v s : Nat} {a c e : Nat} (hv : v = a + 256 * c + 65536 * e) (ha : a ≤ 8) (hc : c ≤ 8) (he : e ≤ 4) (hs : s = a + c + e) : ((v + v / 256) + (v + v / 256) / 65536) &&& 63 = s := by
  have h1 : v / 256 = c + 256 * e := by omega
  have h2 : v + v / 256 = (a + c) + 256 * (c + e) + 65536 * e := by omega
  have h3 : (v + v / 256) / 65536 = e := by omega
  rw [h3, h2, show 63 = 2 ^ 6 - 1 from rfl, Nat.and_two_pow_sub_one_eq_mod]
  omega
