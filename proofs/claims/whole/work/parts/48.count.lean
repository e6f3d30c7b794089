/-! ===== bitCount, and the box's count ===== -/
def b1 (x : Bool) : Nat := if x then 1 else 0
def n4 (f : Nat → Bool) (o : Nat) : Nat := b1 (f o) + 2 * b1 (f (o + 1)) + 4 * b1 (f (o + 2)) + 8 * b1 (f (o + 3))
theorem b1_b (x : Bool) : b1 x ≤ 1 := by unfold b1; split <;> omega
theorem n4_b (f : Nat → Bool) (o : Nat) : n4 f o < 16 := by
  have := b1_b (f o); have := b1_b (f (o + 1)); have := b1_b (f (o + 2)); have := b1_b (f (o + 3))
  unfold n4
  omega
theorem w4_t : ∀ p q r s : Bool, w4 (b1 p + 2 * b1 q + 4 * b1 r + 8 * b1 s) = b1 p + b1 q + b1 r + b1 s := by decide
theorem n4_w (f : Nat → Bool) (o : Nat) : w4 (n4 f o) = b1 (f o) + b1 (f (o + 1)) + b1 (f (o + 2)) + b1 (f (o + 3)) := w4_t _ _ _ _
theorem bsN_s (f : Nat → Bool) (n : Nat) : bsN f (n + 1) = bsN f n + 2 ^ n * b1 (f n) := by
  have h := Nat.two_pow_add_eq_or_of_lt (bsN_lt f n) 1
  show bsN f n ||| (if f n then 2 ^ n else 0) = _
  unfold b1
  split
  · rw [Nat.or_comm, ← show 2 ^ n * 1 ||| bsN f n = 2 ^ n ||| bsN f n by rw [Nat.mul_one], ← h, Nat.add_comm]
  · rw [Nat.or_zero, Nat.mul_zero, Nat.add_zero]
theorem bsN_nib (f : Nat → Bool) : bsN f 20 = nib (n4 f 0) (n4 f 4) (n4 f 8) (n4 f 12) (n4 f 16) := by
  simp only [bsN_s, nib, n4, Nat.reduceAdd, Nat.reducePow, Nat.zero_add]
  rw [show bsN f 0 = 0 from rfl]
  omega
theorem pins_b1 {z : Nat → Int} (h : P01 z) : ∀ n, n ≤ 20 → mPins z (n + 0) = mPins z n := fun n _ => rfl
theorem pins_s {z : Nat → Int} (h : P01 z) {t : Nat} (ht : t < 20) : z (30 + t) = ((b1 (pF z t) : Nat) : Int) := by
  have := h t ht
  unfold b1 pF
  by_cases q : z (30 + t) = 1
  · simp [q]
  · simp [q]; omega
