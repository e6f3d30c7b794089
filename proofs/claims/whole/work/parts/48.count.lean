/-! ===== bitCount, and the box's count ===== -/
def b1 (x : Bool) : Nat := if x then 1 else 0
def n4 (f : Nat → Bool) (o : Nat) : Nat := b1 (f o) + 2 * b1 (f (o + 1)) + 4 * b1 (f (o + 2)) + 8 * b1 (f (o + 3))
theorem b1_b (x : Bool) : b1 x ≤ 1 := by unfold b1; split <;> omega
theorem n4_b (f : Nat → Bool) (o : Nat) : n4 f o < 16 := by
  have := b1_b (f o); have := b1_b (f (o + 1)); have := b1_b (f (o + 2)); have := b1_b (f (o + 3))
  unfold n4
  omega
theorem w4_t : ∀ p q r s : Bool, w4 (b1 p + 2 * b1 q + 4 * b1 r + 8 * b1 s) = b1 p + b1 q + b1 r + b1 s := by decide
theorem n4_w (f : Nat → Bool) (o : Nat) : w4 (n4 f o) = b1 (f o) + b1 (f (o + 1)) + b1 (f (o + 2)) + b1 (f (o + 3)) := w4_t _ _ _ _
theorem bsN_s (f : Nat → Bool) (n : Nat) : bsN f (n + 1) = bsN f n + 2 ^ n * b1 (f n) := by
  have h := Nat.two_pow_add_eq_or_of_lt (bsN_lt f n) 1
  show bsN f n ||| (if f n then 2 ^ n else 0) = _
  unfold b1
  split
  · rw [Nat.or_comm, ← show 2 ^ n * 1 ||| bsN f n = 2 ^ n ||| bsN f n by rw [Nat.mul_one], ← h, Nat.add_comm]
  · rw [Nat.or_zero, Nat.mul_zero, Nat.add_zero]
theorem bsN_nib (f : Nat → Bool) : bsN f 20 = nib (n4 f 0) (n4 f 4) (n4 f 8) (n4 f 12) (n4 f 16) := by
  simp only [bsN_s, nib, n4, Nat.reduceAdd, Nat.reducePow, Nat.zero_add]
  rw [show bsN f 0 = 0 from rfl]
  omega
theorem pins_b1 {z : Nat → Int} (h : P01 z) : ∀ n, n ≤ 20 → mPins z (n + 0) = mPins z n := fun n _ => rfl
theorem pins_s {z : Nat → Int} (h : P01 z) {t : Nat} (ht : t < 20) : z (30 + t) = ((b1 (pF z t) : Nat) : Int) := by
  have := h t ht
  unfold b1 pF
  by_cases q : z (30 + t) = 1
  · simp [q]
  · simp [q]; omega
set_option maxRecDepth 100000 in
set_option maxHeartbeats 4000000 in
theorem k_bitCount (w : AW) (f : Nat → Bool) : CTi I_J6_bitCount_0f7a4 0 0 [.int (iI (mB f))] (w) (fun x w' => x = (((w4 (n4 f 0) + w4 (n4 f 4) + w4 (n4 f 8) + w4 (n4 f 12) + w4 (n4 f 16)) : Nat) : Int) ∧ w' = w) := by
  have hX := bsN_lt f 20
  have hn := bsN_nib f
  have h0 := n4_b f 0
  have h1 := n4_b f 4
  have h2 := n4_b f 8
  have h3 := n4_b f 12
  have h4 := n4_b f 16
  have s1 := sw1 h0 h1 h2 h3 h4
  have s2 := sw2 h0 h1 h2 h3 h4
  have t0 := (ty _ h0).2.2
  have t1 := (ty _ h1).2.2
  have t2 := (ty _ h2).2.2
  have t3 := (ty _ h3).2.2
  have t4 := (ty _ h4).2.2
  have s3 := sw3 t0 t1 t2 t3 t4
  have s5 := sw5 (s := (w4 (n4 f 0) + w4 (n4 f 4) + w4 (n4 f 8) + w4 (n4 f 12) + w4 (n4 f 16))) (v := ((w4 (n4 f 0) + w4 (n4 f 4)) + 256 * (w4 (n4 f 8) + w4 (n4 f 12)) + 65536 * w4 (n4 f 16))) (a := w4 (n4 f 0) + w4 (n4 f 4)) (c := w4 (n4 f 8) + w4 (n4 f 12)) (e := w4 (n4 f 16)) rfl (by omega) (by omega) (by omega) (by omega)
  rw [← hn] at s1
  have l1 : ((bsN f 20) / 2 &&& 1431655765) ≤ (bsN f 20) / 2 := Nat.and_le_left
  have y0 := (ty _ h0).1
  have y1 := (ty _ h1).1
  have y2 := (ty _ h2).1
  have y3 := (ty _ h3).1
  have y4' := (ty _ h4).1
  have hY : (nib (y4 (n4 f 0)) (y4 (n4 f 4)) (y4 (n4 f 8)) (y4 (n4 f 12)) (y4 (n4 f 16))) < 1048576 := by unfold nib; omega
  have hW : (nib (w4 (n4 f 0)) (w4 (n4 f 4)) (w4 (n4 f 8)) (w4 (n4 f 12)) (w4 (n4 f 16))) < 1048576 := by unfold nib; omega
  have l2 : ((nib (y4 (n4 f 0)) (y4 (n4 f 4)) (y4 (n4 f 8)) (y4 (n4 f 12)) (y4 (n4 f 16))) &&& 858993459) ≤ (nib (y4 (n4 f 0)) (y4 (n4 f 4)) (y4 (n4 f 8)) (y4 (n4 f 12)) (y4 (n4 f 16))) := Nat.and_le_left
  have l3 : ((nib (y4 (n4 f 0)) (y4 (n4 f 4)) (y4 (n4 f 8)) (y4 (n4 f 12)) (y4 (n4 f 16))) / 4 &&& 858993459) ≤ (nib (y4 (n4 f 0)) (y4 (n4 f 4)) (y4 (n4 f 8)) (y4 (n4 f 12)) (y4 (n4 f 16))) / 4 := Nat.and_le_left
  have hV : ((w4 (n4 f 0) + w4 (n4 f 4)) + 256 * (w4 (n4 f 8) + w4 (n4 f 12)) + 65536 * w4 (n4 f 16)) < 1048576 := by omega
  refine CT_of 0 rfl (Nat.le_of_ble_eq_true rfl) ?_
  show EX I_J6_bitCount_0f7a4 0 0 none _ 0 [some (.int (iI (mB f)))] [] _ 0 0
  refine x_iload_n dJ6_bitCount_0f7a4_0 rfl ?_
  refine x_iload_n dJ6_bitCount_0f7a4_1 rfl ?_
  refine x_iconst dJ6_bitCount_0f7a4_2 ?_
  refine x_iushr dJ6_bitCount_0f7a4_3 (ushr_nn (bsN f 20) 1 (by omega) (by omega)) ?_
  refine x_ldcw dJ6_bitCount_0f7a4_4 kc_J6_265 ?_
  refine x_iand dJ6_bitCount_0f7a4_7 (and_nn ((bsN f 20) / 2 ^ 1) 1431655765 (by omega) (by decide)) ?_
  refine x_isub dJ6_bitCount_0f7a4_8 ?_
  refine x_top (show _ = (((nib (y4 (n4 f 0)) (y4 (n4 f 4)) (y4 (n4 f 8)) (y4 (n4 f 12)) (y4 (n4 f 16))) : Nat) : Int) from (by rw [← s1]; show (((bsN f 20) : Nat) : Int) - (((bsN f 20) / 2 &&& 1431655765 : Nat) : Int) = _; omega)) ?_
  refine x_ist0 dJ6_bitCount_0f7a4_9 ?_
  refine x_iload_n dJ6_bitCount_0f7a4_10 rfl ?_
  refine x_ldcw dJ6_bitCount_0f7a4_11 kc_J6_266 ?_
  refine x_iand dJ6_bitCount_0f7a4_14 (and_nn (nib (y4 (n4 f 0)) (y4 (n4 f 4)) (y4 (n4 f 8)) (y4 (n4 f 12)) (y4 (n4 f 16))) 858993459 (by omega) (by decide)) ?_
  refine x_iload_n dJ6_bitCount_0f7a4_15 rfl ?_
  refine x_iconst dJ6_bitCount_0f7a4_16 ?_
  refine x_iushr dJ6_bitCount_0f7a4_17 (ushr_nn (nib (y4 (n4 f 0)) (y4 (n4 f 4)) (y4 (n4 f 8)) (y4 (n4 f 12)) (y4 (n4 f 16))) 2 (by omega) (by omega)) ?_
  refine x_ldcw dJ6_bitCount_0f7a4_18 kc_J6_266 ?_
  refine x_iand dJ6_bitCount_0f7a4_21 (and_nn ((nib (y4 (n4 f 0)) (y4 (n4 f 4)) (y4 (n4 f 8)) (y4 (n4 f 12)) (y4 (n4 f 16))) / 2 ^ 2) 858993459 (by omega) (by decide)) ?_
  refine x_iadd dJ6_bitCount_0f7a4_22 ?_
  refine x_top (show _ = (((nib (w4 (n4 f 0)) (w4 (n4 f 4)) (w4 (n4 f 8)) (w4 (n4 f 12)) (w4 (n4 f 16))) : Nat) : Int) from (by rw [← s2]; show (((nib (y4 (n4 f 0)) (y4 (n4 f 4)) (y4 (n4 f 8)) (y4 (n4 f 12)) (y4 (n4 f 16))) &&& 858993459 : Nat) : Int) + (((nib (y4 (n4 f 0)) (y4 (n4 f 4)) (y4 (n4 f 8)) (y4 (n4 f 12)) (y4 (n4 f 16))) / 4 &&& 858993459 : Nat) : Int) = _; omega)) ?_
  refine x_ist0 dJ6_bitCount_0f7a4_23 ?_
  refine x_iload_n dJ6_bitCount_0f7a4_24 rfl ?_
  refine x_iload_n dJ6_bitCount_0f7a4_25 rfl ?_
  refine x_iconst dJ6_bitCount_0f7a4_26 ?_
  refine x_iushr dJ6_bitCount_0f7a4_27 (ushr_nn (nib (w4 (n4 f 0)) (w4 (n4 f 4)) (w4 (n4 f 8)) (w4 (n4 f 12)) (w4 (n4 f 16))) 4 (by omega) (by omega)) ?_
  refine x_iadd dJ6_bitCount_0f7a4_28 ?_
  refine x_top (show _ = (((nib (w4 (n4 f 0)) (w4 (n4 f 4)) (w4 (n4 f 8)) (w4 (n4 f 12)) (w4 (n4 f 16))) + (nib (w4 (n4 f 0)) (w4 (n4 f 4)) (w4 (n4 f 8)) (w4 (n4 f 12)) (w4 (n4 f 16))) / 2 ^ 4 : Nat) : Int) from rfl) ?_
  refine x_ldcw dJ6_bitCount_0f7a4_29 kc_J6_267 ?_
  refine x_iand dJ6_bitCount_0f7a4_32 (and_nn ((nib (w4 (n4 f 0)) (w4 (n4 f 4)) (w4 (n4 f 8)) (w4 (n4 f 12)) (w4 (n4 f 16))) + (nib (w4 (n4 f 0)) (w4 (n4 f 4)) (w4 (n4 f 8)) (w4 (n4 f 12)) (w4 (n4 f 16))) / 2 ^ 4) 252645135 (by omega) (by decide)) ?_
  refine x_top (show _ = ((((w4 (n4 f 0) + w4 (n4 f 4)) + 256 * (w4 (n4 f 8) + w4 (n4 f 12)) + 65536 * w4 (n4 f 16)) : Nat) : Int) from congrArg Nat.cast s3) ?_
  refine x_ist0 dJ6_bitCount_0f7a4_33 ?_
  refine x_iload_n dJ6_bitCount_0f7a4_34 rfl ?_
  refine x_iload_n dJ6_bitCount_0f7a4_35 rfl ?_
  refine x_bipush dJ6_bitCount_0f7a4_36 ?_
  refine x_iushr dJ6_bitCount_0f7a4_38 (ushr_nn ((w4 (n4 f 0) + w4 (n4 f 4)) + 256 * (w4 (n4 f 8) + w4 (n4 f 12)) + 65536 * w4 (n4 f 16)) 8 (by omega) (by omega)) ?_
  refine x_iadd dJ6_bitCount_0f7a4_39 ?_
  refine x_top (show _ = (((((w4 (n4 f 0) + w4 (n4 f 4)) + 256 * (w4 (n4 f 8) + w4 (n4 f 12)) + 65536 * w4 (n4 f 16)) + ((w4 (n4 f 0) + w4 (n4 f 4)) + 256 * (w4 (n4 f 8) + w4 (n4 f 12)) + 65536 * w4 (n4 f 16)) / 2 ^ 8) : Nat) : Int) from rfl) ?_
  refine x_ist0 dJ6_bitCount_0f7a4_40 ?_
  refine x_iload_n dJ6_bitCount_0f7a4_41 rfl ?_
  refine x_iload_n dJ6_bitCount_0f7a4_42 rfl ?_
  refine x_bipush dJ6_bitCount_0f7a4_43 ?_
  refine x_iushr dJ6_bitCount_0f7a4_45 (ushr_nn (((w4 (n4 f 0) + w4 (n4 f 4)) + 256 * (w4 (n4 f 8) + w4 (n4 f 12)) + 65536 * w4 (n4 f 16)) + ((w4 (n4 f 0) + w4 (n4 f 4)) + 256 * (w4 (n4 f 8) + w4 (n4 f 12)) + 65536 * w4 (n4 f 16)) / 2 ^ 8) 16 (by omega) (by omega)) ?_
  refine x_iadd dJ6_bitCount_0f7a4_46 ?_
  refine x_top (show _ = ((((((w4 (n4 f 0) + w4 (n4 f 4)) + 256 * (w4 (n4 f 8) + w4 (n4 f 12)) + 65536 * w4 (n4 f 16)) + ((w4 (n4 f 0) + w4 (n4 f 4)) + 256 * (w4 (n4 f 8) + w4 (n4 f 12)) + 65536 * w4 (n4 f 16)) / 2 ^ 8) + (((w4 (n4 f 0) + w4 (n4 f 4)) + 256 * (w4 (n4 f 8) + w4 (n4 f 12)) + 65536 * w4 (n4 f 16)) + ((w4 (n4 f 0) + w4 (n4 f 4)) + 256 * (w4 (n4 f 8) + w4 (n4 f 12)) + 65536 * w4 (n4 f 16)) / 2 ^ 8) / 2 ^ 16) : Nat) : Int) from rfl) ?_
  refine x_ist0 dJ6_bitCount_0f7a4_47 ?_
  refine x_iload_n dJ6_bitCount_0f7a4_48 rfl ?_
  refine x_bipush dJ6_bitCount_0f7a4_49 ?_
  refine x_iand dJ6_bitCount_0f7a4_51 (and_nn ((((w4 (n4 f 0) + w4 (n4 f 4)) + 256 * (w4 (n4 f 8) + w4 (n4 f 12)) + 65536 * w4 (n4 f 16)) + ((w4 (n4 f 0) + w4 (n4 f 4)) + 256 * (w4 (n4 f 8) + w4 (n4 f 12)) + 65536 * w4 (n4 f 16)) / 2 ^ 8) + (((w4 (n4 f 0) + w4 (n4 f 4)) + 256 * (w4 (n4 f 8) + w4 (n4 f 12)) + 65536 * w4 (n4 f 16)) + ((w4 (n4 f 0) + w4 (n4 f 4)) + 256 * (w4 (n4 f 8) + w4 (n4 f 12)) + 65536 * w4 (n4 f 16)) / 2 ^ 8) / 2 ^ 16) 63 (by omega) (by decide)) ?_
  refine x_top (show _ = (((w4 (n4 f 0) + w4 (n4 f 4) + w4 (n4 f 8) + w4 (n4 f 12) + w4 (n4 f 16)) : Nat) : Int) from congrArg Nat.cast s5) ?_
  exact x_iret dJ6_bitCount_0f7a4_52 (⟨rfl, rfl⟩)
