/-! ===== bits ===== -/
def bsN (f : Nat → Bool) : Nat → Nat
  | 0 => 0
  | n + 1 => bsN f n ||| (if f n then 2 ^ n else 0)
theorem bsN_t (f : Nat → Bool) : ∀ n i, (bsN f n).testBit i = (decide (i < n) && f i)
  | 0, i => by simp [bsN]
  | n + 1, i => by
    unfold bsN
    rw [Nat.testBit_or, bsN_t f n i]
    by_cases h : i = n
    · subst h
      by_cases hf : f i
      · simp [hf, Nat.testBit_two_pow]
      · simp [hf]
    · have e : (if f n then 2 ^ n else 0).testBit i = false := by
        split
        · rw [Nat.testBit_two_pow]; simp; omega
        · simp
      rw [e, Bool.or_false]
      have : (i < n + 1) = (i < n) := by simp; omega
      simp [this]
theorem bsN_lt (f : Nat → Bool) (n : Nat) : bsN f n < 2 ^ n := by
  apply Nat.lt_pow_two_of_testBit
  intro i hi
  rw [bsN_t]
  simp
  omega
theorem bsN_x {f g : Nat → Bool} : ∀ {n : Nat}, (∀ t, t < n → f t = g t) → bsN f n = bsN g n := by
  intro n h
  apply Nat.eq_of_testBit_eq
  intro i
  rw [bsN_t, bsN_t]
  by_cases hi : i < n
  · rw [h i hi]
  · simp [hi]
theorem bsN_0 {f : Nat → Bool} {n : Nat} : bsN f n = 0 ↔ ∀ t, t < n → f t = false := by
  constructor
  · intro h t ht
    have := bsN_t f n t
    rw [h] at this
    simp [ht] at this
    exact this
  · intro h
    rw [bsN_x (g := fun _ => false) h]
    apply Nat.eq_of_testBit_eq
    intro i
    rw [bsN_t]
    simp
def mB (f : Nat → Bool) : Int := ((bsN f 20 : Nat) : Int)
theorem mB_R (f : Nat → Bool) : 0 ≤ mB f ∧ mB f ≤ 1048575 := by
  have := bsN_lt f 20
  unfold mB
  omega
theorem mB_bv (f : Nat → Bool) (i : Nat) : (iI (mB f)).toBitVec.getLsbD i = (decide (i < 20) && f i) := by
  unfold mB
  rw [iI_bv, BitVec.getLsbD_ofNat, bsN_t]
  by_cases h : i < 20
  · have : i < 32 := by omega
    simp [this]
  · simp [h]
theorem mB_x {f g : Nat → Bool} (h : ∀ t, t < 20 → f t = g t) : mB f = mB g := by
  unfold mB
  rw [bsN_x h]
theorem mB_0 {f : Nat → Bool} : mB f = 0 ↔ ∀ t, t < 20 → f t = false := by
  rw [← bsN_0]
  unfold mB
  omega
theorem mB_mk {x : Int32} {f : Nat → Bool} (h : ∀ i, i < 32 → x.toBitVec.getLsbD i = (decide (i < 20) && f i)) : x = iI (mB f) := by
  apply Int32.toBitVec.inj
  apply BitVec.eq_of_getLsbD_eq
  intro i hi
  rw [h i hi, mB_bv]
theorem sh_amt (s : Nat) (hs : s < 32) : ((iI (s : Int)) &&& 31).toBitVec.smod 32 = BitVec.ofNat 32 s := by
  have : ∀ t : Fin 32, ((iI ((t.val : Nat) : Int)) &&& 31).toBitVec.smod 32 = BitVec.ofNat 32 t.val := by decide
  exact this ⟨s, hs⟩
theorem ofN_t {s : Nat} (hs : s < 32) : (BitVec.ofNat 32 s).toNat = s := by rw [BitVec.toNat_ofNat]; omega
/-- the bit of a song -/
theorem b1_bv (s : Nat) (hs : s < 32) (i : Nat) (hi : i < 32) : (iI 1 <<< (iI (s : Int) &&& 31)).toBitVec.getLsbD i = decide (i = s) := by
  rw [Int32.toBitVec_shiftLeft, sh_amt s hs, BitVec.shiftLeft_eq', ofN_t hs, BitVec.getLsbD_shiftLeft, show iI 1 = iI ((1 : Nat) : Int) from rfl, iI_bv, BitVec.getLsbD_ofNat]
  by_cases h : i = s
  · subst h
    simp [hi]
  · by_cases h2 : i < s
    · simp [h2, h]
    · have h3 : ¬ (i - s = 0) := by omega
      have h4 : (1 : Nat).testBit (i - s) = false := by
        rw [show (1 : Nat) = 2 ^ 0 from rfl, Nat.testBit_two_pow]
        simp
        omega
      simp [h, h4]
def bt1 (s : Int) : Int := shlI 1 s
theorem bt1_bv (s : Nat) (hs : s < 32) (i : Nat) (hi : i < 32) : (iI (bt1 (s : Int))).toBitVec.getLsbD i = decide (i = s) := by
  unfold bt1
  rw [← shl_i]
  exact b1_bv s hs i hi
/-- a song's bit, read -/
theorem bt_get (f : Nat → Bool) (s : Nat) (hs : s < 20) {v : Int} (hv : iI (mB f) >>> (iI (s : Int) &&& 31) = iI v) : iI v &&& iI 1 = iI (if f s then 1 else 0) := by
  rw [← hv]
  have e1 : iI (if f s then (1 : Int) else 0) = (if f s then iI 1 else iI 0) := by split <;> rfl
  rw [e1]
  apply Int32.toBitVec.inj
  apply BitVec.eq_of_getLsbD_eq
  intro i hi
  rw [Int32.toBitVec_and, BitVec.getLsbD_and, Int32.toBitVec_shiftRight, sh_amt s (by omega), BitVec.sshiftRight_eq', ofN_t (by omega), BitVec.getLsbD_sshiftRight, mB_bv]
  have o1 : ∀ i, (iI 1).toBitVec.getLsbD i = decide (i = 0) := by
    intro i
    rw [show iI 1 = iI ((1 : Nat) : Int) from rfl, iI_bv, BitVec.getLsbD_ofNat, show (1 : Nat) = 2 ^ 0 from rfl, Nat.testBit_two_pow]
    by_cases h : i = 0
    · subst h; simp
    · simp [h]; omega
  have o0 : ∀ i, (iI 0).toBitVec.getLsbD i = false := by
    intro i
    rw [show iI 0 = iI ((0 : Nat) : Int) from rfl, iI_bv, BitVec.getLsbD_ofNat]
    simp
  rw [o1]
  by_cases h : i = 0
  · subst h
    have a1 : s + 0 < 32 := by omega
    by_cases hf : f s
    · rw [if_pos hf, o1]
      simp [hs, hf, a1]
      omega
    · rw [if_neg hf, o0]
      simp [hf, a1]
      omega
  · by_cases hf : f s
    · rw [if_pos hf, o1]; simp [h]
    · rw [if_neg hf, o0]; simp [h]
theorem bt_and (f : Nat → Bool) (s : Nat) (hs : s < 20) : (iI (mB f) &&& iI (bt1 (s : Int))).toBitVec = 0#32 ↔ f s = false := by
  constructor
  · intro h
    have := congrArg (fun x => BitVec.getLsbD x s) h
    simp only [Int32.toBitVec_and, BitVec.getLsbD_and, mB_bv] at this
    rw [bt1_bv s (by omega) s (by omega)] at this
    simpa [hs] using this
  · intro h
    apply BitVec.eq_of_getLsbD_eq
    intro i hi
    rw [Int32.toBitVec_and, BitVec.getLsbD_and, mB_bv, bt1_bv s (by omega) i hi]
    by_cases q : i = s
    · subst q; simp [h]
    · simp [q]
def andI (x y : Int) : Int := (iI x &&& iI y).toInt
def xorI (x y : Int) : Int := (iI x ^^^ iI y).toInt
def shrI (x y : Int) : Int := (iI x >>> (iI y &&& 31)).toInt
theorem and_i (x y : Int) : iI x &&& iI y = iI (andI x y) := (iI_of _).symm
theorem xor_i (x y : Int) : iI x ^^^ iI y = iI (xorI x y) := (iI_of _).symm
theorem shr_i (x y : Int) : iI x >>> (iI y &&& 31) = iI (shrI x y) := (iI_of _).symm
theorem andI_R (x y : Int) : inR (andI x y) := iI_R _
theorem andI_0 (f : Nat → Bool) (s : Nat) (hs : s < 20) : andI (mB f) (bt1 (s : Int)) = 0 ↔ f s = false := by
  rw [← bt_and f s hs]
  unfold andI
  constructor
  · intro h
    have : (iI (mB f) &&& iI (bt1 (s : Int))) = 0 := Int32.toInt_inj.mp (by rw [h]; rfl)
    rw [this]; rfl
  · intro h
    have : (iI (mB f) &&& iI (bt1 (s : Int))) = 0 := Int32.toBitVec.inj (by rw [h]; rfl)
    rw [this]; rfl
theorem m1_bv (i : Nat) (hi : i < 32) : (iI (-1)).toBitVec.getLsbD i = true := by
  have : ∀ t : Fin 32, (iI (-1)).toBitVec.getLsbD t.val = true := by decide
  exact this ⟨i, hi⟩
theorem nb_bv (s : Nat) (hs : s < 20) (i : Nat) (hi : i < 32) : (iI (xorI (bt1 (s : Int)) (-1))).toBitVec.getLsbD i = !decide (i = s) := by
  rw [← xor_i, Int32.toBitVec_xor, BitVec.getLsbD_xor, bt1_bv s (by omega) i hi, m1_bv i hi]
  simp
theorem mB_or (f : Nat → Bool) (s : Nat) (hs : s < 20) : iI (mB f) ||| iI (bt1 (s : Int)) = iI (mB (fun t => decide (t = s) || f t)) := by
  apply mB_mk
  intro i hi
  rw [Int32.toBitVec_or, BitVec.getLsbD_or, mB_bv, bt1_bv s (by omega) i hi]
  by_cases q : i = s
  · subst q; simp [hs]
  · simp [q]
theorem mB_clr (f : Nat → Bool) (s : Nat) (hs : s < 20) : iI (mB f) &&& iI (xorI (bt1 (s : Int)) (-1)) = iI (mB (fun t => !decide (t = s) && f t)) := by
  apply mB_mk
  intro i hi
  rw [Int32.toBitVec_and, BitVec.getLsbD_and, mB_bv, nb_bv s hs i hi]
  by_cases q : i = s
  · subst q; simp
  · simp [q]
theorem mB_look (f g : Nat → Bool) (s : Nat) (hs : s < 20) : iI (mB f) &&& iI (orI (xorI (bt1 (s : Int)) (-1)) (mB g)) = iI (mB (fun t => f t && (!decide (t = s) || g t))) := by
  apply mB_mk
  intro i hi
  rw [← or_i, Int32.toBitVec_and, BitVec.getLsbD_and, Int32.toBitVec_or, BitVec.getLsbD_or, mB_bv, mB_bv, nb_bv s hs i hi]
  by_cases q : i < 20
  · simp [q]
  · simp [q]
/-! pins of z as bits -/
def pF (z : Nat → Int) : Nat → Bool := fun t => decide (z (30 + t) = 1)
def iF (z : Nat → Int) : Nat → Bool := fun t => decide (z (50 + t) = 1)
def oF (z : Nat → Int) : Nat → Bool := fun t => decide (z (50 + t) = 2)
theorem pins_0 {z : Nat → Int} (h : P01 z) : ∀ n, n ≤ 20 → (mPins z n = 0 ↔ ∀ t, t < n → z (30 + t) = 0)
  | 0, _ => by simp [mPins]
  | n + 1, hn => by
    have ih := pins_0 h n (by omega)
    have hb := mPins_b h n (by omega)
    have h1 := h n (by omega)
    simp only [mPins]
    constructor
    · intro e t ht
      by_cases q : t = n
      · rw [q]; omega
      · exact ih.mp (by omega) t (by omega)
    · intro e
      have := ih.mpr (fun t ht => e t (by omega))
      have := e n (by omega)
      omega
theorem pF_0 {z : Nat → Int} (h : P01 z) : mB (pF z) = 0 ↔ mPins z 20 = 0 := by
  rw [mB_0, pins_0 h 20 (by omega)]
  constructor
  · intro e t ht
    have h1 := e t ht
    have h2 := h t ht
    simp only [pF, decide_eq_false_iff_not] at h1
    omega
  · intro e t ht
    have := e t ht
    simp only [pF, decide_eq_false_iff_not]
    omega
theorem stk_0 (z : Nat → Int) : ∀ n, (mStk z n = 0 ↔ ∀ t, t < n → ¬ z (50 + t) = 1)
  | 0 => by simp [mStk]
  | n + 1 => by
    have ih := stk_0 z n
    have hb := mStk_b z n
    simp only [mStk]
    constructor
    · intro e t ht
      by_cases c : ¬ mStk z n = 0 ∨ z (50 + n) = 1
      · rw [if_pos c] at e; omega
      · by_cases q : t = n
        · rw [q]; omega
        · exact ih.mp (by omega) t (by omega)
    · intro e
      have h1 := ih.mpr (fun t ht => e t (by omega))
      have h2 := e n (by omega)
      exact if_neg (by omega)
theorem iF_0 (z : Nat → Int) : mB (iF z) = 0 ↔ mStk z 20 = 0 := by
  rw [mB_0, stk_0]
  constructor
  · intro e t ht
    have h1 := e t ht
    simpa [iF] using h1
  · intro e t ht
    have := e t ht
    simpa [iF] using this
