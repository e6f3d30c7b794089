/-! ===== type ===== -/
def bI (w : Int64) (i : Nat) : Int := ((w.toBitVec.toNat / 2 ^ (8 * i) % 256 : Nat) : Int)
theorem bI_b (w : Int64) (i : Nat) : 0 ≤ bI w i ∧ bI w i ≤ 255 := by
  unfold bI
  have : w.toBitVec.toNat / 2 ^ (8 * i) % 256 < 256 := Nat.mod_lt _ (by decide)
  omega
theorem lI_bv (n : Nat) : (lI (n : Int)).toBitVec = BitVec.ofNat 64 n := by
  show BitVec.ofInt 64 (n : Int) = _
  exact BitVec.ofInt_natCast 64 n
theorem iI_bv (n : Nat) : (iI (n : Int)).toBitVec = BitVec.ofNat 32 n := by
  show BitVec.ofInt 32 (n : Int) = _
  exact BitVec.ofInt_natCast 32 n
theorem bit8 (n k j : Nat) : (n / 2 ^ k % 256).testBit j = (decide (j < 8) && n.testBit (k + j)) := by
  rw [show (256 : Nat) = 2 ^ 8 from rfl, Nat.testBit_mod_two_pow, Nat.testBit_div_two_pow, Nat.add_comm]
theorem t255 (j : Nat) : (255 : Nat).testBit j = decide (j < 8) := by
  rw [show (255 : Nat) = 2 ^ 8 - 1 from rfl, Nat.testBit_two_pow_sub_one]
theorem bI_r (w : Int64) (i : Nat) (hi : i < 8) : (w >>> ((iI (8 * (i : Int))).toInt64 &&& 63)) &&& lI 255 = lI (bI w i) := by
  have e : ((iI (8 * (i : Int))).toInt64 &&& 63).toBitVec.smod 64 = BitVec.ofNat 64 (8 * i) := by
    rcases (show i = 0 ∨ i = 1 ∨ i = 2 ∨ i = 3 ∨ i = 4 ∨ i = 5 ∨ i = 6 ∨ i = 7 by omega) with rfl | rfl | rfl | rfl | rfl | rfl | rfl | rfl <;> decide
  apply Int64.toBitVec.inj
  unfold bI
  rw [Int64.toBitVec_and, Int64.toBitVec_shiftRight, e, lI_bv, show lI 255 = lI ((255 : Nat) : Int) from rfl, lI_bv]
  apply BitVec.eq_of_getLsbD_eq
  intro j hj
  have e8 : (BitVec.ofNat 64 (8 * i)).toNat = 8 * i := by rw [BitVec.toNat_ofNat]; omega
  rw [BitVec.getLsbD_and, BitVec.sshiftRight_eq', BitVec.getLsbD_sshiftRight, e8, BitVec.getLsbD_ofNat, BitVec.getLsbD_ofNat, bit8, t255]
  by_cases h8 : j < 8
  · have a1 : 8 * i + j < 64 := by omega
    have a2 : ¬ 64 ≤ j := by omega
    simp [h8, hj, a1, a2]
    rfl
  · simp [h8]
theorem bI_u (w : Int64) (i : Nat) (hi : i < 8) : (w.toUInt64 >>> ((iI (8 * (i : Int))).toInt64.toUInt64 &&& Int64.toUInt64 63)).toInt64.toInt32 &&& iI 255 = iI (bI w i) := by
  have e : ((iI (8 * (i : Int))).toInt64.toUInt64 &&& Int64.toUInt64 63).toBitVec % 64 = BitVec.ofNat 64 (8 * i) := by
    rcases (show i = 0 ∨ i = 1 ∨ i = 2 ∨ i = 3 ∨ i = 4 ∨ i = 5 ∨ i = 6 ∨ i = 7 by omega) with rfl | rfl | rfl | rfl | rfl | rfl | rfl | rfl <;> decide
  apply Int32.toBitVec.inj
  unfold bI
  rw [Int32.toBitVec_and, iI_bv, show iI 255 = iI ((255 : Nat) : Int) from rfl, iI_bv]
  apply BitVec.eq_of_getLsbD_eq
  intro j hj
  have e8 : (BitVec.ofNat 64 (8 * i)).toNat = 8 * i := by rw [BitVec.toNat_ofNat]; omega
  have e9 : (w.toUInt64 >>> ((iI (8 * (i : Int))).toInt64.toUInt64 &&& Int64.toUInt64 63)).toInt64.toInt32.toBitVec = (w.toBitVec >>> (8 * i)).setWidth 32 := by
    rw [Int64.toBitVec_toInt32, UInt64.toBitVec_toInt64, UInt64.toBitVec_shiftRight, e, BitVec.ushiftRight_eq', e8, BitVec.signExtend_eq_setWidth_of_le _ (by decide)]
    rfl
  rw [BitVec.getLsbD_and, e9, BitVec.getLsbD_ofNat, BitVec.getLsbD_ofNat, bit8, t255, BitVec.getLsbD_setWidth, BitVec.getLsbD_ushiftRight]
  by_cases h8 : j < 8
  · simp [h8, hj]
    rfl
  · simp [h8]
theorem bI_2 (w : Int64) (i : Nat) : (lI (bI w i)).toInt32 = iI (bI w i) := by
  have := bI_b w i
  apply Int32.toInt_inj.mp
  rw [iI_t ⟨by omega, by omega⟩, Int64.toInt_toInt32, lI_t ⟨by omega, by omega⟩]
  exact Int.bmod_eq_of_le (by omega) (by omega)
/-- 1: the n lowest bytes are signs -/
def tB (w : Int64) : Nat → Int
  | 0 => 1
  | n + 1 => if 32 ≤ bI w n ∧ bI w n ≤ 126 then tB w n else 0
theorem tB_b (w : Int64) : ∀ n, (tB w n = 1 ∧ ∀ i, i < n → 32 ≤ bI w i ∧ bI w i ≤ 126) ∨ (tB w n = 0 ∧ ∃ i, i < n ∧ ¬ (32 ≤ bI w i ∧ bI w i ≤ 126))
  | 0 => Or.inl ⟨rfl, fun i h => by omega⟩
  | n + 1 => by
    by_cases c : 32 ≤ bI w n ∧ bI w n ≤ 126
    · have e : tB w (n + 1) = tB w n := if_pos c
      rw [e]
      rcases tB_b w n with ⟨h1, h2⟩ | ⟨h1, i, h2, h3⟩
      · refine Or.inl ⟨h1, fun i hi => ?_⟩
        by_cases q : i = n
        · rw [q]; exact c
        · exact h2 i (by omega)
      · exact Or.inr ⟨h1, i, by omega, h3⟩
    · exact Or.inr ⟨if_neg c, n, by omega, c⟩
def wrT (w : Int64) : Nat → (Nat → Int) → Nat → (Nat → Int)
  | 0, tp, _ => tp
  | n + 1, tp, tl => wrT w n (updI tp tl (bI w n)) (tl + 1)
def rTyp (w : Int64) (n : Int) (tl : Nat) : Int := if 1 ≤ n ∧ n ≤ 8 then (if tB w n.toNat = 1 then (if (tl : Int) + n ≤ 80 then (tl : Int) + n else -3) else -1) else -1
def kTyp (w : Int64) (n : Int) (tl : Nat) : Prop := (1 ≤ n ∧ n ≤ 8) ∧ tB w n.toNat = 1 ∧ (tl : Int) + n ≤ 80
theorem x_topl {mi : MI} {mc ms : Nat} {SC : Option (Nat × (Nat → Int32))} {Z : Zt} {pc : Nat} {ls : List (Option Value)} {st : List Value} {w : AW} {k n : Nat} {x y : Int64} (h : x = y) (kk : EX mi mc ms SC Z pc ls (.long y :: st) w k n) : EX mi mc ms SC Z pc ls (.long x :: st) w k n := h ▸ kk
theorem wrT_b (w : Int64) : ∀ (n : Nat) (tp : Nat → Int) (tl : Nat), (∀ i, i < n → 32 ≤ bI w i ∧ bI w i ≤ 126) → (∀ i, i < tl → 32 ≤ tp i ∧ tp i ≤ 126) → ∀ i, i < tl + n → 32 ≤ wrT w n tp tl i ∧ wrT w n tp tl i ≤ 126
  | 0, tp, tl, _, h, i, hi => h i (by omega)
  | n + 1, tp, tl, hw, h, i, hi => by
    refine wrT_b w n (updI tp tl (bI w n)) (tl + 1) (fun i hi => hw i (by omega)) (fun j hj => ?_) i (by omega)
    unfold updI
    split
    · exact hw n (by omega)
    · exact h j (by omega)
set_option maxRecDepth 100000 in
set_option maxHeartbeats 4000000 in
theorem l_ty1 {P : AW} {a : Nat} (hP : P.length = a) (z sp : Nat → Int) (n : Nat) (sa ba : Nat → Int) (dn ah be : Int) (tp : Nat → Int) (tl ta ac : Nat) (kd nb : Nat → Int) (ik : Int) (im ln rs it : Nat → Int) (R : AW) (w : Int64) (m : Int) {Q : Int → AW → Prop} : ∀ (j : Nat), j ≤ 8 →
    (tB w j = 1 → EX I_X6_type 0 0 none (ZM 0 0 (fun r w' => ∃ x : Int, r = some (.int (iI x)) ∧ Q x w')) 55 [some (.ref (a + 0)), some (.long w), none, some (.int (iI m)), some (.int (iI (((0 : Nat) : Int) - 1)))] [] (P ++ mw a z sp n sa ba dn ah be tp tl ta ac kd nb ik im ln rs it R) 0 0) → (tB w j = 0 → Q (-1) (P ++ mw a z sp n sa ba dn ah be tp tl ta ac kd nb ik im ln rs it R)) →
    EX I_X6_type 0 0 none (ZM 0 0 (fun r w' => ∃ x : Int, r = some (.int (iI x)) ∧ Q x w')) 19 [some (.ref (a + 0)), some (.long w), none, some (.int (iI m)), some (.int (iI ((j : Int) - 1)))] [] (P ++ mw a z sp n sa ba dn ah be tp tl ta ac kd nb ik im ln rs it R) 0 0 := by
  intro j
  induction j with
  | zero =>
    intro hj hg hb
    refine x_iload dX6_type_19 rfl ?_
    refine x_if_lt 55 dX6_type_21 (fun h21 => ?_) (fun h21 => by exfalso; omega)
    exact hg rfl
  | succ j ih =>
    intro hj hg hb
    have hbb := bI_b w j
    refine x_iload dX6_type_19 rfl ?_
    refine x_if_lt 55 dX6_type_21 (fun h21 => by exfalso; omega) (fun h21 => ?_)
    refine x_lload_n dX6_type_24 rfl ?_
    refine x_bipush dX6_type_25 ?_
    refine x_iload dX6_type_27 rfl ?_
    refine x_imul dX6_type_29 ?_
    refine x_lshr dX6_type_30 ?_
    refine x_ldc2 dX6_type_31 kl_X6_161 ?_
    refine x_land dX6_type_34 ?_
    refine x_topl (y := lI (bI w j)) (by rw [show 8 * (((j + 1 : Nat) : Int) - 1) = 8 * (j : Int) by omega]; exact bI_r w j (by omega)) ?_
    refine x_ldc2 dX6_type_35 kl_X6_163 ?_
    refine x_ldc2 dX6_type_38 kl_X6_165 ?_
    refine x_calliS dX6_type_41 mk_X6_in ml_X6_43 (c_in _ (bI w j) 32 126 (by omega) (by decide) (by decide)) rfl (fun x41 w41 h41 => ?_)
    obtain ⟨hb41, rfl⟩ := h41
    by_cases c41 : 32 ≤ bI w j ∧ bI w j ≤ 126
    · rw [if_pos c41] at hb41
      subst hb41
      refine x_if_ne 49 dX6_type_44 (fun h44 => ?_) (fun h44 => absurd h44 (by decide))
      refine x_inc4 dX6_type_49 ?_
      refine x_goto 19 dX6_type_52 ?_
      have e1 : tB w (j + 1) = tB w j := if_pos c41
      rw [e1] at hg hb
      refine x_eqls (show _ = [some (.ref (a + 0)), some (.long w), none, some (.int (iI m)), some (.int (iI ((j : Int) - 1)))] by rw [show ((j + 1 : Nat) : Int) - 1 + -1 = (j : Int) - 1 by omega]) ?_
      exact ih (by omega) hg hb
    · rw [if_neg c41] at hb41
      subst hb41
      refine x_if_ne 49 dX6_type_44 (fun h44 => absurd h44 (by decide)) (fun h44 => ?_)
      refine x_iconst dX6_type_47 ?_
      exact x_iret dX6_type_48 (hb (if_neg c41))
set_option maxRecDepth 100000 in
set_option maxHeartbeats 4000000 in
theorem l_ty2 {P : AW} {a : Nat} (hP : P.length = a) (z sp : Nat → Int) (n : Nat) (sa ba : Nat → Int) (dn ah be : Int) (ta ac : Nat) (kd nb : Nat → Int) (ik : Int) (im ln rs it : Nat → Int) (R : AW) (w : Int64) (m : Int) {Z : Zt} : ∀ (j : Nat) (tp : Nat → Int) (tl : Nat), j ≤ 8 → tl + j ≤ 80 →
    (EX I_X6_type 0 0 none Z 116 [some (.ref (a + 0)), some (.long w), none, some (.int (iI m)), some (.int (iI (((0 : Nat) : Int) - 1)))] [] (P ++ mw a z sp n sa ba dn ah be (wrT w j tp tl) (tl + j) ta ac kd nb ik im ln rs it R) 0 0) →
    EX I_X6_type 0 0 none Z 74 [some (.ref (a + 0)), some (.long w), none, some (.int (iI m)), some (.int (iI ((j : Int) - 1)))] [] (P ++ mw a z sp n sa ba dn ah be tp tl ta ac kd nb ik im ln rs it R) 0 0 := by
  intro j
  induction j with
  | zero =>
    intro tp tl hj hl hx
    refine x_iload dX6_type_74 rfl ?_
    refine x_if_lt 116 dX6_type_76 (fun h76 => ?_) (fun h76 => by exfalso; omega)
    exact hx
  | succ j ih =>
    intro tp tl hj hl hx
    have hbb := bI_b w j
    refine x_iload dX6_type_74 rfl ?_
    refine x_if_lt 116 dX6_type_76 (fun h76 => by exfalso; omega) (fun h76 => ?_)
    refine x_aload_n dX6_type_79 rfl ?_
    refine x_getfield 0 dX6_type_80 fg_X6_22 hP rfl rfl ?_
    refine x_aload_n dX6_type_83 rfl ?_
    refine x_getfield 0 dX6_type_84 fg_X6_167 hP rfl rfl ?_
    refine x_lload_n dX6_type_87 rfl ?_
    refine x_bipush dX6_type_88 ?_
    refine x_iload dX6_type_90 rfl ?_
    refine x_imul dX6_type_92 ?_
    refine x_lshr dX6_type_93 ?_
    refine x_ldc2 dX6_type_94 kl_X6_161 ?_
    refine x_land dX6_type_97 ?_
    refine x_topl (y := lI (bI w j)) (by rw [show 8 * (((j + 1 : Nat) : Int) - 1) = 8 * (j : Int) by omega]; exact bI_r w j (by omega)) ?_
    refine x_l2i dX6_type_98 (bI_2 w j) ?_
    refine x_iastore 5 (tl) dX6_type_99 hP rfl ?_
    refine x_aload_n dX6_type_100 rfl ?_
    refine x_dup dX6_type_101 ?_
    refine x_getfield 0 dX6_type_102 fg_X6_167 hP rfl rfl ?_
    refine x_iconst dX6_type_105 ?_
    refine x_iadd dX6_type_106 ?_
    refine x_putfield 0 dX6_type_107 fl_X6_167 hP rfl (fun _ _ => ⟨rfl, rfl⟩) ?_
    refine x_inc4 dX6_type_110 ?_
    refine x_goto 74 dX6_type_113 ?_
    refine x_eqls (show _ = [some (.ref (a + 0)), some (.long w), none, some (.int (iI m)), some (.int (iI ((j : Int) - 1)))] by rw [show ((j + 1 : Nat) : Int) - 1 + -1 = (j : Int) - 1 by omega]) ?_
    refine x_eqw (w' := P ++ mw a z sp n sa ba dn ah be (updI tp tl (bI w j)) (tl + 1) ta ac kd nb ik im ln rs it R) rfl ?_
    rw [show tl + (j + 1) = tl + 1 + j by omega] at hx
    exact ih (updI tp tl (bI w j)) (tl + 1) (by omega) (by omega) hx
set_option maxRecDepth 100000 in
set_option maxHeartbeats 4000000 in
theorem c_type {P : AW} {a : Nat} (hP : P.length = a) (z sp : Nat → Int) (n : Nat) (sa ba : Nat → Int) (dn ah be : Int) (tp : Nat → Int) (tl ta ac : Nat) (kd nb : Nat → Int) (ik : Int) (im ln rs it : Nat → Int) (R : AW) (htl : tl ≤ 80) (w : Int64) (m : Int) (him : inR m) : CTi I_X6_type 0 0 [.ref (a + 0), .long w, .int (iI m)] (P ++ mw a z sp n sa ba dn ah be tp tl ta ac kd nb ik im ln rs it R) (fun x w' => x = rTyp w m tl ∧ (if ((1 ≤ m ∧ m ≤ 8) ∧ tB w m.toNat = 1 ∧ (tl : Int) + m ≤ 80) then P ++ mw a z sp n sa ba dn ah be (wrT w m.toNat tp tl) (tl + m.toNat) ta ac kd nb ik im ln rs it R else P ++ mw a z sp n sa ba dn ah be tp tl ta ac kd nb ik im ln rs it R) = w') := by
  refine CT_of 1 rfl (Nat.le_of_ble_eq_true rfl) ?_
  show EX I_X6_type 0 0 none _ 0 [some (.ref (a + 0)), some (.long w), none, some (.int (iI m)), none] [] _ 0 0
  refine x_iload_n dX6_type_0 rfl ?_
  refine x_i2l dX6_type_1 ?_
  refine x_lconst dX6_type_2 ?_
  refine x_ldc2 dX6_type_3 kl_X6_159 ?_
  refine x_calliS dX6_type_6 mk_X6_in ml_X6_43 (c_in _ m 1 8 him (by decide) (by decide)) rfl (fun x6 w6 h6 => ?_)
  obtain ⟨hb6, rfl⟩ := h6
  by_cases c6 : 1 ≤ m ∧ m ≤ 8
  · rw [if_pos c6] at hb6
    subst hb6
    refine x_if_ne 14 dX6_type_9 (fun h9 => ?_) (fun h9 => absurd h9 (by decide))
    refine x_iload_n dX6_type_14 rfl ?_
    refine x_iconst dX6_type_15 ?_
    refine x_isub dX6_type_16 ?_
    refine x_ist4 dX6_type_17 ?_
    refine x_eqls (show _ = [some (.ref (a + 0)), some (.long w), none, some (.int (iI m)), some (.int (iI (((m.toNat : Nat) : Int) - 1)))] by rw [show ((m.toNat : Nat) : Int) - 1 = m - 1 by omega]) ?_
    refine l_ty1 hP z sp n sa ba dn ah be tp tl ta ac kd nb ik im ln rs it R w m m.toNat (by omega) (fun ht => ?_) (fun ht => ⟨by unfold rTyp; rw [if_pos c6, if_neg (by omega)], if_neg (fun h => by omega)⟩)
    refine x_aload_n dX6_type_55 rfl ?_
    refine x_getfield 0 dX6_type_56 fg_X6_167 hP rfl rfl ?_
    refine x_iload_n dX6_type_59 rfl ?_
    refine x_iadd dX6_type_60 ?_
    refine x_bipush dX6_type_61 ?_
    refine x_icmp_le 69 dX6_type_63 (fun h63 => ?_) (fun h63 => ?_)
    · refine x_iload_n dX6_type_69 rfl ?_
      refine x_iconst dX6_type_70 ?_
      refine x_isub dX6_type_71 ?_
      refine x_ist4 dX6_type_72 ?_
      refine x_eqls (show _ = [some (.ref (a + 0)), some (.long w), none, some (.int (iI m)), some (.int (iI (((m.toNat : Nat) : Int) - 1)))] by rw [show ((m.toNat : Nat) : Int) - 1 = m - 1 by omega]) ?_
      refine l_ty2 hP z sp n sa ba dn ah be ta ac kd nb ik im ln rs it R w m m.toNat tp tl (by omega) (by omega) ?_
      refine x_aload_n dX6_type_116 rfl ?_
      refine x_getfield 0 dX6_type_117 fg_X6_167 hP rfl rfl ?_
      exact x_iret dX6_type_120 ⟨by unfold rTyp; rw [if_pos c6, if_pos ht, if_pos h63]; omega, if_pos ⟨c6, ht, h63⟩⟩
    · refine x_bipush dX6_type_66 ?_
      exact x_iret dX6_type_68 (⟨by unfold rTyp; rw [if_pos c6, if_pos ht, if_neg h63], if_neg (fun h => h63 h.2.2)⟩)
  · rw [if_neg c6] at hb6
    subst hb6
    refine x_if_ne 14 dX6_type_9 (fun h9 => absurd h9 (by decide)) (fun h9 => ?_)
    refine x_iconst dX6_type_12 ?_
    exact x_iret dX6_type_13 (⟨by unfold rTyp; rw [if_neg c6], if_neg (fun h => c6 h.1)⟩)
