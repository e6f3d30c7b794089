/-! ===== the reference's sheets and wire ===== -/
abbrev mw (a : Nat) (z sp : Nat → Int) (n : Nat) (sa ba : Nat → Int) (dn ah be : Int) (tp : Nat → Int) (tl ta ac : Nat) (kd nb : Nat → Int) (ik : Int) (im ln rs it : Nat → Int) (R : AW) : AW :=
  .inr (6, [.ref (a + 1), .ref (a + 2), .int (iI (n : Int)), .ref (a + 3), .ref (a + 4), .int (iI dn), .int (iI ah), .int (iI be), .ref (a + 5), .int (iI (tl : Int)), .int (iI (ta : Int)), .int (iI (ac : Int)), .ref (a + 6), .ref (a + 7), .int (iI ik), .ref (a + 8), .ref (a + 9), .ref (a + 10), .ref (a + 11)]) ::
    aI 0 154 z :: aI 0 154 sp :: aI 0 64 sa :: aI 0 64 ba :: aI 0 80 tp :: aI 0 80 kd :: aI 0 80 nb :: aI 0 154 im :: aI 0 4 ln :: aI 0 4 rs :: aI 0 96 it :: R
def oSh (s l : Int) : Prop := 0 ≤ s ∧ s ≤ 3 ∧ 0 ≤ l ∧ l ≤ 2
def zit (it : Nat → Int) (o k : Nat) : Nat → Int := fun j => if o ≤ j ∧ j < o + k then 0 else it j
theorem zit_s (it : Nat → Int) (o k : Nat) : updI (zit it o k) (o + k) 0 = zit it o (k + 1) := by
  funext j
  simp only [updI, zit]
  by_cases h : j = o + k
  · rw [if_pos h, if_pos (by omega)]
  · rw [if_neg h]
    by_cases h2 : o ≤ j ∧ j < o + k
    · rw [if_pos h2, if_pos (by omega)]
    · rw [if_neg h2, if_neg (by omega)]
theorem zit_0 (it : Nat → Int) (o : Nat) : zit it o 0 = it := by
  funext j
  simp only [zit]
  rw [if_neg (by omega)]
def rSh (s l n : Int) : Int := if 0 ≤ s ∧ s ≤ 3 ∧ 0 ≤ l ∧ l ≤ 2 ∧ n ≤ 24 then (if 0 ≤ n then n else -14) else -1
def kSh (s l n : Int) : Prop := 0 ≤ s ∧ s ≤ 3 ∧ 0 ≤ l ∧ l ≤ 2 ∧ 0 ≤ n ∧ n ≤ 24
def rDrop (ln rs : Nat → Int) (s : Int) : Int := if 0 ≤ s ∧ s ≤ 3 then (if 0 ≤ ln s.toNat then rs s.toNat else -11) else -1
def sDrop (ln : Nat → Int) (s : Int) : Nat → Int := if (0 ≤ s ∧ s ≤ 3) ∧ 0 ≤ ln s.toNat then updI ln s.toNat (-1) else ln
def rLack (ln rs : Nat → Int) (s l f m : Int) : Int := if ln s.toNat = l then (if 0 ≤ f ∧ f ≤ rs s.toNat - m then 0 else -13) else (if 0 ≤ ln s.toNat then -12 else -11)
def sx8 (v : Int) : Int := (iI v).toInt8.toInt
def sx16 (v : Int) : Int := (iI v).toInt16.toInt
theorem sx8_R (v : Int) : -128 ≤ sx8 v ∧ sx8 v ≤ 127 := by
  have h1 := Int8.le_toInt (iI v).toInt8
  have h2 := Int8.toInt_lt (iI v).toInt8
  unfold sx8
  omega
theorem sx16_R (v : Int) : -32768 ≤ sx16 v ∧ sx16 v ≤ 32767 := by
  have h1 := Int16.le_toInt (iI v).toInt16
  have h2 := Int16.toInt_lt (iI v).toInt16
  unfold sx16
  omega
theorem sx8_i (v : Int) : (iI v).toInt8.toInt32 = iI (sx8 v) := by
  apply Int32.toInt_inj.mp
  rw [Int8.toInt_toInt32, iI_t (by have := sx8_R v; omega)]
  rfl
theorem sx16_i (v : Int) : (iI v).toInt16.toInt32 = iI (sx16 v) := by
  apply Int32.toInt_inj.mp
  rw [Int16.toInt_toInt32, iI_t (by have := sx16_R v; omega)]
  rfl
def shlI (x k : Int) : Int := (iI x <<< (iI k &&& 31)).toInt
def orI (x y : Int) : Int := (iI x ||| iI y).toInt
theorem shl_i (x k : Int) : iI x <<< (iI k &&& 31) = iI (shlI x k) := (iI_of _).symm
theorem or_i (x y : Int) : iI x ||| iI y = iI (orI x y) := (iI_of _).symm
theorem shlI_R (x k : Int) : inR (shlI x k) := iI_R _
theorem orI_R (x y : Int) : inR (orI x y) := iI_R _
theorem sx8_s (v : Int) : iI (shlI v 24) >>> (iI 24 &&& 31) = iI (sx8 v) := by
  rw [← shl_i, ← sx8_i]
  have e24 : iI 24 &&& 31 = 24 := by decide
  rw [e24]
  apply Int32.toBitVec.inj
  generalize (iI v) = x
  rw [Int32.toBitVec_shiftRight, Int32.toBitVec_shiftLeft]
  have e1 : ((24 : Int32).toBitVec.smod 32) = 24#32 := by decide
  rw [e1]
  apply BitVec.eq_of_getLsbD_eq
  intro i hi
  simp only [BitVec.sshiftRight_eq', BitVec.getLsbD_sshiftRight, BitVec.shiftLeft_eq', BitVec.getLsbD_shiftLeft, BitVec.msb_shiftLeft, Int32.toBitVec_toInt8, Int8.toBitVec_toInt32, BitVec.getLsbD_signExtend, BitVec.getLsbD_setWidth, BitVec.msb_setWidth]
  have t24 : (24#32).toNat = 24 := by decide
  simp only [t24]
  by_cases h8 : i < 8
  · have a1 : 24 + i < 32 := by omega
    have a2 : ¬ (24 + i < 24) := by omega
    have a3 : ¬ (32 ≤ i) := by omega
    have a4 : 24 + i - 24 = i := by omega
    simp [h8, a1, a2, a3, a4, hi]
  · have a1 : ¬ (24 + i < 32) := by omega
    have a3 : ¬ (32 ≤ i) := by omega
    simp [h8, a1, a3, hi, BitVec.msb_eq_getLsbD_last, BitVec.getMsbD, BitVec.getLsbD_signExtend, BitVec.getElem_signExtend]
theorem sx16_s (v : Int) : iI (shlI v 16) >>> (iI 16 &&& 31) = iI (sx16 v) := by
  rw [← shl_i, ← sx16_i]
  have e24 : iI 16 &&& 31 = 16 := by decide
  rw [e24]
  apply Int32.toBitVec.inj
  generalize (iI v) = x
  rw [Int32.toBitVec_shiftRight, Int32.toBitVec_shiftLeft]
  have e1 : ((16 : Int32).toBitVec.smod 32) = 16#32 := by decide
  rw [e1]
  apply BitVec.eq_of_getLsbD_eq
  intro i hi
  simp only [BitVec.sshiftRight_eq', BitVec.getLsbD_sshiftRight, BitVec.shiftLeft_eq', BitVec.getLsbD_shiftLeft, BitVec.msb_shiftLeft, Int32.toBitVec_toInt16, Int16.toBitVec_toInt32, BitVec.getLsbD_signExtend, BitVec.getLsbD_setWidth, BitVec.msb_setWidth]
  have t24 : (16#32).toNat = 16 := by decide
  simp only [t24]
  by_cases h8 : i < 16
  · have a1 : 16 + i < 32 := by omega
    have a2 : ¬ (16 + i < 16) := by omega
    have a3 : ¬ (32 ≤ i) := by omega
    have a4 : 16 + i - 16 = i := by omega
    simp [h8, a1, a2, a3, a4, hi]
  · have a1 : ¬ (16 + i < 32) := by omega
    have a3 : ¬ (32 ≤ i) := by omega
    simp [h8, a1, a3, hi, BitVec.msb_eq_getLsbD_last, BitVec.getMsbD, BitVec.getLsbD_signExtend, BitVec.getElem_signExtend]
def cutI (l v : Int) : Int := if l = 0 then sx8 v else if l = 1 then sx16 v else v
def rItem (ln rs : Nat → Int) (s l i : Int) : Int := if 0 ≤ s ∧ s ≤ 3 ∧ 0 ≤ l ∧ l ≤ 2 then (if rLack ln rs s l i 1 < 0 then rLack ln rs s l i 1 else 1) else -1
def sItem (ln rs it : Nat → Int) (s l i v : Int) : Nat → Int := if (0 ≤ s ∧ s ≤ 3 ∧ 0 ≤ l ∧ l ≤ 2) ∧ ¬ rLack ln rs s l i 1 < 0 then updI it ((24 * s).toNat + i.toNat) (cutI l v) else it
/-- what holds of the sheets -/
def SH (ln rs it : Nat → Int) : Prop := (∀ i, -1 ≤ ln i ∧ ln i ≤ 2) ∧ (∀ i, 0 ≤ rs i ∧ rs i ≤ 24) ∧ ∀ i, inR (it i)
set_option maxRecDepth 100000 in
set_option maxHeartbeats 4000000 in
theorem c_isSheet (w : AW) (s l : Int) (his : inR s) (hil : inR l) : CTi I_X6_isSheet 0 0 [.int (iI s), .int (iI l)] (w) (fun x w' => x = (if 0 ≤ s ∧ s ≤ 3 ∧ 0 ≤ l ∧ l ≤ 2 then 1 else 0) ∧ w' = w) := by
  refine CT_of 0 rfl (Nat.le_of_ble_eq_true rfl) ?_
  show EX I_X6_isSheet 0 0 none _ 0 [some (.int (iI s)), some (.int (iI l))] [] _ 0 0
  refine x_iload_n dX6_isSheet_0 rfl ?_
  refine x_i2l dX6_isSheet_1 ?_
  refine x_lconst dX6_isSheet_2 ?_
  refine x_ldc2 dX6_isSheet_3 kl_X6_107 ?_
  refine x_calliS dX6_isSheet_6 mk_X6_in ml_X6_43 (c_in _ s 0 3 his (by decide) (by decide)) rfl (fun x6 w6 h6 => ?_)
  obtain ⟨hb6, rfl⟩ := h6
  by_cases c6 : 0 ≤ s ∧ s ≤ 3
  · rw [if_pos c6] at hb6
    subst hb6
    refine x_if_eq 28 dX6_isSheet_9 (fun h9 => absurd h9 (by decide)) (fun h9 => ?_)
    refine x_iload_n dX6_isSheet_12 rfl ?_
    refine x_i2l dX6_isSheet_13 ?_
    refine x_lconst dX6_isSheet_14 ?_
    refine x_ldc2 dX6_isSheet_15 kl_X6_70 ?_
    refine x_calliS dX6_isSheet_18 mk_X6_in ml_X6_43 (c_in _ l 0 2 hil (by decide) (by decide)) rfl (fun x18 w18 h18 => ?_)
    obtain ⟨hb18, rfl⟩ := h18
    by_cases c18 : 0 ≤ l ∧ l ≤ 2
    · rw [if_pos c18] at hb18
      subst hb18
      refine x_if_eq 28 dX6_isSheet_21 (fun h21 => absurd h21 (by decide)) (fun h21 => ?_)
      refine x_iconst dX6_isSheet_24 ?_
      refine x_goto 29 dX6_isSheet_25 ?_
      exact x_zret dX6_isSheet_29 (by omega) (⟨by (repeat' split) <;> omega, rfl⟩)
    · rw [if_neg c18] at hb18
      subst hb18
      refine x_if_eq 28 dX6_isSheet_21 (fun h21 => ?_) (fun h21 => absurd h21 (by decide))
      refine x_iconst dX6_isSheet_28 ?_
      exact x_zret dX6_isSheet_29 (by omega) (⟨by (repeat' split) <;> omega, rfl⟩)
  · rw [if_neg c6] at hb6
    subst hb6
    refine x_if_eq 28 dX6_isSheet_9 (fun h9 => ?_) (fun h9 => absurd h9 (by decide))
    refine x_iconst dX6_isSheet_28 ?_
    exact x_zret dX6_isSheet_29 (by omega) (⟨by (repeat' split) <;> omega, rfl⟩)
set_option maxRecDepth 100000 in
set_option maxHeartbeats 4000000 in
theorem c_lacksRow {P : AW} {a : Nat} (hP : P.length = a) (z sp : Nat → Int) (n : Nat) (sa ba : Nat → Int) (dn ah be : Int) (tp : Nat → Int) (tl ta ac : Nat) (kd nb : Nat → Int) (ik : Int) (im ln rs it : Nat → Int) (R : AW) (hSh : SH ln rs it) (s l f m : Int) (hs : 0 ≤ s ∧ s ≤ 3) (hil : inR l) (hif : inR f) (hm : 0 ≤ m ∧ m ≤ 20) : CTi I_X6_lacksRow 0 0 [.ref (a + 0), .int (iI s), .int (iI l), .int (iI f), .int (iI m)] (P ++ mw a z sp n sa ba dn ah be tp tl ta ac kd nb ik im ln rs it R) (fun x w' => x = rLack ln rs s l f m ∧ w' = P ++ mw a z sp n sa ba dn ah be tp tl ta ac kd nb ik im ln rs it R) := by
  have hl1 := hSh.1 s.toNat
  have hr1 := hSh.2.1 s.toNat
  refine CT_of 0 rfl (Nat.le_of_ble_eq_true rfl) ?_
  show EX I_X6_lacksRow 0 0 none _ 0 [some (.ref (a + 0)), some (.int (iI s)), some (.int (iI l)), some (.int (iI f)), some (.int (iI m))] [] _ 0 0
  refine x_aload_n dX6_lacksRow_0 rfl ?_
  refine x_getfield 0 dX6_lacksRow_1 fg_X6_34 hP rfl rfl ?_
  refine x_iload_n dX6_lacksRow_4 rfl ?_
  refine x_iaload 9 (s.toNat) dX6_lacksRow_5 hP rfl ?_
  refine x_iload_n dX6_lacksRow_6 rfl ?_
  refine x_icmp_eq 27 dX6_lacksRow_7 (fun h7 => ?_) (fun h7 => ?_) (ha := by omega)
  · refine x_iload_n dX6_lacksRow_27 rfl ?_
    refine x_i2l dX6_lacksRow_28 ?_
    refine x_lconst dX6_lacksRow_29 ?_
    refine x_aload_n dX6_lacksRow_30 rfl ?_
    refine x_getfield 0 dX6_lacksRow_31 fg_X6_37 hP rfl rfl ?_
    refine x_iload_n dX6_lacksRow_34 rfl ?_
    refine x_iaload 10 (s.toNat) dX6_lacksRow_35 hP rfl ?_
    refine x_iload dX6_lacksRow_36 rfl ?_
    refine x_isub dX6_lacksRow_38 ?_
    refine x_i2l dX6_lacksRow_39 ?_
    refine x_calliS dX6_lacksRow_40 mk_X6_in ml_X6_43 (c_in _ f 0 (rs s.toNat - m) hif (by decide) (by omega)) rfl (fun x40 w40 h40 => ?_)
    obtain ⟨hb40, rfl⟩ := h40
    by_cases c40 : 0 ≤ f ∧ f ≤ rs s.toNat - m
    · rw [if_pos c40] at hb40
      subst hb40
      refine x_if_eq 50 dX6_lacksRow_43 (fun h43 => absurd h43 (by decide)) (fun h43 => ?_)
      refine x_iconst dX6_lacksRow_46 ?_
      refine x_goto 52 dX6_lacksRow_47 ?_
      exact x_iret dX6_lacksRow_52 (⟨by unfold rLack; (repeat' split) <;> first | rfl | omega | (exfalso; omega), rfl⟩)
    · rw [if_neg c40] at hb40
      subst hb40
      refine x_if_eq 50 dX6_lacksRow_43 (fun h43 => ?_) (fun h43 => absurd h43 (by decide))
      refine x_bipush dX6_lacksRow_50 ?_
      exact x_iret dX6_lacksRow_52 (⟨by unfold rLack; (repeat' split) <;> first | rfl | omega | (exfalso; omega), rfl⟩)
  · refine x_aload_n dX6_lacksRow_10 rfl ?_
    refine x_getfield 0 dX6_lacksRow_11 fg_X6_34 hP rfl rfl ?_
    refine x_iload_n dX6_lacksRow_14 rfl ?_
    refine x_iaload 9 (s.toNat) dX6_lacksRow_15 hP rfl ?_
    refine x_if_ge 24 dX6_lacksRow_16 (fun h16 => ?_) (fun h16 => ?_) (ha := by omega)
    · refine x_bipush dX6_lacksRow_24 ?_
      exact x_iret dX6_lacksRow_26 (⟨by unfold rLack; (repeat' split) <;> first | rfl | omega | (exfalso; omega), rfl⟩)
    · refine x_bipush dX6_lacksRow_19 ?_
      refine x_goto 26 dX6_lacksRow_21 ?_
      exact x_iret dX6_lacksRow_26 (⟨by unfold rLack; (repeat' split) <;> first | rfl | omega | (exfalso; omega), rfl⟩)
set_option maxRecDepth 100000 in
set_option maxHeartbeats 4000000 in
theorem c_drop {P : AW} {a : Nat} (hP : P.length = a) (z sp : Nat → Int) (n : Nat) (sa ba : Nat → Int) (dn ah be : Int) (tp : Nat → Int) (tl ta ac : Nat) (kd nb : Nat → Int) (ik : Int) (im ln rs it : Nat → Int) (R : AW) (hSh : SH ln rs it) (s : Int) (his : inR s) : CTi I_X6_drop 0 0 [.ref (a + 0), .int (iI s)] (P ++ mw a z sp n sa ba dn ah be tp tl ta ac kd nb ik im ln rs it R) (fun x w' => x = rDrop ln rs s ∧ w' = P ++ mw a z sp n sa ba dn ah be tp tl ta ac kd nb ik im (sDrop ln s) rs it R) := by
  have hl1 := hSh.1 s.toNat
  have hr1 := hSh.2.1 s.toNat
  refine CT_of 0 rfl (Nat.le_of_ble_eq_true rfl) ?_
  show EX I_X6_drop 0 0 none _ 0 [some (.ref (a + 0)), some (.int (iI s))] [] _ 0 0
  refine x_iload_n dX6_drop_0 rfl ?_
  refine x_i2l dX6_drop_1 ?_
  refine x_lconst dX6_drop_2 ?_
  refine x_ldc2 dX6_drop_3 kl_X6_107 ?_
  refine x_calliS dX6_drop_6 mk_X6_in ml_X6_43 (c_in _ s 0 3 his (by decide) (by decide)) rfl (fun x6 w6 h6 => ?_)
  obtain ⟨hb6, rfl⟩ := h6
  by_cases c6 : 0 ≤ s ∧ s ≤ 3
  · rw [if_pos c6] at hb6
    subst hb6
    refine x_if_ne 14 dX6_drop_9 (fun h9 => ?_) (fun h9 => absurd h9 (by decide))
    refine x_aload_n dX6_drop_14 rfl ?_
    refine x_getfield 0 dX6_drop_15 fg_X6_34 hP rfl rfl ?_
    refine x_iload_n dX6_drop_18 rfl ?_
    refine x_iaload 9 (s.toNat) dX6_drop_19 hP rfl ?_
    refine x_if_ge 26 dX6_drop_20 (fun h20 => ?_) (fun h20 => ?_) (ha := by omega)
    · refine x_aload_n dX6_drop_26 rfl ?_
      refine x_getfield 0 dX6_drop_27 fg_X6_34 hP rfl rfl ?_
      refine x_iload_n dX6_drop_30 rfl ?_
      refine x_iconst dX6_drop_31 ?_
      refine x_iastore 9 (s.toNat) dX6_drop_32 hP rfl ?_
      refine x_aload_n dX6_drop_33 rfl ?_
      refine x_getfield 0 dX6_drop_34 fg_X6_37 hP rfl rfl ?_
      refine x_iload_n dX6_drop_37 rfl ?_
      refine x_iaload 10 (s.toNat) dX6_drop_38 hP rfl ?_
      exact x_iret dX6_drop_39 (⟨by unfold rDrop; (repeat' split) <;> first | rfl | omega | (exfalso; omega), by unfold sDrop; (repeat' split) <;> first | rfl | (exfalso; omega)⟩)
    · refine x_bipush dX6_drop_23 ?_
      exact x_iret dX6_drop_25 (⟨by unfold rDrop; (repeat' split) <;> first | rfl | omega | (exfalso; omega), by unfold sDrop; (repeat' split) <;> first | rfl | (exfalso; omega)⟩)
  · rw [if_neg c6] at hb6
    subst hb6
    refine x_if_ne 14 dX6_drop_9 (fun h9 => absurd h9 (by decide)) (fun h9 => ?_)
    refine x_iconst dX6_drop_12 ?_
    exact x_iret dX6_drop_13 (⟨by unfold rDrop; (repeat' split) <;> first | rfl | omega | (exfalso; omega), by unfold sDrop; (repeat' split) <;> first | rfl | (exfalso; omega)⟩)
set_option maxRecDepth 100000 in
set_option maxHeartbeats 4000000 in
theorem c_item {P : AW} {a : Nat} (hP : P.length = a) (z sp : Nat → Int) (n : Nat) (sa ba : Nat → Int) (dn ah be : Int) (tp : Nat → Int) (tl ta ac : Nat) (kd nb : Nat → Int) (ik : Int) (im ln rs it : Nat → Int) (R : AW) (hSh : SH ln rs it) (s l i v : Int) (his : inR s) (hil : inR l) (hii : inR i) : CTi I_X6_item 0 0 [.ref (a + 0), .int (iI s), .int (iI l), .int (iI i), .int (iI v)] (P ++ mw a z sp n sa ba dn ah be tp tl ta ac kd nb ik im ln rs it R) (fun x w' => x = rItem ln rs s l i ∧ w' = P ++ mw a z sp n sa ba dn ah be tp tl ta ac kd nb ik im ln rs (sItem ln rs it s l i v) R) := by
  have hl1 := hSh.1 s.toNat
  have hr1 := hSh.2.1 s.toNat
  refine CT_of 1 rfl (Nat.le_of_ble_eq_true rfl) ?_
  show EX I_X6_item 0 0 none _ 0 [some (.ref (a + 0)), some (.int (iI s)), some (.int (iI l)), some (.int (iI i)), some (.int (iI v)), none] [] _ 0 0
  refine x_iload_n dX6_item_0 rfl ?_
  refine x_iload_n dX6_item_1 rfl ?_
  refine x_calliS dX6_item_2 mk_X6_isSheet ml_X6_132 (c_isSheet _ s l his hil) rfl (fun x2 w2 h2 => ?_)
  obtain ⟨hb2, rfl⟩ := h2
  by_cases c2 : 0 ≤ s ∧ s ≤ 3 ∧ 0 ≤ l ∧ l ≤ 2
  · rw [if_pos c2] at hb2
    subst hb2
    refine x_if_ne 10 dX6_item_5 (fun h5 => ?_) (fun h5 => absurd h5 (by decide))
    refine x_aload_n dX6_item_10 rfl ?_
    refine x_iload_n dX6_item_11 rfl ?_
    refine x_iload_n dX6_item_12 rfl ?_
    refine x_iload_n dX6_item_13 rfl ?_
    refine x_iconst dX6_item_14 ?_
    refine x_calliV dX6_item_15 mk_X6_lacksRow ml_X6_136 (c_lacksRow hP z sp n sa ba dn ah be tp tl ta ac kd nb ik im ln rs it R hSh s l i 1 (by omega) hil hii (by decide)) ((wg_app hP 0).trans rfl) rfl (fun x15 w15 h15 => ?_)
    obtain ⟨rfl, rfl⟩ := h15
    have hlr : rLack ln rs s l i 1 = 0 ∨ rLack ln rs s l i 1 = -13 ∨ rLack ln rs s l i 1 = -12 ∨ rLack ln rs s l i 1 = -11 := by unfold rLack; (repeat' split) <;> omega
    have hl0 : ¬ rLack ln rs s l i 1 < 0 → 0 ≤ i ∧ i ≤ rs s.toNat - 1 := by unfold rLack; (repeat' split) <;> omega
    refine x_ist5 dX6_item_18 ?_
    refine x_iload dX6_item_20 rfl ?_
    refine x_if_ge 28 dX6_item_22 (fun h22 => ?_) (fun h22 => ?_) (ha := by omega)
    · refine x_aload_n dX6_item_28 rfl ?_
      refine x_getfield 0 dX6_item_29 fg_X6_40 hP rfl rfl ?_
      refine x_bipush dX6_item_32 ?_
      refine x_iload_n dX6_item_34 rfl ?_
      refine x_imul dX6_item_35 ?_
      refine x_iload_n dX6_item_36 rfl ?_
      refine x_iadd dX6_item_37 ?_
      refine x_iload_n dX6_item_38 rfl ?_
      refine x_if_ne 53 dX6_item_39 (fun h39 => ?_) (fun h39 => ?_)
      · refine x_iload_n dX6_item_53 rfl ?_
        refine x_iconst dX6_item_54 ?_
        refine x_icmp_ne 69 dX6_item_55 (fun h55 => ?_) (fun h55 => ?_)
        · refine x_iload dX6_item_69 rfl ?_
          refine x_iastore 11 ((24 * s).toNat + i.toNat) dX6_item_71 hP rfl ?_
          refine x_iconst dX6_item_72 ?_
          exact x_iret dX6_item_73 (⟨by unfold rItem; (repeat' split) <;> first | rfl | omega | (exfalso; omega), by unfold sItem cutI; (repeat' split) <;> first | rfl | (exfalso; omega)⟩)
        · refine x_iload dX6_item_58 rfl ?_
          refine x_bipush dX6_item_60 ?_
          refine x_ishl dX6_item_62 (shl_i v 16) ?_
          refine x_bipush dX6_item_63 ?_
          refine x_ishr dX6_item_65 (sx16_s v) ?_
          refine x_goto 71 dX6_item_66 ?_
          refine x_iastore 11 ((24 * s).toNat + i.toNat) dX6_item_71 hP rfl ?_
          refine x_iconst dX6_item_72 ?_
          exact x_iret dX6_item_73 (⟨by unfold rItem; (repeat' split) <;> first | rfl | omega | (exfalso; omega), by unfold sItem cutI; (repeat' split) <;> first | rfl | (exfalso; omega)⟩)
      · refine x_iload dX6_item_42 rfl ?_
        refine x_bipush dX6_item_44 ?_
        refine x_ishl dX6_item_46 (shl_i v 24) ?_
        refine x_bipush dX6_item_47 ?_
        refine x_ishr dX6_item_49 (sx8_s v) ?_
        refine x_goto 71 dX6_item_50 ?_
        refine x_iastore 11 ((24 * s).toNat + i.toNat) dX6_item_71 hP rfl ?_
        refine x_iconst dX6_item_72 ?_
        exact x_iret dX6_item_73 (⟨by unfold rItem; (repeat' split) <;> first | rfl | omega | (exfalso; omega), by unfold sItem cutI; (repeat' split) <;> first | rfl | (exfalso; omega)⟩)
    · refine x_iload dX6_item_25 rfl ?_
      exact x_iret dX6_item_27 (⟨by unfold rItem; (repeat' split) <;> first | rfl | omega | (exfalso; omega), by unfold sItem cutI; (repeat' split) <;> first | rfl | (exfalso; omega)⟩)
  · rw [if_neg c2] at hb2
    subst hb2
    refine x_if_ne 10 dX6_item_5 (fun h5 => absurd h5 (by decide)) (fun h5 => ?_)
    refine x_iconst dX6_item_8 ?_
    exact x_iret dX6_item_9 (⟨by unfold rItem; (repeat' split) <;> first | rfl | omega | (exfalso; omega), by unfold sItem cutI; (repeat' split) <;> first | rfl | (exfalso; omega)⟩)
set_option maxRecDepth 100000 in
set_option maxHeartbeats 4000000 in
theorem l_sheet {P : AW} {a : Nat} (hP : P.length = a) (z sp : Nat → Int) (n : Nat) (sa ba : Nat → Int) (dn ah be : Int) (tp : Nat → Int) (tl ta ac : Nat) (kd nb : Nat → Int) (ik : Int) (im ln rs it : Nat → Int) (R : AW) (s l m : Int) (hs : 0 ≤ s ∧ s ≤ 3) {Z : Zt} (hx : EX I_X6_sheet 0 0 none Z 66 [some (.ref (a + 0)), some (.int (iI s)), some (.int (iI l)), some (.int (iI m)), some (.int (iI ((24 : Nat) : Int)))] [] (P ++ mw a z sp n sa ba dn ah be tp tl ta ac kd nb ik im ln rs (zit it (24 * s).toNat (24)) R) 0 0) : ∀ (r k : Nat), k + r = 24 → EX I_X6_sheet 0 0 none Z 40 [some (.ref (a + 0)), some (.int (iI s)), some (.int (iI l)), some (.int (iI m)), some (.int (iI ((k : Nat) : Int)))] [] (P ++ mw a z sp n sa ba dn ah be tp tl ta ac kd nb ik im ln rs (zit it (24 * s).toNat (k)) R) 0 0 := by
  intro r
  induction r with
  | zero =>
    intro k hs
    have hs' : k = 24 := by omega
    subst hs'
    refine x_iload dX6_sheet_40 rfl ?_
    refine x_bipush dX6_sheet_42 ?_
    refine x_icmp_ge 66 dX6_sheet_44 (fun h44 => ?_) (fun h44 => by exfalso; omega)
    exact hx
  | succ r ih =>
    intro k hk
    refine x_iload dX6_sheet_40 rfl ?_
    refine x_bipush dX6_sheet_42 ?_
    refine x_icmp_ge 66 dX6_sheet_44 (fun h44 => by exfalso; omega) (fun h44 => ?_)
    refine x_aload_n dX6_sheet_47 rfl ?_
    refine x_getfield 0 dX6_sheet_48 fg_X6_40 hP rfl rfl ?_
    refine x_bipush dX6_sheet_51 ?_
    refine x_iload_n dX6_sheet_53 rfl ?_
    refine x_imul dX6_sheet_54 ?_
    refine x_iload dX6_sheet_55 rfl ?_
    refine x_iadd dX6_sheet_57 ?_
    refine x_iconst dX6_sheet_58 ?_
    refine x_iastore 11 ((24 * s).toNat + k) dX6_sheet_59 hP rfl ?_
    refine x_eqw (w' := P ++ mw a z sp n sa ba dn ah be tp tl ta ac kd nb ik im ln rs (zit it (24 * s).toNat (k + 1)) R) (by rw [← zit_s]; rfl) ?_
    refine x_inc4 dX6_sheet_60 ?_
    refine x_goto 40 dX6_sheet_63 ?_
    exact ih (k + 1) (by omega)
set_option maxRecDepth 100000 in
set_option maxHeartbeats 4000000 in
theorem c_sheet {P : AW} {a : Nat} (hP : P.length = a) (z sp : Nat → Int) (n : Nat) (sa ba : Nat → Int) (dn ah be : Int) (tp : Nat → Int) (tl ta ac : Nat) (kd nb : Nat → Int) (ik : Int) (im ln rs it : Nat → Int) (R : AW) (s l m : Int) (his : inR s) (hil : inR l) (him : inR m) : CTi I_X6_sheet 0 0 [.ref (a + 0), .int (iI s), .int (iI l), .int (iI m)] (P ++ mw a z sp n sa ba dn ah be tp tl ta ac kd nb ik im ln rs it R) (fun x w' => x = rSh s l m ∧ (if 0 ≤ s ∧ s ≤ 3 ∧ 0 ≤ l ∧ l ≤ 2 ∧ 0 ≤ m ∧ m ≤ 24 then P ++ mw a z sp n sa ba dn ah be tp tl ta ac kd nb ik im (updI ln s.toNat l) (updI rs s.toNat m) (zit it (24 * s).toNat 24) R else P ++ mw a z sp n sa ba dn ah be tp tl ta ac kd nb ik im ln rs it R) = w') := by
  refine CT_of 1 rfl (Nat.le_of_ble_eq_true rfl) ?_
  show EX I_X6_sheet 0 0 none _ 0 [some (.ref (a + 0)), some (.int (iI s)), some (.int (iI l)), some (.int (iI m)), none] [] _ 0 0
  refine x_iload_n dX6_sheet_0 rfl ?_
  refine x_iload_n dX6_sheet_1 rfl ?_
  refine x_calliS dX6_sheet_2 mk_X6_isSheet ml_X6_132 (c_isSheet _ s l his hil) rfl (fun x2 w2 h2 => ?_)
  obtain ⟨hb2, rfl⟩ := h2
  by_cases c2 : 0 ≤ s ∧ s ≤ 3 ∧ 0 ≤ l ∧ l ≤ 2
  · rw [if_pos c2] at hb2
    subst hb2
    refine x_if_eq 14 dX6_sheet_5 (fun h5 => absurd h5 (by decide)) (fun h5 => ?_)
    refine x_iload_n dX6_sheet_8 rfl ?_
    refine x_bipush dX6_sheet_9 ?_
    refine x_icmp_le 16 dX6_sheet_11 (fun h11 => ?_) (fun h11 => ?_)
    · refine x_iload_n dX6_sheet_16 rfl ?_
      refine x_if_ge 23 dX6_sheet_17 (fun h17 => ?_) (fun h17 => ?_)
      · refine x_aload_n dX6_sheet_23 rfl ?_
        refine x_getfield 0 dX6_sheet_24 fg_X6_34 hP rfl rfl ?_
        refine x_iload_n dX6_sheet_27 rfl ?_
        refine x_iload_n dX6_sheet_28 rfl ?_
        refine x_iastore 9 (s.toNat) dX6_sheet_29 hP rfl ?_
        refine x_aload_n dX6_sheet_30 rfl ?_
        refine x_getfield 0 dX6_sheet_31 fg_X6_37 hP rfl rfl ?_
        refine x_iload_n dX6_sheet_34 rfl ?_
        refine x_iload_n dX6_sheet_35 rfl ?_
        refine x_iastore 10 (s.toNat) dX6_sheet_36 hP rfl ?_
        refine x_iconst dX6_sheet_37 ?_
        refine x_ist4 dX6_sheet_38 ?_
        refine x_eqw (w' := P ++ mw a z sp n sa ba dn ah be tp tl ta ac kd nb ik im (updI ln s.toNat l) (updI rs s.toNat m) (zit it (24 * s).toNat 0) R) (by rw [zit_0]; rfl) ?_
        refine l_sheet hP z sp n sa ba dn ah be tp tl ta ac kd nb ik im (updI ln s.toNat l) (updI rs s.toNat m) it R s l m (by omega) ?_ 24 0 rfl
        refine x_iload_n dX6_sheet_66 rfl ?_
        exact x_iret dX6_sheet_67 ⟨by unfold rSh; (repeat' split) <;> first | rfl | omega | (exfalso; omega), if_pos (by omega)⟩
      · refine x_bipush dX6_sheet_20 ?_
        exact x_iret dX6_sheet_22 (⟨by unfold rSh; (repeat' split) <;> first | rfl | omega | (exfalso; omega), by first | (exact if_neg (by omega)) | rfl⟩)
    · refine x_iconst dX6_sheet_14 ?_
      exact x_iret dX6_sheet_15 (⟨by unfold rSh; (repeat' split) <;> first | rfl | omega | (exfalso; omega), by first | (exact if_neg (by omega)) | rfl⟩)
  · rw [if_neg c2] at hb2
    subst hb2
    refine x_if_eq 14 dX6_sheet_5 (fun h5 => ?_) (fun h5 => absurd h5 (by decide))
    refine x_iconst dX6_sheet_14 ?_
    exact x_iret dX6_sheet_15 (⟨by unfold rSh; (repeat' split) <;> first | rfl | omega | (exfalso; omega), by first | (exact if_neg (by omega)) | rfl⟩)
set_option maxRecDepth 100000 in
set_option maxHeartbeats 4000000 in
theorem c_image {P : AW} {a : Nat} (hP : P.length = a) (z sp : Nat → Int) (n : Nat) (sa ba : Nat → Int) (dn ah be : Int) (tp : Nat → Int) (tl ta ac : Nat) (kd nb : Nat → Int) (ik : Int) (im ln rs it : Nat → Int) (R : AW) : CTi I_X6_image 0 0 [.ref (a + 0)] (P ++ mw a z sp n sa ba dn ah be tp tl ta ac kd nb ik im ln rs it R) (fun x w' => x = 1 ∧ w' = P ++ mw a z sp n sa ba dn ah be tp tl ta ac kd nb (1) (z) ln rs it R) := by
  refine CT_of 0 rfl (Nat.le_of_ble_eq_true rfl) ?_
  show EX I_X6_image 0 0 none _ 0 [some (.ref (a + 0))] [] _ 0 0
  refine x_aload_n dX6_image_0 rfl ?_
  refine x_aload_n dX6_image_1 rfl ?_
  refine x_getfield 0 dX6_image_2 fg_X6_31 hP rfl rfl ?_
  refine x_callvV dX6_image_5 mk_X6_keep ml_X6_109 (c_keep8 hP _ z im _ _ _ _ _ _ _) ((wg_app hP 0).trans rfl) rfl (fun w5 h5 => ?_)
  subst h5
  refine x_aload_n dX6_image_8 rfl ?_
  refine x_iconst dX6_image_9 ?_
  refine x_putfield 0 dX6_image_10 fl_X6_202 hP rfl (fun _ _ => bfit (Or.inr rfl)) ?_
  refine x_iconst dX6_image_13 ?_
  exact x_iret dX6_image_14 (⟨rfl, rfl⟩)
set_option maxRecDepth 100000 in
set_option maxHeartbeats 4000000 in
theorem c_restore {P : AW} {a : Nat} (hP : P.length = a) (z sp : Nat → Int) (n : Nat) (sa ba : Nat → Int) (dn ah be : Int) (tp : Nat → Int) (tl ta ac : Nat) (kd nb : Nat → Int) (ik : Int) (im ln rs it : Nat → Int) (R : AW) (hik : ik = 0 ∨ ik = 1) : CTi I_X6_restore 0 0 [.ref (a + 0)] (P ++ mw a z sp n sa ba dn ah be tp tl ta ac kd nb ik im ln rs it R) (fun x w' => x = (if ik = 0 then -4 else 1) ∧ w' = (if ik = 0 then P ++ mw a z sp n sa ba dn ah be tp tl ta ac kd nb ik im ln rs it R else P ++ mw a (im) sp n sa ba dn ah be tp tl ta ac kd nb ik im ln rs it R)) := by
  refine CT_of 0 rfl (Nat.le_of_ble_eq_true rfl) ?_
  show EX I_X6_restore 0 0 none _ 0 [some (.ref (a + 0))] [] _ 0 0
  refine x_aload_n dX6_restore_0 rfl ?_
  refine x_getfield 0 dX6_restore_1 fg_X6_202 hP rfl rfl ?_
  refine x_if_ne 10 dX6_restore_4 (fun h4 => ?_) (fun h4 => ?_) (ha := by omega)
  · refine x_aload_n dX6_restore_10 rfl ?_
    refine x_aload_n dX6_restore_11 rfl ?_
    refine x_getfield 0 dX6_restore_12 fg_X6_31 hP rfl rfl ?_
    refine x_callvV dX6_restore_15 mk_X6_bring ml_X6_120 (c_bring8 hP _ z im _ _ _ _ _ _ _) ((wg_app hP 0).trans rfl) rfl (fun w15 h15 => ?_)
    subst h15
    refine x_iconst dX6_restore_18 ?_
    exact x_iret dX6_restore_19 (⟨by (repeat' split) <;> omega, by first | (exact (if_pos h4).symm) | (exact (if_neg h4).symm)⟩)
  · refine x_bipush dX6_restore_7 ?_
    exact x_iret dX6_restore_9 (⟨by (repeat' split) <;> omega, by first | (exact (if_pos h4).symm) | (exact (if_neg h4).symm)⟩)
