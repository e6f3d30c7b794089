/-! ===== the tape: reading acts ===== -/
def skp (tp : Nat → Int) (tl : Nat) : Nat → Nat → Nat
  | 0, i => i
  | r + 1, i => if i < tl ∧ tp i = 32 then skp tp tl r (i + 1) else i
def byt (tp : Nat → Int) (tl i : Nat) : Int := if i < tl then tp i else -1
def isDg (tp : Nat → Int) (tl i : Nat) : Prop := i < tl ∧ 48 ≤ tp i ∧ tp i ≤ 57
def dge (tp : Nat → Int) (tl : Nat) : Nat → Nat → Nat
  | 0, i => i
  | r + 1, i => if i < tl ∧ 48 ≤ tp i ∧ tp i ≤ 57 then dge tp tl r (i + 1) else i
def dvr (tp : Nat → Int) (tl : Nat) : Nat → Nat → Int → Int
  | 0, _, v => v
  | r + 1, i, v => if i < tl ∧ 48 ≤ tp i ∧ tp i ≤ 57 then dvr tp tl r (i + 1) (if v ≤ 9999 then 10 * v + tp i - 48 else v) else v
theorem skp_b (tp : Nat → Int) (tl : Nat) : ∀ r i, i ≤ skp tp tl r i ∧ (i ≤ tl → skp tp tl r i ≤ tl)
  | 0, i => ⟨Nat.le_refl _, fun h => h⟩
  | r + 1, i => by
    unfold skp
    split
    · have := skp_b tp tl r (i + 1)
      omega
    · exact ⟨Nat.le_refl _, fun h => h⟩
theorem dge_b (tp : Nat → Int) (tl : Nat) : ∀ r i, i ≤ dge tp tl r i ∧ (i ≤ tl → dge tp tl r i ≤ tl)
  | 0, i => ⟨Nat.le_refl _, fun h => h⟩
  | r + 1, i => by
    unfold dge
    split
    · have := dge_b tp tl r (i + 1)
      omega
    · exact ⟨Nat.le_refl _, fun h => h⟩
theorem dvr_b (tp : Nat → Int) (tl : Nat) : ∀ r i v, 0 ≤ v → v ≤ 100000 → 0 ≤ dvr tp tl r i v ∧ dvr tp tl r i v ≤ 100000
  | 0, _, v, h1, h2 => ⟨h1, h2⟩
  | r + 1, i, v, h1, h2 => by
    unfold dvr
    split
    · refine dvr_b tp tl r (i + 1) _ ?_ ?_ <;> split <;> omega
    · exact ⟨h1, h2⟩
/-- without a digit the number is what it was -/
theorem dvr_0 (tp : Nat → Int) (tl : Nat) (r i : Nat) (v : Int) (h : dge tp tl r i = i) : dvr tp tl r i v = v := by
  cases r with
  | zero => rfl
  | succ r =>
    unfold dge at h
    unfold dvr
    split
    · rename_i hc
      rw [if_pos hc] at h
      have := (dge_b tp tl r (i + 1)).1
      omega
    · rfl
def aP0 (tp : Nat → Int) (tl i : Nat) : Nat := skp tp tl 80 i
def aC (tp : Nat → Int) (tl i : Nat) : Int := byt tp tl (aP0 tp tl i)
def aP1 (tp : Nat → Int) (tl i : Nat) : Nat := skp tp tl 80 (aP0 tp tl i + 1)
def aD (tp : Nat → Int) (tl i : Nat) : Int := byt tp tl (aP1 tp tl i) - 49
def aE (tp : Nat → Int) (tl i : Nat) : Nat := dge tp tl 80 (aP1 tp tl i)
def aN (tp : Nat → Int) (tl i : Nat) : Int := dvr tp tl 80 (aP1 tp tl i) 0
def aOk (tp : Nat → Int) (tl i : Nat) : Prop := (97 ≤ aC tp tl i ∧ aC tp tl i ≤ 106 ∧ 0 ≤ aD tp tl i ∧ aD tp tl i ≤ 1) ∨ (aC tp tl i = 43 ∧ 1 ≤ aN tp tl i ∧ aN tp tl i ≤ 99) ∨ (aC tp tl i = 116 ∧ 1 ≤ aN tp tl i ∧ aN tp tl i ≤ 999)
def aK (tp : Nat → Int) (tl i : Nat) : Int := if 97 ≤ aC tp tl i ∧ aC tp tl i ≤ 106 then 0 else if aC tp tl i = 43 then 1 else 2
def aV (tp : Nat → Int) (tl i : Nat) : Int := if 97 ≤ aC tp tl i ∧ aC tp tl i ≤ 106 then 2 * (aC tp tl i - 97) + aD tp tl i else aN tp tl i
/-- where the reading stands behind an act, and where at a fault -/
def aQ (tp : Nat → Int) (tl i : Nat) : Nat := if 97 ≤ aC tp tl i ∧ aC tp tl i ≤ 106 then aP1 tp tl i + 1 else aE tp tl i
def aF (tp : Nat → Int) (tl i : Nat) : Nat := if (97 ≤ aC tp tl i ∧ aC tp tl i ≤ 106) ∨ aC tp tl i = 43 ∨ aC tp tl i = 116 then aP1 tp tl i else aP0 tp tl i
theorem byt_b {tp : Nat → Int} {tl : Nat} (hT : ∀ i, i < tl → 32 ≤ tp i ∧ tp i ≤ 126) (i : Nat) : (byt tp tl i = -1 ∧ ¬ i < tl) ∨ (32 ≤ byt tp tl i ∧ byt tp tl i ≤ 126 ∧ i < tl) := by
  unfold byt
  split
  · have := hT i (by assumption); omega
  · exact Or.inl ⟨rfl, by assumption⟩
set_option maxRecDepth 100000 in
set_option maxHeartbeats 4000000 in
theorem l_nextByte {P : AW} {a : Nat} (hP : P.length = a) (z sp : Nat → Int) (n : Nat) (sa ba : Nat → Int) (dn ah be : Int) (tp : Nat → Int) (tl ta ac : Nat) (kd nb : Nat → Int) (ik : Int) (im ln rs it : Nat → Int) (R : AW) (htl : tl ≤ 80) (hT : ∀ i, i < tl → 32 ≤ tp i ∧ tp i ≤ 126) {Z : Zt} : ∀ (r i : Nat), tl - i ≤ r → i ≤ 82 → (EX I_X6_nextByte 0 0 none Z 38 [some (.ref (a + 0))] [] (P ++ mw a z sp n sa ba dn ah be tp tl (skp tp tl r i) ac kd nb ik im ln rs it R) 0 0) → EX I_X6_nextByte 0 0 none Z 0 [some (.ref (a + 0))] [] (P ++ mw a z sp n sa ba dn ah be tp tl (i) ac kd nb ik im ln rs it R) 0 0 := by
  intro r
  induction r with
  | zero =>
    intro i hr hi hx
    refine x_aload_n dX6_nextByte_0 rfl ?_
    refine x_getfield 0 dX6_nextByte_1 fg_X6_170 hP rfl rfl ?_
    refine x_aload_n dX6_nextByte_4 rfl ?_
    refine x_getfield 0 dX6_nextByte_5 fg_X6_167 hP rfl rfl ?_
    refine x_icmp_ge 38 dX6_nextByte_8 (fun h8 => ?_) (fun h8 => by exfalso; omega)
    exact hx
  | succ r ih =>
    intro i hr hi hx
    refine x_aload_n dX6_nextByte_0 rfl ?_
    refine x_getfield 0 dX6_nextByte_1 fg_X6_170 hP rfl rfl ?_
    refine x_aload_n dX6_nextByte_4 rfl ?_
    refine x_getfield 0 dX6_nextByte_5 fg_X6_167 hP rfl rfl ?_
    refine x_icmp_ge 38 dX6_nextByte_8 (fun h8 => ?_) (fun h8 => ?_)
    · have e1 : skp tp tl (r + 1) i = i := if_neg (by omega)
      rw [e1] at hx
      exact hx
    · refine x_aload_n dX6_nextByte_11 rfl ?_
      refine x_getfield 0 dX6_nextByte_12 fg_X6_22 hP rfl rfl ?_
      refine x_aload_n dX6_nextByte_15 rfl ?_
      refine x_getfield 0 dX6_nextByte_16 fg_X6_170 hP rfl rfl ?_
      refine x_iaload 5 (i) dX6_nextByte_19 hP rfl ?_
      refine x_bipush dX6_nextByte_20 ?_
      refine x_icmp_ne 38 dX6_nextByte_22 (fun h22 => ?_) (fun h22 => ?_) (ha := by have := hT i (by omega); omega)
      · have e1 : skp tp tl (r + 1) i = i := if_neg (by omega)
        rw [e1] at hx
        exact hx
      · refine x_aload_n dX6_nextByte_25 rfl ?_
        refine x_dup dX6_nextByte_26 ?_
        refine x_getfield 0 dX6_nextByte_27 fg_X6_170 hP rfl rfl ?_
        refine x_iconst dX6_nextByte_30 ?_
        refine x_iadd dX6_nextByte_31 ?_
        refine x_putfield 0 dX6_nextByte_32 fl_X6_170 hP rfl (fun _ _ => ⟨rfl, rfl⟩) ?_
        refine x_goto 0 dX6_nextByte_35 ?_
        have e1 : skp tp tl (r + 1) i = skp tp tl r (i + 1) := if_pos ⟨by omega, h22⟩
        rw [e1] at hx
        exact ih (i + 1) (by omega) (by omega) hx
theorem skp_82 (tp : Nat → Int) {tl : Nat} (htl : tl ≤ 80) : ∀ r i, i ≤ 82 → skp tp tl r i ≤ 82
  | 0, _, h => h
  | r + 1, i, h => by
    unfold skp
    split
    · exact skp_82 tp htl r (i + 1) (by omega)
    · exact h
theorem dge_82 (tp : Nat → Int) {tl : Nat} (htl : tl ≤ 80) : ∀ r i, i ≤ 82 → dge tp tl r i ≤ 82
  | 0, _, h => h
  | r + 1, i, h => by
    unfold dge
    split
    · exact dge_82 tp htl r (i + 1) (by omega)
    · exact h
set_option maxRecDepth 100000 in
set_option maxHeartbeats 4000000 in
theorem c_nextByte {P : AW} {a : Nat} (hP : P.length = a) (z sp : Nat → Int) (n : Nat) (sa ba : Nat → Int) (dn ah be : Int) (tp : Nat → Int) (tl ta ac : Nat) (kd nb : Nat → Int) (ik : Int) (im ln rs it : Nat → Int) (R : AW) (htl : tl ≤ 80) (hT : ∀ i, i < tl → 32 ≤ tp i ∧ tp i ≤ 126) (hta : ta ≤ 82) : CTi I_X6_nextByte 0 0 [.ref (a + 0)] (P ++ mw a z sp n sa ba dn ah be tp tl ta ac kd nb ik im ln rs it R) (fun x w' => x = byt tp tl (skp tp tl 80 ta) ∧ w' = P ++ mw a z sp n sa ba dn ah be tp tl (skp tp tl 80 ta) ac kd nb ik im ln rs it R) := by
  have hsk := skp_b tp tl 80 ta
  have hsz : skp tp tl 80 ta ≤ 82 := skp_82 tp htl 80 ta hta
  refine CT_of 0 rfl (Nat.le_of_ble_eq_true rfl) ?_
  show EX I_X6_nextByte 0 0 none _ 0 [some (.ref (a + 0))] [] _ 0 0
  refine l_nextByte hP z sp n sa ba dn ah be tp tl ta ac kd nb ik im ln rs it R htl hT 80 ta (by omega) hta ?_
  refine x_aload_n dX6_nextByte_38 rfl ?_
  refine x_getfield 0 dX6_nextByte_39 fg_X6_170 hP rfl rfl ?_
  refine x_aload_n dX6_nextByte_42 rfl ?_
  refine x_getfield 0 dX6_nextByte_43 fg_X6_167 hP rfl rfl ?_
  refine x_icmp_ge 61 dX6_nextByte_46 (fun h46 => ?_) (fun h46 => ?_)
  · refine x_iconst dX6_nextByte_61 ?_
    exact x_iret dX6_nextByte_62 (⟨by unfold byt; exact (if_neg (by omega)).symm, rfl⟩)
  · refine x_aload_n dX6_nextByte_49 rfl ?_
    refine x_getfield 0 dX6_nextByte_50 fg_X6_22 hP rfl rfl ?_
    refine x_aload_n dX6_nextByte_53 rfl ?_
    refine x_getfield 0 dX6_nextByte_54 fg_X6_170 hP rfl rfl ?_
    refine x_iaload 5 (skp tp tl 80 ta) dX6_nextByte_57 hP rfl ?_
    refine x_goto 62 dX6_nextByte_58 ?_
    exact x_iret dX6_nextByte_62 (⟨by unfold byt; exact (if_pos (by omega)).symm, rfl⟩)
set_option maxRecDepth 100000 in
set_option maxHeartbeats 4000000 in
theorem l_readNumber {P : AW} {a : Nat} (hP : P.length = a) (z sp : Nat → Int) (n : Nat) (sa ba : Nat → Int) (dn ah be : Int) (tp : Nat → Int) (tl ta ac : Nat) (kd nb : Nat → Int) (ik : Int) (im ln rs it : Nat → Int) (R : AW) (htl : tl ≤ 80) (hT : ∀ i, i < tl → 32 ≤ tp i ∧ tp i ≤ 126) (m : Int) (f : Nat) {Z : Zt} : ∀ (r i : Nat) (v : Int), tl - i ≤ r → i ≤ 82 → 0 ≤ v → v ≤ 100000 → (EX I_X6_readNumber 0 0 none Z 87 [some (.ref (a + 0)), some (.int (iI m)), some (.int (iI (f : Int))), some (.int (iI (dvr tp tl r i v)))] [] (P ++ mw a z sp n sa ba dn ah be tp tl (dge tp tl r i) ac kd nb ik im ln rs it R) 0 0) → EX I_X6_readNumber 0 0 none Z 12 [some (.ref (a + 0)), some (.int (iI m)), some (.int (iI (f : Int))), some (.int (iI (v)))] [] (P ++ mw a z sp n sa ba dn ah be tp tl (i) ac kd nb ik im ln rs it R) 0 0 := by
  intro r
  induction r with
  | zero =>
    intro i v hr hi hv1 hv2 hx
    refine x_aload_n dX6_readNumber_12 rfl ?_
    refine x_getfield 0 dX6_readNumber_13 fg_X6_170 hP rfl rfl ?_
    refine x_aload_n dX6_readNumber_16 rfl ?_
    refine x_getfield 0 dX6_readNumber_17 fg_X6_167 hP rfl rfl ?_
    refine x_icmp_ge 87 dX6_readNumber_20 (fun h20 => ?_) (fun h20 => by exfalso; omega)
    exact hx
  | succ r ih =>
    intro i v hr hi hv1 hv2 hx
    refine x_aload_n dX6_readNumber_12 rfl ?_
    refine x_getfield 0 dX6_readNumber_13 fg_X6_170 hP rfl rfl ?_
    refine x_aload_n dX6_readNumber_16 rfl ?_
    refine x_getfield 0 dX6_readNumber_17 fg_X6_167 hP rfl rfl ?_
    refine x_icmp_ge 87 dX6_readNumber_20 (fun h20 => ?_) (fun h20 => ?_)
    · have e1 : dge tp tl (r + 1) i = i := if_neg (by omega)
      have e2 : dvr tp tl (r + 1) i v = v := if_neg (by omega)
      rw [e1, e2] at hx
      exact hx
    · refine x_aload_n dX6_readNumber_23 rfl ?_
      refine x_getfield 0 dX6_readNumber_24 fg_X6_22 hP rfl rfl ?_
      refine x_aload_n dX6_readNumber_27 rfl ?_
      refine x_getfield 0 dX6_readNumber_28 fg_X6_170 hP rfl rfl ?_
      refine x_iaload 5 (i) dX6_readNumber_31 hP rfl ?_
      have hti := hT i (by omega)
      refine x_i2l dX6_readNumber_32 ?_
      refine x_ldc2 dX6_readNumber_33 kl_X6_176 ?_
      refine x_ldc2 dX6_readNumber_36 kl_X6_178 ?_
      refine x_calliS dX6_readNumber_39 mk_X6_in ml_X6_43 (c_in _ (tp i) 48 57 (by omega) (by decide) (by decide)) rfl (fun x39 w39 h39 => ?_)
      obtain ⟨hb39, rfl⟩ := h39
      by_cases c39 : 48 ≤ tp i ∧ tp i ≤ 57
      · rw [if_pos c39] at hb39
        subst hb39
        refine x_if_eq 87 dX6_readNumber_42 (fun h42 => absurd h42 (by decide)) (fun h42 => ?_)
        refine x_iload_n dX6_readNumber_45 rfl ?_
        refine x_sipush dX6_readNumber_46 ?_
        refine x_icmp_le 56 dX6_readNumber_49 (fun h49 => ?_) (fun h49 => ?_)
        · refine x_bipush dX6_readNumber_56 ?_
          refine x_iload_n dX6_readNumber_58 rfl ?_
          refine x_imul dX6_readNumber_59 ?_
          refine x_aload_n dX6_readNumber_60 rfl ?_
          refine x_getfield 0 dX6_readNumber_61 fg_X6_22 hP rfl rfl ?_
          refine x_aload_n dX6_readNumber_64 rfl ?_
          refine x_getfield 0 dX6_readNumber_65 fg_X6_170 hP rfl rfl ?_
          refine x_iaload 5 (i) dX6_readNumber_68 hP rfl ?_
          refine x_iadd dX6_readNumber_69 ?_
          refine x_bipush dX6_readNumber_70 ?_
          refine x_isub dX6_readNumber_72 ?_
          refine x_ist3 dX6_readNumber_73 ?_
          refine x_aload_n dX6_readNumber_74 rfl ?_
          refine x_dup dX6_readNumber_75 ?_
          refine x_getfield 0 dX6_readNumber_76 fg_X6_170 hP rfl rfl ?_
          refine x_iconst dX6_readNumber_79 ?_
          refine x_iadd dX6_readNumber_80 ?_
          refine x_putfield 0 dX6_readNumber_81 fl_X6_170 hP rfl (fun _ _ => ⟨rfl, rfl⟩) ?_
          refine x_goto 12 dX6_readNumber_84 ?_
          have e1 : dge tp tl (r + 1) i = dge tp tl r (i + 1) := if_pos ⟨by omega, c39⟩
          have e3 : (if v ≤ 9999 then 10 * v + tp i - 48 else v) = 10 * v + tp i - 48 := if_pos h49
          have e2 : dvr tp tl (r + 1) i v = dvr tp tl r (i + 1) (if v ≤ 9999 then 10 * v + tp i - 48 else v) := if_pos ⟨by omega, c39⟩
          rw [e3] at e2
          rw [e1, e2] at hx
          exact ih (i + 1) (10 * v + tp i - 48) (by omega) (by omega) (by omega) (by omega) hx
        · refine x_iload_n dX6_readNumber_52 rfl ?_
          refine x_goto 73 dX6_readNumber_53 ?_
          refine x_ist3 dX6_readNumber_73 ?_
          refine x_aload_n dX6_readNumber_74 rfl ?_
          refine x_dup dX6_readNumber_75 ?_
          refine x_getfield 0 dX6_readNumber_76 fg_X6_170 hP rfl rfl ?_
          refine x_iconst dX6_readNumber_79 ?_
          refine x_iadd dX6_readNumber_80 ?_
          refine x_putfield 0 dX6_readNumber_81 fl_X6_170 hP rfl (fun _ _ => ⟨rfl, rfl⟩) ?_
          refine x_goto 12 dX6_readNumber_84 ?_
          have e1 : dge tp tl (r + 1) i = dge tp tl r (i + 1) := if_pos ⟨by omega, c39⟩
          have e3 : (if v ≤ 9999 then 10 * v + tp i - 48 else v) = v := if_neg h49
          have e2 : dvr tp tl (r + 1) i v = dvr tp tl r (i + 1) (if v ≤ 9999 then 10 * v + tp i - 48 else v) := if_pos ⟨by omega, c39⟩
          rw [e3] at e2
          rw [e1, e2] at hx
          exact ih (i + 1) (v) (by omega) (by omega) (by omega) (by omega) hx
      · rw [if_neg c39] at hb39
        subst hb39
        refine x_if_eq 87 dX6_readNumber_42 (fun h42 => ?_) (fun h42 => absurd h42 (by decide))
        have e1 : dge tp tl (r + 1) i = i := if_neg (by omega)
        have e2 : dvr tp tl (r + 1) i v = v := if_neg (by omega)
        rw [e1, e2] at hx
        exact hx
set_option maxRecDepth 100000 in
set_option maxHeartbeats 4000000 in
theorem c_readNumber {P : AW} {a : Nat} (hP : P.length = a) (z sp : Nat → Int) (n : Nat) (sa ba : Nat → Int) (dn ah be : Int) (tp : Nat → Int) (tl ta ac : Nat) (kd nb : Nat → Int) (ik : Int) (im ln rs it : Nat → Int) (R : AW) (htl : tl ≤ 80) (hT : ∀ i, i < tl → 32 ≤ tp i ∧ tp i ≤ 126) (hta : ta ≤ 82) (m : Int) (hm : 0 ≤ m ∧ m ≤ 999) : CTi I_X6_readNumber 0 0 [.ref (a + 0), .int (iI m)] (P ++ mw a z sp n sa ba dn ah be tp tl ta ac kd nb ik im ln rs it R) (fun x w' => x = (if 1 ≤ dvr tp tl 80 (skp tp tl 80 ta) 0 ∧ dvr tp tl 80 (skp tp tl 80 ta) 0 ≤ m then dvr tp tl 80 (skp tp tl 80 ta) 0 else -1) ∧ w' = P ++ mw a z sp n sa ba dn ah be tp tl (if 1 ≤ dvr tp tl 80 (skp tp tl 80 ta) 0 ∧ dvr tp tl 80 (skp tp tl 80 ta) 0 ≤ m then dge tp tl 80 (skp tp tl 80 ta) else (skp tp tl 80 ta)) ac kd nb ik im ln rs it R) := by
  have hsk := skp_b tp tl 80 ta
  have hsz : skp tp tl 80 ta ≤ 82 := skp_82 tp htl 80 ta hta
  have hdz := dge_82 tp htl 80 (skp tp tl 80 ta) hsz
  have hdb := dvr_b tp tl 80 (skp tp tl 80 ta) 0 (by decide) (by decide)
  refine CT_of 2 rfl (Nat.le_of_ble_eq_true rfl) ?_
  show EX I_X6_readNumber 0 0 none _ 0 [some (.ref (a + 0)), some (.int (iI m)), none, none] [] _ 0 0
  refine x_aload_n dX6_readNumber_0 rfl ?_
  refine x_calliV dX6_readNumber_1 mk_X6_nextByte ml_X6_173 (c_nextByte hP z sp n sa ba dn ah be tp tl ta ac kd nb ik im ln rs it R htl hT hta) ((wg_app hP 0).trans rfl) rfl (fun x1 w1 h1 => ?_)
  obtain ⟨rfl, rfl⟩ := h1
  refine x_pop dX6_readNumber_4 ?_
  refine x_aload_n dX6_readNumber_5 rfl ?_
  refine x_getfield 0 dX6_readNumber_6 fg_X6_170 hP rfl rfl ?_
  refine x_ist2 dX6_readNumber_9 ?_
  refine x_iconst dX6_readNumber_10 ?_
  refine x_ist3 dX6_readNumber_11 ?_
  refine l_readNumber hP z sp n sa ba dn ah be tp tl ta ac kd nb ik im ln rs it R htl hT m (skp tp tl 80 ta) 80 (skp tp tl 80 ta) 0 (by omega) hsz (by decide) (by decide) ?_
  refine x_aload_n dX6_readNumber_87 rfl ?_
  refine x_getfield 0 dX6_readNumber_88 fg_X6_170 hP rfl rfl ?_
  refine x_iload_n dX6_readNumber_91 rfl ?_
  refine x_icmp_ne 97 dX6_readNumber_92 (fun h92 => ?_) (fun h92 => ?_)
  · refine x_iload_n dX6_readNumber_97 rfl ?_
    refine x_i2l dX6_readNumber_98 ?_
    refine x_lconst dX6_readNumber_99 ?_
    refine x_iload_n dX6_readNumber_100 rfl ?_
    refine x_i2l dX6_readNumber_101 ?_
    refine x_calliS dX6_readNumber_102 mk_X6_in ml_X6_43 (c_in _ (dvr tp tl 80 (skp tp tl 80 ta) 0) 1 m (by omega) (by decide) (by omega)) rfl (fun x102 w102 h102 => ?_)
    obtain ⟨hb102, rfl⟩ := h102
    by_cases c102 : 1 ≤ dvr tp tl 80 (skp tp tl 80 ta) 0 ∧ dvr tp tl 80 (skp tp tl 80 ta) 0 ≤ m
    · rw [if_pos c102] at hb102
      subst hb102
      refine x_if_ne 115 dX6_readNumber_105 (fun h105 => ?_) (fun h105 => absurd h105 (by decide))
      refine x_iload_n dX6_readNumber_115 rfl ?_
      exact x_iret dX6_readNumber_116 (⟨(if_pos c102).symm, by rw [if_pos c102]⟩)
    · rw [if_neg c102] at hb102
      subst hb102
      refine x_if_ne 115 dX6_readNumber_105 (fun h105 => absurd h105 (by decide)) (fun h105 => ?_)
      refine x_aload_n dX6_readNumber_108 rfl ?_
      refine x_iload_n dX6_readNumber_109 rfl ?_
      refine x_putfield 0 dX6_readNumber_110 fl_X6_170 hP rfl (fun _ _ => ⟨rfl, rfl⟩) ?_
      refine x_iconst dX6_readNumber_113 ?_
      exact x_iret dX6_readNumber_114 (⟨(if_neg c102).symm, by rw [if_neg c102]; rfl⟩)
  · refine x_iconst dX6_readNumber_95 ?_
    exact x_iret dX6_readNumber_96 (⟨by rw [if_neg (by have := dvr_0 tp tl 80 (skp tp tl 80 ta) 0 (by omega); omega)], by rw [if_neg (by have := dvr_0 tp tl 80 (skp tp tl 80 ta) 0 (by omega); omega)]; rw [show dge tp tl 80 (skp tp tl 80 ta) = (skp tp tl 80 ta) by omega]⟩)
