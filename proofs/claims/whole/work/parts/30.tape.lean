/-! ===== the class: Tape ===== -/
abbrev tw (a : Nat) (tp : Nat → Int) (tl ta ac : Nat) (kd nb : Nat → Int) (R : AW) : AW :=
  .inr (2, [.ref (a + 1), .int (iI (tl : Int)), .int (iI (ta : Int)), .ref (a + 2), .ref (a + 3), .int (iI (ac : Int))]) :: aI 1 80 tp :: aI 0 40 kd :: aI 0 40 nb :: R
theorem sx8_id {v : Int} (h : -128 ≤ v ∧ v ≤ 127) : (iI v).toInt8.toInt32 = iI v := by
  rw [sx8_i]
  have : sx8 v = v := by
    unfold sx8
    rw [Int32.toInt_toInt8, iI_t (by omega)]
    exact Int.bmod_eq_of_le (by omega) (by omega)
  rw [this]
theorem aF_b (tp : Nat → Int) {tl : Nat} (htl : tl ≤ 80) {i : Nat} (hi : i ≤ 80) (hT : ∀ i, i < tl → 32 ≤ tp i ∧ tp i ≤ 126) : aF tp tl i ≤ 82 := by
  have h0 := aP_b tp htl (i := i) (by omega)
  have hc := byt_b hT (aP0 tp tl i)
  have hc' : aC tp tl i = byt tp tl (aP0 tp tl i) := rfl
  unfold aF
  split
  · exact skp_82 tp htl 80 _ (by omega)
  · omega
/-- the number as the class keeps it: above all bounds it stays so -/
def dvc (tp : Nat → Int) (tl : Nat) : Nat → Nat → Int → Int
  | 0, _, v => v
  | r + 1, i, v => if i < tl ∧ 48 ≤ tp i ∧ tp i ≤ 57 then dvc tp tl r (i + 1) (min (10 * v + tp i - 48) 1000) else v
theorem dvc_b (tp : Nat → Int) (tl : Nat) : ∀ r i v, 0 ≤ v → v ≤ 1000 → 0 ≤ dvc tp tl r i v ∧ dvc tp tl r i v ≤ 1000
  | 0, _, v, h1, h2 => ⟨h1, h2⟩
  | r + 1, i, v, h1, h2 => by
    unfold dvc
    split
    · exact dvc_b tp tl r (i + 1) _ (by omega) (by omega)
    · exact ⟨h1, h2⟩
theorem dvc_r (tp : Nat → Int) (tl : Nat) : ∀ r i (v u : Int), 0 ≤ v → 0 ≤ u → ((v = u ∧ v ≤ 999) ∨ (v = 1000 ∧ 1000 ≤ u)) → (dvc tp tl r i v = dvr tp tl r i u ∧ dvc tp tl r i v ≤ 999) ∨ (dvc tp tl r i v = 1000 ∧ 1000 ≤ dvr tp tl r i u)
  | 0, _, v, u, _, _, h => h
  | r + 1, i, v, u, h0, h1, h => by
    by_cases c : i < tl ∧ 48 ≤ tp i ∧ tp i ≤ 57
    · rw [show dvc tp tl (r + 1) i v = dvc tp tl r (i + 1) (min (10 * v + tp i - 48) 1000) from if_pos c, show dvr tp tl (r + 1) i u = dvr tp tl r (i + 1) (if u ≤ 9999 then 10 * u + tp i - 48 else u) from if_pos c]
      refine dvc_r tp tl r (i + 1) _ _ (by omega) (by split <;> omega) ?_
      split <;> omega
    · rw [show dvc tp tl (r + 1) i v = v from if_neg c, show dvr tp tl (r + 1) i u = u from if_neg c]
      exact h
set_option maxRecDepth 100000 in
set_option maxHeartbeats 4000000 in
theorem k_append {P : AW} {a : Nat} (hP : P.length = a) (tp : Nat → Int) (tl ta ac : Nat) (kd nb : Nat → Int) (R : AW) (htl : tl < 80) (s : Int) (hs : 32 ≤ s ∧ s ≤ 126) : CTv I_X2_append 0 0 [.ref (a + 0), .int (iI s)] (P ++ tw a tp tl ta ac kd nb R) (fun w' => w' = P ++ tw a (updI tp tl s) (tl + 1) ta ac kd nb R) := by
  refine CT_of 0 rfl (Nat.le_of_ble_eq_true rfl) ?_
  show EX I_X2_append 0 0 none _ 0 [some (.ref (a + 0)), some (.int (iI s))] [] _ 0 0
  refine x_aload_n dX2_append_0 rfl ?_
  refine x_getfield 0 dX2_append_1 fg_X2_15 hP rfl rfl ?_
  refine x_bipush dX2_append_4 ?_
  refine x_icmp_ge 30 dX2_append_6 (fun h6 => by exfalso; omega) (fun h6 => ?_)
  refine x_aload_n dX2_append_9 rfl ?_
  refine x_getfield 0 dX2_append_10 fg_X2_9 hP rfl rfl ?_
  refine x_aload_n dX2_append_13 rfl ?_
  refine x_getfield 0 dX2_append_14 fg_X2_15 hP rfl rfl ?_
  refine x_iload_n dX2_append_17 rfl ?_
  refine x_i2b dX2_append_18 (sx8_id (by omega)) ?_
  refine x_bastore 1 (tl) dX2_append_19 hP rfl ?_
  refine x_aload_n dX2_append_20 rfl ?_
  refine x_dup dX2_append_21 ?_
  refine x_getfield 0 dX2_append_22 fg_X2_15 hP rfl rfl ?_
  refine x_iconst dX2_append_25 ?_
  refine x_iadd dX2_append_26 ?_
  refine x_putfield 0 dX2_append_27 fl_X2_15 hP rfl (fun _ _ => ⟨rfl, rfl⟩) ?_
  exact x_vret dX2_append_30 (rfl)
set_option maxRecDepth 100000 in
set_option maxHeartbeats 4000000 in
theorem k_addAct {P : AW} {a : Nat} (hP : P.length = a) (tp : Nat → Int) (tl ta ac : Nat) (kd nb : Nat → Int) (R : AW) (hac : ac < 40) (k v : Int) : CTv I_X2_addAct 0 0 [.ref (a + 0), .int (iI k), .int (iI v)] (P ++ tw a tp tl ta ac kd nb R) (fun w' => w' = P ++ tw a tp tl ta (ac + 1) (updI kd ac k) (updI nb ac v) R) := by
  refine CT_of 0 rfl (Nat.le_of_ble_eq_true rfl) ?_
  show EX I_X2_addAct 0 0 none _ 0 [some (.ref (a + 0)), some (.int (iI k)), some (.int (iI v))] [] _ 0 0
  refine x_aload_n dX2_addAct_0 rfl ?_
  refine x_getfield 0 dX2_addAct_1 fg_X2_29 hP rfl rfl ?_
  refine x_bipush dX2_addAct_4 ?_
  refine x_icmp_ge 39 dX2_addAct_6 (fun h6 => by exfalso; omega) (fun h6 => ?_)
  refine x_aload_n dX2_addAct_9 rfl ?_
  refine x_getfield 0 dX2_addAct_10 fg_X2_22 hP rfl rfl ?_
  refine x_aload_n dX2_addAct_13 rfl ?_
  refine x_getfield 0 dX2_addAct_14 fg_X2_29 hP rfl rfl ?_
  refine x_iload_n dX2_addAct_17 rfl ?_
  refine x_iastore 2 (ac) dX2_addAct_18 hP rfl ?_
  refine x_aload_n dX2_addAct_19 rfl ?_
  refine x_getfield 0 dX2_addAct_20 fg_X2_26 hP rfl rfl ?_
  refine x_aload_n dX2_addAct_23 rfl ?_
  refine x_getfield 0 dX2_addAct_24 fg_X2_29 hP rfl rfl ?_
  refine x_iload_n dX2_addAct_27 rfl ?_
  refine x_iastore 3 (ac) dX2_addAct_28 hP rfl ?_
  refine x_aload_n dX2_addAct_29 rfl ?_
  refine x_dup dX2_addAct_30 ?_
  refine x_getfield 0 dX2_addAct_31 fg_X2_29 hP rfl rfl ?_
  refine x_iconst dX2_addAct_34 ?_
  refine x_iadd dX2_addAct_35 ?_
  refine x_putfield 0 dX2_addAct_36 fl_X2_29 hP rfl (fun _ _ => ⟨rfl, rfl⟩) ?_
  exact x_vret dX2_addAct_39 (rfl)
set_option maxRecDepth 100000 in
set_option maxHeartbeats 4000000 in
theorem lk_peek {P : AW} {a : Nat} (hP : P.length = a) (tp : Nat → Int) (tl ta ac : Nat) (kd nb : Nat → Int) (R : AW) (htl : tl ≤ 80) (hT : ∀ i, i < tl → 32 ≤ tp i ∧ tp i ≤ 126) {Z : Zt} : ∀ (r i : Nat), tl - i ≤ r → i ≤ 82 → (EX I_X2_peek 0 0 none Z 47 [some (.ref (a + 0))] [] (P ++ tw a tp tl (skp tp tl r i) ac kd nb R) 0 0) → EX I_X2_peek 0 0 none Z 0 [some (.ref (a + 0))] [] (P ++ tw a tp tl (i) ac kd nb R) 0 0 := by
  intro r
  induction r with
  | zero =>
    intro i hr hi hx
    refine x_aload_n dX2_peek_0 rfl ?_
    refine x_getfield 0 dX2_peek_1 fg_X2_19 hP rfl rfl ?_
    refine x_aload_n dX2_peek_4 rfl ?_
    refine x_getfield 0 dX2_peek_5 fg_X2_15 hP rfl rfl ?_
    refine x_icmp_ge 47 dX2_peek_8 (fun h8 => ?_) (fun h8 => by exfalso; omega)
    exact hx
  | succ r ih =>
    intro i hr hi hx
    refine x_aload_n dX2_peek_0 rfl ?_
    refine x_getfield 0 dX2_peek_1 fg_X2_19 hP rfl rfl ?_
    refine x_aload_n dX2_peek_4 rfl ?_
    refine x_getfield 0 dX2_peek_5 fg_X2_15 hP rfl rfl ?_
    refine x_icmp_ge 47 dX2_peek_8 (fun h8 => ?_) (fun h8 => ?_)
    · have e1 : skp tp tl (r + 1) i = i := if_neg (by omega)
      rw [e1] at hx
      exact hx
    · refine x_aload_n dX2_peek_11 rfl ?_
      refine x_getfield 0 dX2_peek_12 fg_X2_19 hP rfl rfl ?_
      refine x_bipush dX2_peek_15 ?_
      refine x_icmp_ge 47 dX2_peek_17 (fun h17 => by exfalso; omega) (fun h17 => ?_)
      refine x_aload_n dX2_peek_20 rfl ?_
      refine x_getfield 0 dX2_peek_21 fg_X2_9 hP rfl rfl ?_
      refine x_aload_n dX2_peek_24 rfl ?_
      refine x_getfield 0 dX2_peek_25 fg_X2_19 hP rfl rfl ?_
      refine x_baload 1 (i) dX2_peek_28 hP rfl ?_
      refine x_bipush dX2_peek_29 ?_
      refine x_icmp_ne 47 dX2_peek_31 (fun h31 => ?_) (fun h31 => ?_) (ha := by have := hT i (by omega); omega)
      · have e1 : skp tp tl (r + 1) i = i := if_neg (by omega)
        rw [e1] at hx
        exact hx
      · refine x_aload_n dX2_peek_34 rfl ?_
        refine x_dup dX2_peek_35 ?_
        refine x_getfield 0 dX2_peek_36 fg_X2_19 hP rfl rfl ?_
        refine x_iconst dX2_peek_39 ?_
        refine x_iadd dX2_peek_40 ?_
        refine x_putfield 0 dX2_peek_41 fl_X2_19 hP rfl (fun _ _ => ⟨rfl, rfl⟩) ?_
        refine x_goto 0 dX2_peek_44 ?_
        have e1 : skp tp tl (r + 1) i = skp tp tl r (i + 1) := if_pos ⟨by omega, by omega⟩
        rw [e1] at hx
        exact ih (i + 1) (by omega) (by omega) hx
set_option maxRecDepth 100000 in
set_option maxHeartbeats 4000000 in
theorem k_peek {P : AW} {a : Nat} (hP : P.length = a) (tp : Nat → Int) (tl ta ac : Nat) (kd nb : Nat → Int) (R : AW) (htl : tl ≤ 80) (hT : ∀ i, i < tl → 32 ≤ tp i ∧ tp i ≤ 126) (hta : ta ≤ 82) : CTi I_X2_peek 0 0 [.ref (a + 0)] (P ++ tw a tp tl ta ac kd nb R) (fun x w' => x = byt tp tl (skp tp tl 80 ta) ∧ w' = P ++ tw a tp tl (skp tp tl 80 ta) ac kd nb R) := by
  have hsk := skp_b tp tl 80 ta
  have hsz : skp tp tl 80 ta ≤ 82 := skp_82 tp htl 80 ta hta
  refine CT_of 0 rfl (Nat.le_of_ble_eq_true rfl) ?_
  show EX I_X2_peek 0 0 none _ 0 [some (.ref (a + 0))] [] _ 0 0
  refine lk_peek hP tp tl ta ac kd nb R htl hT 80 ta (by omega) hta ?_
  refine x_aload_n dX2_peek_47 rfl ?_
  refine x_getfield 0 dX2_peek_48 fg_X2_19 hP rfl rfl ?_
  refine x_aload_n dX2_peek_51 rfl ?_
  refine x_getfield 0 dX2_peek_52 fg_X2_15 hP rfl rfl ?_
  refine x_icmp_ge 79 dX2_peek_55 (fun h55 => ?_) (fun h55 => ?_)
  · refine x_iconst dX2_peek_79 ?_
    exact x_iret dX2_peek_80 (⟨by unfold byt; exact (if_neg (by omega)).symm, rfl⟩)
  · refine x_aload_n dX2_peek_58 rfl ?_
    refine x_getfield 0 dX2_peek_59 fg_X2_19 hP rfl rfl ?_
    refine x_bipush dX2_peek_62 ?_
    refine x_icmp_ge 79 dX2_peek_64 (fun h64 => by exfalso; omega) (fun h64 => ?_)
    refine x_aload_n dX2_peek_67 rfl ?_
    refine x_getfield 0 dX2_peek_68 fg_X2_9 hP rfl rfl ?_
    refine x_aload_n dX2_peek_71 rfl ?_
    refine x_getfield 0 dX2_peek_72 fg_X2_19 hP rfl rfl ?_
    refine x_baload 1 (skp tp tl 80 ta) dX2_peek_75 hP rfl ?_
    refine x_goto 80 dX2_peek_76 ?_
    exact x_iret dX2_peek_80 (⟨by unfold byt; exact (if_pos (by omega)).symm, rfl⟩)
set_option maxRecDepth 100000 in
set_option maxHeartbeats 4000000 in
theorem k_readSide {P : AW} {a : Nat} (hP : P.length = a) (tp : Nat → Int) (tl ta ac : Nat) (kd nb : Nat → Int) (R : AW) (htl : tl ≤ 80) (hT : ∀ i, i < tl → 32 ≤ tp i ∧ tp i ≤ 126) (hta : ta ≤ 81) (hac : ac < 40) (p : Int) (hp : 0 ≤ p ∧ p ≤ 9) : CTi I_X2_readSide 0 0 [.ref (a + 0), .int (iI p)] (P ++ tw a tp tl ta ac kd nb R) (fun x w' => (x = 0 ∧ (0 ≤ byt tp tl (skp tp tl 80 ta) - 49 ∧ byt tp tl (skp tp tl 80 ta) - 49 ≤ 1) ∧ w' = P ++ tw a tp tl ((skp tp tl 80 ta) + 1) (ac + 1) (updI kd ac 0) (updI nb ac (2 * p + byt tp tl (skp tp tl 80 ta) - 49)) R) ∨ (x = -20 - ((skp tp tl 80 ta) : Nat) ∧ ¬ (0 ≤ byt tp tl (skp tp tl 80 ta) - 49 ∧ byt tp tl (skp tp tl 80 ta) - 49 ≤ 1) ∧ w' = P ++ tw a tp tl ((skp tp tl 80 ta)) ac kd nb R)) := by
  have hta : ta ≤ 82 := by omega
  have hsk := skp_b tp tl 80 ta
  have hsz : skp tp tl 80 ta ≤ 82 := skp_82 tp htl 80 ta hta
  have hbb := byt_b hT (skp tp tl 80 ta)
  refine CT_of 1 rfl (Nat.le_of_ble_eq_true rfl) ?_
  show EX I_X2_readSide 0 0 none _ 0 [some (.ref (a + 0)), some (.int (iI p)), none] [] _ 0 0
  refine x_aload_n dX2_readSide_0 rfl ?_
  refine x_calliV dX2_readSide_1 mk_X2_peek ml_X2_36 (k_peek hP tp tl ta ac kd nb R htl hT hta) ((wg_app hP 0).trans rfl) rfl (fun x1 w1 h1 => ?_)
  obtain ⟨rfl, rfl⟩ := h1
  refine x_ist2 dX2_readSide_4 ?_
  refine x_iload_n dX2_readSide_5 rfl ?_
  refine x_bipush dX2_readSide_6 ?_
  refine x_icmp_eq 25 dX2_readSide_8 (fun h8 => ?_) (fun h8 => ?_) (ha := by omega)
  · refine x_aload_n dX2_readSide_25 rfl ?_
    refine x_dup dX2_readSide_26 ?_
    refine x_getfield 0 dX2_readSide_27 fg_X2_19 hP rfl rfl ?_
    refine x_iconst dX2_readSide_30 ?_
    refine x_iadd dX2_readSide_31 ?_
    refine x_putfield 0 dX2_readSide_32 fl_X2_19 hP rfl (fun _ _ => ⟨rfl, rfl⟩) ?_
    refine x_eqw (w' := P ++ tw a tp tl ((skp tp tl 80 ta) + 1) ac kd nb R) rfl ?_
    refine x_aload_n dX2_readSide_35 rfl ?_
    refine x_iconst dX2_readSide_36 ?_
    refine x_iconst dX2_readSide_37 ?_
    refine x_iload_n dX2_readSide_38 rfl ?_
    refine x_imul dX2_readSide_39 ?_
    refine x_iload_n dX2_readSide_40 rfl ?_
    refine x_iadd dX2_readSide_41 ?_
    refine x_bipush dX2_readSide_42 ?_
    refine x_isub dX2_readSide_44 ?_
    refine x_callvV dX2_readSide_45 mk_X2_addAct ml_X2_47 (k_addAct hP tp tl ((skp tp tl 80 ta) + 1) ac kd nb R hac 0 (2 * p + byt tp tl (skp tp tl 80 ta) - 49)) ((wg_app hP 0).trans rfl) rfl (fun w45 h45 => ?_)
    subst h45
    refine x_iconst dX2_readSide_48 ?_
    exact x_iret dX2_readSide_49 (Or.inl ⟨rfl, by omega, rfl⟩)
  · refine x_iload_n dX2_readSide_11 rfl ?_
    refine x_bipush dX2_readSide_12 ?_
    refine x_icmp_eq 25 dX2_readSide_14 (fun h14 => ?_) (fun h14 => ?_) (ha := by omega)
    · refine x_aload_n dX2_readSide_25 rfl ?_
      refine x_dup dX2_readSide_26 ?_
      refine x_getfield 0 dX2_readSide_27 fg_X2_19 hP rfl rfl ?_
      refine x_iconst dX2_readSide_30 ?_
      refine x_iadd dX2_readSide_31 ?_
      refine x_putfield 0 dX2_readSide_32 fl_X2_19 hP rfl (fun _ _ => ⟨rfl, rfl⟩) ?_
      refine x_eqw (w' := P ++ tw a tp tl ((skp tp tl 80 ta) + 1) ac kd nb R) rfl ?_
      refine x_aload_n dX2_readSide_35 rfl ?_
      refine x_iconst dX2_readSide_36 ?_
      refine x_iconst dX2_readSide_37 ?_
      refine x_iload_n dX2_readSide_38 rfl ?_
      refine x_imul dX2_readSide_39 ?_
      refine x_iload_n dX2_readSide_40 rfl ?_
      refine x_iadd dX2_readSide_41 ?_
      refine x_bipush dX2_readSide_42 ?_
      refine x_isub dX2_readSide_44 ?_
      refine x_callvV dX2_readSide_45 mk_X2_addAct ml_X2_47 (k_addAct hP tp tl ((skp tp tl 80 ta) + 1) ac kd nb R hac 0 (2 * p + byt tp tl (skp tp tl 80 ta) - 49)) ((wg_app hP 0).trans rfl) rfl (fun w45 h45 => ?_)
      subst h45
      refine x_iconst dX2_readSide_48 ?_
      exact x_iret dX2_readSide_49 (Or.inl ⟨rfl, by omega, rfl⟩)
    · refine x_bipush dX2_readSide_17 ?_
      refine x_aload_n dX2_readSide_19 rfl ?_
      refine x_getfield 0 dX2_readSide_20 fg_X2_19 hP rfl rfl ?_
      refine x_isub dX2_readSide_23 ?_
      exact x_iret dX2_readSide_24 (Or.inr ⟨rfl, by omega, rfl⟩)
set_option maxRecDepth 100000 in
set_option maxHeartbeats 4000000 in
theorem lk_readNumber {P : AW} {a : Nat} (hP : P.length = a) (tp : Nat → Int) (tl ta ac : Nat) (kd nb : Nat → Int) (R : AW) (htl : tl ≤ 80) (hT : ∀ i, i < tl → 32 ≤ tp i ∧ tp i ≤ 126) (k m : Int) (f : Nat) {Z : Zt} : ∀ (r i : Nat) (v : Int), tl - i ≤ r → i ≤ 82 → 0 ≤ v → v ≤ 1000 → (EX I_X2_readNumber 0 0 none Z 100 [some (.ref (a + 0)), some (.int (iI k)), some (.int (iI m)), some (.int (iI (f : Int))), some (.int (iI (dvc tp tl r i v)))] [] (P ++ tw a tp tl (dge tp tl r i) ac kd nb R) 0 0) → EX I_X2_readNumber 0 0 none Z 13 [some (.ref (a + 0)), some (.int (iI k)), some (.int (iI m)), some (.int (iI (f : Int))), some (.int (iI (v)))] [] (P ++ tw a tp tl (i) ac kd nb R) 0 0 := by
  intro r
  induction r with
  | zero =>
    intro i v hr hi hv1 hv2 hx
    refine x_aload_n dX2_readNumber_13 rfl ?_
    refine x_getfield 0 dX2_readNumber_14 fg_X2_19 hP rfl rfl ?_
    refine x_aload_n dX2_readNumber_17 rfl ?_
    refine x_getfield 0 dX2_readNumber_18 fg_X2_15 hP rfl rfl ?_
    refine x_icmp_ge 100 dX2_readNumber_21 (fun h21 => ?_) (fun h21 => by exfalso; omega)
    exact hx
  | succ r ih =>
    intro i v hr hi hv1 hv2 hx
    refine x_aload_n dX2_readNumber_13 rfl ?_
    refine x_getfield 0 dX2_readNumber_14 fg_X2_19 hP rfl rfl ?_
    refine x_aload_n dX2_readNumber_17 rfl ?_
    refine x_getfield 0 dX2_readNumber_18 fg_X2_15 hP rfl rfl ?_
    refine x_icmp_ge 100 dX2_readNumber_21 (fun h21 => ?_) (fun h21 => ?_)
    · have e1 : dge tp tl (r + 1) i = i := if_neg (by omega)
      have e2 : dvc tp tl (r + 1) i v = v := if_neg (by omega)
      rw [e1, e2] at hx
      exact hx
    · refine x_aload_n dX2_readNumber_24 rfl ?_
      refine x_getfield 0 dX2_readNumber_25 fg_X2_19 hP rfl rfl ?_
      refine x_bipush dX2_readNumber_28 ?_
      refine x_icmp_ge 100 dX2_readNumber_30 (fun h30 => by exfalso; omega) (fun h30 => ?_)
      refine x_aload_n dX2_readNumber_33 rfl ?_
      refine x_getfield 0 dX2_readNumber_34 fg_X2_9 hP rfl rfl ?_
      refine x_aload_n dX2_readNumber_37 rfl ?_
      refine x_getfield 0 dX2_readNumber_38 fg_X2_19 hP rfl rfl ?_
      refine x_baload 1 (i) dX2_readNumber_41 hP rfl ?_
      have hti := hT i (by omega)
      refine x_bipush dX2_readNumber_42 ?_
      refine x_icmp_lt 100 dX2_readNumber_44 (fun h44 => ?_) (fun h44 => ?_)
      · have e1 : dge tp tl (r + 1) i = i := if_neg (by omega)
        have e2 : dvc tp tl (r + 1) i v = v := if_neg (by omega)
        rw [e1, e2] at hx
        exact hx
      · refine x_aload_n dX2_readNumber_47 rfl ?_
        refine x_getfield 0 dX2_readNumber_48 fg_X2_9 hP rfl rfl ?_
        refine x_aload_n dX2_readNumber_51 rfl ?_
        refine x_getfield 0 dX2_readNumber_52 fg_X2_19 hP rfl rfl ?_
        refine x_baload 1 (i) dX2_readNumber_55 hP rfl ?_
        refine x_bipush dX2_readNumber_56 ?_
        refine x_icmp_gt 100 dX2_readNumber_58 (fun h58 => ?_) (fun h58 => ?_)
        · have e1 : dge tp tl (r + 1) i = i := if_neg (by omega)
          have e2 : dvc tp tl (r + 1) i v = v := if_neg (by omega)
          rw [e1, e2] at hx
          exact hx
        · refine x_bipush dX2_readNumber_61 ?_
          refine x_iload dX2_readNumber_63 rfl ?_
          refine x_imul dX2_readNumber_65 ?_
          refine x_aload_n dX2_readNumber_66 rfl ?_
          refine x_getfield 0 dX2_readNumber_67 fg_X2_9 hP rfl rfl ?_
          refine x_aload_n dX2_readNumber_70 rfl ?_
          refine x_getfield 0 dX2_readNumber_71 fg_X2_19 hP rfl rfl ?_
          refine x_baload 1 (i) dX2_readNumber_74 hP rfl ?_
          refine x_iadd dX2_readNumber_75 ?_
          refine x_bipush dX2_readNumber_76 ?_
          refine x_isub dX2_readNumber_78 ?_
          refine x_sipush dX2_readNumber_79 ?_
          refine x_min dX2_readNumber_82 ml_X2_51 ?_
          refine x_ist4 dX2_readNumber_85 ?_
          refine x_aload_n dX2_readNumber_87 rfl ?_
          refine x_dup dX2_readNumber_88 ?_
          refine x_getfield 0 dX2_readNumber_89 fg_X2_19 hP rfl rfl ?_
          refine x_iconst dX2_readNumber_92 ?_
          refine x_iadd dX2_readNumber_93 ?_
          refine x_putfield 0 dX2_readNumber_94 fl_X2_19 hP rfl (fun _ _ => ⟨rfl, rfl⟩) ?_
          refine x_goto 13 dX2_readNumber_97 ?_
          have e1 : dge tp tl (r + 1) i = dge tp tl r (i + 1) := if_pos ⟨by omega, by omega⟩
          have e2 : dvc tp tl (r + 1) i v = dvc tp tl r (i + 1) (min (10 * v + tp i - 48) 1000) := if_pos ⟨by omega, by omega⟩
          rw [e1, e2] at hx
          exact ih (i + 1) _ (by omega) (by omega) (by omega) (by omega) hx
set_option maxRecDepth 100000 in
set_option maxHeartbeats 4000000 in
theorem k_readNumber {P : AW} {a : Nat} (hP : P.length = a) (tp : Nat → Int) (tl ta ac : Nat) (kd nb : Nat → Int) (R : AW) (htl : tl ≤ 80) (hT : ∀ i, i < tl → 32 ≤ tp i ∧ tp i ≤ 126) (hta : ta ≤ 82) (hac : ac < 40) (k m : Int) (hm : 0 ≤ m ∧ m ≤ 999) : CTi I_X2_readNumber 0 0 [.ref (a + 0), .int (iI k), .int (iI m)] (P ++ tw a tp tl ta ac kd nb R) (fun x w' => (x = 0 ∧ (1 ≤ dvr tp tl 80 (skp tp tl 80 ta) 0 ∧ dvr tp tl 80 (skp tp tl 80 ta) 0 ≤ m) ∧ w' = P ++ tw a tp tl (dge tp tl 80 (skp tp tl 80 ta)) (ac + 1) (updI kd ac k) (updI nb ac (dvr tp tl 80 (skp tp tl 80 ta) 0)) R) ∨ (x = -20 - ((skp tp tl 80 ta) : Nat) ∧ ¬ (1 ≤ dvr tp tl 80 (skp tp tl 80 ta) 0 ∧ dvr tp tl 80 (skp tp tl 80 ta) 0 ≤ m) ∧ ∃ ta : Nat, w' = P ++ tw a tp tl ta ac kd nb R)) := by
  have hsk := skp_b tp tl 80 ta
  have hsz : skp tp tl 80 ta ≤ 82 := skp_82 tp htl 80 ta hta
  have hdz := dge_82 tp htl 80 (skp tp tl 80 ta) hsz
  have hdb := dvc_b tp tl 80 (skp tp tl 80 ta) 0 (by decide) (by decide)
  have hdr := dvc_r tp tl 80 (skp tp tl 80 ta) 0 0 (by decide) (by decide) (Or.inl ⟨rfl, by decide⟩)
  refine CT_of 2 rfl (Nat.le_of_ble_eq_true rfl) ?_
  show EX I_X2_readNumber 0 0 none _ 0 [some (.ref (a + 0)), some (.int (iI k)), some (.int (iI m)), none, none] [] _ 0 0
  refine x_aload_n dX2_readNumber_0 rfl ?_
  refine x_calliV dX2_readNumber_1 mk_X2_peek ml_X2_36 (k_peek hP tp tl ta ac kd nb R htl hT hta) ((wg_app hP 0).trans rfl) rfl (fun x1 w1 h1 => ?_)
  obtain ⟨rfl, rfl⟩ := h1
  refine x_pop dX2_readNumber_4 ?_
  refine x_aload_n dX2_readNumber_5 rfl ?_
  refine x_getfield 0 dX2_readNumber_6 fg_X2_19 hP rfl rfl ?_
  refine x_ist3 dX2_readNumber_9 ?_
  refine x_iconst dX2_readNumber_10 ?_
  refine x_ist4 dX2_readNumber_11 ?_
  refine lk_readNumber hP tp tl ta ac kd nb R htl hT k m (skp tp tl 80 ta) 80 (skp tp tl 80 ta) 0 (by omega) hsz (by decide) (by decide) ?_
  refine x_iload dX2_readNumber_100 rfl ?_
  refine x_iconst dX2_readNumber_102 ?_
  refine x_icmp_lt 112 dX2_readNumber_103 (fun h103 => ?_) (fun h103 => ?_)
  · refine x_bipush dX2_readNumber_112 ?_
    refine x_iload_n dX2_readNumber_114 rfl ?_
    refine x_isub dX2_readNumber_115 ?_
    exact x_iret dX2_readNumber_116 (Or.inr ⟨rfl, by omega, _, rfl⟩)
  · refine x_iload dX2_readNumber_106 rfl ?_
    refine x_iload_n dX2_readNumber_108 rfl ?_
    refine x_icmp_le 117 dX2_readNumber_109 (fun h109 => ?_) (fun h109 => ?_)
    · refine x_aload_n dX2_readNumber_117 rfl ?_
      refine x_iload_n dX2_readNumber_118 rfl ?_
      refine x_iload dX2_readNumber_119 rfl ?_
      refine x_callvV dX2_readNumber_121 mk_X2_addAct ml_X2_47 (k_addAct hP tp tl (dge tp tl 80 (skp tp tl 80 ta)) ac kd nb R hac k (dvc tp tl 80 (skp tp tl 80 ta) 0)) ((wg_app hP 0).trans rfl) rfl (fun w121 h121 => ?_)
      subst h121
      refine x_iconst dX2_readNumber_124 ?_
      exact x_iret dX2_readNumber_125 (Or.inl ⟨rfl, by omega, by rw [show dvr tp tl 80 (skp tp tl 80 ta) 0 = dvc tp tl 80 (skp tp tl 80 ta) 0 by omega]⟩)
    · refine x_bipush dX2_readNumber_112 ?_
      refine x_iload_n dX2_readNumber_114 rfl ?_
      refine x_isub dX2_readNumber_115 ?_
      exact x_iret dX2_readNumber_116 (Or.inr ⟨rfl, by omega, _, rfl⟩)
set_option maxRecDepth 100000 in
set_option maxHeartbeats 4000000 in
theorem k_readAct {P : AW} {a : Nat} (hP : P.length = a) (tp : Nat → Int) (tl ta ac : Nat) (kd nb : Nat → Int) (R : AW) (htl : tl ≤ 80) (hT : ∀ i, i < tl → 32 ≤ tp i ∧ tp i ≤ 126) (hta : ta ≤ tl) (hac : ac < 40) : CTi I_X2_readAct 0 0 [.ref (a + 0)] (P ++ tw a tp tl ta ac kd nb R) (fun x w' => (x = 0 ∧ aOk tp tl ta ∧ w' = P ++ tw a tp tl (aQ tp tl ta) (ac + 1) (updI kd ac (aK tp tl ta)) (updI nb ac (aV tp tl ta)) R) ∨ (x = -20 - (aF tp tl ta : Nat) ∧ ¬ aOk tp tl ta ∧ ∃ ta : Nat, w' = P ++ tw a tp tl ta ac kd nb R)) := by
  have hp0 := aP_b tp htl (i := ta) (by omega)
  have hcb := byt_b hT (aP0 tp tl ta)
  have hcb' : aC tp tl ta = byt tp tl (aP0 tp tl ta) := rfl
  have hp00 : aP0 tp tl ta = skp tp tl 80 ta := rfl
  refine CT_of 1 rfl (Nat.le_of_ble_eq_true rfl) ?_
  show EX I_X2_readAct 0 0 none _ 0 [some (.ref (a + 0)), none] [] _ 0 0
  refine x_aload_n dX2_readAct_0 rfl ?_
  refine x_calliV dX2_readAct_1 mk_X2_peek ml_X2_36 (k_peek hP tp tl ta ac kd nb R htl hT (by omega)) ((wg_app hP 0).trans rfl) rfl (fun x1 w1 h1 => ?_)
  obtain ⟨rfl, rfl⟩ := h1
  refine x_top (show _ = aC tp tl ta from rfl) ?_
  refine x_ist1 dX2_readAct_4 ?_
  refine x_iload_n dX2_readAct_5 rfl ?_
  refine x_bipush dX2_readAct_6 ?_
  refine x_icmp_lt 36 dX2_readAct_8 (fun h8 => ?_) (fun h8 => ?_) (ha := by omega)
  · refine x_iload_n dX2_readAct_36 rfl ?_
    refine x_bipush dX2_readAct_37 ?_
    refine x_icmp_ne 60 dX2_readAct_39 (fun h39 => ?_) (fun h39 => ?_) (ha := by omega)
    · refine x_iload_n dX2_readAct_60 rfl ?_
      refine x_bipush dX2_readAct_61 ?_
      refine x_icmp_ne 85 dX2_readAct_63 (fun h63 => ?_) (fun h63 => ?_) (ha := by omega)
      · refine x_bipush dX2_readAct_85 ?_
        refine x_aload_n dX2_readAct_87 rfl ?_
        refine x_getfield 0 dX2_readAct_88 fg_X2_19 hP rfl rfl ?_
        refine x_isub dX2_readAct_91 ?_
        exact x_iret dX2_readAct_92 (Or.inr ⟨by rw [show aF tp tl ta = aP0 tp tl ta from if_neg (by omega)]; rfl, by unfold aOk; omega, _, rfl⟩)
      · refine x_aload_n dX2_readAct_66 rfl ?_
        refine x_dup dX2_readAct_67 ?_
        refine x_getfield 0 dX2_readAct_68 fg_X2_19 hP rfl rfl ?_
        refine x_iconst dX2_readAct_71 ?_
        refine x_iadd dX2_readAct_72 ?_
        refine x_putfield 0 dX2_readAct_73 fl_X2_19 hP rfl (fun _ _ => ⟨rfl, rfl⟩) ?_
        refine x_eqw (w' := P ++ tw a tp tl (aP0 tp tl ta + 1) ac kd nb R) rfl ?_
        refine x_aload_n dX2_readAct_76 rfl ?_
        refine x_iconst dX2_readAct_77 ?_
        refine x_sipush dX2_readAct_78 ?_
        refine x_calliV dX2_readAct_81 mk_X2_readNumber ml_X2_43 (k_readNumber hP tp tl (aP0 tp tl ta + 1) ac kd nb R htl hT (by omega) hac 2 999 (by decide)) ((wg_app hP 0).trans rfl) rfl (fun x81 w81 h81 => ?_)
        rcases h81 with ⟨rfl, hok', hw⟩ | ⟨rfl, hok', hw⟩
        · have hok : 1 ≤ aN tp tl ta ∧ aN tp tl ta ≤ 999 := hok'
          exact x_iret dX2_readAct_84 (Or.inl ⟨rfl, by unfold aOk; omega, by rw [show aK tp tl ta = 2 from (if_neg (by omega)).trans (if_neg (by omega)), show aV tp tl ta = aN tp tl ta from if_neg (by omega), show aQ tp tl ta = aE tp tl ta from if_neg (by omega)]; exact hw⟩)
        · have hok : ¬ (1 ≤ aN tp tl ta ∧ aN tp tl ta ≤ 999) := hok'
          exact x_iret dX2_readAct_84 (Or.inr ⟨by rw [show aF tp tl ta = aP1 tp tl ta from if_pos (by omega)]; rfl, by unfold aOk; omega, hw⟩)
    · refine x_aload_n dX2_readAct_42 rfl ?_
      refine x_dup dX2_readAct_43 ?_
      refine x_getfield 0 dX2_readAct_44 fg_X2_19 hP rfl rfl ?_
      refine x_iconst dX2_readAct_47 ?_
      refine x_iadd dX2_readAct_48 ?_
      refine x_putfield 0 dX2_readAct_49 fl_X2_19 hP rfl (fun _ _ => ⟨rfl, rfl⟩) ?_
      refine x_eqw (w' := P ++ tw a tp tl (aP0 tp tl ta + 1) ac kd nb R) rfl ?_
      refine x_aload_n dX2_readAct_52 rfl ?_
      refine x_iconst dX2_readAct_53 ?_
      refine x_bipush dX2_readAct_54 ?_
      refine x_calliV dX2_readAct_56 mk_X2_readNumber ml_X2_43 (k_readNumber hP tp tl (aP0 tp tl ta + 1) ac kd nb R htl hT (by omega) hac 1 99 (by decide)) ((wg_app hP 0).trans rfl) rfl (fun x56 w56 h56 => ?_)
      rcases h56 with ⟨rfl, hok', hw⟩ | ⟨rfl, hok', hw⟩
      · have hok : 1 ≤ aN tp tl ta ∧ aN tp tl ta ≤ 99 := hok'
        exact x_iret dX2_readAct_59 (Or.inl ⟨rfl, by unfold aOk; omega, by rw [show aK tp tl ta = 1 from (if_neg (by omega)).trans (if_pos (by omega)), show aV tp tl ta = aN tp tl ta from if_neg (by omega), show aQ tp tl ta = aE tp tl ta from if_neg (by omega)]; exact hw⟩)
      · have hok : ¬ (1 ≤ aN tp tl ta ∧ aN tp tl ta ≤ 99) := hok'
        exact x_iret dX2_readAct_59 (Or.inr ⟨by rw [show aF tp tl ta = aP1 tp tl ta from if_pos (by omega)]; rfl, by unfold aOk; omega, hw⟩)
  · refine x_iload_n dX2_readAct_11 rfl ?_
    refine x_bipush dX2_readAct_12 ?_
    refine x_icmp_gt 36 dX2_readAct_14 (fun h14 => ?_) (fun h14 => ?_) (ha := by omega)
    · refine x_iload_n dX2_readAct_36 rfl ?_
      refine x_bipush dX2_readAct_37 ?_
      refine x_icmp_ne 60 dX2_readAct_39 (fun h39 => ?_) (fun h39 => ?_) (ha := by omega)
      · refine x_iload_n dX2_readAct_60 rfl ?_
        refine x_bipush dX2_readAct_61 ?_
        refine x_icmp_ne 85 dX2_readAct_63 (fun h63 => ?_) (fun h63 => ?_) (ha := by omega)
        · refine x_bipush dX2_readAct_85 ?_
          refine x_aload_n dX2_readAct_87 rfl ?_
          refine x_getfield 0 dX2_readAct_88 fg_X2_19 hP rfl rfl ?_
          refine x_isub dX2_readAct_91 ?_
          exact x_iret dX2_readAct_92 (Or.inr ⟨by rw [show aF tp tl ta = aP0 tp tl ta from if_neg (by omega)]; rfl, by unfold aOk; omega, _, rfl⟩)
        · refine x_aload_n dX2_readAct_66 rfl ?_
          refine x_dup dX2_readAct_67 ?_
          refine x_getfield 0 dX2_readAct_68 fg_X2_19 hP rfl rfl ?_
          refine x_iconst dX2_readAct_71 ?_
          refine x_iadd dX2_readAct_72 ?_
          refine x_putfield 0 dX2_readAct_73 fl_X2_19 hP rfl (fun _ _ => ⟨rfl, rfl⟩) ?_
          refine x_eqw (w' := P ++ tw a tp tl (aP0 tp tl ta + 1) ac kd nb R) rfl ?_
          refine x_aload_n dX2_readAct_76 rfl ?_
          refine x_iconst dX2_readAct_77 ?_
          refine x_sipush dX2_readAct_78 ?_
          refine x_calliV dX2_readAct_81 mk_X2_readNumber ml_X2_43 (k_readNumber hP tp tl (aP0 tp tl ta + 1) ac kd nb R htl hT (by omega) hac 2 999 (by decide)) ((wg_app hP 0).trans rfl) rfl (fun x81 w81 h81 => ?_)
          rcases h81 with ⟨rfl, hok', hw⟩ | ⟨rfl, hok', hw⟩
          · have hok : 1 ≤ aN tp tl ta ∧ aN tp tl ta ≤ 999 := hok'
            exact x_iret dX2_readAct_84 (Or.inl ⟨rfl, by unfold aOk; omega, by rw [show aK tp tl ta = 2 from (if_neg (by omega)).trans (if_neg (by omega)), show aV tp tl ta = aN tp tl ta from if_neg (by omega), show aQ tp tl ta = aE tp tl ta from if_neg (by omega)]; exact hw⟩)
          · have hok : ¬ (1 ≤ aN tp tl ta ∧ aN tp tl ta ≤ 999) := hok'
            exact x_iret dX2_readAct_84 (Or.inr ⟨by rw [show aF tp tl ta = aP1 tp tl ta from if_pos (by omega)]; rfl, by unfold aOk; omega, hw⟩)
      · refine x_aload_n dX2_readAct_42 rfl ?_
        refine x_dup dX2_readAct_43 ?_
        refine x_getfield 0 dX2_readAct_44 fg_X2_19 hP rfl rfl ?_
        refine x_iconst dX2_readAct_47 ?_
        refine x_iadd dX2_readAct_48 ?_
        refine x_putfield 0 dX2_readAct_49 fl_X2_19 hP rfl (fun _ _ => ⟨rfl, rfl⟩) ?_
        refine x_eqw (w' := P ++ tw a tp tl (aP0 tp tl ta + 1) ac kd nb R) rfl ?_
        refine x_aload_n dX2_readAct_52 rfl ?_
        refine x_iconst dX2_readAct_53 ?_
        refine x_bipush dX2_readAct_54 ?_
        refine x_calliV dX2_readAct_56 mk_X2_readNumber ml_X2_43 (k_readNumber hP tp tl (aP0 tp tl ta + 1) ac kd nb R htl hT (by omega) hac 1 99 (by decide)) ((wg_app hP 0).trans rfl) rfl (fun x56 w56 h56 => ?_)
        rcases h56 with ⟨rfl, hok', hw⟩ | ⟨rfl, hok', hw⟩
        · have hok : 1 ≤ aN tp tl ta ∧ aN tp tl ta ≤ 99 := hok'
          exact x_iret dX2_readAct_59 (Or.inl ⟨rfl, by unfold aOk; omega, by rw [show aK tp tl ta = 1 from (if_neg (by omega)).trans (if_pos (by omega)), show aV tp tl ta = aN tp tl ta from if_neg (by omega), show aQ tp tl ta = aE tp tl ta from if_neg (by omega)]; exact hw⟩)
        · have hok : ¬ (1 ≤ aN tp tl ta ∧ aN tp tl ta ≤ 99) := hok'
          exact x_iret dX2_readAct_59 (Or.inr ⟨by rw [show aF tp tl ta = aP1 tp tl ta from if_pos (by omega)]; rfl, by unfold aOk; omega, hw⟩)
    · refine x_aload_n dX2_readAct_17 rfl ?_
      refine x_dup dX2_readAct_18 ?_
      refine x_getfield 0 dX2_readAct_19 fg_X2_19 hP rfl rfl ?_
      refine x_iconst dX2_readAct_22 ?_
      refine x_iadd dX2_readAct_23 ?_
      refine x_putfield 0 dX2_readAct_24 fl_X2_19 hP rfl (fun _ _ => ⟨rfl, rfl⟩) ?_
      refine x_eqw (w' := P ++ tw a tp tl (aP0 tp tl ta + 1) ac kd nb R) rfl ?_
      refine x_aload_n dX2_readAct_27 rfl ?_
      refine x_iload_n dX2_readAct_28 rfl ?_
      refine x_bipush dX2_readAct_29 ?_
      refine x_isub dX2_readAct_31 ?_
      refine x_calliV dX2_readAct_32 mk_X2_readSide ml_X2_39 (k_readSide hP tp tl (aP0 tp tl ta + 1) ac kd nb R htl hT (by omega) hac (aC tp tl ta - 97) (by omega)) ((wg_app hP 0).trans rfl) rfl (fun x32 w32 h32 => ?_)
      rcases h32 with ⟨rfl, hok', hw⟩ | ⟨rfl, hok', hw⟩
      · have hok : 0 ≤ aD tp tl ta ∧ aD tp tl ta ≤ 1 := hok'
        rw [show 2 * (aC tp tl ta - 97) + byt tp tl (skp tp tl 80 (aP0 tp tl ta + 1)) - 49 = 2 * (aC tp tl ta - 97) + aD tp tl ta by show _ = _ + (byt tp tl (skp tp tl 80 (aP0 tp tl ta + 1)) - 49); omega] at hw
        exact x_iret dX2_readAct_35 (Or.inl ⟨rfl, by unfold aOk; omega, by rw [show aK tp tl ta = 0 from if_pos ⟨by omega, by omega⟩, show aV tp tl ta = 2 * (aC tp tl ta - 97) + aD tp tl ta from if_pos ⟨by omega, by omega⟩, show aQ tp tl ta = aP1 tp tl ta + 1 from if_pos ⟨by omega, by omega⟩]; exact hw⟩)
      · have hok : ¬ (0 ≤ aD tp tl ta ∧ aD tp tl ta ≤ 1) := hok'
        replace hw := Exists.intro (p := fun t : Nat => w32 = P ++ tw a tp tl t ac kd nb R) _ hw
        exact x_iret dX2_readAct_35 (Or.inr ⟨by rw [show aF tp tl ta = aP1 tp tl ta from if_pos (by omega)]; rfl, by unfold aOk; omega, hw⟩)
set_option maxRecDepth 100000 in
set_option maxHeartbeats 4000000 in
theorem lk_acts {P : AW} {a : Nat} (hP : P.length = a) (tp : Nat → Int) (tl : Nat) (R : AW) (htl : tl ≤ 80) (hT : ∀ i, i < tl → 32 ≤ tp i ∧ tp i ≤ 126) {Z : Zt} : ∀ (F q n1 i : Nat) (kd nb : Nat → Int), q ≤ tl → 2 * n1 ≤ q → 2 * i ≤ q → tl - q < F →
    ((pq tp tl F q).2 = none → ∀ (ta i' : Nat), EX I_X2_readActs 0 0 none Z 46 [some (.ref (a + 0)), some (.int (iI (0))), some (.int (iI ((i' : Nat) : Int)))] [] (P ++ tw a tp tl ta (n1 + (pq tp tl F q).1.length) (wr kd n1 ((pq tp tl F q).1.map Prod.fst)) (wr nb n1 ((pq tp tl F q).1.map Prod.snd)) R) 0 0) →
    (∀ f, (pq tp tl F q).2 = some f → ∀ (ta ac i' : Nat) (kd nb : Nat → Int), EX I_X2_readActs 0 0 none Z 46 [some (.ref (a + 0)), some (.int (iI (-20 - (f : Int)))), some (.int (iI ((i' : Nat) : Int)))] [] (P ++ tw a tp tl ta ac kd nb R) 0 0) →
    EX I_X2_readActs 0 0 none Z 17 [some (.ref (a + 0)), some (.int (iI (0))), some (.int (iI ((i : Nat) : Int)))] [] (P ++ tw a tp tl (q) (n1) kd nb R) 0 0 := by
  intro F
  induction F with
  | zero => intro q n1 i kd nb h1 h2 h3 h4; exact absurd h4 (by omega)
  | succ F ih =>
    intro q n1 i kd nb hq hn hi hF hg hb
    have hs := skp_b tp tl 80 q
    have hbb := byt_b hT (skp tp tl 80 q)
    refine x_iload_n dX2_readActs_17 rfl ?_
    refine x_bipush dX2_readActs_18 ?_
    refine x_icmp_ge 46 dX2_readActs_20 (fun h20 => by exfalso; omega) (fun h20 => ?_)
    refine x_iload_n dX2_readActs_23 rfl ?_
    refine x_if_ne 46 dX2_readActs_24 (fun h24 => absurd h24 (by decide)) (fun h24 => ?_)
    refine x_aload_n dX2_readActs_27 rfl ?_
    refine x_calliV dX2_readActs_28 mk_X2_peek ml_X2_36 (k_peek hP tp tl (q) (n1) kd nb R htl hT (by omega)) ((wg_app hP 0).trans rfl) rfl (fun x28 w28 h28 => ?_)
    obtain ⟨rfl, rfl⟩ := h28
    refine x_iconst dX2_readActs_31 ?_
    refine x_icmp_eq 46 dX2_readActs_32 (fun h32 => ?_) (fun h32 => ?_) (ha := by omega)
    · have e1 := pq_e (F := F) (tp := tp) (tl := tl) (q := q) (by omega)
      rw [e1] at hg
      exact hg rfl _ _
    · refine x_aload_n dX2_readActs_35 rfl ?_
      refine x_calliV dX2_readActs_36 mk_X2_readAct ml_X2_32 (k_readAct hP tp tl ((skp tp tl 80 q)) (n1) kd nb R htl hT (by omega) (by omega)) ((wg_app hP 0).trans rfl) rfl (fun x36 w36 h36 => ?_)
      rcases h36 with ⟨rfl, hok, rfl⟩ | ⟨rfl, hok, ta', rfl⟩
      · have hQ := aQ_b htl hT (i := (skp tp tl 80 q)) (by omega) hok
        refine x_ist1 dX2_readActs_39 ?_
        refine x_inc2 dX2_readActs_40 ?_
        refine x_goto 17 dX2_readActs_43 ?_
        have e1 := pq_c (F := F) (by omega) hok
        rw [e1] at hg hb
        simp only [List.length_cons, List.map_cons, wr] at hg
        exact ih (aQ tp tl (skp tp tl 80 q)) (n1 + 1) (i + 1) _ _ (by omega) (by omega) (by omega) (by omega) (fun h ta' i' => by have := hg h ta' i'; rw [show n1 + ((pq tp tl F (aQ tp tl (skp tp tl 80 q))).1.length + 1) = n1 + 1 + (pq tp tl F (aQ tp tl (skp tp tl 80 q))).1.length by omega] at this; exact this) (fun f h => hb f h)
      · refine x_ist1 dX2_readActs_39 ?_
        refine x_inc2 dX2_readActs_40 ?_
        refine x_goto 17 dX2_readActs_43 ?_
        have hFb := aF_b tp htl (i := (skp tp tl 80 q)) (by omega) hT
        have e1 := pq_f (F := F) (by omega) hok
        rw [e1] at hg hb
        refine x_iload_n dX2_readActs_17 rfl ?_
        refine x_bipush dX2_readActs_18 ?_
        refine x_icmp_ge 46 dX2_readActs_20 (fun h20 => ?_) (fun h20 => ?_)
        · exact hb _ rfl _ _ _ _ _
        · refine x_iload_n dX2_readActs_23 rfl ?_
          refine x_if_ne 46 dX2_readActs_24 (fun h24 => ?_) (fun h24 => by exfalso; omega)
          exact hb _ rfl _ _ _ _ _
set_option maxRecDepth 100000 in
set_option maxHeartbeats 4000000 in
theorem k_readActs {P : AW} {a : Nat} (hP : P.length = a) (tp : Nat → Int) (tl ta ac : Nat) (kd nb : Nat → Int) (R : AW) (htl : tl ≤ 80) (hT : ∀ i, i < tl → 32 ≤ tp i ∧ tp i ≤ 126) : CTi I_X2_readActs 0 0 [.ref (a + 0)] (P ++ tw a tp tl ta ac kd nb R) (fun x w' => ((mActs tp tl).2 = none ∧ x = 0 ∧ ∃ ta : Nat, w' = P ++ tw a tp tl ta ((mActs tp tl).1.length) (wr kd 0 ((mActs tp tl).1.map Prod.fst)) (wr nb 0 ((mActs tp tl).1.map Prod.snd)) R) ∨ (∃ f : Nat, (mActs tp tl).2 = some f ∧ x = -20 - (f : Int) ∧ ∃ (ta ac : Nat) (kd nb : Nat → Int), w' = P ++ tw a tp tl ta ac kd nb R)) := by
  refine CT_of 2 rfl (Nat.le_of_ble_eq_true rfl) ?_
  show EX I_X2_readActs 0 0 none _ 0 [some (.ref (a + 0)), none, none] [] _ 0 0
  refine x_aload_n dX2_readActs_0 rfl ?_
  refine x_iconst dX2_readActs_1 ?_
  refine x_putfield 0 dX2_readActs_2 fl_X2_19 hP rfl (fun _ _ => ⟨rfl, rfl⟩) ?_
  refine x_aload_n dX2_readActs_5 rfl ?_
  refine x_iconst dX2_readActs_6 ?_
  refine x_putfield 0 dX2_readActs_7 fl_X2_29 hP rfl (fun _ _ => ⟨rfl, rfl⟩) ?_
  refine x_eqw (w' := P ++ tw a tp tl (0) (0) kd nb R) rfl ?_
  refine x_aload_n dX2_readActs_10 rfl ?_
  refine x_calliV dX2_readActs_11 mk_X2_readAct ml_X2_32 (k_readAct hP tp tl (0) (0) kd nb R htl hT (by omega) (by omega)) ((wg_app hP 0).trans rfl) rfl (fun x11 w11 h11 => ?_)
  rcases h11 with ⟨rfl, hok, rfl⟩ | ⟨rfl, hok, ta', rfl⟩
  · refine x_ist1 dX2_readActs_14 ?_
    refine x_iconst dX2_readActs_15 ?_
    refine x_ist2 dX2_readActs_16 ?_
    have hQ := aQ_b htl hT (i := 0) (by omega) hok
    have ea := mActs_c hok
    refine lk_acts hP tp tl R htl hT 81 (aQ tp tl 0) 1 0 _ _ (by omega) (by omega) (by omega) (by omega) (fun hn ta' i' => ?_) (fun f hf ta' ac' i' kd' nb' => ?_)
    · refine x_iload_n dX2_readActs_46 rfl ?_
      refine x_iret dX2_readActs_47 (Or.inl ⟨by rw [ea]; exact hn, rfl, ta', ?_⟩)
      rw [ea]; simp only [List.length_cons, List.map_cons, wr]; rw [Nat.add_comm 1]
    · refine x_iload_n dX2_readActs_46 rfl ?_
      exact x_iret dX2_readActs_47 (Or.inr ⟨f, by rw [ea]; exact hf, rfl, _, _, _, _, rfl⟩)
  · refine x_ist1 dX2_readActs_14 ?_
    refine x_iconst dX2_readActs_15 ?_
    refine x_ist2 dX2_readActs_16 ?_
    have ea := mActs_f hok
    have hFb := aF_b tp htl (i := 0) (by omega) hT
    refine x_iload_n dX2_readActs_17 rfl ?_
    refine x_bipush dX2_readActs_18 ?_
    refine x_icmp_ge 46 dX2_readActs_20 (fun h20 => absurd h20 (by decide)) (fun h20 => ?_)
    refine x_iload_n dX2_readActs_23 rfl ?_
    refine x_if_ne 46 dX2_readActs_24 (fun h24 => ?_) (fun h24 => by exfalso; omega)
    refine x_iload_n dX2_readActs_46 rfl ?_
    exact x_iret dX2_readActs_47 (Or.inr ⟨aF tp tl 0, by rw [ea], rfl, _, _, _, _, rfl⟩)
