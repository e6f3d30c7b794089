/-! ===== the class: the box: image, type, evening ===== -/
set_option maxRecDepth 100000 in
set_option maxHeartbeats 4000000 in
theorem b_image {P : AW} {a : Nat} (hP : P.length = a) (ik : Int) (z y t so st : Nat → Int) (td sk le ot sn pk : Int) (R : AW) (hA : ZA z) (h0 : z 0 ≤ 1000000) (hC : CI z td sk so st le ot sn pk)  : CTi I_X5_image 0 0 [.ref (a + 0)] (P ++ bx a ik z y t so st td sk le ot sn pk R) (fun x w' => x = 1 ∧ BI P a (1) (z) (z) (R) w') := by
  have hB : BI P a ik z y R (P ++ bx a ik z y t so st td sk le ot sn pk R) := ⟨t, so, st, td, sk, le, ot, sn, pk, rfl, hC⟩
  have hR := hA.1
  have hzc := hA.2.1
  refine CT_of 0 rfl (Nat.le_of_ble_eq_true rfl) ?_
  show EX I_X5_image 0 0 none _ 0 [some (.ref (a + 0))] [] _ 0 0
  refine x_aload_n dX5_image_0 rfl ?_
  refine x_getfield 0 dX5_image_1 fg_X5_23 hP rfl rfl ?_
  refine x_aload_n dX5_image_4 rfl ?_
  refine x_getfield 0 dX5_image_5 fg_X5_12 hP rfl rfl ?_
  refine x_callvV dX5_image_8 mk_X4_copyFrom ml_X5_253 (k_copyK hP (oB a ik) (tk z) (tk y) z y t so st td sk le ot sn pk R hzc.2.1) ((wg_app hP 7).trans rfl) rfl (fun w8 h8 => ?_)
  subst h8
  refine x_aload_n dX5_image_11 rfl ?_
  refine x_getfield 0 dX5_image_12 fg_X5_26 hP rfl rfl ?_
  refine x_aload_n dX5_image_15 rfl ?_
  refine x_getfield 0 dX5_image_16 fg_X5_19 hP rfl rfl ?_
  refine x_callvV dX5_image_19 mk_X3_copyFrom ml_X5_256 (k_tillK hP (oB a ik) z z z y (oO a td sk le ot sn pk :: wk (a + 14) t (aI 0 64 so :: aI 0 64 st :: R))) ((wg_app hP 12).trans rfl) rfl (fun w19 h19 => ?_)
  subst h19
  refine x_aload_n dX5_image_22 rfl ?_
  refine x_iconst dX5_image_23 ?_
  refine x_putfield 0 dX5_image_24 fl_X5_29 hP rfl (fun _ _ => bfit (by omega)) ?_
  refine x_iconst dX5_image_27 ?_
  exact x_iret dX5_image_28 (⟨rfl, ⟨t, so, st, td, sk, le, ot, sn, pk, rfl, hC⟩⟩)
set_option maxRecDepth 100000 in
set_option maxHeartbeats 4000000 in
theorem b_restore {P : AW} {a : Nat} (hP : P.length = a) (ik : Int) (z y t so st : Nat → Int) (td sk le ot sn pk : Int) (R : AW) (hA : ZA z) (h0 : z 0 ≤ 1000000) (hC : CI z td sk so st le ot sn pk) (hik : ik = 0 ∨ ik = 1) (hy2 : y 2 = 0 ∨ y 2 = 1) : CTi I_X5_restore 0 0 [.ref (a + 0)] (P ++ bx a ik z y t so st td sk le ot sn pk R) (fun x w' => x = (if ik = 0 then -4 else 1) ∧ BI P a ik (if ik = 0 then z else y) y R w') := by
  have hB : BI P a ik z y R (P ++ bx a ik z y t so st td sk le ot sn pk R) := ⟨t, so, st, td, sk, le, ot, sn, pk, rfl, hC⟩
  have hR := hA.1
  have hzc := hA.2.1
  refine CT_of 0 rfl (Nat.le_of_ble_eq_true rfl) ?_
  show EX I_X5_restore 0 0 none _ 0 [some (.ref (a + 0))] [] _ 0 0
  refine x_aload_n dX5_restore_0 rfl ?_
  refine x_getfield 0 dX5_restore_1 fg_X5_29 hP rfl rfl ?_
  refine x_if_ne 10 dX5_restore_4 (fun h4 => ?_) (fun h4 => ?_) (ha := by omega)
  · refine x_aload_n dX5_restore_10 rfl ?_
    refine x_getfield 0 dX5_restore_11 fg_X5_36 hP rfl rfl ?_
    refine x_callvV dX5_restore_14 mk_X0_forget ml_X5_74 (k_forget hP (oB a ik) (tk z) (tk y) z y t so st td sk le ot sn pk R) ((wg_app hP 13).trans rfl) rfl (fun w14 h14 => ?_)
    subst h14
    refine x_aload_n dX5_restore_17 rfl ?_
    refine x_getfield 0 dX5_restore_18 fg_X5_12 hP rfl rfl ?_
    refine x_aload_n dX5_restore_21 rfl ?_
    refine x_getfield 0 dX5_restore_22 fg_X5_23 hP rfl rfl ?_
    refine x_callvV dX5_restore_25 mk_X4_copyFrom ml_X5_253 (k_copyB hP (oB a ik) (tk z) (tk y) z y t so st td (0) le ot sn (0) R hy2) ((wg_app hP 1).trans rfl) rfl (fun w25 h25 => ?_)
    subst h25
    refine x_aload_n dX5_restore_28 rfl ?_
    refine x_getfield 0 dX5_restore_29 fg_X5_19 hP rfl rfl ?_
    refine x_aload_n dX5_restore_32 rfl ?_
    refine x_getfield 0 dX5_restore_33 fg_X5_26 hP rfl rfl ?_
    refine x_callvV dX5_restore_36 mk_X3_copyFrom ml_X5_256 (k_tillB hP (oB a ik) y y z y (oO a td 0 le ot sn 0 :: wk (a + 14) t (aI 0 64 so :: aI 0 64 st :: R))) ((wg_app hP 6).trans rfl) rfl (fun w36 h36 => ?_)
    subst h36
    refine x_iconst dX5_restore_39 ?_
    exact x_iret dX5_restore_40 (⟨(if_neg h4).symm, by rw [if_neg h4]; exact ⟨_, _, _, _, _, _, _, _, _, rfl, CI_0 _ _ _ _ _ _ _⟩⟩)
  · refine x_bipush dX5_restore_7 ?_
    exact x_iret dX5_restore_9 (⟨(if_pos h4).symm, by rw [if_pos h4]; exact hB⟩)
theorem bI_v (w : Int64) (i : Nat) (hi : i < 8) : iI ((w.toUInt64 >>> ((iI (8 * (i : Int))).toInt64.toUInt64 &&& Int64.toUInt64 63)).toInt64.toInt32.toInt) &&& iI 255 = iI (bI w i) := by
  rw [iI_of]
  exact bI_u w i hi
set_option maxRecDepth 100000 in
set_option maxHeartbeats 4000000 in
theorem k_byteOf (W : AW) (w : Int64) (i : Nat) (hi : i < 8) : CTi I_X5_byteOf 0 0 [.long w, .int (iI (i : Int))] (W) (fun x w' => x = bI w i ∧ w' = W) := by
  refine CT_of 0 rfl (Nat.le_of_ble_eq_true rfl) ?_
  show EX I_X5_byteOf 0 0 none _ 0 [some (.long w), none, some (.int (iI (i : Int)))] [] _ 0 0
  refine x_lload_n dX5_byteOf_0 rfl ?_
  refine x_bipush dX5_byteOf_1 ?_
  refine x_iload_n dX5_byteOf_3 rfl ?_
  refine x_imul dX5_byteOf_4 ?_
  refine x_lushr dX5_byteOf_5 ?_
  refine x_l2i dX5_byteOf_6 ((iI_of _).symm) ?_
  refine x_sipush dX5_byteOf_7 ?_
  refine x_iand dX5_byteOf_10 (bI_v w i hi) ?_
  exact x_iret dX5_byteOf_11 (⟨rfl, rfl⟩)
abbrev p21 (a : Nat) (c0 c6 c12 : AC) (z y t so st : Nat → Int) (td sk le ot sn pk : Int) : AW := c0 :: wk (a + 1) z (c6 :: wk (a + 7) y (c12 :: oO a td sk le ot sn pk :: wk (a + 14) t (aI 0 64 so :: aI 0 64 st :: [])))
theorem len21 {P : AW} {a : Nat} (hP : P.length = a) (c0 c6 c12 : AC) (z y t so st : Nat → Int) (td sk le ot sn pk : Int) : (P ++ p21 a c0 c6 c12 z y t so st td sk le ot sn pk).length = a + 21 := by rw [List.length_append, hP]; rfl
set_option maxRecDepth 100000 in
set_option maxHeartbeats 4000000 in
theorem q_append {P : AW} {a : Nat} (hP : P.length = a) (c0 c6 c12 : AC) (z y t so st : Nat → Int) (td sk le ot sn pk : Int) (tp : Nat → Int) (tl ta ac : Nat) (kd nb : Nat → Int) (R : AW) (htl : tl < 80) (s : Int) (hs : 32 ≤ s ∧ s ≤ 126) : CTv I_X2_append 0 0 [.ref (a + 21), .int (iI s)] (P ++ ow a c0 c6 c12 z y t so st td sk le ot sn pk ((tw (a + 21) tp tl ta ac kd nb R))) (fun w' => w' = P ++ ow a c0 c6 c12 z y t so st td sk le ot sn pk ((tw (a + 21) (updI tp tl s) (tl + 1) ta ac kd nb R))) := by
  have h := k_append (len21 hP c0 c6 c12 z y t so st td sk le ot sn pk) tp tl ta ac kd nb R htl s hs
  simp only [List.append_assoc] at h
  exact h
set_option maxRecDepth 100000 in
set_option maxHeartbeats 4000000 in
theorem q_readActs {P : AW} {a : Nat} (hP : P.length = a) (c0 c6 c12 : AC) (z y t so st : Nat → Int) (td sk le ot sn pk : Int) (tp : Nat → Int) (tl ta ac : Nat) (kd nb : Nat → Int) (R : AW) (htl : tl ≤ 80) (hT : ∀ i, i < tl → 32 ≤ tp i ∧ tp i ≤ 126) : CTi I_X2_readActs 0 0 [.ref (a + 21)] (P ++ ow a c0 c6 c12 z y t so st td sk le ot sn pk ((tw (a + 21) tp tl ta ac kd nb R))) (fun x w' => ((mActs tp tl).2 = none ∧ x = 0 ∧ ∃ ta : Nat, w' = P ++ ow a c0 c6 c12 z y t so st td sk le ot sn pk ((tw (a + 21) tp tl ta ((mActs tp tl).1.length) (wr kd 0 ((mActs tp tl).1.map Prod.fst)) (wr nb 0 ((mActs tp tl).1.map Prod.snd)) R))) ∨ (∃ f : Nat, (mActs tp tl).2 = some f ∧ x = -20 - (f : Int) ∧ ∃ (ta ac : Nat) (kd nb : Nat → Int), w' = P ++ ow a c0 c6 c12 z y t so st td sk le ot sn pk ((tw (a + 21) tp tl ta ac kd nb R)))) := by
  have h := k_readActs (len21 hP c0 c6 c12 z y t so st td sk le ot sn pk) tp tl ta ac kd nb R htl hT
  simp only [List.append_assoc] at h
  exact h
set_option maxRecDepth 100000 in
set_option maxHeartbeats 4000000 in
theorem lk_ty1 {P : AW} {a : Nat} (hP : P.length = a) (ik : Int) (z y t so st : Nat → Int) (td sk le ot sn pk : Int) (tp : Nat → Int) (tl ta ac : Nat) (kd nb : Nat → Int) (R : AW) (w : Int64) (m : Int) (hm : 1 ≤ m ∧ m ≤ 8) {Q : Int → AW → Prop} : ∀ (r i : Nat), (i : Int) + (r : Int) = m → (∀ j, j < i → (32 ≤ bI w j ∧ bI w j ≤ 126)) →
    ((∀ j, j < m.toNat → (32 ≤ bI w j ∧ bI w j ≤ 126)) → ∀ l4, EX I_X5_type 0 0 none (ZM 0 0 (fun r w' => ∃ x : Int, r = some (.int (iI x)) ∧ Q x w')) 45 [some (.ref (a + 0)), some (.long w), none, some (.int (iI m)), l4] [] (P ++ bx a ik z y t so st td sk le ot sn pk ((tw (a + 21) tp tl ta ac kd nb R))) 0 0) → (¬ (∀ j, j < m.toNat → (32 ≤ bI w j ∧ bI w j ≤ 126)) → Q (-1) (P ++ bx a ik z y t so st td sk le ot sn pk ((tw (a + 21) tp tl ta ac kd nb R)))) →
    EX I_X5_type 0 0 none (ZM 0 0 (fun r w' => ∃ x : Int, r = some (.int (iI x)) ∧ Q x w')) 15 [some (.ref (a + 0)), some (.long w), none, some (.int (iI m)), some (.int (iI ((i : Int))))] [] (P ++ bx a ik z y t so st td sk le ot sn pk ((tw (a + 21) tp tl ta ac kd nb R))) 0 0 := by
  intro r
  induction r with
  | zero =>
    intro i hi hp hg hb
    refine x_iload dX5_type_15 rfl ?_
    refine x_iload_n dX5_type_17 rfl ?_
    refine x_icmp_ge 45 dX5_type_18 (fun h18 => ?_) (fun h18 => by exfalso; omega)
    exact hg (fun j hj => hp j (by omega)) _
  | succ r ih =>
    intro i hi hp hg hb
    have hbb := bI_b w i
    refine x_iload dX5_type_15 rfl ?_
    refine x_iload_n dX5_type_17 rfl ?_
    refine x_icmp_ge 45 dX5_type_18 (fun h18 => by exfalso; omega) (fun h18 => ?_)
    refine x_lload_n dX5_type_21 rfl ?_
    refine x_iload dX5_type_22 rfl ?_
    refine x_calliS dX5_type_24 mk_X5_byteOf ml_X5_222 (k_byteOf _ w i (by omega)) rfl (fun x24 w24 h24 => ?_)
    obtain ⟨rfl, rfl⟩ := h24
    refine x_bipush dX5_type_27 ?_
    refine x_bipush dX5_type_29 ?_
    refine x_calliS dX5_type_31 mk_X5_within ml_X5_54 (k_within _ (bI w i) 32 126 (by omega) (by decide) (by decide)) rfl (fun x31 w31 h31 => ?_)
    obtain ⟨hb31, rfl⟩ := h31
    by_cases c31 : 32 ≤ bI w i ∧ bI w i ≤ 126
    · rw [if_pos c31] at hb31
      subst hb31
      refine x_if_ne 39 dX5_type_34 (fun h34 => ?_) (fun h34 => absurd h34 (by decide))
      refine x_inc4 dX5_type_39 ?_
      refine x_goto 15 dX5_type_42 ?_
      exact ih (i + 1) (by omega) (fun j hj => by by_cases q : j = i; { rw [q]; exact c31 }; { exact hp j (by omega) }) hg hb
    · rw [if_neg c31] at hb31
      subst hb31
      refine x_if_ne 39 dX5_type_34 (fun h34 => absurd h34 (by decide)) (fun h34 => ?_)
      refine x_iconst dX5_type_37 ?_
      exact x_iret dX5_type_38 (hb (fun h => c31 (h i (by omega))))
set_option maxRecDepth 100000 in
set_option maxHeartbeats 4000000 in
theorem lk_ty2 {P : AW} {a : Nat} (hP : P.length = a) (ik : Int) (z y t so st : Nat → Int) (td sk le ot sn pk : Int) (ta ac : Nat) (kd nb : Nat → Int) (R : AW) (w : Int64) (m : Int) {Z : Zt} : ∀ (j : Nat) (tp : Nat → Int) (tl : Nat), j ≤ 8 → tl + j ≤ 80 → (∀ i, i < j → (32 ≤ bI w i ∧ bI w i ≤ 126)) →
    (EX I_X5_type 0 0 none Z 91 [some (.ref (a + 0)), some (.long w), none, some (.int (iI m)), some (.int (iI (((0 : Nat) : Int) - 1)))] [] (P ++ bx a ik z y t so st td sk le ot sn pk ((tw (a + 21) (wrT w j tp tl) (tl + j) ta ac kd nb R))) 0 0) →
    EX I_X5_type 0 0 none Z 67 [some (.ref (a + 0)), some (.long w), none, some (.int (iI m)), some (.int (iI ((j : Int) - 1)))] [] (P ++ bx a ik z y t so st td sk le ot sn pk ((tw (a + 21) tp tl ta ac kd nb R))) 0 0 := by
  intro j
  induction j with
  | zero =>
    intro tp tl hj hl hw hx
    refine x_iload dX5_type_67 rfl ?_
    refine x_if_lt 91 dX5_type_69 (fun h69 => ?_) (fun h69 => by exfalso; omega)
    exact hx
  | succ j ih =>
    intro tp tl hj hl hw hx
    refine x_iload dX5_type_67 rfl ?_
    refine x_if_lt 91 dX5_type_69 (fun h69 => by exfalso; omega) (fun h69 => ?_)
    refine x_aload_n dX5_type_72 rfl ?_
    refine x_getfield 0 dX5_type_73 fg_X5_43 hP rfl rfl ?_
    refine x_lload_n dX5_type_76 rfl ?_
    refine x_iload dX5_type_77 rfl ?_
    refine x_top (show ((j + 1 : Nat) : Int) - 1 = (j : Int) by omega) ?_
    refine x_calliS dX5_type_79 mk_X5_byteOf ml_X5_222 (k_byteOf _ w j (by omega)) rfl (fun x79 w79 h79 => ?_)
    obtain ⟨rfl, rfl⟩ := h79
    refine x_callvV dX5_type_82 mk_X2_append ml_X5_229 (q_append hP (oB a ik) (tk z) (tk y) z y t so st td sk le ot sn pk tp tl ta ac kd nb R (by omega) (bI w j) (hw j (by omega))) ((wg_app hP 21).trans rfl) rfl (fun w82 h82 => ?_)
    subst h82
    refine x_inc4 dX5_type_85 ?_
    refine x_goto 67 dX5_type_88 ?_
    refine x_eqls (show _ = [some (.ref (a + 0)), some (.long w), none, some (.int (iI m)), some (.int (iI ((j : Int) - 1)))] by rw [show ((j + 1 : Nat) : Int) - 1 + -1 = (j : Int) - 1 by omega]) ?_
    rw [show tl + (j + 1) = tl + 1 + j by omega] at hx
    exact ih (updI tp tl (bI w j)) (tl + 1) (by omega) (by omega) (fun i hi => hw i (by omega)) hx
set_option maxRecDepth 100000 in
set_option maxHeartbeats 4000000 in
theorem b_type {P : AW} {a : Nat} (hP : P.length = a) (ik : Int) (z y t so st : Nat → Int) (td sk le ot sn pk : Int) (tp : Nat → Int) (tl ta ac : Nat) (kd nb : Nat → Int) (R : AW) (hC : CI z td sk so st le ot sn pk) (htl : tl ≤ 80) (w : Int64) (m : Int) (him : inR m) : CTi I_X5_type 0 0 [.ref (a + 0), .long w, .int (iI m)] (P ++ bx a ik z y t so st td sk le ot sn pk ((tw (a + 21) tp tl ta ac kd nb R))) (fun x w' => x = rTyp w m tl ∧ (if ((1 ≤ m ∧ m ≤ 8) ∧ tB w m.toNat = 1 ∧ (tl : Int) + m ≤ 80) then BI P a ik z y (tw (a + 21) (wrT w m.toNat tp tl) (tl + m.toNat) ta ac kd nb R) w' else BI P a ik z y (tw (a + 21) tp tl ta ac kd nb R) w')) := by
  refine CT_of 1 rfl (Nat.le_of_ble_eq_true rfl) ?_
  show EX I_X5_type 0 0 none _ 0 [some (.ref (a + 0)), some (.long w), none, some (.int (iI m)), none] [] _ 0 0
  refine x_iload_n dX5_type_0 rfl ?_
  refine x_iconst dX5_type_1 ?_
  refine x_bipush dX5_type_2 ?_
  refine x_calliS dX5_type_4 mk_X5_within ml_X5_54 (k_within _ m 1 8 him (by decide) (by decide)) rfl (fun x4 w4 h4 => ?_)
  obtain ⟨hb4, rfl⟩ := h4
  by_cases c4 : 1 ≤ m ∧ m ≤ 8
  · rw [if_pos c4] at hb4
    subst hb4
    refine x_if_ne 12 dX5_type_7 (fun h7 => ?_) (fun h7 => absurd h7 (by decide))
    refine x_iconst dX5_type_12 ?_
    refine x_ist4 dX5_type_13 ?_
    refine lk_ty1 hP ik z y t so st td sk le ot sn pk tp tl ta ac kd nb R w m c4 m.toNat 0 (by omega) (fun j hj => by omega) (fun hall l4 => ?_) (fun hno => ?_)
    · have htb : tB w m.toNat = 1 := by rcases tB_b w m.toNat with h | ⟨-, i, h1, h2⟩; { exact h.1 }; { exact absurd (hall i h1) h2 }
      refine x_aload_n dX5_type_45 rfl ?_
      refine x_getfield 0 dX5_type_46 fg_X5_43 hP rfl rfl ?_
      refine x_getfield 21 dX5_type_49 fg_X5_226 hP rfl rfl ?_
      refine x_bipush dX5_type_52 ?_
      refine x_iload_n dX5_type_54 rfl ?_
      refine x_isub dX5_type_55 ?_
      refine x_icmp_le 62 dX5_type_56 (fun h56 => ?_) (fun h56 => ?_) (hb := by omega)
      · refine x_iload_n dX5_type_62 rfl ?_
        refine x_iconst dX5_type_63 ?_
        refine x_isub dX5_type_64 ?_
        refine x_ist4 dX5_type_65 ?_
        refine x_eqls (show _ = [some (.ref (a + 0)), some (.long w), none, some (.int (iI m)), some (.int (iI (((m.toNat : Nat) : Int) - 1)))] by rw [show ((m.toNat : Nat) : Int) - 1 = m - 1 by omega]) ?_
        refine lk_ty2 hP ik z y t so st td sk le ot sn pk ta ac kd nb R w m m.toNat tp tl (by omega) (by omega) hall ?_
        refine x_aload_n dX5_type_91 rfl ?_
        refine x_getfield 0 dX5_type_92 fg_X5_43 hP rfl rfl ?_
        refine x_getfield 21 dX5_type_95 fg_X5_226 hP rfl rfl ?_
        exact x_iret dX5_type_98 ⟨by unfold rTyp; rw [if_pos c4, if_pos htb, if_pos (by omega)]; omega, by rw [if_pos ⟨c4, htb, by omega⟩]; exact ⟨t, so, st, td, sk, le, ot, sn, pk, rfl, hC⟩⟩
      · refine x_bipush dX5_type_59 ?_
        exact x_iret dX5_type_61 (⟨by unfold rTyp; rw [if_pos c4, if_pos htb, if_neg (by omega)], by rw [if_neg (fun h => by omega)]; exact ⟨t, so, st, td, sk, le, ot, sn, pk, rfl, hC⟩⟩)
    · have htb : tB w m.toNat = 0 := by rcases tB_b w m.toNat with h | h; { exact absurd h.2 hno }; { exact h.1 }
      exact ⟨by unfold rTyp; rw [if_pos c4, if_neg (by omega)], by rw [if_neg (fun h => by omega)]; exact ⟨t, so, st, td, sk, le, ot, sn, pk, rfl, hC⟩⟩
  · rw [if_neg c4] at hb4
    subst hb4
    refine x_if_ne 12 dX5_type_7 (fun h7 => absurd h7 (by decide)) (fun h7 => ?_)
    refine x_iconst dX5_type_10 ?_
    exact x_iret dX5_type_11 (⟨by unfold rTyp; rw [if_neg c4], by rw [if_neg (fun h => c4 h.1)]; exact ⟨t, so, st, td, sk, le, ot, sn, pk, rfl, hC⟩⟩)
