/-! ===== the class: Till, Sheet ===== -/
abbrev oT (x11 x12 x13 x9 x7 x8 x10 x14 : Int) : AC := .inr (3, [.int (iI x11), .int (iI x12), .int (iI x13), .int (iI x9), .int (iI x7), .int (iI x8), .int (iI x10), .int (iI x14)])
abbrev tk (z : Nat → Int) : AC := oT (z 11) (z 12) (z 13) (z 9) (z 7) (z 8) (z 10) (z 14)
theorem tk_fin {x11 x12 x13 x9 x7 x8 x10 x14 : Int} {z : Nat → Int} (h11 : x11 = z 11) (h12 : x12 = z 12) (h13 : x13 = z 13) (h9 : x9 = z 9) (h7 : x7 = z 7) (h8 : x8 = z 8) (h10 : x10 = z 10) (h14 : x14 = z 14) : oT x11 x12 x13 x9 x7 x8 x10 x14 = tk z := by
  subst h11; subst h12; subst h13; subst h9; subst h7; subst h8; subst h10; subst h14; rfl
set_option maxRecDepth 100000 in
set_option maxHeartbeats 4000000 in
theorem k_owed {P : AW} {a : Nat} (hP : P.length = a) (z : Nat → Int) (R : AW) (o9 : 0 ≤ z 9 ∧ z 9 ≤ 90000000) (o11 : 1 ≤ z 11 ∧ z 11 ≤ 99) (o12 : 1 ≤ z 12 ∧ z 12 ≤ 999) (o13 : 1 ≤ z 13 ∧ z 13 ≤ 20) : CTi I_X3_owed 0 0 [.ref (a + 0)] (P ++ (tk z :: R)) (fun x w' => x = mOwes z ∧ w' = P ++ (tk z :: R)) := by
  have q1 : 0 ≤ z 9 % z 12 := Int.emod_nonneg _ (by omega)
  have q2 : z 9 % z 12 < z 12 := Int.emod_lt_of_pos _ (by omega)
  refine CT_of 0 rfl (Nat.le_of_ble_eq_true rfl) ?_
  show EX I_X3_owed 0 0 none _ 0 [some (.ref (a + 0))] [] _ 0 0
  refine x_aload_n dX3_owed_0 rfl ?_
  refine x_getfield 0 dX3_owed_1 fg_X3_7 hP rfl rfl ?_
  refine x_iconst dX3_owed_4 ?_
  refine x_icmp_lt 16 dX3_owed_5 (fun h5 => by exfalso; omega) (fun h5 => ?_)
  refine x_aload_n dX3_owed_8 rfl ?_
  refine x_getfield 0 dX3_owed_9 fg_X3_13 hP rfl rfl ?_
  refine x_iconst dX3_owed_12 ?_
  refine x_icmp_ge 18 dX3_owed_13 (fun h13 => ?_) (fun h13 => by exfalso; omega)
  refine x_aload_n dX3_owed_18 rfl ?_
  refine x_getfield 0 dX3_owed_19 fg_X3_16 hP rfl rfl ?_
  refine x_aload_n dX3_owed_22 rfl ?_
  refine x_getfield 0 dX3_owed_23 fg_X3_19 hP rfl rfl ?_
  refine x_aload_n dX3_owed_26 rfl ?_
  refine x_getfield 0 dX3_owed_27 fg_X3_13 hP rfl rfl ?_
  refine x_idiv dX3_owed_30 ?_
  refine x_imul dX3_owed_31 ?_
  refine x_aload_n dX3_owed_32 rfl ?_
  refine x_getfield 0 dX3_owed_33 fg_X3_19 hP rfl rfl ?_
  refine x_aload_n dX3_owed_36 rfl ?_
  refine x_getfield 0 dX3_owed_37 fg_X3_13 hP rfl rfl ?_
  refine x_irem dX3_owed_40 ?_
  refine x_aload_n dX3_owed_41 rfl ?_
  refine x_getfield 0 dX3_owed_42 fg_X3_7 hP rfl rfl ?_
  refine x_idiv dX3_owed_45 ?_
  refine x_iadd dX3_owed_46 ?_
  exact x_iret dX3_owed_47 (⟨rfl, rfl⟩)
set_option maxRecDepth 100000 in
set_option maxHeartbeats 4000000 in
theorem k_newPrices {P : AW} {a : Nat} (hP : P.length = a) (z : Nat → Int) (R : AW) (p q m : Int) : CTv I_X3_newPrices 0 0 [.ref (a + 0), .int (iI p), .int (iI q), .int (iI m)] (P ++ (tk z :: R)) (fun w' => w' = P ++ (tk (updI (updI (updI (updI z 11 p) 12 q) 13 m) 9 0) :: R)) := by
  refine CT_of 0 rfl (Nat.le_of_ble_eq_true rfl) ?_
  show EX I_X3_newPrices 0 0 none _ 0 [some (.ref (a + 0)), some (.int (iI p)), some (.int (iI q)), some (.int (iI m))] [] _ 0 0
  refine x_aload_n dX3_newPrices_0 rfl ?_
  refine x_iload_n dX3_newPrices_1 rfl ?_
  refine x_putfield 0 dX3_newPrices_2 fl_X3_7 hP rfl (fun _ _ => ⟨rfl, rfl⟩) ?_
  refine x_aload_n dX3_newPrices_5 rfl ?_
  refine x_iload_n dX3_newPrices_6 rfl ?_
  refine x_putfield 0 dX3_newPrices_7 fl_X3_13 hP rfl (fun _ _ => ⟨rfl, rfl⟩) ?_
  refine x_aload_n dX3_newPrices_10 rfl ?_
  refine x_iload_n dX3_newPrices_11 rfl ?_
  refine x_putfield 0 dX3_newPrices_12 fl_X3_16 hP rfl (fun _ _ => ⟨rfl, rfl⟩) ?_
  refine x_aload_n dX3_newPrices_15 rfl ?_
  refine x_iconst dX3_newPrices_16 ?_
  refine x_putfield 0 dX3_newPrices_17 fl_X3_19 hP rfl (fun _ _ => ⟨rfl, rfl⟩) ?_
  exact x_vret dX3_newPrices_20 (rfl)
set_option maxRecDepth 100000 in
set_option maxHeartbeats 4000000 in
theorem k_take {P : AW} {a : Nat} (hP : P.length = a) (z : Nat → Int) (R : AW) (v : Int) (hv : 1 ≤ v ∧ v ≤ 99) (o9 : 0 ≤ z 9 ∧ z 9 ≤ 80000000) (o11 : 1 ≤ z 11 ∧ z 11 ≤ 99) (o12 : 1 ≤ z 12 ∧ z 12 ≤ 999) (o13 : 1 ≤ z 13 ∧ z 13 ≤ 20) : CTv I_X3_take 0 0 [.ref (a + 0), .int (iI v)] (P ++ (tk z :: R)) (fun w' => w' = P ++ (tk (updI (mPaid z v) 7 (z 7 + mDue z v)) :: R)) := by
  refine CT_of 1 rfl (Nat.le_of_ble_eq_true rfl) ?_
  show EX I_X3_take 0 0 none _ 0 [some (.ref (a + 0)), some (.int (iI v)), none] [] _ 0 0
  refine x_aload_n dX3_take_0 rfl ?_
  refine x_calliV dX3_take_1 mk_X3_owed ml_X3_34 (k_owed hP z R ⟨by omega, by omega⟩ o11 o12 o13) ((wg_app hP 0).trans rfl) rfl (fun x1 w1 h1 => ?_)
  obtain ⟨rfl, rfl⟩ := h1
  refine x_ist2 dX3_take_4 ?_
  refine x_aload_n dX3_take_5 rfl ?_
  refine x_dup dX3_take_6 ?_
  refine x_getfield 0 dX3_take_7 fg_X3_19 hP rfl rfl ?_
  refine x_iload_n dX3_take_10 rfl ?_
  refine x_iadd dX3_take_11 ?_
  refine x_putfield 0 dX3_take_12 fl_X3_19 hP rfl (fun _ _ => ⟨rfl, rfl⟩) ?_
  refine x_aload_n dX3_take_15 rfl ?_
  refine x_dup dX3_take_16 ?_
  refine x_getfield 0 dX3_take_17 fg_X3_28 hP rfl rfl ?_
  refine x_iload_n dX3_take_20 rfl ?_
  refine x_iadd dX3_take_21 ?_
  refine x_putfield 0 dX3_take_22 fl_X3_28 hP rfl (fun _ _ => ⟨rfl, rfl⟩) ?_
  have hp9 : 0 ≤ mPaid z v 9 ∧ mPaid z v 9 ≤ 90000000 := by rw [mPaid_9]; omega
  have hp11 : 1 ≤ mPaid z v 11 ∧ mPaid z v 11 ≤ 99 := by rw [mPaid_n (by decide) (by decide)]; exact o11
  have hp12 : 1 ≤ mPaid z v 12 ∧ mPaid z v 12 ≤ 999 := by rw [mPaid_n (by decide) (by decide)]; exact o12
  have hp13 : 1 ≤ mPaid z v 13 ∧ mPaid z v 13 ≤ 20 := by rw [mPaid_n (by decide) (by decide)]; exact o13
  have ho1 := mOwes_b hp9 hp11 hp12 hp13
  have ho0 := mOwes_b ⟨o9.1, by omega⟩ o11 o12 o13
  refine x_eqw (w' := P ++ (tk (mPaid z v) :: R)) rfl ?_
  refine x_aload_n dX3_take_25 rfl ?_
  refine x_dup dX3_take_26 ?_
  refine x_getfield 0 dX3_take_27 fg_X3_22 hP rfl rfl ?_
  refine x_iconst dX3_take_30 ?_
  refine x_aload_n dX3_take_31 rfl ?_
  refine x_calliV dX3_take_32 mk_X3_owed ml_X3_34 (k_owed hP (mPaid z v) R hp9 hp11 hp12 hp13) ((wg_app hP 0).trans rfl) rfl (fun x32 w32 h32 => ?_)
  obtain ⟨rfl, rfl⟩ := h32
  refine x_iload_n dX3_take_35 rfl ?_
  refine x_isub dX3_take_36 ?_
  refine x_max dX3_take_37 ml_X3_38 ?_ (hx := by decide) (hy := by omega)
  refine x_top (show max 0 (mOwes (mPaid z v) - mOwes z) = mDue z v by unfold mDue; split <;> omega) ?_
  refine x_iadd dX3_take_40 ?_
  refine x_putfield 0 dX3_take_41 fl_X3_22 hP rfl (fun _ _ => ⟨rfl, rfl⟩) ?_
  exact x_vret dX3_take_44 (rfl)
abbrev oS (a : Nat) (l n : Int) : AC := .inr (1, [.int (iI l), .int (iI n), .ref (a + 1)])
abbrev sk2 (a : Nat) (l n : Int) (f : Nat → Int) (R : AW) : AW := oS a l n :: aI 0 24 f :: R
set_option maxRecDepth 100000 in
set_option maxHeartbeats 4000000 in
theorem lk_hold {P : AW} {a : Nat} (hP : P.length = a) (l' n' : Int) (f : Nat → Int) (R : AW) {Z : Zt} (hx : EX I_X1_hold 0 0 none Z 31 [some (.ref (a + 0)), some (.int (iI l')), some (.int (iI n')), some (.int (iI ((24 : Nat) : Int)))] [] (P ++ sk2 a l' n' (fun _ => 0) R) 0 0) : ∀ (r k : Nat), k + r = 24 → EX I_X1_hold 0 0 none Z 12 [some (.ref (a + 0)), some (.int (iI l')), some (.int (iI n')), some (.int (iI ((k : Nat) : Int)))] [] (P ++ sk2 a l' n' (zit f 0 (k)) R) 0 0 := by
  intro r
  induction r with
  | zero =>
    intro k hs
    have hs' : k = 24 := by omega
    subst hs'
    refine x_iload_n dX1_hold_12 rfl ?_
    refine x_bipush dX1_hold_13 ?_
    refine x_icmp_ge 31 dX1_hold_15 (fun h15 => ?_) (fun h15 => by exfalso; omega)
    refine x_ext 1 hP rfl (g := fun _ => 0) (fun j hj => if_pos (by omega)) ?_
    exact hx
  | succ r ih =>
    intro k hs
    refine x_iload_n dX1_hold_12 rfl ?_
    refine x_bipush dX1_hold_13 ?_
    refine x_icmp_ge 31 dX1_hold_15 (fun h15 => by exfalso; omega) (fun h15 => ?_)
    refine x_aload_n dX1_hold_18 rfl ?_
    refine x_getfield 0 dX1_hold_19 fg_X1_18 hP rfl rfl ?_
    refine x_iload_n dX1_hold_22 rfl ?_
    refine x_iconst dX1_hold_23 ?_
    refine x_iastore 1 (k) dX1_hold_24 hP rfl ?_
    refine x_eqw (w' := P ++ sk2 a l' n' (zit f 0 (k + 1)) R) (by rw [← zit_s, Nat.zero_add]; rfl) ?_
    refine x_inc3 dX1_hold_25 ?_
    refine x_goto 12 dX1_hold_28 ?_
    exact ih (k + 1) (by omega)
set_option maxRecDepth 100000 in
set_option maxHeartbeats 4000000 in
theorem k_hold {P : AW} {a : Nat} (hP : P.length = a) (l n : Int) (f : Nat → Int) (R : AW) (l' n' : Int) : CTv I_X1_hold 0 0 [.ref (a + 0), .int (iI l'), .int (iI n')] (P ++ sk2 a l n f R) (fun w' => w' = P ++ sk2 a l' n' (fun _ => 0) R) := by
  refine CT_of 1 rfl (Nat.le_of_ble_eq_true rfl) ?_
  show EX I_X1_hold 0 0 none _ 0 [some (.ref (a + 0)), some (.int (iI l')), some (.int (iI n')), none] [] _ 0 0
  refine x_aload_n dX1_hold_0 rfl ?_
  refine x_iload_n dX1_hold_1 rfl ?_
  refine x_putfield 0 dX1_hold_2 fl_X1_9 hP rfl (fun _ _ => ⟨rfl, rfl⟩) ?_
  refine x_aload_n dX1_hold_5 rfl ?_
  refine x_iload_n dX1_hold_6 rfl ?_
  refine x_putfield 0 dX1_hold_7 fl_X1_15 hP rfl (fun _ _ => ⟨rfl, rfl⟩) ?_
  refine x_iconst dX1_hold_10 ?_
  refine x_ist3 dX1_hold_11 ?_
  refine x_eqw (w' := P ++ sk2 a l' n' (zit f 0 (0)) R) (by rw [zit_0]; rfl) (lk_hold hP l' n' f R ?_ 24 0 rfl)
  exact x_vret dX1_hold_31 rfl
set_option maxRecDepth 100000 in
set_option maxHeartbeats 4000000 in
theorem k_refusalAs {P : AW} {a : Nat} (hP : P.length = a) (l n : Int) (f : Nat → Int) (R : AW) (hil : inR l) (k : Int) (hik : inR k) : CTi I_X1_refusalAs 0 0 [.ref (a + 0), .int (iI k)] (P ++ sk2 a l n f R) (fun x w' => x = (if l = -4 then -11 else if l = k then 0 else -12) ∧ w' = P ++ sk2 a l n f R) := by
  refine CT_of 0 rfl (Nat.le_of_ble_eq_true rfl) ?_
  show EX I_X1_refusalAs 0 0 none _ 0 [some (.ref (a + 0)), some (.int (iI k))] [] _ 0 0
  refine x_aload_n dX1_refusalAs_0 rfl ?_
  refine x_getfield 0 dX1_refusalAs_1 fg_X1_9 hP rfl rfl ?_
  refine x_bipush dX1_refusalAs_4 ?_
  refine x_icmp_ne 12 dX1_refusalAs_6 (fun h6 => ?_) (fun h6 => ?_)
  · refine x_aload_n dX1_refusalAs_12 rfl ?_
    refine x_getfield 0 dX1_refusalAs_13 fg_X1_9 hP rfl rfl ?_
    refine x_iload_n dX1_refusalAs_16 rfl ?_
    refine x_icmp_ne 24 dX1_refusalAs_17 (fun h17 => ?_) (fun h17 => ?_)
    · refine x_bipush dX1_refusalAs_24 ?_
      exact x_iret dX1_refusalAs_26 (⟨by (repeat' split) <;> omega, rfl⟩)
    · refine x_iconst dX1_refusalAs_20 ?_
      refine x_goto 26 dX1_refusalAs_21 ?_
      exact x_iret dX1_refusalAs_26 (⟨by (repeat' split) <;> omega, rfl⟩)
  · refine x_bipush dX1_refusalAs_9 ?_
    exact x_iret dX1_refusalAs_11 (⟨by (repeat' split) <;> omega, rfl⟩)
set_option maxRecDepth 100000 in
set_option maxHeartbeats 4000000 in
theorem k_write {P : AW} {a : Nat} (hP : P.length = a) (l n : Int) (f : Nat → Int) (R : AW) (hil : inR l) (i v : Int) (hi : 0 ≤ i ∧ i ≤ 23) : CTv I_X1_write 0 0 [.ref (a + 0), .int (iI i), .int (iI v)] (P ++ sk2 a l n f R) (fun w' => w' = P ++ sk2 a l n (updI f i.toNat (cutI l v)) R) := by
  refine CT_of 0 rfl (Nat.le_of_ble_eq_true rfl) ?_
  show EX I_X1_write 0 0 none _ 0 [some (.ref (a + 0)), some (.int (iI i)), some (.int (iI v))] [] _ 0 0
  refine x_aload_n dX1_write_0 rfl ?_
  refine x_getfield 0 dX1_write_1 fg_X1_9 hP rfl rfl ?_
  refine x_if_ne 18 dX1_write_4 (fun h4 => ?_) (fun h4 => ?_)
  · refine x_aload_n dX1_write_18 rfl ?_
    refine x_getfield 0 dX1_write_19 fg_X1_9 hP rfl rfl ?_
    refine x_iconst dX1_write_22 ?_
    refine x_icmp_ne 37 dX1_write_23 (fun h23 => ?_) (fun h23 => ?_)
    · refine x_aload_n dX1_write_37 rfl ?_
      refine x_getfield 0 dX1_write_38 fg_X1_18 hP rfl rfl ?_
      refine x_iload_n dX1_write_41 rfl ?_
      refine x_iload_n dX1_write_42 rfl ?_
      refine x_iastore 1 (i.toNat) dX1_write_43 hP rfl ?_
      exact x_vret dX1_write_44 (by unfold cutI; (repeat' split) <;> first | rfl | (exfalso; omega))
    · refine x_aload_n dX1_write_26 rfl ?_
      refine x_getfield 0 dX1_write_27 fg_X1_18 hP rfl rfl ?_
      refine x_iload_n dX1_write_30 rfl ?_
      refine x_iload_n dX1_write_31 rfl ?_
      refine x_i2s dX1_write_32 (sx16_i v) ?_
      refine x_iastore 1 (i.toNat) dX1_write_33 hP rfl ?_
      refine x_goto 44 dX1_write_34 ?_
      exact x_vret dX1_write_44 (by unfold cutI; (repeat' split) <;> first | rfl | (exfalso; omega))
  · refine x_aload_n dX1_write_7 rfl ?_
    refine x_getfield 0 dX1_write_8 fg_X1_18 hP rfl rfl ?_
    refine x_iload_n dX1_write_11 rfl ?_
    refine x_iload_n dX1_write_12 rfl ?_
    refine x_i2b dX1_write_13 (sx8_i v) ?_
    refine x_iastore 1 (i.toNat) dX1_write_14 hP rfl ?_
    refine x_goto 44 dX1_write_15 ?_
    exact x_vret dX1_write_44 (by unfold cutI; (repeat' split) <;> first | rfl | (exfalso; omega))
/-- all of them from k on -/
theorem rgt_z (f : Nat → Int) : ∀ (d k : Nat), f k < 1 → rgt f (k + 1 + d) = 0
  | 0, k, h => if_neg (by omega)
  | d + 1, k, h => by
    have := rgt_z f d k h
    show (if ¬ rgt f (k + 1 + d) = 0 ∧ ¬ f (k + 1 + d) < 1 then (1 : Int) else 0) = 0
    exact if_neg (by omega)
set_option maxRecDepth 100000 in
set_option maxHeartbeats 4000000 in
theorem lk_areTimes {P : AW} {a : Nat} (hP : P.length = a) (l n : Int) (f : Nat → Int) (R : AW) (hf : ∀ i, inR (f i)) (fr m : Int) (h1 : 0 ≤ fr) (h2 : 1 ≤ m) (h3 : fr + m ≤ 24) {Q : Int → AW → Prop} : ∀ (r k : Nat), k + r = m.toNat → rgt (fun i => f (fr.toNat + i)) k = 1 → Q (rgt (fun i => f (fr.toNat + i)) m.toNat) (P ++ sk2 a l n f R) → EX I_X1_areTimes 0 0 none (ZM 0 0 (fun r w' => ∃ x : Int, r = some (.int (iI x)) ∧ Q x w')) 2 [some (.ref (a + 0)), some (.int (iI fr)), some (.int (iI m)), some (.int (iI ((k : Nat) : Int)))] [] (P ++ sk2 a l n f R) 0 0 := by
  intro r
  induction r with
  | zero =>
    intro k hs hr hq
    have hs' : k = m.toNat := by omega
    subst hs'
    refine x_iload_n dX1_areTimes_2 rfl ?_
    refine x_iload_n dX1_areTimes_3 rfl ?_
    refine x_icmp_ge 27 dX1_areTimes_4 (fun h4 => ?_) (fun h4 => by exfalso; omega)
    refine x_iconst dX1_areTimes_27 ?_
    rw [hr] at hq
    exact x_zret dX1_areTimes_28 (by omega) hq
  | succ r ih =>
    intro k hs hr hq
    have hfk := hf (fr.toNat + k)
    refine x_iload_n dX1_areTimes_2 rfl ?_
    refine x_iload_n dX1_areTimes_3 rfl ?_
    refine x_icmp_ge 27 dX1_areTimes_4 (fun h4 => by exfalso; omega) (fun h4 => ?_)
    refine x_aload_n dX1_areTimes_7 rfl ?_
    refine x_getfield 0 dX1_areTimes_8 fg_X1_18 hP rfl rfl ?_
    refine x_iload_n dX1_areTimes_11 rfl ?_
    refine x_iload_n dX1_areTimes_12 rfl ?_
    refine x_iadd dX1_areTimes_13 ?_
    refine x_iaload 1 (fr.toNat + k) dX1_areTimes_14 hP rfl ?_
    refine x_iconst dX1_areTimes_15 ?_
    refine x_icmp_ge 21 dX1_areTimes_16 (fun h16 => ?_) (fun h16 => ?_) (ha := by omega)
    · refine x_inc3 dX1_areTimes_21 ?_
      refine x_goto 2 dX1_areTimes_24 ?_
      have e1 : rgt (fun i => f (fr.toNat + i)) (k + 1) = 1 := if_pos ⟨by omega, (by show ¬ f (fr.toNat + k) < 1; omega)⟩
      exact ih (k + 1) (by omega) e1 hq
    · refine x_iconst dX1_areTimes_19 ?_
      exact x_zret dX1_areTimes_20 (by omega) (by rw [show rgt (fun i => f (fr.toNat + i)) m.toNat = 0 by rw [show m.toNat = k + 1 + r by omega]; exact rgt_z (fun i => f (fr.toNat + i)) r k (by omega)] at hq; exact hq)
set_option maxRecDepth 100000 in
set_option maxHeartbeats 4000000 in
theorem k_areTimes {P : AW} {a : Nat} (hP : P.length = a) (l n : Int) (f : Nat → Int) (R : AW) (hf : ∀ i, inR (f i)) (fr m : Int) (h1 : 0 ≤ fr) (h2 : 1 ≤ m) (h3 : fr + m ≤ 24) : CTi I_X1_areTimes 0 0 [.ref (a + 0), .int (iI fr), .int (iI m)] (P ++ sk2 a l n f R) (fun x w' => x = rgt (fun i => f (fr.toNat + i)) m.toNat ∧ w' = P ++ sk2 a l n f R) := by
  refine CT_of 1 rfl (Nat.le_of_ble_eq_true rfl) ?_
  show EX I_X1_areTimes 0 0 none _ 0 [some (.ref (a + 0)), some (.int (iI fr)), some (.int (iI m)), none] [] _ 0 0
  refine x_iconst dX1_areTimes_0 ?_
  refine x_ist3 dX1_areTimes_1 ?_
  exact lk_areTimes hP l n f R hf fr m h1 h2 h3 m.toNat 0 (by omega) rfl ⟨rfl, rfl⟩
/-- the place of the only gap among the first k, -4: none so far -/
def og (f : Nat → Int) (g : Int) : Nat → Int
  | 0 => -4
  | k + 1 => if f k < g then og f g k else (k : Int)
theorem og_a (f : Nat → Int) (g : Int) : ∀ k : Nat, (gcnt f g k = 0 ∧ og f g k = -4) ∨ (1 ≤ gcnt f g k ∧ og f g k + 1 = lsa f g 0 k ∧ 0 ≤ og f g k)
  | 0 => Or.inl ⟨rfl, rfl⟩
  | k + 1 => by
    have h := og_a f g k
    have hg := gcnt_b f g k
    unfold gcnt og lsa
    split
    · exact h
    · exact Or.inr ⟨by omega, rfl, by omega⟩
theorem gcnt_m (f : Nat → Int) (g : Int) : ∀ (d k : Nat), gcnt f g k ≤ gcnt f g (k + d)
  | 0, k => Int.le_refl _
  | d + 1, k => by
    have := gcnt_m f g d k
    show _ ≤ (if f (k + d) < g then gcnt f g (k + d) else gcnt f g (k + d) + 1)
    split <;> omega
def rOg (f : Nat → Int) (g : Int) (m : Nat) : Int := if gcnt f g m = 1 then og f g m else -4
set_option maxRecDepth 100000 in
set_option maxHeartbeats 4000000 in
theorem lk_onlyGap {P : AW} {a : Nat} (hP : P.length = a) (l n : Int) (f : Nat → Int) (R : AW) (hf : ∀ i, inR (f i)) (fr m g : Int) (h1 : 0 ≤ fr) (h2 : 1 ≤ m) (h3 : fr + m ≤ 24) (hg : 1 ≤ g ∧ g ≤ 999) {Q : Int → AW → Prop} : ∀ (r k : Nat), k + r = m.toNat → gcnt (fun i => f (fr.toNat + i)) g k ≤ 1 → Q (rOg (fun i => f (fr.toNat + i)) g m.toNat) (P ++ sk2 a l n f R) → EX I_X1_onlyGap 0 0 none (ZM 0 0 (fun r w' => ∃ x : Int, r = some (.int (iI x)) ∧ Q x w')) 7 [some (.ref (a + 0)), some (.int (iI fr)), some (.int (iI m)), some (.int (iI g)), some (.int (iI (og (fun i => f (fr.toNat + i)) g k))), some (.int (iI ((k : Nat) : Int)))] [] (P ++ sk2 a l n f R) 0 0 := by
  intro r
  induction r with
  | zero =>
    intro k hs hr hq
    have hs' : k = m.toNat := by omega
    subst hs'
    have hoa := og_a (fun i => f (fr.toNat + i)) g m.toNat
    have hgb := gcnt_b (fun i => f (fr.toNat + i)) g m.toNat
    refine x_iload dX1_onlyGap_7 rfl ?_
    refine x_iload_n dX1_onlyGap_9 rfl ?_
    refine x_icmp_ge 46 dX1_onlyGap_10 (fun h10 => ?_) (fun h10 => by exfalso; omega)
    refine x_iload dX1_onlyGap_46 rfl ?_
    exact x_iret dX1_onlyGap_48 (by rw [show rOg (fun i => f (fr.toNat + i)) g m.toNat = og (fun i => f (fr.toNat + i)) g m.toNat by unfold rOg; split <;> omega] at hq; exact hq)
  | succ r ih =>
    intro k hs hr hq
    have hfk := hf (fr.toNat + k)
    have hoa := og_a (fun i => f (fr.toNat + i)) g k
    have hla := lsa_b (fun i => f (fr.toNat + i)) g 0 k
    refine x_iload dX1_onlyGap_7 rfl ?_
    refine x_iload_n dX1_onlyGap_9 rfl ?_
    refine x_icmp_ge 46 dX1_onlyGap_10 (fun h10 => by exfalso; omega) (fun h10 => ?_)
    refine x_aload_n dX1_onlyGap_13 rfl ?_
    refine x_getfield 0 dX1_onlyGap_14 fg_X1_18 hP rfl rfl ?_
    refine x_iload_n dX1_onlyGap_17 rfl ?_
    refine x_iload dX1_onlyGap_18 rfl ?_
    refine x_iadd dX1_onlyGap_20 ?_
    refine x_iaload 1 (fr.toNat + k) dX1_onlyGap_21 hP rfl ?_
    refine x_iload_n dX1_onlyGap_22 rfl ?_
    refine x_icmp_lt 40 dX1_onlyGap_23 (fun h23 => ?_) (fun h23 => ?_) (ha := by omega) (hb := by omega)
    · refine x_inc5 dX1_onlyGap_40 ?_
      refine x_goto 7 dX1_onlyGap_43 ?_
      have e1 : og (fun i => f (fr.toNat + i)) g (k + 1) = og (fun i => f (fr.toNat + i)) g k := if_pos h23
      have e2 : gcnt (fun i => f (fr.toNat + i)) g (k + 1) = gcnt (fun i => f (fr.toNat + i)) g k := if_pos h23
      have := ih (k + 1) (by omega) (by omega) hq
      rw [e1] at this
      exact this
    · refine x_iload dX1_onlyGap_26 rfl ?_
      refine x_bipush dX1_onlyGap_28 ?_
      refine x_icmp_eq 36 dX1_onlyGap_30 (fun h30 => ?_) (fun h30 => ?_) (ha := by omega)
      · refine x_iload dX1_onlyGap_36 rfl ?_
        refine x_ist4 dX1_onlyGap_38 ?_
        refine x_inc5 dX1_onlyGap_40 ?_
        refine x_goto 7 dX1_onlyGap_43 ?_
        have e1 : og (fun i => f (fr.toNat + i)) g (k + 1) = (k : Int) := if_neg h23
        have e2 : gcnt (fun i => f (fr.toNat + i)) g (k + 1) = gcnt (fun i => f (fr.toNat + i)) g k + 1 := if_neg h23
        have := ih (k + 1) (by omega) (by omega) hq
        rw [e1] at this
        exact this
      · refine x_bipush dX1_onlyGap_33 ?_
        exact x_iret dX1_onlyGap_35 (by have e2 : gcnt (fun i => f (fr.toNat + i)) g (k + 1) = gcnt (fun i => f (fr.toNat + i)) g k + 1 := if_neg h23; have e3 := gcnt_m (fun i => f (fr.toNat + i)) g r (k + 1); rw [show k + 1 + r = m.toNat by omega] at e3; rw [show rOg (fun i => f (fr.toNat + i)) g m.toNat = -4 from if_neg (by omega)] at hq; exact hq)
set_option maxRecDepth 100000 in
set_option maxHeartbeats 4000000 in
theorem k_onlyGap {P : AW} {a : Nat} (hP : P.length = a) (l n : Int) (f : Nat → Int) (R : AW) (hf : ∀ i, inR (f i)) (fr m g : Int) (h1 : 0 ≤ fr) (h2 : 1 ≤ m) (h3 : fr + m ≤ 24) (hg : 1 ≤ g ∧ g ≤ 999) : CTi I_X1_onlyGap 0 0 [.ref (a + 0), .int (iI fr), .int (iI m), .int (iI g)] (P ++ sk2 a l n f R) (fun x w' => x = rOg (fun i => f (fr.toNat + i)) g m.toNat ∧ w' = P ++ sk2 a l n f R) := by
  refine CT_of 2 rfl (Nat.le_of_ble_eq_true rfl) ?_
  show EX I_X1_onlyGap 0 0 none _ 0 [some (.ref (a + 0)), some (.int (iI fr)), some (.int (iI m)), some (.int (iI g)), none, none] [] _ 0 0
  refine x_bipush dX1_onlyGap_0 ?_
  refine x_ist4 dX1_onlyGap_2 ?_
  refine x_iconst dX1_onlyGap_4 ?_
  refine x_ist5 dX1_onlyGap_5 ?_
  exact lk_onlyGap hP l n f R hf fr m g h1 h2 h3 hg m.toNat 0 (by omega) (show (0 : Int) ≤ 1 by decide) ⟨rfl, rfl⟩
