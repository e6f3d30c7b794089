/-! ===== the constructors ===== -/
def z00 : Nat → Int := fun i => if i = 2 then 1 else if i = 11 then 10 else if i = 12 then 25 else if i = 13 then 3 else if i = 14 then 1 else if i = 15 then 99 else if 20 ≤ i ∧ i < 30 then -4 else 0
theorem z00_0 {i : Nat} (h : ¬ (i = 2 ∨ (11 ≤ i ∧ i ≤ 15) ∨ (20 ≤ i ∧ i < 30))) : z00 i = 0 := by
  unfold z00
  rw [if_neg (by omega), if_neg (by omega), if_neg (by omega), if_neg (by omega), if_neg (by omega), if_neg (by omega), if_neg (by omega)]
theorem z00_r {i : Nat} (h : 20 ≤ i ∧ i < 30) : z00 i = -4 := by
  unfold z00
  rw [if_neg (by omega), if_neg (by omega), if_neg (by omega), if_neg (by omega), if_neg (by omega), if_neg (by omega), if_pos h]
theorem z00_p : mB (pF z00) = 0 := mB_0.mpr (fun t ht => by unfold pF; rw [z00_0 (by omega)]; rfl)
theorem z00_i : mB (iF z00) = 0 := mB_0.mpr (fun t ht => by unfold iF; rw [z00_0 (by omega)]; rfl)
theorem z00_o : mB (oF z00) = 0 := mB_0.mpr (fun t ht => by unfold oF; rw [z00_0 (by omega)]; rfl)
set_option maxRecDepth 100000 in
set_option maxHeartbeats 4000000 in
theorem lk_iW {P : AW} {a : Nat} (hP : P.length = a) {Z : Zt} (hx : EX I_X4_init 4 94 none Z 119 [some (.ref (a + 0)), some (.int (iI ((10 : Nat) : Int)))] [] (P ++ (oW a 0 0 0 0 99 0 0 1 0 0 0 0 :: aI 0 32 (fun _ => 0) :: aI 0 32 (fun _ => 0) :: aI 0 10 (cpyI (fun _ => -4) (fun _ => 0) (10)) :: aI 0 20 (fun _ => 0) :: [])) 4 94) : ∀ (r k : Nat), k + r = 10 → EX I_X4_init 4 94 none Z 99 [some (.ref (a + 0)), some (.int (iI ((k : Nat) : Int)))] [] (P ++ (oW a 0 0 0 0 99 0 0 1 0 0 0 0 :: aI 0 32 (fun _ => 0) :: aI 0 32 (fun _ => 0) :: aI 0 10 (cpyI (fun _ => -4) (fun _ => 0) (k)) :: aI 0 20 (fun _ => 0) :: [])) 4 94 := by
  intro r
  induction r with
  | zero =>
    intro k hs
    have hs' : k = 10 := by omega
    subst hs'
    refine x_iload_n dX4_init_99 rfl ?_
    refine x_bipush dX4_init_100 ?_
    refine x_icmp_ge 119 dX4_init_102 (fun h102 => ?_) (fun h102 => by exfalso; omega)
    exact hx
  | succ r ih =>
    intro k hs
    refine x_iload_n dX4_init_99 rfl ?_
    refine x_bipush dX4_init_100 ?_
    refine x_icmp_ge 119 dX4_init_102 (fun h102 => by exfalso; omega) (fun h102 => ?_)
    refine x_aload_n dX4_init_105 rfl ?_
    refine x_getfield 0 dX4_init_106 fg_X4_22 hP rfl rfl ?_
    refine x_iload_n dX4_init_109 rfl ?_
    refine x_bipush dX4_init_110 ?_
    refine x_iastore 3 (k) dX4_init_112 hP rfl ?_
    refine x_eqw (w' := P ++ (oW a 0 0 0 0 99 0 0 1 0 0 0 0 :: aI 0 32 (fun _ => 0) :: aI 0 32 (fun _ => 0) :: aI 0 10 (cpyI (fun _ => -4) (fun _ => 0) (k + 1)) :: aI 0 20 (fun _ => 0) :: [])) (by rw [← cpyI_s]; rfl) ?_
    refine x_inc1 dX4_init_113 ?_
    refine x_goto 99 dX4_init_116 ?_
    exact ih (k + 1) (by omega)
set_option maxRecDepth 100000 in
set_option maxHeartbeats 4000000 in
theorem k_iW {P : AW} {a : Nat} (hP : P.length = a) : CTv I_X4_init 4 94 [.ref (a + 0)] (P ++ [.inr (4, nfX4)]) (fun w' => w' = P ++ wk a z00 []) := by
  refine CT_of 1 rfl (Nat.le_of_ble_eq_true rfl) ?_
  show EX I_X4_init 4 94 none _ 0 [some (.ref (a + 0)), none] [] _ 0 0
  refine x_aload_n dX4_init_0 rfl ?_
  refine x_oinit dX4_init_1 ml_X4_3 ?_
  refine x_aload_n dX4_init_4 rfl ?_
  refine x_iconst dX4_init_5 ?_
  refine x_putfield 0 dX4_init_6 fl_X4_9 hP rfl (fun _ _ => ⟨rfl, rfl⟩) ?_
  refine x_aload_n dX4_init_9 rfl ?_
  refine x_bipush dX4_init_10 ?_
  refine x_newi (N := 32) dX4_init_12 rfl hP rfl ?_
  refine x_putfield 0 dX4_init_14 fl_X4_15 hP rfl (fun _ _ => ⟨rfl, rfl⟩) ?_
  refine x_aload_n dX4_init_17 rfl ?_
  refine x_bipush dX4_init_18 ?_
  refine x_newi (N := 32) dX4_init_20 rfl hP rfl ?_
  refine x_putfield 0 dX4_init_22 fl_X4_19 hP rfl (fun _ _ => ⟨rfl, rfl⟩) ?_
  refine x_aload_n dX4_init_25 rfl ?_
  refine x_bipush dX4_init_26 ?_
  refine x_newi (N := 10) dX4_init_28 rfl hP rfl ?_
  refine x_putfield 0 dX4_init_30 fl_X4_22 hP rfl (fun _ _ => ⟨rfl, rfl⟩) ?_
  refine x_aload_n dX4_init_33 rfl ?_
  refine x_bipush dX4_init_34 ?_
  refine x_newi (N := 20) dX4_init_36 rfl hP rfl ?_
  refine x_putfield 0 dX4_init_38 fl_X4_25 hP rfl (fun _ _ => ⟨rfl, rfl⟩) ?_
  refine x_aload_n dX4_init_41 rfl ?_
  refine x_iconst dX4_init_42 ?_
  refine x_putfield 0 dX4_init_43 fl_X4_28 hP rfl (fun _ _ => ⟨rfl, rfl⟩) ?_
  refine x_aload_n dX4_init_46 rfl ?_
  refine x_iconst dX4_init_47 ?_
  refine x_putfield 0 dX4_init_48 fl_X4_31 hP rfl (fun _ _ => ⟨rfl, rfl⟩) ?_
  refine x_aload_n dX4_init_51 rfl ?_
  refine x_iconst dX4_init_52 ?_
  refine x_putfield 0 dX4_init_53 fl_X4_34 hP rfl (fun _ _ => ⟨rfl, rfl⟩) ?_
  refine x_aload_n dX4_init_56 rfl ?_
  refine x_bipush dX4_init_57 ?_
  refine x_putfield 0 dX4_init_59 fl_X4_37 hP rfl (fun _ _ => ⟨rfl, rfl⟩) ?_
  refine x_aload_n dX4_init_62 rfl ?_
  refine x_iconst dX4_init_63 ?_
  refine x_putfield 0 dX4_init_64 fl_X4_40 hP rfl (fun _ _ => ⟨rfl, rfl⟩) ?_
  refine x_aload_n dX4_init_67 rfl ?_
  refine x_iconst dX4_init_68 ?_
  refine x_putfield 0 dX4_init_69 fl_X4_43 hP rfl (fun _ _ => ⟨rfl, rfl⟩) ?_
  refine x_aload_n dX4_init_72 rfl ?_
  refine x_iconst dX4_init_73 ?_
  refine x_putfield 0 dX4_init_74 fl_X4_46 hP rfl (fun _ _ => bfit (by omega)) ?_
  refine x_aload_n dX4_init_77 rfl ?_
  refine x_iconst dX4_init_78 ?_
  refine x_putfield 0 dX4_init_79 fl_X4_50 hP rfl (fun _ _ => ⟨rfl, rfl⟩) ?_
  refine x_aload_n dX4_init_82 rfl ?_
  refine x_iconst dX4_init_83 ?_
  refine x_putfield 0 dX4_init_84 fl_X4_53 hP rfl (fun _ _ => ⟨rfl, rfl⟩) ?_
  refine x_aload_n dX4_init_87 rfl ?_
  refine x_iconst dX4_init_88 ?_
  refine x_putfield 0 dX4_init_89 fl_X4_56 hP rfl (fun _ _ => ⟨rfl, rfl⟩) ?_
  refine x_aload_n dX4_init_92 rfl ?_
  refine x_iconst dX4_init_93 ?_
  refine x_putfield 0 dX4_init_94 fl_X4_59 hP rfl (fun _ _ => ⟨rfl, rfl⟩) ?_
  refine x_iconst dX4_init_97 ?_
  refine x_ist1 dX4_init_98 ?_
  refine x_eqw (w' := P ++ (oW a 0 0 0 0 99 0 0 1 0 0 0 0 :: aI 0 32 (fun _ => 0) :: aI 0 32 (fun _ => 0) :: aI 0 10 (cpyI (fun _ => -4) (fun _ => 0) (0)) :: aI 0 20 (fun _ => 0) :: [])) (by rw [cpyI_0]; rfl) (lk_iW hP ?_ 10 0 rfl)
  refine x_wk hP z00 (fun j hj => (z00_0 (by omega)).symm) (fun j hj => (z00_0 (by omega)).symm) (fun j hj => by rw [z00_r (by omega)]; exact if_pos hj) (fun j hj => (z00_0 (by omega)).symm) rfl z00_p.symm z00_i.symm z00_o.symm rfl rfl rfl rfl rfl rfl rfl rfl ?_
  exact x_vret dX4_init_119 rfl
set_option maxRecDepth 100000 in
set_option maxHeartbeats 4000000 in
theorem k_iT {P : AW} {a : Nat} (hP : P.length = a) : CTv I_X3_init 0 0 [.ref (a + 0)] (P ++ [.inr (3, nfX3)]) (fun w' => w' = P ++ [tk z00]) := by
  refine CT_of 0 rfl (Nat.le_of_ble_eq_true rfl) ?_
  show EX I_X3_init 0 0 none _ 0 [some (.ref (a + 0))] [] _ 0 0
  refine x_aload_n dX3_init_0 rfl ?_
  refine x_oinit dX3_init_1 ml_X3_1 ?_
  refine x_aload_n dX3_init_4 rfl ?_
  refine x_bipush dX3_init_5 ?_
  refine x_putfield 0 dX3_init_7 fl_X3_7 hP rfl (fun _ _ => ⟨rfl, rfl⟩) ?_
  refine x_aload_n dX3_init_10 rfl ?_
  refine x_bipush dX3_init_11 ?_
  refine x_putfield 0 dX3_init_13 fl_X3_13 hP rfl (fun _ _ => ⟨rfl, rfl⟩) ?_
  refine x_aload_n dX3_init_16 rfl ?_
  refine x_iconst dX3_init_17 ?_
  refine x_putfield 0 dX3_init_18 fl_X3_16 hP rfl (fun _ _ => ⟨rfl, rfl⟩) ?_
  refine x_aload_n dX3_init_21 rfl ?_
  refine x_iconst dX3_init_22 ?_
  refine x_putfield 0 dX3_init_23 fl_X3_19 hP rfl (fun _ _ => ⟨rfl, rfl⟩) ?_
  refine x_aload_n dX3_init_26 rfl ?_
  refine x_iconst dX3_init_27 ?_
  refine x_putfield 0 dX3_init_28 fl_X3_22 hP rfl (fun _ _ => ⟨rfl, rfl⟩) ?_
  refine x_aload_n dX3_init_31 rfl ?_
  refine x_iconst dX3_init_32 ?_
  refine x_putfield 0 dX3_init_33 fl_X3_25 hP rfl (fun _ _ => ⟨rfl, rfl⟩) ?_
  refine x_aload_n dX3_init_36 rfl ?_
  refine x_iconst dX3_init_37 ?_
  refine x_putfield 0 dX3_init_38 fl_X3_28 hP rfl (fun _ _ => ⟨rfl, rfl⟩) ?_
  refine x_aload_n dX3_init_41 rfl ?_
  refine x_iconst dX3_init_42 ?_
  refine x_putfield 0 dX3_init_43 fl_X3_31 hP rfl (fun _ _ => ⟨rfl, rfl⟩) ?_
  exact x_vret dX3_init_46 (rfl)
set_option maxRecDepth 100000 in
set_option maxHeartbeats 4000000 in
theorem k_iS {P : AW} {a : Nat} (hP : P.length = a) : CTv I_X1_init 1 24 [.ref (a + 0)] (P ++ [.inr (1, nfX1)]) (fun w' => w' = P ++ sk2 a (-4) 0 (fun _ => 0) []) := by
  refine CT_of 0 rfl (Nat.le_of_ble_eq_true rfl) ?_
  show EX I_X1_init 1 24 none _ 0 [some (.ref (a + 0))] [] _ 0 0
  refine x_aload_n dX1_init_0 rfl ?_
  refine x_oinit dX1_init_1 ml_X1_3 ?_
  refine x_aload_n dX1_init_4 rfl ?_
  refine x_bipush dX1_init_5 ?_
  refine x_putfield 0 dX1_init_7 fl_X1_9 hP rfl (fun _ _ => ⟨rfl, rfl⟩) ?_
  refine x_aload_n dX1_init_10 rfl ?_
  refine x_iconst dX1_init_11 ?_
  refine x_putfield 0 dX1_init_12 fl_X1_15 hP rfl (fun _ _ => ⟨rfl, rfl⟩) ?_
  refine x_aload_n dX1_init_15 rfl ?_
  refine x_bipush dX1_init_16 ?_
  refine x_newi (N := 24) dX1_init_18 rfl hP rfl ?_
  refine x_putfield 0 dX1_init_20 fl_X1_18 hP rfl (fun _ _ => ⟨rfl, rfl⟩) ?_
  exact x_vret dX1_init_23 (rfl)
set_option maxRecDepth 100000 in
set_option maxHeartbeats 4000000 in
theorem k_iP {P : AW} {a : Nat} (hP : P.length = a) : CTv I_X2_init 3 160 [.ref (a + 0)] (P ++ [.inr (2, nfX2)]) (fun w' => w' = P ++ tw a (fun _ => 0) 0 0 0 (fun _ => 0) (fun _ => 0) []) := by
  refine CT_of 0 rfl (Nat.le_of_ble_eq_true rfl) ?_
  show EX I_X2_init 3 160 none _ 0 [some (.ref (a + 0))] [] _ 0 0
  refine x_aload_n dX2_init_0 rfl ?_
  refine x_oinit dX2_init_1 ml_X2_3 ?_
  refine x_aload_n dX2_init_4 rfl ?_
  refine x_bipush dX2_init_5 ?_
  refine x_newb (N := 80) dX2_init_7 rfl hP rfl ?_
  refine x_putfield 0 dX2_init_9 fl_X2_9 hP rfl (fun _ _ => ⟨rfl, rfl⟩) ?_
  refine x_aload_n dX2_init_12 rfl ?_
  refine x_iconst dX2_init_13 ?_
  refine x_putfield 0 dX2_init_14 fl_X2_15 hP rfl (fun _ _ => ⟨rfl, rfl⟩) ?_
  refine x_aload_n dX2_init_17 rfl ?_
  refine x_iconst dX2_init_18 ?_
  refine x_putfield 0 dX2_init_19 fl_X2_19 hP rfl (fun _ _ => ⟨rfl, rfl⟩) ?_
  refine x_aload_n dX2_init_22 rfl ?_
  refine x_bipush dX2_init_23 ?_
  refine x_newi (N := 40) dX2_init_25 rfl hP rfl ?_
  refine x_putfield 0 dX2_init_27 fl_X2_22 hP rfl (fun _ _ => ⟨rfl, rfl⟩) ?_
  refine x_aload_n dX2_init_30 rfl ?_
  refine x_bipush dX2_init_31 ?_
  refine x_newi (N := 40) dX2_init_33 rfl hP rfl ?_
  refine x_putfield 0 dX2_init_35 fl_X2_26 hP rfl (fun _ _ => ⟨rfl, rfl⟩) ?_
  refine x_aload_n dX2_init_38 rfl ?_
  refine x_iconst dX2_init_39 ?_
  refine x_putfield 0 dX2_init_40 fl_X2_29 hP rfl (fun _ _ => ⟨rfl, rfl⟩) ?_
  exact x_vret dX2_init_43 (rfl)
