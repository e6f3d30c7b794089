/-! ===== the class: Outlook ===== -/
abbrev oO (a : Nat) (td sk le ot sn pk : Int) : AC := .inr (0, [.ref (a + 14), .ref (a + 19), .ref (a + 20), .int (iI td), .int (iI sk), .int (iI le), .int (iI ot), .int (iI sn), .int (iI pk)])
abbrev ow (a : Nat) (c0 c6 c12 : AC) (z y t so st : Nat → Int) (td sk le ot sn pk : Int) (R : AW) : AW :=
  c0 :: wk (a + 1) z (c6 :: wk (a + 7) y (c12 :: oO a td sk le ot sn pk :: wk (a + 14) t (aI 0 64 so :: aI 0 64 st :: R)))
abbrev p14 (a : Nat) (c0 c6 c12 : AC) (z y : Nat → Int) (td sk le ot sn pk : Int) : AW := c0 :: wk (a + 1) z (c6 :: wk (a + 7) y (c12 :: oO a td sk le ot sn pk :: []))
theorem len14 {P : AW} {a : Nat} (hP : P.length = a) (c0 c6 c12 : AC) (z y : Nat → Int) (td sk le ot sn pk : Int) : (P ++ p14 a c0 c6 c12 z y td sk le ot sn pk).length = a + 14 := by rw [List.length_append, hP]; rfl
theorem len1 {P : AW} {a : Nat} (hP : P.length = a) (c0 : AC) : (P ++ [c0]).length = a + 1 := by rw [List.length_append, hP]; rfl
set_option maxRecDepth 100000 in
set_option maxHeartbeats 4000000 in
theorem k_copyT {P : AW} {a : Nat} (hP : P.length = a) (c0 c6 c12 : AC) (z y t so st : Nat → Int) (td sk le ot sn pk : Int) (R : AW) (h2 : z 2 = 0 ∨ z 2 = 1) : CTv I_X4_copyFrom 0 0 [.ref (a + 14), .ref (a + 1)] (P ++ ow a c0 c6 c12 z y t so st td sk le ot sn pk R) (fun w' => w' = P ++ ow a c0 c6 c12 z y (z) so st td sk le ot sn pk R) := by
  refine CT_of 0 rfl (Nat.le_of_ble_eq_true rfl) ?_
  show EX I_X4_copyFrom 0 0 none _ 0 [some (.ref (a + 14)), some (.ref (a + 1))] [] _ 0 0
  refine x_aload_n dX4_copyFrom_0 rfl ?_
  refine x_getfield 1 dX4_copyFrom_1 fg_X4_15 hP rfl rfl ?_
  refine x_iconst dX4_copyFrom_4 ?_
  refine x_aload_n dX4_copyFrom_5 rfl ?_
  refine x_getfield 14 dX4_copyFrom_6 fg_X4_15 hP rfl rfl ?_
  refine x_iconst dX4_copyFrom_9 ?_
  refine x_bipush dX4_copyFrom_10 ?_
  refine x_copy (N' := 0) 2 15 dX4_copyFrom_12 ml_X4_62 hP rfl rfl rfl rfl rfl ?_
  refine x_eqw (w' := P ++ (c0 :: (wk (a + 1) z (c6 :: (wk (a + 7) y (c12 :: oO a td sk le ot sn pk :: (oW (a + 14) (t 16) (mB (pF t)) (mB (iF t)) (mB (oF t)) (t 15) (t 0) (t 1) (t 2) (t 3) (t 4) (t 5) (t 6) :: aI 0 32 (fun j => z (90 + j)) :: aI 0 32 (fun j => t (122 + j)) :: aI 0 10 (fun j => t (20 + j)) :: aI 0 20 (fun j => t (70 + j)) :: (aI 0 64 so :: aI 0 64 st :: R)))))))) rfl ?_
  refine x_aload_n dX4_copyFrom_15 rfl ?_
  refine x_getfield 1 dX4_copyFrom_16 fg_X4_19 hP rfl rfl ?_
  refine x_iconst dX4_copyFrom_19 ?_
  refine x_aload_n dX4_copyFrom_20 rfl ?_
  refine x_getfield 14 dX4_copyFrom_21 fg_X4_19 hP rfl rfl ?_
  refine x_iconst dX4_copyFrom_24 ?_
  refine x_bipush dX4_copyFrom_25 ?_
  refine x_copy (N' := 0) 3 16 dX4_copyFrom_27 ml_X4_62 hP rfl rfl rfl rfl rfl ?_
  refine x_eqw (w' := P ++ (c0 :: (wk (a + 1) z (c6 :: (wk (a + 7) y (c12 :: oO a td sk le ot sn pk :: (oW (a + 14) (t 16) (mB (pF t)) (mB (iF t)) (mB (oF t)) (t 15) (t 0) (t 1) (t 2) (t 3) (t 4) (t 5) (t 6) :: aI 0 32 (fun j => z (90 + j)) :: aI 0 32 (fun j => z (122 + j)) :: aI 0 10 (fun j => t (20 + j)) :: aI 0 20 (fun j => t (70 + j)) :: (aI 0 64 so :: aI 0 64 st :: R)))))))) rfl ?_
  refine x_aload_n dX4_copyFrom_30 rfl ?_
  refine x_getfield 1 dX4_copyFrom_31 fg_X4_22 hP rfl rfl ?_
  refine x_iconst dX4_copyFrom_34 ?_
  refine x_aload_n dX4_copyFrom_35 rfl ?_
  refine x_getfield 14 dX4_copyFrom_36 fg_X4_22 hP rfl rfl ?_
  refine x_iconst dX4_copyFrom_39 ?_
  refine x_bipush dX4_copyFrom_40 ?_
  refine x_copy (N' := 0) 4 17 dX4_copyFrom_42 ml_X4_62 hP rfl rfl rfl rfl rfl ?_
  refine x_eqw (w' := P ++ (c0 :: (wk (a + 1) z (c6 :: (wk (a + 7) y (c12 :: oO a td sk le ot sn pk :: (oW (a + 14) (t 16) (mB (pF t)) (mB (iF t)) (mB (oF t)) (t 15) (t 0) (t 1) (t 2) (t 3) (t 4) (t 5) (t 6) :: aI 0 32 (fun j => z (90 + j)) :: aI 0 32 (fun j => z (122 + j)) :: aI 0 10 (fun j => z (20 + j)) :: aI 0 20 (fun j => t (70 + j)) :: (aI 0 64 so :: aI 0 64 st :: R)))))))) rfl ?_
  refine x_aload_n dX4_copyFrom_45 rfl ?_
  refine x_getfield 1 dX4_copyFrom_46 fg_X4_25 hP rfl rfl ?_
  refine x_iconst dX4_copyFrom_49 ?_
  refine x_aload_n dX4_copyFrom_50 rfl ?_
  refine x_getfield 14 dX4_copyFrom_51 fg_X4_25 hP rfl rfl ?_
  refine x_iconst dX4_copyFrom_54 ?_
  refine x_bipush dX4_copyFrom_55 ?_
  refine x_copy (N' := 0) 5 18 dX4_copyFrom_57 ml_X4_62 hP rfl rfl rfl rfl rfl ?_
  refine x_eqw (w' := P ++ (c0 :: (wk (a + 1) z (c6 :: (wk (a + 7) y (c12 :: oO a td sk le ot sn pk :: (oW (a + 14) (t 16) (mB (pF t)) (mB (iF t)) (mB (oF t)) (t 15) (t 0) (t 1) (t 2) (t 3) (t 4) (t 5) (t 6) :: aI 0 32 (fun j => z (90 + j)) :: aI 0 32 (fun j => z (122 + j)) :: aI 0 10 (fun j => z (20 + j)) :: aI 0 20 (fun j => z (70 + j)) :: (aI 0 64 so :: aI 0 64 st :: R)))))))) rfl ?_
  refine x_aload_n dX4_copyFrom_60 rfl ?_
  refine x_aload_n dX4_copyFrom_61 rfl ?_
  refine x_getfield 1 dX4_copyFrom_62 fg_X4_9 hP rfl rfl ?_
  refine x_putfield 14 dX4_copyFrom_65 fl_X4_9 hP rfl (fun _ _ => ⟨rfl, rfl⟩) ?_
  refine x_eqw (w' := P ++ (c0 :: (wk (a + 1) z (c6 :: (wk (a + 7) y (c12 :: oO a td sk le ot sn pk :: (oW (a + 14) (z 16) (mB (pF t)) (mB (iF t)) (mB (oF t)) (t 15) (t 0) (t 1) (t 2) (t 3) (t 4) (t 5) (t 6) :: aI 0 32 (fun j => z (90 + j)) :: aI 0 32 (fun j => z (122 + j)) :: aI 0 10 (fun j => z (20 + j)) :: aI 0 20 (fun j => z (70 + j)) :: (aI 0 64 so :: aI 0 64 st :: R)))))))) rfl ?_
  refine x_aload_n dX4_copyFrom_68 rfl ?_
  refine x_aload_n dX4_copyFrom_69 rfl ?_
  refine x_getfield 1 dX4_copyFrom_70 fg_X4_28 hP rfl rfl ?_
  refine x_putfield 14 dX4_copyFrom_73 fl_X4_28 hP rfl (fun _ _ => ⟨rfl, rfl⟩) ?_
  refine x_eqw (w' := P ++ (c0 :: (wk (a + 1) z (c6 :: (wk (a + 7) y (c12 :: oO a td sk le ot sn pk :: (oW (a + 14) (z 16) (mB (pF z)) (mB (iF t)) (mB (oF t)) (t 15) (t 0) (t 1) (t 2) (t 3) (t 4) (t 5) (t 6) :: aI 0 32 (fun j => z (90 + j)) :: aI 0 32 (fun j => z (122 + j)) :: aI 0 10 (fun j => z (20 + j)) :: aI 0 20 (fun j => z (70 + j)) :: (aI 0 64 so :: aI 0 64 st :: R)))))))) rfl ?_
  refine x_aload_n dX4_copyFrom_76 rfl ?_
  refine x_aload_n dX4_copyFrom_77 rfl ?_
  refine x_getfield 1 dX4_copyFrom_78 fg_X4_31 hP rfl rfl ?_
  refine x_putfield 14 dX4_copyFrom_81 fl_X4_31 hP rfl (fun _ _ => ⟨rfl, rfl⟩) ?_
  refine x_eqw (w' := P ++ (c0 :: (wk (a + 1) z (c6 :: (wk (a + 7) y (c12 :: oO a td sk le ot sn pk :: (oW (a + 14) (z 16) (mB (pF z)) (mB (iF z)) (mB (oF t)) (t 15) (t 0) (t 1) (t 2) (t 3) (t 4) (t 5) (t 6) :: aI 0 32 (fun j => z (90 + j)) :: aI 0 32 (fun j => z (122 + j)) :: aI 0 10 (fun j => z (20 + j)) :: aI 0 20 (fun j => z (70 + j)) :: (aI 0 64 so :: aI 0 64 st :: R)))))))) rfl ?_
  refine x_aload_n dX4_copyFrom_84 rfl ?_
  refine x_aload_n dX4_copyFrom_85 rfl ?_
  refine x_getfield 1 dX4_copyFrom_86 fg_X4_34 hP rfl rfl ?_
  refine x_putfield 14 dX4_copyFrom_89 fl_X4_34 hP rfl (fun _ _ => ⟨rfl, rfl⟩) ?_
  refine x_eqw (w' := P ++ (c0 :: (wk (a + 1) z (c6 :: (wk (a + 7) y (c12 :: oO a td sk le ot sn pk :: (oW (a + 14) (z 16) (mB (pF z)) (mB (iF z)) (mB (oF z)) (t 15) (t 0) (t 1) (t 2) (t 3) (t 4) (t 5) (t 6) :: aI 0 32 (fun j => z (90 + j)) :: aI 0 32 (fun j => z (122 + j)) :: aI 0 10 (fun j => z (20 + j)) :: aI 0 20 (fun j => z (70 + j)) :: (aI 0 64 so :: aI 0 64 st :: R)))))))) rfl ?_
  refine x_aload_n dX4_copyFrom_92 rfl ?_
  refine x_aload_n dX4_copyFrom_93 rfl ?_
  refine x_getfield 1 dX4_copyFrom_94 fg_X4_37 hP rfl rfl ?_
  refine x_putfield 14 dX4_copyFrom_97 fl_X4_37 hP rfl (fun _ _ => ⟨rfl, rfl⟩) ?_
  refine x_eqw (w' := P ++ (c0 :: (wk (a + 1) z (c6 :: (wk (a + 7) y (c12 :: oO a td sk le ot sn pk :: (oW (a + 14) (z 16) (mB (pF z)) (mB (iF z)) (mB (oF z)) (z 15) (t 0) (t 1) (t 2) (t 3) (t 4) (t 5) (t 6) :: aI 0 32 (fun j => z (90 + j)) :: aI 0 32 (fun j => z (122 + j)) :: aI 0 10 (fun j => z (20 + j)) :: aI 0 20 (fun j => z (70 + j)) :: (aI 0 64 so :: aI 0 64 st :: R)))))))) rfl ?_
  refine x_aload_n dX4_copyFrom_100 rfl ?_
  refine x_aload_n dX4_copyFrom_101 rfl ?_
  refine x_getfield 1 dX4_copyFrom_102 fg_X4_40 hP rfl rfl ?_
  refine x_putfield 14 dX4_copyFrom_105 fl_X4_40 hP rfl (fun _ _ => ⟨rfl, rfl⟩) ?_
  refine x_eqw (w' := P ++ (c0 :: (wk (a + 1) z (c6 :: (wk (a + 7) y (c12 :: oO a td sk le ot sn pk :: (oW (a + 14) (z 16) (mB (pF z)) (mB (iF z)) (mB (oF z)) (z 15) (z 0) (t 1) (t 2) (t 3) (t 4) (t 5) (t 6) :: aI 0 32 (fun j => z (90 + j)) :: aI 0 32 (fun j => z (122 + j)) :: aI 0 10 (fun j => z (20 + j)) :: aI 0 20 (fun j => z (70 + j)) :: (aI 0 64 so :: aI 0 64 st :: R)))))))) rfl ?_
  refine x_aload_n dX4_copyFrom_108 rfl ?_
  refine x_aload_n dX4_copyFrom_109 rfl ?_
  refine x_getfield 1 dX4_copyFrom_110 fg_X4_43 hP rfl rfl ?_
  refine x_putfield 14 dX4_copyFrom_113 fl_X4_43 hP rfl (fun _ _ => ⟨rfl, rfl⟩) ?_
  refine x_eqw (w' := P ++ (c0 :: (wk (a + 1) z (c6 :: (wk (a + 7) y (c12 :: oO a td sk le ot sn pk :: (oW (a + 14) (z 16) (mB (pF z)) (mB (iF z)) (mB (oF z)) (z 15) (z 0) (z 1) (t 2) (t 3) (t 4) (t 5) (t 6) :: aI 0 32 (fun j => z (90 + j)) :: aI 0 32 (fun j => z (122 + j)) :: aI 0 10 (fun j => z (20 + j)) :: aI 0 20 (fun j => z (70 + j)) :: (aI 0 64 so :: aI 0 64 st :: R)))))))) rfl ?_
  refine x_aload_n dX4_copyFrom_116 rfl ?_
  refine x_aload_n dX4_copyFrom_117 rfl ?_
  refine x_getfield 1 dX4_copyFrom_118 fg_X4_46 hP rfl rfl ?_
  refine x_putfield 14 dX4_copyFrom_121 fl_X4_46 hP rfl (fun _ _ => bfit (by omega)) ?_
  refine x_eqw (w' := P ++ (c0 :: (wk (a + 1) z (c6 :: (wk (a + 7) y (c12 :: oO a td sk le ot sn pk :: (oW (a + 14) (z 16) (mB (pF z)) (mB (iF z)) (mB (oF z)) (z 15) (z 0) (z 1) (z 2) (t 3) (t 4) (t 5) (t 6) :: aI 0 32 (fun j => z (90 + j)) :: aI 0 32 (fun j => z (122 + j)) :: aI 0 10 (fun j => z (20 + j)) :: aI 0 20 (fun j => z (70 + j)) :: (aI 0 64 so :: aI 0 64 st :: R)))))))) rfl ?_
  refine x_aload_n dX4_copyFrom_124 rfl ?_
  refine x_aload_n dX4_copyFrom_125 rfl ?_
  refine x_getfield 1 dX4_copyFrom_126 fg_X4_50 hP rfl rfl ?_
  refine x_putfield 14 dX4_copyFrom_129 fl_X4_50 hP rfl (fun _ _ => ⟨rfl, rfl⟩) ?_
  refine x_eqw (w' := P ++ (c0 :: (wk (a + 1) z (c6 :: (wk (a + 7) y (c12 :: oO a td sk le ot sn pk :: (oW (a + 14) (z 16) (mB (pF z)) (mB (iF z)) (mB (oF z)) (z 15) (z 0) (z 1) (z 2) (z 3) (t 4) (t 5) (t 6) :: aI 0 32 (fun j => z (90 + j)) :: aI 0 32 (fun j => z (122 + j)) :: aI 0 10 (fun j => z (20 + j)) :: aI 0 20 (fun j => z (70 + j)) :: (aI 0 64 so :: aI 0 64 st :: R)))))))) rfl ?_
  refine x_aload_n dX4_copyFrom_132 rfl ?_
  refine x_aload_n dX4_copyFrom_133 rfl ?_
  refine x_getfield 1 dX4_copyFrom_134 fg_X4_53 hP rfl rfl ?_
  refine x_putfield 14 dX4_copyFrom_137 fl_X4_53 hP rfl (fun _ _ => ⟨rfl, rfl⟩) ?_
  refine x_eqw (w' := P ++ (c0 :: (wk (a + 1) z (c6 :: (wk (a + 7) y (c12 :: oO a td sk le ot sn pk :: (oW (a + 14) (z 16) (mB (pF z)) (mB (iF z)) (mB (oF z)) (z 15) (z 0) (z 1) (z 2) (z 3) (z 4) (t 5) (t 6) :: aI 0 32 (fun j => z (90 + j)) :: aI 0 32 (fun j => z (122 + j)) :: aI 0 10 (fun j => z (20 + j)) :: aI 0 20 (fun j => z (70 + j)) :: (aI 0 64 so :: aI 0 64 st :: R)))))))) rfl ?_
  refine x_aload_n dX4_copyFrom_140 rfl ?_
  refine x_aload_n dX4_copyFrom_141 rfl ?_
  refine x_getfield 1 dX4_copyFrom_142 fg_X4_56 hP rfl rfl ?_
  refine x_putfield 14 dX4_copyFrom_145 fl_X4_56 hP rfl (fun _ _ => ⟨rfl, rfl⟩) ?_
  refine x_eqw (w' := P ++ (c0 :: (wk (a + 1) z (c6 :: (wk (a + 7) y (c12 :: oO a td sk le ot sn pk :: (oW (a + 14) (z 16) (mB (pF z)) (mB (iF z)) (mB (oF z)) (z 15) (z 0) (z 1) (z 2) (z 3) (z 4) (z 5) (t 6) :: aI 0 32 (fun j => z (90 + j)) :: aI 0 32 (fun j => z (122 + j)) :: aI 0 10 (fun j => z (20 + j)) :: aI 0 20 (fun j => z (70 + j)) :: (aI 0 64 so :: aI 0 64 st :: R)))))))) rfl ?_
  refine x_aload_n dX4_copyFrom_148 rfl ?_
  refine x_aload_n dX4_copyFrom_149 rfl ?_
  refine x_getfield 1 dX4_copyFrom_150 fg_X4_59 hP rfl rfl ?_
  refine x_putfield 14 dX4_copyFrom_153 fl_X4_59 hP rfl (fun _ _ => ⟨rfl, rfl⟩) ?_
  refine x_eqw (w' := P ++ (c0 :: (wk (a + 1) z (c6 :: (wk (a + 7) y (c12 :: oO a td sk le ot sn pk :: (oW (a + 14) (z 16) (mB (pF z)) (mB (iF z)) (mB (oF z)) (z 15) (z 0) (z 1) (z 2) (z 3) (z 4) (z 5) (z 6) :: aI 0 32 (fun j => z (90 + j)) :: aI 0 32 (fun j => z (122 + j)) :: aI 0 10 (fun j => z (20 + j)) :: aI 0 20 (fun j => z (70 + j)) :: (aI 0 64 so :: aI 0 64 st :: R)))))))) rfl ?_
  exact x_vret dX4_copyFrom_156 (rfl)
set_option maxRecDepth 100000 in
set_option maxHeartbeats 4000000 in
theorem k_copyK {P : AW} {a : Nat} (hP : P.length = a) (c0 c6 c12 : AC) (z y t so st : Nat → Int) (td sk le ot sn pk : Int) (R : AW) (h2 : z 2 = 0 ∨ z 2 = 1) : CTv I_X4_copyFrom 0 0 [.ref (a + 7), .ref (a + 1)] (P ++ ow a c0 c6 c12 z y t so st td sk le ot sn pk R) (fun w' => w' = P ++ ow a c0 c6 c12 z (z) t so st td sk le ot sn pk R) := by
  refine CT_of 0 rfl (Nat.le_of_ble_eq_true rfl) ?_
  show EX I_X4_copyFrom 0 0 none _ 0 [some (.ref (a + 7)), some (.ref (a + 1))] [] _ 0 0
  refine x_aload_n dX4_copyFrom_0 rfl ?_
  refine x_getfield 1 dX4_copyFrom_1 fg_X4_15 hP rfl rfl ?_
  refine x_iconst dX4_copyFrom_4 ?_
  refine x_aload_n dX4_copyFrom_5 rfl ?_
  refine x_getfield 7 dX4_copyFrom_6 fg_X4_15 hP rfl rfl ?_
  refine x_iconst dX4_copyFrom_9 ?_
  refine x_bipush dX4_copyFrom_10 ?_
  refine x_copy (N' := 0) 2 8 dX4_copyFrom_12 ml_X4_62 hP rfl rfl rfl rfl rfl ?_
  refine x_eqw (w' := P ++ (c0 :: (wk (a + 1) z (c6 :: (oW (a + 7) (y 16) (mB (pF y)) (mB (iF y)) (mB (oF y)) (y 15) (y 0) (y 1) (y 2) (y 3) (y 4) (y 5) (y 6) :: aI 0 32 (fun j => z (90 + j)) :: aI 0 32 (fun j => y (122 + j)) :: aI 0 10 (fun j => y (20 + j)) :: aI 0 20 (fun j => y (70 + j)) :: (c12 :: oO a td sk le ot sn pk :: (wk (a + 14) t (aI 0 64 so :: aI 0 64 st :: R)))))))) rfl ?_
  refine x_aload_n dX4_copyFrom_15 rfl ?_
  refine x_getfield 1 dX4_copyFrom_16 fg_X4_19 hP rfl rfl ?_
  refine x_iconst dX4_copyFrom_19 ?_
  refine x_aload_n dX4_copyFrom_20 rfl ?_
  refine x_getfield 7 dX4_copyFrom_21 fg_X4_19 hP rfl rfl ?_
  refine x_iconst dX4_copyFrom_24 ?_
  refine x_bipush dX4_copyFrom_25 ?_
  refine x_copy (N' := 0) 3 9 dX4_copyFrom_27 ml_X4_62 hP rfl rfl rfl rfl rfl ?_
  refine x_eqw (w' := P ++ (c0 :: (wk (a + 1) z (c6 :: (oW (a + 7) (y 16) (mB (pF y)) (mB (iF y)) (mB (oF y)) (y 15) (y 0) (y 1) (y 2) (y 3) (y 4) (y 5) (y 6) :: aI 0 32 (fun j => z (90 + j)) :: aI 0 32 (fun j => z (122 + j)) :: aI 0 10 (fun j => y (20 + j)) :: aI 0 20 (fun j => y (70 + j)) :: (c12 :: oO a td sk le ot sn pk :: (wk (a + 14) t (aI 0 64 so :: aI 0 64 st :: R)))))))) rfl ?_
  refine x_aload_n dX4_copyFrom_30 rfl ?_
  refine x_getfield 1 dX4_copyFrom_31 fg_X4_22 hP rfl rfl ?_
  refine x_iconst dX4_copyFrom_34 ?_
  refine x_aload_n dX4_copyFrom_35 rfl ?_
  refine x_getfield 7 dX4_copyFrom_36 fg_X4_22 hP rfl rfl ?_
  refine x_iconst dX4_copyFrom_39 ?_
  refine x_bipush dX4_copyFrom_40 ?_
  refine x_copy (N' := 0) 4 10 dX4_copyFrom_42 ml_X4_62 hP rfl rfl rfl rfl rfl ?_
  refine x_eqw (w' := P ++ (c0 :: (wk (a + 1) z (c6 :: (oW (a + 7) (y 16) (mB (pF y)) (mB (iF y)) (mB (oF y)) (y 15) (y 0) (y 1) (y 2) (y 3) (y 4) (y 5) (y 6) :: aI 0 32 (fun j => z (90 + j)) :: aI 0 32 (fun j => z (122 + j)) :: aI 0 10 (fun j => z (20 + j)) :: aI 0 20 (fun j => y (70 + j)) :: (c12 :: oO a td sk le ot sn pk :: (wk (a + 14) t (aI 0 64 so :: aI 0 64 st :: R)))))))) rfl ?_
  refine x_aload_n dX4_copyFrom_45 rfl ?_
  refine x_getfield 1 dX4_copyFrom_46 fg_X4_25 hP rfl rfl ?_
  refine x_iconst dX4_copyFrom_49 ?_
  refine x_aload_n dX4_copyFrom_50 rfl ?_
  refine x_getfield 7 dX4_copyFrom_51 fg_X4_25 hP rfl rfl ?_
  refine x_iconst dX4_copyFrom_54 ?_
  refine x_bipush dX4_copyFrom_55 ?_
  refine x_copy (N' := 0) 5 11 dX4_copyFrom_57 ml_X4_62 hP rfl rfl rfl rfl rfl ?_
  refine x_eqw (w' := P ++ (c0 :: (wk (a + 1) z (c6 :: (oW (a + 7) (y 16) (mB (pF y)) (mB (iF y)) (mB (oF y)) (y 15) (y 0) (y 1) (y 2) (y 3) (y 4) (y 5) (y 6) :: aI 0 32 (fun j => z (90 + j)) :: aI 0 32 (fun j => z (122 + j)) :: aI 0 10 (fun j => z (20 + j)) :: aI 0 20 (fun j => z (70 + j)) :: (c12 :: oO a td sk le ot sn pk :: (wk (a + 14) t (aI 0 64 so :: aI 0 64 st :: R)))))))) rfl ?_
  refine x_aload_n dX4_copyFrom_60 rfl ?_
  refine x_aload_n dX4_copyFrom_61 rfl ?_
  refine x_getfield 1 dX4_copyFrom_62 fg_X4_9 hP rfl rfl ?_
  refine x_putfield 7 dX4_copyFrom_65 fl_X4_9 hP rfl (fun _ _ => ⟨rfl, rfl⟩) ?_
  refine x_eqw (w' := P ++ (c0 :: (wk (a + 1) z (c6 :: (oW (a + 7) (z 16) (mB (pF y)) (mB (iF y)) (mB (oF y)) (y 15) (y 0) (y 1) (y 2) (y 3) (y 4) (y 5) (y 6) :: aI 0 32 (fun j => z (90 + j)) :: aI 0 32 (fun j => z (122 + j)) :: aI 0 10 (fun j => z (20 + j)) :: aI 0 20 (fun j => z (70 + j)) :: (c12 :: oO a td sk le ot sn pk :: (wk (a + 14) t (aI 0 64 so :: aI 0 64 st :: R)))))))) rfl ?_
  refine x_aload_n dX4_copyFrom_68 rfl ?_
  refine x_aload_n dX4_copyFrom_69 rfl ?_
  refine x_getfield 1 dX4_copyFrom_70 fg_X4_28 hP rfl rfl ?_
  refine x_putfield 7 dX4_copyFrom_73 fl_X4_28 hP rfl (fun _ _ => ⟨rfl, rfl⟩) ?_
  refine x_eqw (w' := P ++ (c0 :: (wk (a + 1) z (c6 :: (oW (a + 7) (z 16) (mB (pF z)) (mB (iF y)) (mB (oF y)) (y 15) (y 0) (y 1) (y 2) (y 3) (y 4) (y 5) (y 6) :: aI 0 32 (fun j => z (90 + j)) :: aI 0 32 (fun j => z (122 + j)) :: aI 0 10 (fun j => z (20 + j)) :: aI 0 20 (fun j => z (70 + j)) :: (c12 :: oO a td sk le ot sn pk :: (wk (a + 14) t (aI 0 64 so :: aI 0 64 st :: R)))))))) rfl ?_
  refine x_aload_n dX4_copyFrom_76 rfl ?_
  refine x_aload_n dX4_copyFrom_77 rfl ?_
  refine x_getfield 1 dX4_copyFrom_78 fg_X4_31 hP rfl rfl ?_
  refine x_putfield 7 dX4_copyFrom_81 fl_X4_31 hP rfl (fun _ _ => ⟨rfl, rfl⟩) ?_
  refine x_eqw (w' := P ++ (c0 :: (wk (a + 1) z (c6 :: (oW (a + 7) (z 16) (mB (pF z)) (mB (iF z)) (mB (oF y)) (y 15) (y 0) (y 1) (y 2) (y 3) (y 4) (y 5) (y 6) :: aI 0 32 (fun j => z (90 + j)) :: aI 0 32 (fun j => z (122 + j)) :: aI 0 10 (fun j => z (20 + j)) :: aI 0 20 (fun j => z (70 + j)) :: (c12 :: oO a td sk le ot sn pk :: (wk (a + 14) t (aI 0 64 so :: aI 0 64 st :: R)))))))) rfl ?_
  refine x_aload_n dX4_copyFrom_84 rfl ?_
  refine x_aload_n dX4_copyFrom_85 rfl ?_
  refine x_getfield 1 dX4_copyFrom_86 fg_X4_34 hP rfl rfl ?_
  refine x_putfield 7 dX4_copyFrom_89 fl_X4_34 hP rfl (fun _ _ => ⟨rfl, rfl⟩) ?_
  refine x_eqw (w' := P ++ (c0 :: (wk (a + 1) z (c6 :: (oW (a + 7) (z 16) (mB (pF z)) (mB (iF z)) (mB (oF z)) (y 15) (y 0) (y 1) (y 2) (y 3) (y 4) (y 5) (y 6) :: aI 0 32 (fun j => z (90 + j)) :: aI 0 32 (fun j => z (122 + j)) :: aI 0 10 (fun j => z (20 + j)) :: aI 0 20 (fun j => z (70 + j)) :: (c12 :: oO a td sk le ot sn pk :: (wk (a + 14) t (aI 0 64 so :: aI 0 64 st :: R)))))))) rfl ?_
  refine x_aload_n dX4_copyFrom_92 rfl ?_
  refine x_aload_n dX4_copyFrom_93 rfl ?_
  refine x_getfield 1 dX4_copyFrom_94 fg_X4_37 hP rfl rfl ?_
  refine x_putfield 7 dX4_copyFrom_97 fl_X4_37 hP rfl (fun _ _ => ⟨rfl, rfl⟩) ?_
  refine x_eqw (w' := P ++ (c0 :: (wk (a + 1) z (c6 :: (oW (a + 7) (z 16) (mB (pF z)) (mB (iF z)) (mB (oF z)) (z 15) (y 0) (y 1) (y 2) (y 3) (y 4) (y 5) (y 6) :: aI 0 32 (fun j => z (90 + j)) :: aI 0 32 (fun j => z (122 + j)) :: aI 0 10 (fun j => z (20 + j)) :: aI 0 20 (fun j => z (70 + j)) :: (c12 :: oO a td sk le ot sn pk :: (wk (a + 14) t (aI 0 64 so :: aI 0 64 st :: R)))))))) rfl ?_
  refine x_aload_n dX4_copyFrom_100 rfl ?_
  refine x_aload_n dX4_copyFrom_101 rfl ?_
  refine x_getfield 1 dX4_copyFrom_102 fg_X4_40 hP rfl rfl ?_
  refine x_putfield 7 dX4_copyFrom_105 fl_X4_40 hP rfl (fun _ _ => ⟨rfl, rfl⟩) ?_
  refine x_eqw (w' := P ++ (c0 :: (wk (a + 1) z (c6 :: (oW (a + 7) (z 16) (mB (pF z)) (mB (iF z)) (mB (oF z)) (z 15) (z 0) (y 1) (y 2) (y 3) (y 4) (y 5) (y 6) :: aI 0 32 (fun j => z (90 + j)) :: aI 0 32 (fun j => z (122 + j)) :: aI 0 10 (fun j => z (20 + j)) :: aI 0 20 (fun j => z (70 + j)) :: (c12 :: oO a td sk le ot sn pk :: (wk (a + 14) t (aI 0 64 so :: aI 0 64 st :: R)))))))) rfl ?_
  refine x_aload_n dX4_copyFrom_108 rfl ?_
  refine x_aload_n dX4_copyFrom_109 rfl ?_
  refine x_getfield 1 dX4_copyFrom_110 fg_X4_43 hP rfl rfl ?_
  refine x_putfield 7 dX4_copyFrom_113 fl_X4_43 hP rfl (fun _ _ => ⟨rfl, rfl⟩) ?_
  refine x_eqw (w' := P ++ (c0 :: (wk (a + 1) z (c6 :: (oW (a + 7) (z 16) (mB (pF z)) (mB (iF z)) (mB (oF z)) (z 15) (z 0) (z 1) (y 2) (y 3) (y 4) (y 5) (y 6) :: aI 0 32 (fun j => z (90 + j)) :: aI 0 32 (fun j => z (122 + j)) :: aI 0 10 (fun j => z (20 + j)) :: aI 0 20 (fun j => z (70 + j)) :: (c12 :: oO a td sk le ot sn pk :: (wk (a + 14) t (aI 0 64 so :: aI 0 64 st :: R)))))))) rfl ?_
  refine x_aload_n dX4_copyFrom_116 rfl ?_
  refine x_aload_n dX4_copyFrom_117 rfl ?_
  refine x_getfield 1 dX4_copyFrom_118 fg_X4_46 hP rfl rfl ?_
  refine x_putfield 7 dX4_copyFrom_121 fl_X4_46 hP rfl (fun _ _ => bfit (by omega)) ?_
  refine x_eqw (w' := P ++ (c0 :: (wk (a + 1) z (c6 :: (oW (a + 7) (z 16) (mB (pF z)) (mB (iF z)) (mB (oF z)) (z 15) (z 0) (z 1) (z 2) (y 3) (y 4) (y 5) (y 6) :: aI 0 32 (fun j => z (90 + j)) :: aI 0 32 (fun j => z (122 + j)) :: aI 0 10 (fun j => z (20 + j)) :: aI 0 20 (fun j => z (70 + j)) :: (c12 :: oO a td sk le ot sn pk :: (wk (a + 14) t (aI 0 64 so :: aI 0 64 st :: R)))))))) rfl ?_
  refine x_aload_n dX4_copyFrom_124 rfl ?_
  refine x_aload_n dX4_copyFrom_125 rfl ?_
  refine x_getfield 1 dX4_copyFrom_126 fg_X4_50 hP rfl rfl ?_
  refine x_putfield 7 dX4_copyFrom_129 fl_X4_50 hP rfl (fun _ _ => ⟨rfl, rfl⟩) ?_
  refine x_eqw (w' := P ++ (c0 :: (wk (a + 1) z (c6 :: (oW (a + 7) (z 16) (mB (pF z)) (mB (iF z)) (mB (oF z)) (z 15) (z 0) (z 1) (z 2) (z 3) (y 4) (y 5) (y 6) :: aI 0 32 (fun j => z (90 + j)) :: aI 0 32 (fun j => z (122 + j)) :: aI 0 10 (fun j => z (20 + j)) :: aI 0 20 (fun j => z (70 + j)) :: (c12 :: oO a td sk le ot sn pk :: (wk (a + 14) t (aI 0 64 so :: aI 0 64 st :: R)))))))) rfl ?_
  refine x_aload_n dX4_copyFrom_132 rfl ?_
  refine x_aload_n dX4_copyFrom_133 rfl ?_
  refine x_getfield 1 dX4_copyFrom_134 fg_X4_53 hP rfl rfl ?_
  refine x_putfield 7 dX4_copyFrom_137 fl_X4_53 hP rfl (fun _ _ => ⟨rfl, rfl⟩) ?_
  refine x_eqw (w' := P ++ (c0 :: (wk (a + 1) z (c6 :: (oW (a + 7) (z 16) (mB (pF z)) (mB (iF z)) (mB (oF z)) (z 15) (z 0) (z 1) (z 2) (z 3) (z 4) (y 5) (y 6) :: aI 0 32 (fun j => z (90 + j)) :: aI 0 32 (fun j => z (122 + j)) :: aI 0 10 (fun j => z (20 + j)) :: aI 0 20 (fun j => z (70 + j)) :: (c12 :: oO a td sk le ot sn pk :: (wk (a + 14) t (aI 0 64 so :: aI 0 64 st :: R)))))))) rfl ?_
  refine x_aload_n dX4_copyFrom_140 rfl ?_
  refine x_aload_n dX4_copyFrom_141 rfl ?_
  refine x_getfield 1 dX4_copyFrom_142 fg_X4_56 hP rfl rfl ?_
  refine x_putfield 7 dX4_copyFrom_145 fl_X4_56 hP rfl (fun _ _ => ⟨rfl, rfl⟩) ?_
  refine x_eqw (w' := P ++ (c0 :: (wk (a + 1) z (c6 :: (oW (a + 7) (z 16) (mB (pF z)) (mB (iF z)) (mB (oF z)) (z 15) (z 0) (z 1) (z 2) (z 3) (z 4) (z 5) (y 6) :: aI 0 32 (fun j => z (90 + j)) :: aI 0 32 (fun j => z (122 + j)) :: aI 0 10 (fun j => z (20 + j)) :: aI 0 20 (fun j => z (70 + j)) :: (c12 :: oO a td sk le ot sn pk :: (wk (a + 14) t (aI 0 64 so :: aI 0 64 st :: R)))))))) rfl ?_
  refine x_aload_n dX4_copyFrom_148 rfl ?_
  refine x_aload_n dX4_copyFrom_149 rfl ?_
  refine x_getfield 1 dX4_copyFrom_150 fg_X4_59 hP rfl rfl ?_
  refine x_putfield 7 dX4_copyFrom_153 fl_X4_59 hP rfl (fun _ _ => ⟨rfl, rfl⟩) ?_
  refine x_eqw (w' := P ++ (c0 :: (wk (a + 1) z (c6 :: (oW (a + 7) (z 16) (mB (pF z)) (mB (iF z)) (mB (oF z)) (z 15) (z 0) (z 1) (z 2) (z 3) (z 4) (z 5) (z 6) :: aI 0 32 (fun j => z (90 + j)) :: aI 0 32 (fun j => z (122 + j)) :: aI 0 10 (fun j => z (20 + j)) :: aI 0 20 (fun j => z (70 + j)) :: (c12 :: oO a td sk le ot sn pk :: (wk (a + 14) t (aI 0 64 so :: aI 0 64 st :: R)))))))) rfl ?_
  exact x_vret dX4_copyFrom_156 (rfl)
set_option maxRecDepth 100000 in
set_option maxHeartbeats 4000000 in
theorem k_copyB {P : AW} {a : Nat} (hP : P.length = a) (c0 c6 c12 : AC) (z y t so st : Nat → Int) (td sk le ot sn pk : Int) (R : AW) (h2 : y 2 = 0 ∨ y 2 = 1) : CTv I_X4_copyFrom 0 0 [.ref (a + 1), .ref (a + 7)] (P ++ ow a c0 c6 c12 z y t so st td sk le ot sn pk R) (fun w' => w' = P ++ ow a c0 c6 c12 (y) y t so st td sk le ot sn pk R) := by
  refine CT_of 0 rfl (Nat.le_of_ble_eq_true rfl) ?_
  show EX I_X4_copyFrom 0 0 none _ 0 [some (.ref (a + 1)), some (.ref (a + 7))] [] _ 0 0
  refine x_aload_n dX4_copyFrom_0 rfl ?_
  refine x_getfield 7 dX4_copyFrom_1 fg_X4_15 hP rfl rfl ?_
  refine x_iconst dX4_copyFrom_4 ?_
  refine x_aload_n dX4_copyFrom_5 rfl ?_
  refine x_getfield 1 dX4_copyFrom_6 fg_X4_15 hP rfl rfl ?_
  refine x_iconst dX4_copyFrom_9 ?_
  refine x_bipush dX4_copyFrom_10 ?_
  refine x_copy (N' := 0) 8 2 dX4_copyFrom_12 ml_X4_62 hP rfl rfl rfl rfl rfl ?_
  refine x_eqw (w' := P ++ (c0 :: (oW (a + 1) (z 16) (mB (pF z)) (mB (iF z)) (mB (oF z)) (z 15) (z 0) (z 1) (z 2) (z 3) (z 4) (z 5) (z 6) :: aI 0 32 (fun j => y (90 + j)) :: aI 0 32 (fun j => z (122 + j)) :: aI 0 10 (fun j => z (20 + j)) :: aI 0 20 (fun j => z (70 + j)) :: (c6 :: (wk (a + 7) y (c12 :: oO a td sk le ot sn pk :: (wk (a + 14) t (aI 0 64 so :: aI 0 64 st :: R)))))))) rfl ?_
  refine x_aload_n dX4_copyFrom_15 rfl ?_
  refine x_getfield 7 dX4_copyFrom_16 fg_X4_19 hP rfl rfl ?_
  refine x_iconst dX4_copyFrom_19 ?_
  refine x_aload_n dX4_copyFrom_20 rfl ?_
  refine x_getfield 1 dX4_copyFrom_21 fg_X4_19 hP rfl rfl ?_
  refine x_iconst dX4_copyFrom_24 ?_
  refine x_bipush dX4_copyFrom_25 ?_
  refine x_copy (N' := 0) 9 3 dX4_copyFrom_27 ml_X4_62 hP rfl rfl rfl rfl rfl ?_
  refine x_eqw (w' := P ++ (c0 :: (oW (a + 1) (z 16) (mB (pF z)) (mB (iF z)) (mB (oF z)) (z 15) (z 0) (z 1) (z 2) (z 3) (z 4) (z 5) (z 6) :: aI 0 32 (fun j => y (90 + j)) :: aI 0 32 (fun j => y (122 + j)) :: aI 0 10 (fun j => z (20 + j)) :: aI 0 20 (fun j => z (70 + j)) :: (c6 :: (wk (a + 7) y (c12 :: oO a td sk le ot sn pk :: (wk (a + 14) t (aI 0 64 so :: aI 0 64 st :: R)))))))) rfl ?_
  refine x_aload_n dX4_copyFrom_30 rfl ?_
  refine x_getfield 7 dX4_copyFrom_31 fg_X4_22 hP rfl rfl ?_
  refine x_iconst dX4_copyFrom_34 ?_
  refine x_aload_n dX4_copyFrom_35 rfl ?_
  refine x_getfield 1 dX4_copyFrom_36 fg_X4_22 hP rfl rfl ?_
  refine x_iconst dX4_copyFrom_39 ?_
  refine x_bipush dX4_copyFrom_40 ?_
  refine x_copy (N' := 0) 10 4 dX4_copyFrom_42 ml_X4_62 hP rfl rfl rfl rfl rfl ?_
  refine x_eqw (w' := P ++ (c0 :: (oW (a + 1) (z 16) (mB (pF z)) (mB (iF z)) (mB (oF z)) (z 15) (z 0) (z 1) (z 2) (z 3) (z 4) (z 5) (z 6) :: aI 0 32 (fun j => y (90 + j)) :: aI 0 32 (fun j => y (122 + j)) :: aI 0 10 (fun j => y (20 + j)) :: aI 0 20 (fun j => z (70 + j)) :: (c6 :: (wk (a + 7) y (c12 :: oO a td sk le ot sn pk :: (wk (a + 14) t (aI 0 64 so :: aI 0 64 st :: R)))))))) rfl ?_
  refine x_aload_n dX4_copyFrom_45 rfl ?_
  refine x_getfield 7 dX4_copyFrom_46 fg_X4_25 hP rfl rfl ?_
  refine x_iconst dX4_copyFrom_49 ?_
  refine x_aload_n dX4_copyFrom_50 rfl ?_
  refine x_getfield 1 dX4_copyFrom_51 fg_X4_25 hP rfl rfl ?_
  refine x_iconst dX4_copyFrom_54 ?_
  refine x_bipush dX4_copyFrom_55 ?_
  refine x_copy (N' := 0) 11 5 dX4_copyFrom_57 ml_X4_62 hP rfl rfl rfl rfl rfl ?_
  refine x_eqw (w' := P ++ (c0 :: (oW (a + 1) (z 16) (mB (pF z)) (mB (iF z)) (mB (oF z)) (z 15) (z 0) (z 1) (z 2) (z 3) (z 4) (z 5) (z 6) :: aI 0 32 (fun j => y (90 + j)) :: aI 0 32 (fun j => y (122 + j)) :: aI 0 10 (fun j => y (20 + j)) :: aI 0 20 (fun j => y (70 + j)) :: (c6 :: (wk (a + 7) y (c12 :: oO a td sk le ot sn pk :: (wk (a + 14) t (aI 0 64 so :: aI 0 64 st :: R)))))))) rfl ?_
  refine x_aload_n dX4_copyFrom_60 rfl ?_
  refine x_aload_n dX4_copyFrom_61 rfl ?_
  refine x_getfield 7 dX4_copyFrom_62 fg_X4_9 hP rfl rfl ?_
  refine x_putfield 1 dX4_copyFrom_65 fl_X4_9 hP rfl (fun _ _ => ⟨rfl, rfl⟩) ?_
  refine x_eqw (w' := P ++ (c0 :: (oW (a + 1) (y 16) (mB (pF z)) (mB (iF z)) (mB (oF z)) (z 15) (z 0) (z 1) (z 2) (z 3) (z 4) (z 5) (z 6) :: aI 0 32 (fun j => y (90 + j)) :: aI 0 32 (fun j => y (122 + j)) :: aI 0 10 (fun j => y (20 + j)) :: aI 0 20 (fun j => y (70 + j)) :: (c6 :: (wk (a + 7) y (c12 :: oO a td sk le ot sn pk :: (wk (a + 14) t (aI 0 64 so :: aI 0 64 st :: R)))))))) rfl ?_
  refine x_aload_n dX4_copyFrom_68 rfl ?_
  refine x_aload_n dX4_copyFrom_69 rfl ?_
  refine x_getfield 7 dX4_copyFrom_70 fg_X4_28 hP rfl rfl ?_
  refine x_putfield 1 dX4_copyFrom_73 fl_X4_28 hP rfl (fun _ _ => ⟨rfl, rfl⟩) ?_
  refine x_eqw (w' := P ++ (c0 :: (oW (a + 1) (y 16) (mB (pF y)) (mB (iF z)) (mB (oF z)) (z 15) (z 0) (z 1) (z 2) (z 3) (z 4) (z 5) (z 6) :: aI 0 32 (fun j => y (90 + j)) :: aI 0 32 (fun j => y (122 + j)) :: aI 0 10 (fun j => y (20 + j)) :: aI 0 20 (fun j => y (70 + j)) :: (c6 :: (wk (a + 7) y (c12 :: oO a td sk le ot sn pk :: (wk (a + 14) t (aI 0 64 so :: aI 0 64 st :: R)))))))) rfl ?_
  refine x_aload_n dX4_copyFrom_76 rfl ?_
  refine x_aload_n dX4_copyFrom_77 rfl ?_
  refine x_getfield 7 dX4_copyFrom_78 fg_X4_31 hP rfl rfl ?_
  refine x_putfield 1 dX4_copyFrom_81 fl_X4_31 hP rfl (fun _ _ => ⟨rfl, rfl⟩) ?_
  refine x_eqw (w' := P ++ (c0 :: (oW (a + 1) (y 16) (mB (pF y)) (mB (iF y)) (mB (oF z)) (z 15) (z 0) (z 1) (z 2) (z 3) (z 4) (z 5) (z 6) :: aI 0 32 (fun j => y (90 + j)) :: aI 0 32 (fun j => y (122 + j)) :: aI 0 10 (fun j => y (20 + j)) :: aI 0 20 (fun j => y (70 + j)) :: (c6 :: (wk (a + 7) y (c12 :: oO a td sk le ot sn pk :: (wk (a + 14) t (aI 0 64 so :: aI 0 64 st :: R)))))))) rfl ?_
  refine x_aload_n dX4_copyFrom_84 rfl ?_
  refine x_aload_n dX4_copyFrom_85 rfl ?_
  refine x_getfield 7 dX4_copyFrom_86 fg_X4_34 hP rfl rfl ?_
  refine x_putfield 1 dX4_copyFrom_89 fl_X4_34 hP rfl (fun _ _ => ⟨rfl, rfl⟩) ?_
  refine x_eqw (w' := P ++ (c0 :: (oW (a + 1) (y 16) (mB (pF y)) (mB (iF y)) (mB (oF y)) (z 15) (z 0) (z 1) (z 2) (z 3) (z 4) (z 5) (z 6) :: aI 0 32 (fun j => y (90 + j)) :: aI 0 32 (fun j => y (122 + j)) :: aI 0 10 (fun j => y (20 + j)) :: aI 0 20 (fun j => y (70 + j)) :: (c6 :: (wk (a + 7) y (c12 :: oO a td sk le ot sn pk :: (wk (a + 14) t (aI 0 64 so :: aI 0 64 st :: R)))))))) rfl ?_
  refine x_aload_n dX4_copyFrom_92 rfl ?_
  refine x_aload_n dX4_copyFrom_93 rfl ?_
  refine x_getfield 7 dX4_copyFrom_94 fg_X4_37 hP rfl rfl ?_
  refine x_putfield 1 dX4_copyFrom_97 fl_X4_37 hP rfl (fun _ _ => ⟨rfl, rfl⟩) ?_
  refine x_eqw (w' := P ++ (c0 :: (oW (a + 1) (y 16) (mB (pF y)) (mB (iF y)) (mB (oF y)) (y 15) (z 0) (z 1) (z 2) (z 3) (z 4) (z 5) (z 6) :: aI 0 32 (fun j => y (90 + j)) :: aI 0 32 (fun j => y (122 + j)) :: aI 0 10 (fun j => y (20 + j)) :: aI 0 20 (fun j => y (70 + j)) :: (c6 :: (wk (a + 7) y (c12 :: oO a td sk le ot sn pk :: (wk (a + 14) t (aI 0 64 so :: aI 0 64 st :: R)))))))) rfl ?_
  refine x_aload_n dX4_copyFrom_100 rfl ?_
  refine x_aload_n dX4_copyFrom_101 rfl ?_
  refine x_getfield 7 dX4_copyFrom_102 fg_X4_40 hP rfl rfl ?_
  refine x_putfield 1 dX4_copyFrom_105 fl_X4_40 hP rfl (fun _ _ => ⟨rfl, rfl⟩) ?_
  refine x_eqw (w' := P ++ (c0 :: (oW (a + 1) (y 16) (mB (pF y)) (mB (iF y)) (mB (oF y)) (y 15) (y 0) (z 1) (z 2) (z 3) (z 4) (z 5) (z 6) :: aI 0 32 (fun j => y (90 + j)) :: aI 0 32 (fun j => y (122 + j)) :: aI 0 10 (fun j => y (20 + j)) :: aI 0 20 (fun j => y (70 + j)) :: (c6 :: (wk (a + 7) y (c12 :: oO a td sk le ot sn pk :: (wk (a + 14) t (aI 0 64 so :: aI 0 64 st :: R)))))))) rfl ?_
  refine x_aload_n dX4_copyFrom_108 rfl ?_
  refine x_aload_n dX4_copyFrom_109 rfl ?_
  refine x_getfield 7 dX4_copyFrom_110 fg_X4_43 hP rfl rfl ?_
  refine x_putfield 1 dX4_copyFrom_113 fl_X4_43 hP rfl (fun _ _ => ⟨rfl, rfl⟩) ?_
  refine x_eqw (w' := P ++ (c0 :: (oW (a + 1) (y 16) (mB (pF y)) (mB (iF y)) (mB (oF y)) (y 15) (y 0) (y 1) (z 2) (z 3) (z 4) (z 5) (z 6) :: aI 0 32 (fun j => y (90 + j)) :: aI 0 32 (fun j => y (122 + j)) :: aI 0 10 (fun j => y (20 + j)) :: aI 0 20 (fun j => y (70 + j)) :: (c6 :: (wk (a + 7) y (c12 :: oO a td sk le ot sn pk :: (wk (a + 14) t (aI 0 64 so :: aI 0 64 st :: R)))))))) rfl ?_
  refine x_aload_n dX4_copyFrom_116 rfl ?_
  refine x_aload_n dX4_copyFrom_117 rfl ?_
  refine x_getfield 7 dX4_copyFrom_118 fg_X4_46 hP rfl rfl ?_
  refine x_putfield 1 dX4_copyFrom_121 fl_X4_46 hP rfl (fun _ _ => bfit (by omega)) ?_
  refine x_eqw (w' := P ++ (c0 :: (oW (a + 1) (y 16) (mB (pF y)) (mB (iF y)) (mB (oF y)) (y 15) (y 0) (y 1) (y 2) (z 3) (z 4) (z 5) (z 6) :: aI 0 32 (fun j => y (90 + j)) :: aI 0 32 (fun j => y (122 + j)) :: aI 0 10 (fun j => y (20 + j)) :: aI 0 20 (fun j => y (70 + j)) :: (c6 :: (wk (a + 7) y (c12 :: oO a td sk le ot sn pk :: (wk (a + 14) t (aI 0 64 so :: aI 0 64 st :: R)))))))) rfl ?_
  refine x_aload_n dX4_copyFrom_124 rfl ?_
  refine x_aload_n dX4_copyFrom_125 rfl ?_
  refine x_getfield 7 dX4_copyFrom_126 fg_X4_50 hP rfl rfl ?_
  refine x_putfield 1 dX4_copyFrom_129 fl_X4_50 hP rfl (fun _ _ => ⟨rfl, rfl⟩) ?_
  refine x_eqw (w' := P ++ (c0 :: (oW (a + 1) (y 16) (mB (pF y)) (mB (iF y)) (mB (oF y)) (y 15) (y 0) (y 1) (y 2) (y 3) (z 4) (z 5) (z 6) :: aI 0 32 (fun j => y (90 + j)) :: aI 0 32 (fun j => y (122 + j)) :: aI 0 10 (fun j => y (20 + j)) :: aI 0 20 (fun j => y (70 + j)) :: (c6 :: (wk (a + 7) y (c12 :: oO a td sk le ot sn pk :: (wk (a + 14) t (aI 0 64 so :: aI 0 64 st :: R)))))))) rfl ?_
  refine x_aload_n dX4_copyFrom_132 rfl ?_
  refine x_aload_n dX4_copyFrom_133 rfl ?_
  refine x_getfield 7 dX4_copyFrom_134 fg_X4_53 hP rfl rfl ?_
  refine x_putfield 1 dX4_copyFrom_137 fl_X4_53 hP rfl (fun _ _ => ⟨rfl, rfl⟩) ?_
  refine x_eqw (w' := P ++ (c0 :: (oW (a + 1) (y 16) (mB (pF y)) (mB (iF y)) (mB (oF y)) (y 15) (y 0) (y 1) (y 2) (y 3) (y 4) (z 5) (z 6) :: aI 0 32 (fun j => y (90 + j)) :: aI 0 32 (fun j => y (122 + j)) :: aI 0 10 (fun j => y (20 + j)) :: aI 0 20 (fun j => y (70 + j)) :: (c6 :: (wk (a + 7) y (c12 :: oO a td sk le ot sn pk :: (wk (a + 14) t (aI 0 64 so :: aI 0 64 st :: R)))))))) rfl ?_
  refine x_aload_n dX4_copyFrom_140 rfl ?_
  refine x_aload_n dX4_copyFrom_141 rfl ?_
  refine x_getfield 7 dX4_copyFrom_142 fg_X4_56 hP rfl rfl ?_
  refine x_putfield 1 dX4_copyFrom_145 fl_X4_56 hP rfl (fun _ _ => ⟨rfl, rfl⟩) ?_
  refine x_eqw (w' := P ++ (c0 :: (oW (a + 1) (y 16) (mB (pF y)) (mB (iF y)) (mB (oF y)) (y 15) (y 0) (y 1) (y 2) (y 3) (y 4) (y 5) (z 6) :: aI 0 32 (fun j => y (90 + j)) :: aI 0 32 (fun j => y (122 + j)) :: aI 0 10 (fun j => y (20 + j)) :: aI 0 20 (fun j => y (70 + j)) :: (c6 :: (wk (a + 7) y (c12 :: oO a td sk le ot sn pk :: (wk (a + 14) t (aI 0 64 so :: aI 0 64 st :: R)))))))) rfl ?_
  refine x_aload_n dX4_copyFrom_148 rfl ?_
  refine x_aload_n dX4_copyFrom_149 rfl ?_
  refine x_getfield 7 dX4_copyFrom_150 fg_X4_59 hP rfl rfl ?_
  refine x_putfield 1 dX4_copyFrom_153 fl_X4_59 hP rfl (fun _ _ => ⟨rfl, rfl⟩) ?_
  refine x_eqw (w' := P ++ (c0 :: (oW (a + 1) (y 16) (mB (pF y)) (mB (iF y)) (mB (oF y)) (y 15) (y 0) (y 1) (y 2) (y 3) (y 4) (y 5) (y 6) :: aI 0 32 (fun j => y (90 + j)) :: aI 0 32 (fun j => y (122 + j)) :: aI 0 10 (fun j => y (20 + j)) :: aI 0 20 (fun j => y (70 + j)) :: (c6 :: (wk (a + 7) y (c12 :: oO a td sk le ot sn pk :: (wk (a + 14) t (aI 0 64 so :: aI 0 64 st :: R)))))))) rfl ?_
  exact x_vret dX4_copyFrom_156 (rfl)
