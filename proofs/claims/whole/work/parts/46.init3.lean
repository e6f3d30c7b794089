def fil (f : Nat → Int) (k : Nat) : Nat → Int := fun j => if 20 ≤ j ∧ j < 20 + k then -4 else f j
theorem fil_s (f : Nat → Int) (k : Nat) : updI (fil f k) (20 + k) (-4) = fil f (k + 1) := by
  funext j
  simp only [updI, fil]
  by_cases h : j = 20 + k
  · rw [if_pos h, if_pos (by omega)]
  · rw [if_neg h]
    by_cases h2 : 20 ≤ j ∧ j < 20 + k
    · rw [if_pos h2, if_pos (by omega)]
    · rw [if_neg h2, if_neg (by omega)]
theorem fil_0 (f : Nat → Int) : fil f 0 = f := by
  funext j
  simp only [fil]
  rw [if_neg (by omega)]
set_option maxRecDepth 100000 in
set_option maxHeartbeats 4000000 in
theorem l_iM1 {P : AW} {a : Nat} (hP : P.length = a) {Z : Zt} (hx : EX I_X6_init 11 934 none Z 113 [some (.ref (a + 0)), some (.int (iI ((4 : Nat) : Int)))] [] (P ++ mw a ((fun _ => 0)) ((fun _ => 0)) (0) ((fun _ => 0)) ((fun _ => 0)) (0) (0) (0) ((fun _ => 0)) (0) (0) (0) ((fun _ => 0)) ((fun _ => 0)) (0) ((fun _ => 0)) (cpyI (fun _ => -1) (fun _ => 0) (4)) ((fun _ => 0)) ((fun _ => 0)) []) 11 934) : ∀ (r k : Nat), k + r = 4 → EX I_X6_init 11 934 none Z 95 [some (.ref (a + 0)), some (.int (iI ((k : Nat) : Int)))] [] (P ++ mw a ((fun _ => 0)) ((fun _ => 0)) (0) ((fun _ => 0)) ((fun _ => 0)) (0) (0) (0) ((fun _ => 0)) (0) (0) (0) ((fun _ => 0)) ((fun _ => 0)) (0) ((fun _ => 0)) (cpyI (fun _ => -1) (fun _ => 0) (k)) ((fun _ => 0)) ((fun _ => 0)) []) 11 934 := by
  intro r
  induction r with
  | zero =>
    intro k hs
    have hs' : k = 4 := by omega
    subst hs'
    refine x_iload_n dX6_init_95 rfl ?_
    refine x_iconst dX6_init_96 ?_
    refine x_icmp_ge 113 dX6_init_97 (fun h97 => ?_) (fun h97 => by exfalso; omega)
    exact hx
  | succ r ih =>
    intro k hs
    refine x_iload_n dX6_init_95 rfl ?_
    refine x_iconst dX6_init_96 ?_
    refine x_icmp_ge 113 dX6_init_97 (fun h97 => by exfalso; omega) (fun h97 => ?_)
    refine x_aload_n dX6_init_100 rfl ?_
    refine x_getfield 0 dX6_init_101 fg_X6_34 hP rfl rfl ?_
    refine x_iload_n dX6_init_104 rfl ?_
    refine x_iconst dX6_init_105 ?_
    refine x_iastore 9 (k) dX6_init_106 hP rfl ?_
    refine x_eqw (w' := P ++ mw a ((fun _ => 0)) ((fun _ => 0)) (0) ((fun _ => 0)) ((fun _ => 0)) (0) (0) (0) ((fun _ => 0)) (0) (0) (0) ((fun _ => 0)) ((fun _ => 0)) (0) ((fun _ => 0)) (cpyI (fun _ => -1) (fun _ => 0) (k + 1)) ((fun _ => 0)) ((fun _ => 0)) []) (by rw [← cpyI_s]; rfl) ?_
    refine x_inc1 dX6_init_107 ?_
    refine x_goto 95 dX6_init_110 ?_
    exact ih (k + 1) (by omega)
set_option maxRecDepth 100000 in
set_option maxHeartbeats 4000000 in
theorem l_iM2 {P : AW} {a : Nat} (hP : P.length = a) {Z : Zt} (hx : EX I_X6_init 11 934 none Z 188 [some (.ref (a + 0)), some (.int (iI ((10 : Nat) : Int)))] [] (P ++ mw a (fil (updI (updI (updI (updI (updI (updI (fun _ => 0) 2 1) 11 10) 12 25) 13 3) 14 1) 15 99) (10)) ((fun _ => 0)) (0) ((fun _ => 0)) ((fun _ => 0)) (0) (0) (0) ((fun _ => 0)) (0) (0) (0) ((fun _ => 0)) ((fun _ => 0)) (0) ((fun _ => 0)) (cpyI (fun _ => -1) (fun _ => 0) (4)) ((fun _ => 0)) ((fun _ => 0)) []) 11 934) : ∀ (r k : Nat), k + r = 10 → EX I_X6_init 11 934 none Z 165 [some (.ref (a + 0)), some (.int (iI ((k : Nat) : Int)))] [] (P ++ mw a (fil (updI (updI (updI (updI (updI (updI (fun _ => 0) 2 1) 11 10) 12 25) 13 3) 14 1) 15 99) (k)) ((fun _ => 0)) (0) ((fun _ => 0)) ((fun _ => 0)) (0) (0) (0) ((fun _ => 0)) (0) (0) (0) ((fun _ => 0)) ((fun _ => 0)) (0) ((fun _ => 0)) (cpyI (fun _ => -1) (fun _ => 0) (4)) ((fun _ => 0)) ((fun _ => 0)) []) 11 934 := by
  intro r
  induction r with
  | zero =>
    intro k hs
    have hs' : k = 10 := by omega
    subst hs'
    refine x_iload_n dX6_init_165 rfl ?_
    refine x_bipush dX6_init_166 ?_
    refine x_icmp_ge 188 dX6_init_168 (fun h168 => ?_) (fun h168 => by exfalso; omega)
    exact hx
  | succ r ih =>
    intro k hs
    refine x_iload_n dX6_init_165 rfl ?_
    refine x_bipush dX6_init_166 ?_
    refine x_icmp_ge 188 dX6_init_168 (fun h168 => by exfalso; omega) (fun h168 => ?_)
    refine x_aload_n dX6_init_171 rfl ?_
    refine x_getfield 0 dX6_init_172 fg_X6_7 hP rfl rfl ?_
    refine x_bipush dX6_init_175 ?_
    refine x_iload_n dX6_init_177 rfl ?_
    refine x_iadd dX6_init_178 ?_
    refine x_bipush dX6_init_179 ?_
    refine x_iastore 1 (20 + k) dX6_init_181 hP rfl ?_
    refine x_eqw (w' := P ++ mw a (fil (updI (updI (updI (updI (updI (updI (fun _ => 0) 2 1) 11 10) 12 25) 13 3) 14 1) 15 99) (k + 1)) ((fun _ => 0)) (0) ((fun _ => 0)) ((fun _ => 0)) (0) (0) (0) ((fun _ => 0)) (0) (0) (0) ((fun _ => 0)) ((fun _ => 0)) (0) ((fun _ => 0)) (cpyI (fun _ => -1) (fun _ => 0) (4)) ((fun _ => 0)) ((fun _ => 0)) []) (by rw [← fil_s]; rfl) ?_
    refine x_inc1 dX6_init_182 ?_
    refine x_goto 165 dX6_init_185 ?_
    exact ih (k + 1) (by omega)
set_option maxRecDepth 100000 in
set_option maxHeartbeats 4000000 in
theorem c_iM {P : AW} {a : Nat} (hP : P.length = a) : CTv I_X6_init 11 934 [.ref (a + 0)] (P ++ [.inr (6, nfX6)]) (fun w' => w' = P ++ mw a (z00) ((fun _ => 0)) (0) ((fun _ => 0)) ((fun _ => 0)) (0) (0) (0) ((fun _ => 0)) (0) (0) (0) ((fun _ => 0)) ((fun _ => 0)) (0) ((fun _ => 0)) (fun _ => -1) ((fun _ => 0)) ((fun _ => 0)) []) := by
  refine CT_of 1 rfl (Nat.le_of_ble_eq_true rfl) ?_
  show EX I_X6_init 11 934 none _ 0 [some (.ref (a + 0)), none] [] _ 0 0
  refine x_aload_n dX6_init_0 rfl ?_
  refine x_oinit dX6_init_1 ml_X6_1 ?_
  refine x_aload_n dX6_init_4 rfl ?_
  refine x_sipush dX6_init_5 ?_
  refine x_newi (N := 154) dX6_init_8 rfl hP rfl ?_
  refine x_putfield 0 dX6_init_10 fl_X6_7 hP rfl (fun _ _ => ⟨rfl, rfl⟩) ?_
  refine x_eqw (w' := P ++ (.inr (6, [.ref (a + 1), .null, .int (iI 0), .null, .null, .int (iI 0), .int (iI 0), .int (iI 0), .null, .int (iI 0), .int (iI 0), .int (iI 0), .null, .null, .int (iI 0), .null, .null, .null, .null]) :: aI 0 154 (fun _ => 0) :: [])) rfl ?_
  refine x_aload_n dX6_init_13 rfl ?_
  refine x_sipush dX6_init_14 ?_
  refine x_newi (N := 154) dX6_init_17 rfl hP rfl ?_
  refine x_putfield 0 dX6_init_19 fl_X6_13 hP rfl (fun _ _ => ⟨rfl, rfl⟩) ?_
  refine x_eqw (w' := P ++ (.inr (6, [.ref (a + 1), .ref (a + 2), .int (iI 0), .null, .null, .int (iI 0), .int (iI 0), .int (iI 0), .null, .int (iI 0), .int (iI 0), .int (iI 0), .null, .null, .int (iI 0), .null, .null, .null, .null]) :: aI 0 154 (fun _ => 0) :: aI 0 154 (fun _ => 0) :: [])) rfl ?_
  refine x_aload_n dX6_init_22 rfl ?_
  refine x_bipush dX6_init_23 ?_
  refine x_newi (N := 64) dX6_init_25 rfl hP rfl ?_
  refine x_putfield 0 dX6_init_27 fl_X6_16 hP rfl (fun _ _ => ⟨rfl, rfl⟩) ?_
  refine x_eqw (w' := P ++ (.inr (6, [.ref (a + 1), .ref (a + 2), .int (iI 0), .ref (a + 3), .null, .int (iI 0), .int (iI 0), .int (iI 0), .null, .int (iI 0), .int (iI 0), .int (iI 0), .null, .null, .int (iI 0), .null, .null, .null, .null]) :: aI 0 154 (fun _ => 0) :: aI 0 154 (fun _ => 0) :: aI 0 64 (fun _ => 0) :: [])) rfl ?_
  refine x_aload_n dX6_init_30 rfl ?_
  refine x_bipush dX6_init_31 ?_
  refine x_newi (N := 64) dX6_init_33 rfl hP rfl ?_
  refine x_putfield 0 dX6_init_35 fl_X6_19 hP rfl (fun _ _ => ⟨rfl, rfl⟩) ?_
  refine x_eqw (w' := P ++ (.inr (6, [.ref (a + 1), .ref (a + 2), .int (iI 0), .ref (a + 3), .ref (a + 4), .int (iI 0), .int (iI 0), .int (iI 0), .null, .int (iI 0), .int (iI 0), .int (iI 0), .null, .null, .int (iI 0), .null, .null, .null, .null]) :: aI 0 154 (fun _ => 0) :: aI 0 154 (fun _ => 0) :: aI 0 64 (fun _ => 0) :: aI 0 64 (fun _ => 0) :: [])) rfl ?_
  refine x_aload_n dX6_init_38 rfl ?_
  refine x_bipush dX6_init_39 ?_
  refine x_newi (N := 80) dX6_init_41 rfl hP rfl ?_
  refine x_putfield 0 dX6_init_43 fl_X6_22 hP rfl (fun _ _ => ⟨rfl, rfl⟩) ?_
  refine x_eqw (w' := P ++ (.inr (6, [.ref (a + 1), .ref (a + 2), .int (iI 0), .ref (a + 3), .ref (a + 4), .int (iI 0), .int (iI 0), .int (iI 0), .ref (a + 5), .int (iI 0), .int (iI 0), .int (iI 0), .null, .null, .int (iI 0), .null, .null, .null, .null]) :: aI 0 154 (fun _ => 0) :: aI 0 154 (fun _ => 0) :: aI 0 64 (fun _ => 0) :: aI 0 64 (fun _ => 0) :: aI 0 80 (fun _ => 0) :: [])) rfl ?_
  refine x_aload_n dX6_init_46 rfl ?_
  refine x_bipush dX6_init_47 ?_
  refine x_newi (N := 80) dX6_init_49 rfl hP rfl ?_
  refine x_putfield 0 dX6_init_51 fl_X6_25 hP rfl (fun _ _ => ⟨rfl, rfl⟩) ?_
  refine x_eqw (w' := P ++ (.inr (6, [.ref (a + 1), .ref (a + 2), .int (iI 0), .ref (a + 3), .ref (a + 4), .int (iI 0), .int (iI 0), .int (iI 0), .ref (a + 5), .int (iI 0), .int (iI 0), .int (iI 0), .ref (a + 6), .null, .int (iI 0), .null, .null, .null, .null]) :: aI 0 154 (fun _ => 0) :: aI 0 154 (fun _ => 0) :: aI 0 64 (fun _ => 0) :: aI 0 64 (fun _ => 0) :: aI 0 80 (fun _ => 0) :: aI 0 80 (fun _ => 0) :: [])) rfl ?_
  refine x_aload_n dX6_init_54 rfl ?_
  refine x_bipush dX6_init_55 ?_
  refine x_newi (N := 80) dX6_init_57 rfl hP rfl ?_
  refine x_putfield 0 dX6_init_59 fl_X6_28 hP rfl (fun _ _ => ⟨rfl, rfl⟩) ?_
  refine x_eqw (w' := P ++ (.inr (6, [.ref (a + 1), .ref (a + 2), .int (iI 0), .ref (a + 3), .ref (a + 4), .int (iI 0), .int (iI 0), .int (iI 0), .ref (a + 5), .int (iI 0), .int (iI 0), .int (iI 0), .ref (a + 6), .ref (a + 7), .int (iI 0), .null, .null, .null, .null]) :: aI 0 154 (fun _ => 0) :: aI 0 154 (fun _ => 0) :: aI 0 64 (fun _ => 0) :: aI 0 64 (fun _ => 0) :: aI 0 80 (fun _ => 0) :: aI 0 80 (fun _ => 0) :: aI 0 80 (fun _ => 0) :: [])) rfl ?_
  refine x_aload_n dX6_init_62 rfl ?_
  refine x_sipush dX6_init_63 ?_
  refine x_newi (N := 154) dX6_init_66 rfl hP rfl ?_
  refine x_putfield 0 dX6_init_68 fl_X6_31 hP rfl (fun _ _ => ⟨rfl, rfl⟩) ?_
  refine x_eqw (w' := P ++ (.inr (6, [.ref (a + 1), .ref (a + 2), .int (iI 0), .ref (a + 3), .ref (a + 4), .int (iI 0), .int (iI 0), .int (iI 0), .ref (a + 5), .int (iI 0), .int (iI 0), .int (iI 0), .ref (a + 6), .ref (a + 7), .int (iI 0), .ref (a + 8), .null, .null, .null]) :: aI 0 154 (fun _ => 0) :: aI 0 154 (fun _ => 0) :: aI 0 64 (fun _ => 0) :: aI 0 64 (fun _ => 0) :: aI 0 80 (fun _ => 0) :: aI 0 80 (fun _ => 0) :: aI 0 80 (fun _ => 0) :: aI 0 154 (fun _ => 0) :: [])) rfl ?_
  refine x_aload_n dX6_init_71 rfl ?_
  refine x_iconst dX6_init_72 ?_
  refine x_newi (N := 4) dX6_init_73 rfl hP rfl ?_
  refine x_putfield 0 dX6_init_75 fl_X6_34 hP rfl (fun _ _ => ⟨rfl, rfl⟩) ?_
  refine x_eqw (w' := P ++ (.inr (6, [.ref (a + 1), .ref (a + 2), .int (iI 0), .ref (a + 3), .ref (a + 4), .int (iI 0), .int (iI 0), .int (iI 0), .ref (a + 5), .int (iI 0), .int (iI 0), .int (iI 0), .ref (a + 6), .ref (a + 7), .int (iI 0), .ref (a + 8), .ref (a + 9), .null, .null]) :: aI 0 154 (fun _ => 0) :: aI 0 154 (fun _ => 0) :: aI 0 64 (fun _ => 0) :: aI 0 64 (fun _ => 0) :: aI 0 80 (fun _ => 0) :: aI 0 80 (fun _ => 0) :: aI 0 80 (fun _ => 0) :: aI 0 154 (fun _ => 0) :: aI 0 4 (fun _ => 0) :: [])) rfl ?_
  refine x_aload_n dX6_init_78 rfl ?_
  refine x_iconst dX6_init_79 ?_
  refine x_newi (N := 4) dX6_init_80 rfl hP rfl ?_
  refine x_putfield 0 dX6_init_82 fl_X6_37 hP rfl (fun _ _ => ⟨rfl, rfl⟩) ?_
  refine x_eqw (w' := P ++ (.inr (6, [.ref (a + 1), .ref (a + 2), .int (iI 0), .ref (a + 3), .ref (a + 4), .int (iI 0), .int (iI 0), .int (iI 0), .ref (a + 5), .int (iI 0), .int (iI 0), .int (iI 0), .ref (a + 6), .ref (a + 7), .int (iI 0), .ref (a + 8), .ref (a + 9), .ref (a + 10), .null]) :: aI 0 154 (fun _ => 0) :: aI 0 154 (fun _ => 0) :: aI 0 64 (fun _ => 0) :: aI 0 64 (fun _ => 0) :: aI 0 80 (fun _ => 0) :: aI 0 80 (fun _ => 0) :: aI 0 80 (fun _ => 0) :: aI 0 154 (fun _ => 0) :: aI 0 4 (fun _ => 0) :: aI 0 4 (fun _ => 0) :: [])) rfl ?_
  refine x_aload_n dX6_init_85 rfl ?_
  refine x_bipush dX6_init_86 ?_
  refine x_newi (N := 96) dX6_init_88 rfl hP rfl ?_
  refine x_putfield 0 dX6_init_90 fl_X6_40 hP rfl (fun _ _ => ⟨rfl, rfl⟩) ?_
  refine x_eqw (w' := P ++ (.inr (6, [.ref (a + 1), .ref (a + 2), .int (iI 0), .ref (a + 3), .ref (a + 4), .int (iI 0), .int (iI 0), .int (iI 0), .ref (a + 5), .int (iI 0), .int (iI 0), .int (iI 0), .ref (a + 6), .ref (a + 7), .int (iI 0), .ref (a + 8), .ref (a + 9), .ref (a + 10), .ref (a + 11)]) :: aI 0 154 (fun _ => 0) :: aI 0 154 (fun _ => 0) :: aI 0 64 (fun _ => 0) :: aI 0 64 (fun _ => 0) :: aI 0 80 (fun _ => 0) :: aI 0 80 (fun _ => 0) :: aI 0 80 (fun _ => 0) :: aI 0 154 (fun _ => 0) :: aI 0 4 (fun _ => 0) :: aI 0 4 (fun _ => 0) :: aI 0 96 (fun _ => 0) :: [])) rfl ?_
  refine x_eqw (w' := P ++ mw a ((fun _ => 0)) ((fun _ => 0)) (0) ((fun _ => 0)) ((fun _ => 0)) (0) (0) (0) ((fun _ => 0)) (0) (0) (0) ((fun _ => 0)) ((fun _ => 0)) (0) ((fun _ => 0)) ((fun _ => 0)) ((fun _ => 0)) ((fun _ => 0)) []) rfl ?_
  refine x_iconst dX6_init_93 ?_
  refine x_ist1 dX6_init_94 ?_
  refine x_eqw (w' := P ++ mw a ((fun _ => 0)) ((fun _ => 0)) (0) ((fun _ => 0)) ((fun _ => 0)) (0) (0) (0) ((fun _ => 0)) (0) (0) (0) ((fun _ => 0)) ((fun _ => 0)) (0) ((fun _ => 0)) (cpyI (fun _ => -1) (fun _ => 0) (0)) ((fun _ => 0)) ((fun _ => 0)) []) (by rw [cpyI_0]) (l_iM1 hP ?_ 4 0 rfl)
  refine x_aload_n dX6_init_113 rfl ?_
  refine x_getfield 0 dX6_init_114 fg_X6_7 hP rfl rfl ?_
  refine x_iconst dX6_init_117 ?_
  refine x_iconst dX6_init_118 ?_
  refine x_iastore 1 (2) dX6_init_119 hP rfl ?_
  refine x_aload_n dX6_init_120 rfl ?_
  refine x_getfield 0 dX6_init_121 fg_X6_7 hP rfl rfl ?_
  refine x_bipush dX6_init_124 ?_
  refine x_bipush dX6_init_126 ?_
  refine x_iastore 1 (11) dX6_init_128 hP rfl ?_
  refine x_aload_n dX6_init_129 rfl ?_
  refine x_getfield 0 dX6_init_130 fg_X6_7 hP rfl rfl ?_
  refine x_bipush dX6_init_133 ?_
  refine x_bipush dX6_init_135 ?_
  refine x_iastore 1 (12) dX6_init_137 hP rfl ?_
  refine x_aload_n dX6_init_138 rfl ?_
  refine x_getfield 0 dX6_init_139 fg_X6_7 hP rfl rfl ?_
  refine x_bipush dX6_init_142 ?_
  refine x_iconst dX6_init_144 ?_
  refine x_iastore 1 (13) dX6_init_145 hP rfl ?_
  refine x_aload_n dX6_init_146 rfl ?_
  refine x_getfield 0 dX6_init_147 fg_X6_7 hP rfl rfl ?_
  refine x_bipush dX6_init_150 ?_
  refine x_iconst dX6_init_152 ?_
  refine x_iastore 1 (14) dX6_init_153 hP rfl ?_
  refine x_aload_n dX6_init_154 rfl ?_
  refine x_getfield 0 dX6_init_155 fg_X6_7 hP rfl rfl ?_
  refine x_bipush dX6_init_158 ?_
  refine x_bipush dX6_init_160 ?_
  refine x_iastore 1 (15) dX6_init_162 hP rfl ?_
  refine x_iconst dX6_init_163 ?_
  refine x_ist1 dX6_init_164 ?_
  refine x_eqw (w' := P ++ mw a (fil (updI (updI (updI (updI (updI (updI (fun _ => 0) 2 1) 11 10) 12 25) 13 3) 14 1) 15 99) (0)) ((fun _ => 0)) (0) ((fun _ => 0)) ((fun _ => 0)) (0) (0) (0) ((fun _ => 0)) (0) (0) (0) ((fun _ => 0)) ((fun _ => 0)) (0) ((fun _ => 0)) (cpyI (fun _ => -1) (fun _ => 0) (4)) ((fun _ => 0)) ((fun _ => 0)) []) (by rw [fil_0]; rfl) (l_iM2 hP ?_ 10 0 rfl)
  refine x_ext 1 hP rfl (g := z00) (fun j hj => by unfold fil z00 updI; (repeat' split) <;> first | rfl | omega) ?_
  refine x_ext 9 hP rfl (g := fun _ => -1) (fun j hj => if_pos hj) ?_
  exact x_vret dX6_init_188 rfl
