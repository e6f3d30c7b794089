theorem ct_sh {mi : MI} {mc ms : Nat} {x : AC} (F : Nat → AW) (h : ∀ {P : AW} {a : Nat}, P.length = a → CTv mi mc ms [.ref (a + 0)] (P ++ [x]) (fun w' => w' = P ++ F a)) {P : AW} {a : Nat} (hP : P.length = a) (L : AW) {j : Nat} (hL : L.length = j) : CTv mi mc ms [.ref (a + j)] (P ++ (L ++ [x])) (fun w' => w' = P ++ (L ++ F (a + j))) := by
  have h1 := h (P := P ++ L) (a := a + j) (by rw [List.length_append, hP, hL])
  simp only [List.append_assoc] at h1
  exact h1
abbrev oO1 (a : Nat) : AC := .inr (0, [.ref (a + 1), .ref (a + 6), .ref (a + 7), .int (iI 0), .int (iI 0), .int (iI (-4)), .int (iI (-4)), .int (iI (-4)), .int (iI 0)])
set_option maxRecDepth 100000 in
set_option maxHeartbeats 4000000 in
theorem k_iO {P : AW} {a : Nat} (hP : P.length = a) : CTv I_X0_init 7 238 [.ref (a + 0)] (P ++ [.inr (0, nfX0)]) (fun w' => w' = P ++ (oO1 a :: wk (a + 1) z00 (aI 0 64 (fun _ => 0) :: aI 0 64 (fun _ => 0) :: []))) := by
  refine CT_of 0 rfl (Nat.le_of_ble_eq_true rfl) ?_
  show EX I_X0_init 7 238 none _ 0 [some (.ref (a + 0))] [] _ 0 0
  refine x_aload_n dX0_init_0 rfl ?_
  refine x_oinit dX0_init_1 ml_X0_3 ?_
  refine x_aload_n dX0_init_4 rfl ?_
  refine x_new dX0_init_5 nw_X0_9 hP rfl ?_
  refine x_dup dX0_init_8 ?_
  refine x_callvI dX0_init_9 mk_X4_init ml_X0_11 (ct_sh (fun a => wk a z00 []) (fun h => k_iW h) hP _ rfl) rfl (fun w9 h9 => ?_)
  subst h9
  refine x_putfield 0 dX0_init_12 fl_X0_12 hP rfl (fun _ _ => ⟨rfl, rfl⟩) ?_
  refine x_eqw (w' := P ++ (.inr (0, [.ref (a + 1), .null, .null, .int (iI 0), .int (iI 0), .int (iI 0), .int (iI 0), .int (iI 0), .int (iI 0)]) :: wk (a + 1) z00 [])) rfl ?_
  refine x_aload_n dX0_init_15 rfl ?_
  refine x_bipush dX0_init_16 ?_
  refine x_newi (N := 64) dX0_init_18 rfl hP rfl ?_
  refine x_putfield 0 dX0_init_20 fl_X0_18 hP rfl (fun _ _ => ⟨rfl, rfl⟩) ?_
  refine x_aload_n dX0_init_23 rfl ?_
  refine x_bipush dX0_init_24 ?_
  refine x_newi (N := 64) dX0_init_26 rfl hP rfl ?_
  refine x_putfield 0 dX0_init_28 fl_X0_22 hP rfl (fun _ _ => ⟨rfl, rfl⟩) ?_
  refine x_eqw (w' := P ++ (.inr (0, [.ref (a + 1), .ref (a + 6), .ref (a + 7), .int (iI 0), .int (iI 0), .int (iI 0), .int (iI 0), .int (iI 0), .int (iI 0)]) :: wk (a + 1) z00 (aI 0 64 (fun _ => 0) :: aI 0 64 (fun _ => 0) :: []))) rfl ?_
  refine x_aload_n dX0_init_31 rfl ?_
  refine x_iconst dX0_init_32 ?_
  refine x_putfield 0 dX0_init_33 fl_X0_25 hP rfl (fun _ _ => ⟨rfl, rfl⟩) ?_
  refine x_aload_n dX0_init_36 rfl ?_
  refine x_iconst dX0_init_37 ?_
  refine x_putfield 0 dX0_init_38 fl_X0_29 hP rfl (fun _ _ => bfit (by omega)) ?_
  refine x_aload_n dX0_init_41 rfl ?_
  refine x_bipush dX0_init_42 ?_
  refine x_putfield 0 dX0_init_44 fl_X0_33 hP rfl (fun _ _ => ⟨rfl, rfl⟩) ?_
  refine x_aload_n dX0_init_47 rfl ?_
  refine x_bipush dX0_init_48 ?_
  refine x_putfield 0 dX0_init_50 fl_X0_36 hP rfl (fun _ _ => ⟨rfl, rfl⟩) ?_
  refine x_aload_n dX0_init_53 rfl ?_
  refine x_bipush dX0_init_54 ?_
  refine x_putfield 0 dX0_init_56 fl_X0_39 hP rfl (fun _ _ => ⟨rfl, rfl⟩) ?_
  refine x_aload_n dX0_init_59 rfl ?_
  refine x_iconst dX0_init_60 ?_
  refine x_putfield 0 dX0_init_61 fl_X0_42 hP rfl (fun _ _ => bfit (by omega)) ?_
  exact x_vret dX0_init_64 (rfl)
set_option maxRecDepth 100000 in
set_option maxHeartbeats 4000000 in
theorem k_iB {P : AW} {a : Nat} (hP : P.length = a) : CTv I_X5_init 33 761 [.ref (a + 0)] (P ++ [.inr (5, nfX5)]) (fun w' => w' = P ++ bx a 0 z00 z00 z00 (fun _ => 0) (fun _ => 0) 0 0 (-4) (-4) (-4) 0 (tw (a + 21) (fun _ => 0) 0 0 0 (fun _ => 0) (fun _ => 0) (shF a (fun _ => -1) (fun _ => 0) (fun _ => 0) []))) := by
  refine CT_of 1 rfl (Nat.le_of_ble_eq_true rfl) ?_
  show EX I_X5_init 33 761 none _ 0 [some (.ref (a + 0)), none] [] _ 0 0
  refine x_aload_n dX5_init_0 rfl ?_
  refine x_oinit dX5_init_1 ml_X5_3 ?_
  refine x_aload_n dX5_init_4 rfl ?_
  refine x_new dX5_init_5 nw_X5_9 hP rfl ?_
  refine x_dup dX5_init_8 ?_
  refine x_callvI dX5_init_9 mk_X4_init ml_X5_11 (ct_sh (fun a => wk a z00 []) (fun h => k_iW h) hP _ rfl) rfl (fun w9 h9 => ?_)
  subst h9
  refine x_putfield 0 dX5_init_12 fl_X5_12 hP rfl (fun _ _ => ⟨rfl, rfl⟩) ?_
  refine x_eqw (w' := P ++ (.inr (5, [.ref (a + 1), .null, .null, .null, .int (iI 0), .null, .null, .null]) :: wk (a + 1) z00 ([]))) rfl ?_
  refine x_aload_n dX5_init_15 rfl ?_
  refine x_new dX5_init_16 nw_X5_16 hP rfl ?_
  refine x_dup dX5_init_19 ?_
  refine x_callvI dX5_init_20 mk_X3_init ml_X5_18 (ct_sh (fun a => [tk z00]) (fun h => k_iT h) hP _ rfl) rfl (fun w20 h20 => ?_)
  subst h20
  refine x_putfield 0 dX5_init_23 fl_X5_19 hP rfl (fun _ _ => ⟨rfl, rfl⟩) ?_
  refine x_eqw (w' := P ++ (.inr (5, [.ref (a + 1), .ref (a + 6), .null, .null, .int (iI 0), .null, .null, .null]) :: wk (a + 1) z00 (tk z00 :: []))) rfl ?_
  refine x_aload_n dX5_init_26 rfl ?_
  refine x_new dX5_init_27 nw_X5_9 hP rfl ?_
  refine x_dup dX5_init_30 ?_
  refine x_callvI dX5_init_31 mk_X4_init ml_X5_11 (ct_sh (fun a => wk a z00 []) (fun h => k_iW h) hP _ rfl) rfl (fun w31 h31 => ?_)
  subst h31
  refine x_putfield 0 dX5_init_34 fl_X5_23 hP rfl (fun _ _ => ⟨rfl, rfl⟩) ?_
  refine x_eqw (w' := P ++ (.inr (5, [.ref (a + 1), .ref (a + 6), .ref (a + 7), .null, .int (iI 0), .null, .null, .null]) :: wk (a + 1) z00 (tk z00 :: wk (a + 7) z00 ([])))) rfl ?_
  refine x_aload_n dX5_init_37 rfl ?_
  refine x_new dX5_init_38 nw_X5_16 hP rfl ?_
  refine x_dup dX5_init_41 ?_
  refine x_callvI dX5_init_42 mk_X3_init ml_X5_18 (ct_sh (fun a => [tk z00]) (fun h => k_iT h) hP _ rfl) rfl (fun w42 h42 => ?_)
  subst h42
  refine x_putfield 0 dX5_init_45 fl_X5_26 hP rfl (fun _ _ => ⟨rfl, rfl⟩) ?_
  refine x_eqw (w' := P ++ (.inr (5, [.ref (a + 1), .ref (a + 6), .ref (a + 7), .ref (a + 12), .int (iI 0), .null, .null, .null]) :: wk (a + 1) z00 (tk z00 :: wk (a + 7) z00 (tk z00 :: [])))) rfl ?_
  refine x_aload_n dX5_init_48 rfl ?_
  refine x_iconst dX5_init_49 ?_
  refine x_putfield 0 dX5_init_50 fl_X5_29 hP rfl (fun _ _ => bfit (by omega)) ?_
  refine x_aload_n dX5_init_53 rfl ?_
  refine x_new dX5_init_54 nw_X5_33 hP rfl ?_
  refine x_dup dX5_init_57 ?_
  refine x_callvI dX5_init_58 mk_X0_init ml_X5_35 (ct_sh (fun a => oO1 a :: wk (a + 1) z00 (aI 0 64 (fun _ => 0) :: aI 0 64 (fun _ => 0) :: [])) (fun h => k_iO h) hP _ rfl) rfl (fun w58 h58 => ?_)
  subst h58
  refine x_putfield 0 dX5_init_61 fl_X5_36 hP rfl (fun _ _ => ⟨rfl, rfl⟩) ?_
  refine x_eqw (w' := P ++ (.inr (5, [.ref (a + 1), .ref (a + 6), .ref (a + 7), .ref (a + 12), .int (iI 0), .ref (a + 13), .null, .null]) :: wk (a + 1) z00 (tk z00 :: wk (a + 7) z00 (tk z00 :: oO1 (a + 13) :: wk (a + 14) z00 (aI 0 64 (fun _ => 0) :: aI 0 64 (fun _ => 0) :: []))))) rfl ?_
  refine x_aload_n dX5_init_64 rfl ?_
  refine x_new dX5_init_65 nw_X5_40 hP rfl ?_
  refine x_dup dX5_init_68 ?_
  refine x_callvI dX5_init_69 mk_X2_init ml_X5_42 (ct_sh (fun a => tw a (fun _ => 0) 0 0 0 (fun _ => 0) (fun _ => 0) []) (fun h => k_iP h) hP _ rfl) rfl (fun w69 h69 => ?_)
  subst h69
  refine x_putfield 0 dX5_init_72 fl_X5_43 hP rfl (fun _ _ => ⟨rfl, rfl⟩) ?_
  refine x_eqw (w' := P ++ (.inr (5, [.ref (a + 1), .ref (a + 6), .ref (a + 7), .ref (a + 12), .int (iI 0), .ref (a + 13), .ref (a + 21), .null]) :: wk (a + 1) z00 (tk z00 :: wk (a + 7) z00 (tk z00 :: oO1 (a + 13) :: wk (a + 14) z00 (aI 0 64 (fun _ => 0) :: aI 0 64 (fun _ => 0) :: tw (a + 21) (fun _ => 0) 0 0 0 (fun _ => 0) (fun _ => 0) ([])))))) rfl ?_
  refine x_aload_n dX5_init_75 rfl ?_
  refine x_iconst dX5_init_76 ?_
  refine x_newq (N := 4) dX5_init_77 cl_X5_47 rfl hP rfl ?_
  refine x_putfield 0 dX5_init_80 fl_X5_49 hP rfl (fun _ _ => ⟨rfl, rfl⟩) ?_
  refine x_eqw (w' := P ++ (.inr (5, [.ref (a + 1), .ref (a + 6), .ref (a + 7), .ref (a + 12), .int (iI 0), .ref (a + 13), .ref (a + 21), .ref (a + 25)]) :: wk (a + 1) z00 (tk z00 :: wk (a + 7) z00 (tk z00 :: oO1 (a + 13) :: wk (a + 14) z00 (aI 0 64 (fun _ => 0) :: aI 0 64 (fun _ => 0) :: tw (a + 21) (fun _ => 0) 0 0 0 (fun _ => 0) (fun _ => 0) (aR 4 (fun _ => none) :: [])))))) rfl ?_
  refine x_iconst dX5_init_83 ?_
  refine x_ist1 dX5_init_84 ?_
  refine x_iload_n dX5_init_85 rfl ?_
  refine x_iconst dX5_init_86 ?_
  refine x_icmp_ge 109 dX5_init_87 (fun h87 => absurd h87 (by decide)) (fun h87 => ?_)
  refine x_aload_n dX5_init_90 rfl ?_
  refine x_getfield 0 dX5_init_91 fg_X5_49 hP rfl rfl ?_
  refine x_iload_n dX5_init_94 rfl ?_
  refine x_new dX5_init_95 nw_X5_47 hP rfl ?_
  refine x_dup dX5_init_98 ?_
  refine x_callvI dX5_init_99 mk_X1_init ml_X5_53 (ct_sh (fun a => sk2 a (-4) 0 (fun _ => 0) []) (fun h => k_iS h) hP _ rfl) rfl (fun w99 h99 => ?_)
  subst h99
  refine x_aastore 25 (0) 26 dX5_init_102 hP rfl rfl ?_
  refine x_eqw (w' := P ++ (.inr (5, [.ref (a + 1), .ref (a + 6), .ref (a + 7), .ref (a + 12), .int (iI 0), .ref (a + 13), .ref (a + 21), .ref (a + 25)]) :: wk (a + 1) z00 (tk z00 :: wk (a + 7) z00 (tk z00 :: oO1 (a + 13) :: wk (a + 14) z00 (aI 0 64 (fun _ => 0) :: aI 0 64 (fun _ => 0) :: tw (a + 21) (fun _ => 0) 0 0 0 (fun _ => 0) (fun _ => 0) (aR 4 (va_up (fun _ => none) 0 (some (a + 26))) :: sk2 (a + 26) (-4) 0 (fun _ => 0) ([]))))))) rfl ?_
  refine x_inc1 dX5_init_103 ?_
  refine x_goto 85 dX5_init_106 ?_
  refine x_iload_n dX5_init_85 rfl ?_
  refine x_iconst dX5_init_86 ?_
  refine x_icmp_ge 109 dX5_init_87 (fun h87 => absurd h87 (by decide)) (fun h87 => ?_)
  refine x_aload_n dX5_init_90 rfl ?_
  refine x_getfield 0 dX5_init_91 fg_X5_49 hP rfl rfl ?_
  refine x_iload_n dX5_init_94 rfl ?_
  refine x_new dX5_init_95 nw_X5_47 hP rfl ?_
  refine x_dup dX5_init_98 ?_
  refine x_callvI dX5_init_99 mk_X1_init ml_X5_53 (ct_sh (fun a => sk2 a (-4) 0 (fun _ => 0) []) (fun h => k_iS h) hP _ rfl) rfl (fun w99 h99 => ?_)
  subst h99
  refine x_aastore 25 (1) 28 dX5_init_102 hP rfl rfl ?_
  refine x_eqw (w' := P ++ (.inr (5, [.ref (a + 1), .ref (a + 6), .ref (a + 7), .ref (a + 12), .int (iI 0), .ref (a + 13), .ref (a + 21), .ref (a + 25)]) :: wk (a + 1) z00 (tk z00 :: wk (a + 7) z00 (tk z00 :: oO1 (a + 13) :: wk (a + 14) z00 (aI 0 64 (fun _ => 0) :: aI 0 64 (fun _ => 0) :: tw (a + 21) (fun _ => 0) 0 0 0 (fun _ => 0) (fun _ => 0) (aR 4 (va_up (va_up (fun _ => none) 0 (some (a + 26))) 1 (some (a + 28))) :: sk2 (a + 26) (-4) 0 (fun _ => 0) (sk2 (a + 28) (-4) 0 (fun _ => 0) ([])))))))) rfl ?_
  refine x_inc1 dX5_init_103 ?_
  refine x_goto 85 dX5_init_106 ?_
  refine x_iload_n dX5_init_85 rfl ?_
  refine x_iconst dX5_init_86 ?_
  refine x_icmp_ge 109 dX5_init_87 (fun h87 => absurd h87 (by decide)) (fun h87 => ?_)
  refine x_aload_n dX5_init_90 rfl ?_
  refine x_getfield 0 dX5_init_91 fg_X5_49 hP rfl rfl ?_
  refine x_iload_n dX5_init_94 rfl ?_
  refine x_new dX5_init_95 nw_X5_47 hP rfl ?_
  refine x_dup dX5_init_98 ?_
  refine x_callvI dX5_init_99 mk_X1_init ml_X5_53 (ct_sh (fun a => sk2 a (-4) 0 (fun _ => 0) []) (fun h => k_iS h) hP _ rfl) rfl (fun w99 h99 => ?_)
  subst h99
  refine x_aastore 25 (2) 30 dX5_init_102 hP rfl rfl ?_
  refine x_eqw (w' := P ++ (.inr (5, [.ref (a + 1), .ref (a + 6), .ref (a + 7), .ref (a + 12), .int (iI 0), .ref (a + 13), .ref (a + 21), .ref (a + 25)]) :: wk (a + 1) z00 (tk z00 :: wk (a + 7) z00 (tk z00 :: oO1 (a + 13) :: wk (a + 14) z00 (aI 0 64 (fun _ => 0) :: aI 0 64 (fun _ => 0) :: tw (a + 21) (fun _ => 0) 0 0 0 (fun _ => 0) (fun _ => 0) (aR 4 (va_up (va_up (va_up (fun _ => none) 0 (some (a + 26))) 1 (some (a + 28))) 2 (some (a + 30))) :: sk2 (a + 26) (-4) 0 (fun _ => 0) (sk2 (a + 28) (-4) 0 (fun _ => 0) (sk2 (a + 30) (-4) 0 (fun _ => 0) ([]))))))))) rfl ?_
  refine x_inc1 dX5_init_103 ?_
  refine x_goto 85 dX5_init_106 ?_
  refine x_iload_n dX5_init_85 rfl ?_
  refine x_iconst dX5_init_86 ?_
  refine x_icmp_ge 109 dX5_init_87 (fun h87 => absurd h87 (by decide)) (fun h87 => ?_)
  refine x_aload_n dX5_init_90 rfl ?_
  refine x_getfield 0 dX5_init_91 fg_X5_49 hP rfl rfl ?_
  refine x_iload_n dX5_init_94 rfl ?_
  refine x_new dX5_init_95 nw_X5_47 hP rfl ?_
  refine x_dup dX5_init_98 ?_
  refine x_callvI dX5_init_99 mk_X1_init ml_X5_53 (ct_sh (fun a => sk2 a (-4) 0 (fun _ => 0) []) (fun h => k_iS h) hP _ rfl) rfl (fun w99 h99 => ?_)
  subst h99
  refine x_aastore 25 (3) 32 dX5_init_102 hP rfl rfl ?_
  refine x_eqw (w' := P ++ (.inr (5, [.ref (a + 1), .ref (a + 6), .ref (a + 7), .ref (a + 12), .int (iI 0), .ref (a + 13), .ref (a + 21), .ref (a + 25)]) :: wk (a + 1) z00 (tk z00 :: wk (a + 7) z00 (tk z00 :: oO1 (a + 13) :: wk (a + 14) z00 (aI 0 64 (fun _ => 0) :: aI 0 64 (fun _ => 0) :: tw (a + 21) (fun _ => 0) 0 0 0 (fun _ => 0) (fun _ => 0) (aR 4 (va_up (va_up (va_up (va_up (fun _ => none) 0 (some (a + 26))) 1 (some (a + 28))) 2 (some (a + 30))) 3 (some (a + 32))) :: sk2 (a + 26) (-4) 0 (fun _ => 0) (sk2 (a + 28) (-4) 0 (fun _ => 0) (sk2 (a + 30) (-4) 0 (fun _ => 0) (sk2 (a + 32) (-4) 0 (fun _ => 0) ([])))))))))) rfl ?_
  refine x_inc1 dX5_init_103 ?_
  refine x_goto 85 dX5_init_106 ?_
  refine x_iload_n dX5_init_85 rfl ?_
  refine x_iconst dX5_init_86 ?_
  refine x_icmp_ge 109 dX5_init_87 (fun h87 => ?_) (fun h87 => absurd h87 (by decide))
  exact x_vret dX5_init_109 (rfl)
