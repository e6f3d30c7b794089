theorem cnt_pins {z : Nat → Int} (h : P01 z) : (((w4 (n4 (pF z) 0) + w4 (n4 (pF z) 4) + w4 (n4 (pF z) 8) + w4 (n4 (pF z) 12) + w4 (n4 (pF z) 16)) : Nat) : Int) = mPins z 20 := by
  rw [n4_w, n4_w, n4_w, n4_w, n4_w]
  simp only [mPins, Nat.reduceAdd]
  rw [show z 30 = _ from pins_s h (t := 0) (by decide), show z 31 = _ from pins_s h (t := 1) (by decide), show z 32 = _ from pins_s h (t := 2) (by decide), show z 33 = _ from pins_s h (t := 3) (by decide), show z 34 = _ from pins_s h (t := 4) (by decide), show z 35 = _ from pins_s h (t := 5) (by decide), show z 36 = _ from pins_s h (t := 6) (by decide), show z 37 = _ from pins_s h (t := 7) (by decide), show z 38 = _ from pins_s h (t := 8) (by decide), show z 39 = _ from pins_s h (t := 9) (by decide), show z 40 = _ from pins_s h (t := 10) (by decide), show z 41 = _ from pins_s h (t := 11) (by decide), show z 42 = _ from pins_s h (t := 12) (by decide), show z 43 = _ from pins_s h (t := 13) (by decide), show z 44 = _ from pins_s h (t := 14) (by decide), show z 45 = _ from pins_s h (t := 15) (by decide), show z 46 = _ from pins_s h (t := 16) (by decide), show z 47 = _ from pins_s h (t := 17) (by decide), show z 48 = _ from pins_s h (t := 18) (by decide), show z 49 = _ from pins_s h (t := 19) (by decide)]
  omega
set_option maxRecDepth 100000 in
set_option maxHeartbeats 4000000 in
theorem b_count {P : AW} {a : Nat} (hP : P.length = a) (ik : Int) (z y t so st : Nat → Int) (td sk le ot sn pk : Int) (R : AW) (hA : ZA z) (h0 : z 0 ≤ 1000000) (hC : CI z td sk so st le ot sn pk) (h : Int) (hih : inR h)  : CTi I_X5_count 0 0 [.ref (a + 0), .int (iI h)] (P ++ bx a ik z y t so st td sk le ot sn pk R) (fun x w' => x = rCnt z h ∧ BI P a ik (z) y R w') := by
  have hB : BI P a ik z y R (P ++ bx a ik z y t so st td sk le ot sn pk R) := ⟨t, so, st, td, sk, le, ot, sn, pk, rfl, hC⟩
  have hR := hA.1
  have hzc := hA.2.1
  refine CT_of 0 rfl (Nat.le_of_ble_eq_true rfl) ?_
  show EX I_X5_count 0 0 none _ 0 [some (.ref (a + 0)), some (.int (iI h))] [] _ 0 0
  refine x_iload_n dX5_count_0 rfl ?_
  rcases (show h = 0 ∨ h = 1 ∨ h = 2 ∨ h = 3 ∨ h = 4 ∨ h = 5 ∨ h = 6 ∨ h = 7 ∨ h = 8 ∨ (h < 0 ∨ 8 < h) by omega) with h1 | h1 | h1 | h1 | h1 | h1 | h1 | h1 | h1 | h1
  · refine x_tsIn 0 52 dX5_count_1 (by omega) ?_
    refine x_aload_n dX5_count_52 rfl ?_
    refine x_getfield 0 dX5_count_53 fg_X5_12 hP rfl rfl ?_
    refine x_getfield 1 dX5_count_56 fg_X5_58 hP rfl rfl ?_
    exact x_iret dX5_count_59 (⟨by rw [h1]; rfl, hB⟩)
  · refine x_tsIn 1 60 dX5_count_1 (by omega) ?_
    refine x_aload_n dX5_count_60 rfl ?_
    refine x_getfield 0 dX5_count_61 fg_X5_12 hP rfl rfl ?_
    refine x_getfield 1 dX5_count_64 fg_X5_121 hP rfl rfl ?_
    refine x_calliS dX5_count_67 mk_J6_bitCount_0f7a4 ml_X5_146 (k_bitCount _ (pF z)) rfl (fun x67 w67 h67 => ?_)
    obtain ⟨rfl, rfl⟩ := h67
    exact x_iret dX5_count_70 (⟨by rw [h1]; exact cnt_pins hzc.2.2.2.2.2.2.1, hB⟩)
  · refine x_tsIn 2 71 dX5_count_1 (by omega) ?_
    refine x_aload_n dX5_count_71 rfl ?_
    refine x_getfield 0 dX5_count_72 fg_X5_19 hP rfl rfl ?_
    refine x_getfield 6 dX5_count_75 fg_X5_108 hP rfl rfl ?_
    exact x_iret dX5_count_78 (⟨by rw [h1]; rfl, hB⟩)
  · refine x_tsIn 3 79 dX5_count_1 (by omega) ?_
    refine x_aload_n dX5_count_79 rfl ?_
    refine x_getfield 0 dX5_count_80 fg_X5_19 hP rfl rfl ?_
    refine x_getfield 6 dX5_count_83 fg_X5_124 hP rfl rfl ?_
    exact x_iret dX5_count_86 (⟨by rw [h1]; rfl, hB⟩)
  · refine x_tsIn 4 87 dX5_count_1 (by omega) ?_
    refine x_aload_n dX5_count_87 rfl ?_
    refine x_getfield 0 dX5_count_88 fg_X5_19 hP rfl rfl ?_
    refine x_getfield 6 dX5_count_91 fg_X5_151 hP rfl rfl ?_
    exact x_iret dX5_count_94 (⟨by rw [h1]; rfl, hB⟩)
  · refine x_tsIn 5 95 dX5_count_1 (by omega) ?_
    refine x_aload_n dX5_count_95 rfl ?_
    refine x_getfield 0 dX5_count_96 fg_X5_12 hP rfl rfl ?_
    refine x_getfield 1 dX5_count_99 fg_X5_154 hP rfl rfl ?_
    exact x_iret dX5_count_102 (⟨by rw [h1]; rfl, hB⟩)
  · refine x_tsIn 6 103 dX5_count_1 (by omega) ?_
    refine x_aload_n dX5_count_103 rfl ?_
    refine x_getfield 0 dX5_count_104 fg_X5_12 hP rfl rfl ?_
    refine x_getfield 1 dX5_count_107 fg_X5_157 hP rfl rfl ?_
    exact x_iret dX5_count_110 (⟨by rw [h1]; rfl, hB⟩)
  · refine x_tsIn 7 111 dX5_count_1 (by omega) ?_
    refine x_aload_n dX5_count_111 rfl ?_
    refine x_getfield 0 dX5_count_112 fg_X5_12 hP rfl rfl ?_
    refine x_getfield 1 dX5_count_115 fg_X5_127 hP rfl rfl ?_
    exact x_iret dX5_count_118 (⟨by rw [h1]; rfl, hB⟩)
  · refine x_tsIn 8 119 dX5_count_1 (by omega) ?_
    refine x_aload_n dX5_count_119 rfl ?_
    refine x_getfield 0 dX5_count_120 fg_X5_12 hP rfl rfl ?_
    refine x_calliV dX5_count_123 mk_X4_emptyPlaces ml_X5_160 (v_empty hP (oB a ik) (tk z) (tk y) z y t so st td sk le ot sn pk R hR) ((wg_app hP 1).trans rfl) rfl (fun x123 w123 h123 => ?_)
    obtain ⟨rfl, rfl⟩ := h123
    exact x_iret dX5_count_126 (⟨by rw [h1]; exact wE_m hzc 10 (by decide), hB⟩)
  · refine x_tsOut 127 dX5_count_1 h1 ?_
    refine x_iconst dX5_count_127 ?_
    exact x_iret dX5_count_128 (⟨by unfold rCnt; (repeat' split) <;> first | rfl | omega | (exfalso; omega), hB⟩)
