theorem end1 {z : Nat → Int} (h : z 3 = 1) : mEnd z = mLook (updI z 1 (z 1 + (if z 2 = 1 then 1 else -1))) := if_pos h
theorem end2 {z : Nat → Int} (h : z 3 = 2) : mEnd z = mLook (updI z 2 (1 - z 2)) := (if_neg (by omega)).trans (if_pos h)
theorem end3 {z : Nat → Int} (h : z 3 = 3) : mEnd z = mPlay z := ((if_neg (by omega)).trans (if_neg (by omega))).trans (if_pos h)
theorem end4 {z : Nat → Int} (h : z 3 = 4) : mEnd z = mDoes z 5 4 := (((if_neg (by omega)).trans (if_neg (by omega))).trans (if_neg (by omega))).trans (if_pos h)
theorem end5 {z : Nat → Int} (h : z 3 < 1 ∨ 4 < z 3) : mEnd z = mGoOn z := (((if_neg (by omega)).trans (if_neg (by omega))).trans (if_neg (by omega))).trans (if_neg (by omega))
set_option maxRecDepth 100000 in
set_option maxHeartbeats 4000000 in
theorem k_endStep {P : AW} {a : Nat} (hP : P.length = a) (z : Nat → Int) (R : AW) (hR : ∀ i, inR (z i)) (hzc : ZC z) (hzr : 3 ≤ z 3 → 0 ≤ z (20 + (z 1).toNat)) (hz1 : z 3 = 1 → (z 2 = 1 → z 1 ≤ 8) ∧ (z 2 = 0 → 1 ≤ z 1)) (h5 : 0 ≤ z 5 ∧ z 5 ≤ 2000000000) (h6 : 0 ≤ z 6 ∧ z 6 ≤ 2000000000) : CTv I_X4_endStep 0 0 [.ref (a + 0)] (P ++ wk a z R) (fun w' => w' = P ++ wk a (mEnd z) R) := by
  have hu := hzc.2.1
  have hpl := hzc.1
  have hr3 := hR 3
  refine CT_of 0 rfl (Nat.le_of_ble_eq_true rfl) ?_
  show EX I_X4_endStep 0 0 none _ 0 [some (.ref (a + 0))] [] _ 0 0
  refine x_aload_n dX4_endStep_0 rfl ?_
  refine x_getfield 0 dX4_endStep_1 fg_X4_50 hP rfl rfl ?_
  rcases (show z 3 = 1 ∨ z 3 = 2 ∨ z 3 = 3 ∨ z 3 = 4 ∨ (z 3 < 1 ∨ 4 < z 3) by omega) with h4 | h4 | h4 | h4 | h4
  · refine x_tsIn 0 36 dX4_endStep_4 (by omega) ?_ (ha := hR 3)
    refine x_aload_n dX4_endStep_36 rfl ?_
    refine x_aload_n dX4_endStep_37 rfl ?_
    refine x_getfield 0 dX4_endStep_38 fg_X4_46 hP rfl rfl ?_
    refine x_if_eq 58 dX4_endStep_41 (fun h41 => ?_) (fun h41 => ?_) (ha := by omega)
    · refine x_aload_n dX4_endStep_58 rfl ?_
      refine x_getfield 0 dX4_endStep_59 fg_X4_43 hP rfl rfl ?_
      refine x_iconst dX4_endStep_62 ?_
      refine x_isub dX4_endStep_63 ?_
      refine x_iconst dX4_endStep_64 ?_
      refine x_max dX4_endStep_65 ml_X4_88 ?_ (hx := by omega) (hy := by decide)
      refine x_putfield 0 dX4_endStep_68 fl_X4_43 hP rfl (fun _ _ => ⟨rfl, rfl⟩) ?_
      refine x_wk hP (updI z 1 (z 1 + -1)) (fun j hj => by (simp (disch := omega) only [mDoes, mOut, updI_n, updI_e])) (fun j hj => by (simp (disch := omega) only [mDoes, mOut, updI_n, updI_e])) (fun j hj => by (simp (disch := omega) only [mDoes, mOut, updI_n, updI_e])) (fun j hj => by (simp (disch := omega) only [mDoes, mOut, updI_n, updI_e])) (by (simp (disch := omega) only [mDoes, mOut, updI_n, updI_e])) (pF_x (fun t ht => by (simp (disch := omega) only [mDoes, mOut, updI_n, updI_e]))) (iF_x (fun t ht => by (simp (disch := omega) only [mDoes, mOut, updI_n, updI_e]))) (oF_x (fun t ht => by (simp (disch := omega) only [mDoes, mOut, updI_n, updI_e]))) (by (simp (disch := omega) only [mDoes, mOut, updI_n, updI_e])) (by (simp (disch := omega) only [mDoes, mOut, updI_n, updI_e])) (by rw [updI_e]; omega) (by (simp (disch := omega) only [mDoes, mOut, updI_n, updI_e])) (by (simp (disch := omega) only [mDoes, mOut, updI_n, updI_e])) (by (simp (disch := omega) only [mDoes, mOut, updI_n, updI_e])) (by (simp (disch := omega) only [mDoes, mOut, updI_n, updI_e])) (by (simp (disch := omega) only [mDoes, mOut, updI_n, updI_e])) ?_
      refine x_aload_n dX4_endStep_71 rfl ?_
      refine x_callvV dX4_endStep_72 mk_X4_look ml_X4_76 (k_look hP _ R (inR_upd hR (by omega)) (ZC_p hzc (by omega) (by omega)) (by rw [updI_n (by decide)]; exact h6)) ((wg_app hP 0).trans rfl) rfl (fun w72 h72 => ?_)
      subst h72
      refine x_goto 125 dX4_endStep_75 ?_
      exact x_vret dX4_endStep_125 (by rw [end1 h4]; first | rw [if_pos (by omega)] | rw [if_neg (by omega)])
    · refine x_aload_n dX4_endStep_44 rfl ?_
      refine x_getfield 0 dX4_endStep_45 fg_X4_43 hP rfl rfl ?_
      refine x_iconst dX4_endStep_48 ?_
      refine x_iadd dX4_endStep_49 ?_
      refine x_bipush dX4_endStep_50 ?_
      refine x_min dX4_endStep_52 ml_X4_79 ?_ (hx := by omega) (hy := by decide)
      refine x_goto 68 dX4_endStep_55 ?_
      refine x_putfield 0 dX4_endStep_68 fl_X4_43 hP rfl (fun _ _ => ⟨rfl, rfl⟩) ?_
      refine x_wk hP (updI z 1 (z 1 + 1)) (fun j hj => by (simp (disch := omega) only [mDoes, mOut, updI_n, updI_e])) (fun j hj => by (simp (disch := omega) only [mDoes, mOut, updI_n, updI_e])) (fun j hj => by (simp (disch := omega) only [mDoes, mOut, updI_n, updI_e])) (fun j hj => by (simp (disch := omega) only [mDoes, mOut, updI_n, updI_e])) (by (simp (disch := omega) only [mDoes, mOut, updI_n, updI_e])) (pF_x (fun t ht => by (simp (disch := omega) only [mDoes, mOut, updI_n, updI_e]))) (iF_x (fun t ht => by (simp (disch := omega) only [mDoes, mOut, updI_n, updI_e]))) (oF_x (fun t ht => by (simp (disch := omega) only [mDoes, mOut, updI_n, updI_e]))) (by (simp (disch := omega) only [mDoes, mOut, updI_n, updI_e])) (by (simp (disch := omega) only [mDoes, mOut, updI_n, updI_e])) (by rw [updI_e]; omega) (by (simp (disch := omega) only [mDoes, mOut, updI_n, updI_e])) (by (simp (disch := omega) only [mDoes, mOut, updI_n, updI_e])) (by (simp (disch := omega) only [mDoes, mOut, updI_n, updI_e])) (by (simp (disch := omega) only [mDoes, mOut, updI_n, updI_e])) (by (simp (disch := omega) only [mDoes, mOut, updI_n, updI_e])) ?_
      refine x_aload_n dX4_endStep_71 rfl ?_
      refine x_callvV dX4_endStep_72 mk_X4_look ml_X4_76 (k_look hP _ R (inR_upd hR (by omega)) (ZC_p hzc (by omega) (by omega)) (by rw [updI_n (by decide)]; exact h6)) ((wg_app hP 0).trans rfl) rfl (fun w72 h72 => ?_)
      subst h72
      refine x_goto 125 dX4_endStep_75 ?_
      exact x_vret dX4_endStep_125 (by rw [end1 h4]; first | rw [if_pos (by omega)] | rw [if_neg (by omega)])
  · refine x_tsIn 1 78 dX4_endStep_4 (by omega) ?_ (ha := hR 3)
    refine x_aload_n dX4_endStep_78 rfl ?_
    refine x_aload_n dX4_endStep_79 rfl ?_
    refine x_getfield 0 dX4_endStep_80 fg_X4_46 hP rfl rfl ?_
    refine x_if_ne 90 dX4_endStep_83 (fun h83 => ?_) (fun h83 => ?_) (ha := by omega)
    · refine x_iconst dX4_endStep_90 ?_
      refine x_putfield 0 dX4_endStep_91 fl_X4_46 hP rfl (fun _ _ => bfit (by omega)) ?_
      refine x_wk hP (updI z 2 (1 - z 2)) (fun j hj => by (simp (disch := omega) only [mDoes, mOut, updI_n, updI_e])) (fun j hj => by (simp (disch := omega) only [mDoes, mOut, updI_n, updI_e])) (fun j hj => by (simp (disch := omega) only [mDoes, mOut, updI_n, updI_e])) (fun j hj => by (simp (disch := omega) only [mDoes, mOut, updI_n, updI_e])) (by (simp (disch := omega) only [mDoes, mOut, updI_n, updI_e])) (pF_x (fun t ht => by (simp (disch := omega) only [mDoes, mOut, updI_n, updI_e]))) (iF_x (fun t ht => by (simp (disch := omega) only [mDoes, mOut, updI_n, updI_e]))) (oF_x (fun t ht => by (simp (disch := omega) only [mDoes, mOut, updI_n, updI_e]))) (by (simp (disch := omega) only [mDoes, mOut, updI_n, updI_e])) (by (simp (disch := omega) only [mDoes, mOut, updI_n, updI_e])) (by (simp (disch := omega) only [mDoes, mOut, updI_n, updI_e])) (by rw [updI_e]; omega) (by (simp (disch := omega) only [mDoes, mOut, updI_n, updI_e])) (by (simp (disch := omega) only [mDoes, mOut, updI_n, updI_e])) (by (simp (disch := omega) only [mDoes, mOut, updI_n, updI_e])) (by (simp (disch := omega) only [mDoes, mOut, updI_n, updI_e])) ?_
      refine x_aload_n dX4_endStep_94 rfl ?_
      refine x_callvV dX4_endStep_95 mk_X4_look ml_X4_76 (k_look hP _ R (inR_upd hR (by omega)) (ZC_t hzc (by omega)) (by rw [updI_n (by decide)]; exact h6)) ((wg_app hP 0).trans rfl) rfl (fun w95 h95 => ?_)
      subst h95
      refine x_goto 125 dX4_endStep_98 ?_
      exact x_vret dX4_endStep_125 (by rw [end2 h4])
    · refine x_iconst dX4_endStep_86 ?_
      refine x_goto 91 dX4_endStep_87 ?_
      refine x_putfield 0 dX4_endStep_91 fl_X4_46 hP rfl (fun _ _ => bfit (by omega)) ?_
      refine x_wk hP (updI z 2 (1 - z 2)) (fun j hj => by (simp (disch := omega) only [mDoes, mOut, updI_n, updI_e])) (fun j hj => by (simp (disch := omega) only [mDoes, mOut, updI_n, updI_e])) (fun j hj => by (simp (disch := omega) only [mDoes, mOut, updI_n, updI_e])) (fun j hj => by (simp (disch := omega) only [mDoes, mOut, updI_n, updI_e])) (by (simp (disch := omega) only [mDoes, mOut, updI_n, updI_e])) (pF_x (fun t ht => by (simp (disch := omega) only [mDoes, mOut, updI_n, updI_e]))) (iF_x (fun t ht => by (simp (disch := omega) only [mDoes, mOut, updI_n, updI_e]))) (oF_x (fun t ht => by (simp (disch := omega) only [mDoes, mOut, updI_n, updI_e]))) (by (simp (disch := omega) only [mDoes, mOut, updI_n, updI_e])) (by (simp (disch := omega) only [mDoes, mOut, updI_n, updI_e])) (by (simp (disch := omega) only [mDoes, mOut, updI_n, updI_e])) (by rw [updI_e]; omega) (by (simp (disch := omega) only [mDoes, mOut, updI_n, updI_e])) (by (simp (disch := omega) only [mDoes, mOut, updI_n, updI_e])) (by (simp (disch := omega) only [mDoes, mOut, updI_n, updI_e])) (by (simp (disch := omega) only [mDoes, mOut, updI_n, updI_e])) ?_
      refine x_aload_n dX4_endStep_94 rfl ?_
      refine x_callvV dX4_endStep_95 mk_X4_look ml_X4_76 (k_look hP _ R (inR_upd hR (by omega)) (ZC_t hzc (by omega)) (by rw [updI_n (by decide)]; exact h6)) ((wg_app hP 0).trans rfl) rfl (fun w95 h95 => ?_)
      subst h95
      refine x_goto 125 dX4_endStep_98 ?_
      exact x_vret dX4_endStep_125 (by rw [end2 h4])
  · refine x_tsIn 2 101 dX4_endStep_4 (by omega) ?_ (ha := hR 3)
    refine x_aload_n dX4_endStep_101 rfl ?_
    refine x_callvV dX4_endStep_102 mk_X4_play ml_X4_91 (k_play hP z R hR hzc (hzr (by omega)) h5) ((wg_app hP 0).trans rfl) rfl (fun w102 h102 => ?_)
    subst h102
    refine x_goto 125 dX4_endStep_105 ?_
    exact x_vret dX4_endStep_125 (by rw [end3 h4])
  · refine x_tsIn 3 108 dX4_endStep_4 (by omega) ?_ (ha := hR 3)
    refine x_aload_n dX4_endStep_108 rfl ?_
    refine x_iconst dX4_endStep_109 ?_
    refine x_putfield 0 dX4_endStep_110 fl_X4_50 hP rfl (fun _ _ => ⟨rfl, rfl⟩) ?_
    refine x_aload_n dX4_endStep_113 rfl ?_
    refine x_iconst dX4_endStep_114 ?_
    refine x_putfield 0 dX4_endStep_115 fl_X4_53 hP rfl (fun _ _ => ⟨rfl, rfl⟩) ?_
    refine x_wk hP (mDoes z 5 4) (fun j hj => by (simp (disch := omega) only [mDoes, mOut, updI_n, updI_e])) (fun j hj => by (simp (disch := omega) only [mDoes, mOut, updI_n, updI_e])) (fun j hj => by (simp (disch := omega) only [mDoes, mOut, updI_n, updI_e])) (fun j hj => by (simp (disch := omega) only [mDoes, mOut, updI_n, updI_e])) (by (simp (disch := omega) only [mDoes, mOut, updI_n, updI_e])) (pF_x (fun t ht => by (simp (disch := omega) only [mDoes, mOut, updI_n, updI_e]))) (iF_x (fun t ht => by (simp (disch := omega) only [mDoes, mOut, updI_n, updI_e]))) (oF_x (fun t ht => by (simp (disch := omega) only [mDoes, mOut, updI_n, updI_e]))) (by (simp (disch := omega) only [mDoes, mOut, updI_n, updI_e])) (by (simp (disch := omega) only [mDoes, mOut, updI_n, updI_e])) (by (simp (disch := omega) only [mDoes, mOut, updI_n, updI_e])) (by (simp (disch := omega) only [mDoes, mOut, updI_n, updI_e])) (by (simp (disch := omega) only [mDoes, mOut, updI_n, updI_e])) (by (simp (disch := omega) only [mDoes, mOut, updI_n, updI_e])) (by (simp (disch := omega) only [mDoes, mOut, updI_n, updI_e])) (by (simp (disch := omega) only [mDoes, mOut, updI_n, updI_e])) ?_
    refine x_goto 125 dX4_endStep_118 ?_
    exact x_vret dX4_endStep_125 (by rw [end4 h4])
  · refine x_tsOut 121 dX4_endStep_4 h4 ?_ (ha := hR 3)
    refine x_aload_n dX4_endStep_121 rfl ?_
    refine x_callvV dX4_endStep_122 mk_X4_goOn ml_X4_94 (k_goOn hP z R hR hzc.1 hzc.2.1 hzc.2.2.2.2.2.2.1) ((wg_app hP 0).trans rfl) rfl (fun w122 h122 => ?_)
    subst h122
    exact x_vret dX4_endStep_125 (by rw [end5 h4])
theorem pins_eq {z z' : Nat → Int} (h : ∀ t, t < 20 → z' (30 + t) = z (30 + t)) : ∀ n, n ≤ 20 → mPins z' n = mPins z n
  | 0, _ => rfl
  | n + 1, hn => by
    simp only [mPins]
    rw [pins_eq h n (by omega), h n (by omega)]
/-! ticks in one go -/
theorem tick_rest {z : Nat → Int} (h3 : z 3 = 0) (hp : mPins z 20 = 0) : mTick z = updI z 0 (z 0 + 1) := by
  have e : mPins (updI z 0 (z 0 + 1)) 20 = mPins z 20 := pins_eq (fun t ht => updI_n (by omega)) 20 (by omega)
  unfold mTick
  rw [if_pos h3, if_pos (by rw [e]; omega)]
theorem updI_uu (z : Nat → Int) (j : Nat) (v w : Int) : updI (updI z j v) j w = updI z j w := by
  funext i
  unfold updI
  split
  · rfl
  · rfl
theorem updI_cm {z : Nat → Int} {i j : Nat} {v w : Int} (h : i ≠ j) : updI (updI z i v) j w = updI (updI z j w) i v := by
  funext q
  unfold updI
  by_cases h1 : q = j
  · rw [if_pos h1, if_neg (by omega), if_pos h1]
  · rw [if_neg h1]
    by_cases h2 : q = i
    · rw [if_pos h2, if_pos h2]
    · rw [if_neg h2, if_neg h2, if_neg h1]
theorem ticks_rest {z : Nat → Int} (h3 : z 3 = 0) (hp : mPins z 20 = 0) : ∀ n : Nat, mTicks z n = updI z 0 (z 0 + (n : Int))
  | 0 => by
    show z = updI z 0 (z 0 + 0)
    rw [Int.add_zero, updI_id]
  | n + 1 => by
    have ih := ticks_rest h3 hp n
    show mTick (mTicks z n) = _
    rw [ih, tick_rest (by rw [updI_n (by decide)]; exact h3) (by rw [pins_eq (fun t ht => updI_n (by omega)) 20 (by omega)]; exact hp), updI_e, updI_uu]
    congr 1
    omega
theorem tick_go {z : Nat → Int} (h3 : ¬ z 3 = 0) (h4 : 0 < z 4 - 1) : mTick z = updI (updI z 0 (z 0 + 1)) 4 (z 4 - 1) := (if_neg h3).trans (if_pos h4)
theorem tick_end {z : Nat → Int} (h3 : ¬ z 3 = 0) (h4 : ¬ 0 < z 4 - 1) : mTick z = mEnd (updI (updI z 0 (z 0 + 1)) 4 (z 4 - 1)) := by
  have e1 : updI (updI z 0 (z 0 + 1)) 4 (z 4 - 1) 1 = z 1 := (updI_n (by decide)).trans (updI_n (by decide))
  have e2 : updI (updI z 0 (z 0 + 1)) 4 (z 4 - 1) 2 = z 2 := (updI_n (by decide)).trans (updI_n (by decide))
  have e3 : updI (updI z 0 (z 0 + 1)) 4 (z 4 - 1) 3 = z 3 := (updI_n (by decide)).trans (updI_n (by decide))
  unfold mTick mEnd
  rw [if_neg h3, if_neg h4, e1, e2, e3]
theorem ticks_go {z : Nat → Int} (h3 : ¬ z 3 = 0) : ∀ n : Nat, (n : Int) < z 4 → mTicks z n = updI (updI z 0 (z 0 + (n : Int))) 4 (z 4 - (n : Int))
  | 0, _ => by
    show z = updI (updI z 0 (z 0 + 0)) 4 (z 4 - 0)
    rw [Int.add_zero, Int.sub_zero, updI_id, updI_id]
  | n + 1, hn => by
    have ih := ticks_go h3 n (by omega)
    have e3 : updI (updI z 0 (z 0 + (n : Int))) 4 (z 4 - (n : Int)) 3 = z 3 := (updI_n (by decide)).trans (updI_n (by decide))
    have e4 : updI (updI z 0 (z 0 + (n : Int))) 4 (z 4 - (n : Int)) 4 = z 4 - (n : Int) := updI_e _ _ _
    have e0 : updI (updI z 0 (z 0 + (n : Int))) 4 (z 4 - (n : Int)) 0 = z 0 + (n : Int) := (updI_n (by decide)).trans (updI_e _ _ _)
    show mTick (mTicks z n) = _
    rw [ih, tick_go (by rw [e3]; exact h3) (by rw [e4]; omega), e0, e4, updI_cm (i := 4) (j := 0) (by decide), updI_uu, updI_uu]
    congr 1
    · congr 1; omega
    · omega
theorem ticks_end {z : Nat → Int} (h3 : ¬ z 3 = 0) (h4 : 1 ≤ z 4) : mTicks z (z 4).toNat = mEnd (updI (updI z 0 (z 0 + z 4)) 4 (z 4 - z 4)) := by
  obtain ⟨n, hn⟩ : ∃ n : Nat, (z 4).toNat = n + 1 := ⟨(z 4).toNat - 1, by omega⟩
  rw [hn]
  show mTick (mTicks z n) = _
  have e3 : updI (updI z 0 (z 0 + (n : Int))) 4 (z 4 - (n : Int)) 3 = z 3 := (updI_n (by decide)).trans (updI_n (by decide))
  have e4 : updI (updI z 0 (z 0 + (n : Int))) 4 (z 4 - (n : Int)) 4 = z 4 - (n : Int) := updI_e _ _ _
  have e0 : updI (updI z 0 (z 0 + (n : Int))) 4 (z 4 - (n : Int)) 0 = z 0 + (n : Int) := (updI_n (by decide)).trans (updI_e _ _ _)
  rw [ticks_go h3 n (by omega), tick_end (by rw [e3]; exact h3) (by rw [e4]; omega), e0, e4, updI_cm (i := 4) (j := 0) (by decide), updI_uu, updI_uu]
  congr 2
  · congr 1; omega
  · omega
/-- how many ticks go by at most so many, up to what happens next -/
def gP (z : Nat → Int) (m : Int) : Nat := if z 3 = 0 then (if mPins z 20 = 0 then m.toNat else 1) else (min m (z 4)).toNat
theorem tick_look {z : Nat → Int} (h3 : z 3 = 0) (hp : ¬ mPins z 20 = 0) (hb : 0 ≤ mPins z 20) : mTick z = mLook (updI z 0 (z 0 + 1)) := by
  have e : mPins (updI z 0 (z 0 + 1)) 20 = mPins z 20 := pins_eq (fun t ht => updI_n (by omega)) 20 (by omega)
  unfold mTick
  rw [if_pos h3, if_neg (by rw [e]; omega)]
set_option maxRecDepth 100000 in
set_option maxHeartbeats 4000000 in
theorem k_pass {P : AW} {a : Nat} (hP : P.length = a) (z : Nat → Int) (R : AW) (hA : ZA z) (m : Int) (hm : 1 ≤ m ∧ m ≤ 2000) (h0 : z 0 + m ≤ 2000000000) : CTi I_X4_pass 0 0 [.ref (a + 0), .int (iI m)] (P ++ wk a z R) (fun x w' => x = ((gP z m : Nat) : Int) ∧ w' = P ++ wk a (mTicks z (gP z m)) R) := by
  obtain ⟨d1, d2, d3, d4, d5, d6, d7⟩ := hA.2.2.1
  have h5 := hA.2.2.2
  have hpl := hA.2.1.1
  refine CT_of 1 rfl (Nat.le_of_ble_eq_true rfl) ?_
  show EX I_X4_pass 0 0 none _ 0 [some (.ref (a + 0)), some (.int (iI m)), none] [] _ 0 0
  refine x_aload_n dX4_pass_0 rfl ?_
  refine x_calliV dX4_pass_1 mk_X4_isDone ml_X4_72 (k_isDone hP z R hA.1 hA.2.1.2.2.2.2.2.2.1) ((wg_app hP 0).trans rfl) rfl (fun x1 w1 h1 => ?_)
  obtain ⟨hb1, rfl⟩ := h1
  by_cases c1 : z 3 = 0 ∧ mPins z 20 = 0
  · rw [if_pos c1] at hb1
    subst hb1
    refine x_if_eq 19 dX4_pass_4 (fun h4 => absurd h4 (by decide)) (fun h4 => ?_)
    refine x_aload_n dX4_pass_7 rfl ?_
    refine x_dup dX4_pass_8 ?_
    refine x_getfield 0 dX4_pass_9 fg_X4_40 hP rfl rfl ?_
    refine x_iload_n dX4_pass_12 rfl ?_
    refine x_iadd dX4_pass_13 ?_
    refine x_putfield 0 dX4_pass_14 fl_X4_40 hP rfl (fun _ _ => ⟨rfl, rfl⟩) ?_
    have hg : gP z m = m.toNat := by unfold gP; rw [if_pos c1.1, if_pos c1.2]
    refine x_wk hP (updI z 0 (z 0 + m)) (fun j hj => by (simp (disch := omega) only [mDoes, mOut, updI_n, updI_e])) (fun j hj => by (simp (disch := omega) only [mDoes, mOut, updI_n, updI_e])) (fun j hj => by (simp (disch := omega) only [mDoes, mOut, updI_n, updI_e])) (fun j hj => by (simp (disch := omega) only [mDoes, mOut, updI_n, updI_e])) (by (simp (disch := omega) only [mDoes, mOut, updI_n, updI_e])) (pF_x (fun t ht => by (simp (disch := omega) only [mDoes, mOut, updI_n, updI_e]))) (iF_x (fun t ht => by (simp (disch := omega) only [mDoes, mOut, updI_n, updI_e]))) (oF_x (fun t ht => by (simp (disch := omega) only [mDoes, mOut, updI_n, updI_e]))) (by (simp (disch := omega) only [mDoes, mOut, updI_n, updI_e])) (by (simp (disch := omega) only [mDoes, mOut, updI_n, updI_e])) (by (simp (disch := omega) only [mDoes, mOut, updI_n, updI_e])) (by (simp (disch := omega) only [mDoes, mOut, updI_n, updI_e])) (by (simp (disch := omega) only [mDoes, mOut, updI_n, updI_e])) (by (simp (disch := omega) only [mDoes, mOut, updI_n, updI_e])) (by (simp (disch := omega) only [mDoes, mOut, updI_n, updI_e])) (by (simp (disch := omega) only [mDoes, mOut, updI_n, updI_e])) ?_
    rw [show updI z 0 (z 0 + m) = mTicks z (gP z m) by rw [hg, ticks_rest c1.1 c1.2, show ((m.toNat : Nat) : Int) = m by omega]]
    refine x_iload_n dX4_pass_17 rfl ?_
    exact x_iret dX4_pass_18 (⟨by rw [hg]; omega, rfl⟩)
  · rw [if_neg c1] at hb1
    subst hb1
    refine x_if_eq 19 dX4_pass_4 (fun h4 => ?_) (fun h4 => absurd h4 (by decide))
    refine x_aload_n dX4_pass_19 rfl ?_
    refine x_getfield 0 dX4_pass_20 fg_X4_50 hP rfl rfl ?_
    refine x_if_ne 42 dX4_pass_23 (fun h23 => ?_) (fun h23 => ?_) (ha := hA.1 3)
    · refine x_iload_n dX4_pass_42 rfl ?_
      refine x_aload_n dX4_pass_43 rfl ?_
      refine x_getfield 0 dX4_pass_44 fg_X4_53 hP rfl rfl ?_
      refine x_min dX4_pass_47 ml_X4_79 ?_ (hx := by omega) (hy := by omega)
      refine x_ist2 dX4_pass_50 ?_
      refine x_aload_n dX4_pass_51 rfl ?_
      refine x_dup dX4_pass_52 ?_
      refine x_getfield 0 dX4_pass_53 fg_X4_40 hP rfl rfl ?_
      refine x_iload_n dX4_pass_56 rfl ?_
      refine x_iadd dX4_pass_57 ?_
      refine x_putfield 0 dX4_pass_58 fl_X4_40 hP rfl (fun _ _ => ⟨rfl, rfl⟩) ?_
      refine x_aload_n dX4_pass_61 rfl ?_
      refine x_dup dX4_pass_62 ?_
      refine x_getfield 0 dX4_pass_63 fg_X4_53 hP rfl rfl ?_
      refine x_iload_n dX4_pass_66 rfl ?_
      refine x_isub dX4_pass_67 ?_
      refine x_putfield 0 dX4_pass_68 fl_X4_53 hP rfl (fun _ _ => ⟨rfl, rfl⟩) ?_
      have u3 : (updI (updI z 0 (z 0 + min m (z 4))) 4 (z 4 - min m (z 4))) 3 = z 3 := (updI_n (by decide)).trans (updI_n (by decide))
      have u1 : (updI (updI z 0 (z 0 + min m (z 4))) 4 (z 4 - min m (z 4))) 1 = z 1 := (updI_n (by decide)).trans (updI_n (by decide))
      have u2 : (updI (updI z 0 (z 0 + min m (z 4))) 4 (z 4 - min m (z 4))) 2 = z 2 := (updI_n (by decide)).trans (updI_n (by decide))
      have u5 : (updI (updI z 0 (z 0 + min m (z 4))) 4 (z 4 - min m (z 4))) 5 = z 5 := (updI_n (by decide)).trans (updI_n (by decide))
      have u6 : (updI (updI z 0 (z 0 + min m (z 4))) 4 (z 4 - min m (z 4))) 6 = z 6 := (updI_n (by decide)).trans (updI_n (by decide))
      have ur : (updI (updI z 0 (z 0 + min m (z 4))) 4 (z 4 - min m (z 4))) (20 + (z 1).toNat) = z (20 + (z 1).toNat) := (updI_n (by omega)).trans (updI_n (by omega))
      have hg : gP z m = (min m (z 4)).toNat := by unfold gP; rw [if_neg h23]
      refine x_wk hP (updI (updI z 0 (z 0 + min m (z 4))) 4 (z 4 - min m (z 4))) (fun j hj => by (simp (disch := omega) only [mDoes, mOut, updI_n, updI_e])) (fun j hj => by (simp (disch := omega) only [mDoes, mOut, updI_n, updI_e])) (fun j hj => by (simp (disch := omega) only [mDoes, mOut, updI_n, updI_e])) (fun j hj => by (simp (disch := omega) only [mDoes, mOut, updI_n, updI_e])) (by (simp (disch := omega) only [mDoes, mOut, updI_n, updI_e])) (pF_x (fun t ht => by (simp (disch := omega) only [mDoes, mOut, updI_n, updI_e]))) (iF_x (fun t ht => by (simp (disch := omega) only [mDoes, mOut, updI_n, updI_e]))) (oF_x (fun t ht => by (simp (disch := omega) only [mDoes, mOut, updI_n, updI_e]))) (by (simp (disch := omega) only [mDoes, mOut, updI_n, updI_e])) (by (simp (disch := omega) only [mDoes, mOut, updI_n, updI_e])) (by (simp (disch := omega) only [mDoes, mOut, updI_n, updI_e])) (by (simp (disch := omega) only [mDoes, mOut, updI_n, updI_e])) (by (simp (disch := omega) only [mDoes, mOut, updI_n, updI_e])) (by (simp (disch := omega) only [mDoes, mOut, updI_n, updI_e])) (by (simp (disch := omega) only [mDoes, mOut, updI_n, updI_e])) (by (simp (disch := omega) only [mDoes, mOut, updI_n, updI_e])) ?_
      refine x_aload_n dX4_pass_71 rfl ?_
      refine x_getfield 0 dX4_pass_72 fg_X4_53 hP rfl rfl ?_
      refine x_top (show (updI (updI z 0 (z 0 + min m (z 4))) 4 (z 4 - min m (z 4))) 4 = z 4 - min m (z 4) from updI_e _ _ _) ?_
      refine x_if_ne 82 dX4_pass_75 (fun h75 => ?_) (fun h75 => ?_) (ha := by omega)
      · rw [show updI (updI z 0 (z 0 + min m (z 4))) 4 (z 4 - min m (z 4)) = mTicks z (gP z m) by rw [hg, ticks_go h23 _ (by omega), show (((min m (z 4)).toNat : Nat) : Int) = min m (z 4) by omega]]
        refine x_iload_n dX4_pass_82 rfl ?_
        exact x_iret dX4_pass_83 ⟨by rw [hg]; omega, rfl⟩
      · refine x_aload_n dX4_pass_78 rfl ?_
        refine x_callvV dX4_pass_79 mk_X4_endStep ml_X4_85 (k_endStep hP (updI (updI z 0 (z 0 + min m (z 4))) 4 (z 4 - min m (z 4))) R (inR_upd (inR_upd hA.1 (by omega)) (by omega)) (ZC_n (ZC_n hA.2.1 (by omega)) (by omega)) (by rw [u3, u1, ur]; exact d5) (by rw [u3, u1, u2]; exact d6) (by rw [u5]; omega) (by rw [u6]; omega)) ((wg_app hP 0).trans rfl) rfl (fun w79 h79 => ?_)
        subst h79
        rw [show mEnd (updI (updI z 0 (z 0 + min m (z 4))) 4 (z 4 - min m (z 4))) = mTicks z (gP z m) by rw [hg, show min m (z 4) = z 4 by omega, ticks_end h23 (by omega)]]
        refine x_iload_n dX4_pass_82 rfl ?_
        exact x_iret dX4_pass_83 ⟨by rw [hg]; omega, rfl⟩
    · refine x_aload_n dX4_pass_26 rfl ?_
      refine x_dup dX4_pass_27 ?_
      refine x_getfield 0 dX4_pass_28 fg_X4_40 hP rfl rfl ?_
      refine x_iconst dX4_pass_31 ?_
      refine x_iadd dX4_pass_32 ?_
      refine x_putfield 0 dX4_pass_33 fl_X4_40 hP rfl (fun _ _ => ⟨rfl, rfl⟩) ?_
      refine x_wk hP (updI z 0 (z 0 + 1)) (fun j hj => by (simp (disch := omega) only [mDoes, mOut, updI_n, updI_e])) (fun j hj => by (simp (disch := omega) only [mDoes, mOut, updI_n, updI_e])) (fun j hj => by (simp (disch := omega) only [mDoes, mOut, updI_n, updI_e])) (fun j hj => by (simp (disch := omega) only [mDoes, mOut, updI_n, updI_e])) (by (simp (disch := omega) only [mDoes, mOut, updI_n, updI_e])) (pF_x (fun t ht => by (simp (disch := omega) only [mDoes, mOut, updI_n, updI_e]))) (iF_x (fun t ht => by (simp (disch := omega) only [mDoes, mOut, updI_n, updI_e]))) (oF_x (fun t ht => by (simp (disch := omega) only [mDoes, mOut, updI_n, updI_e]))) (by (simp (disch := omega) only [mDoes, mOut, updI_n, updI_e])) (by (simp (disch := omega) only [mDoes, mOut, updI_n, updI_e])) (by (simp (disch := omega) only [mDoes, mOut, updI_n, updI_e])) (by (simp (disch := omega) only [mDoes, mOut, updI_n, updI_e])) (by (simp (disch := omega) only [mDoes, mOut, updI_n, updI_e])) (by (simp (disch := omega) only [mDoes, mOut, updI_n, updI_e])) (by (simp (disch := omega) only [mDoes, mOut, updI_n, updI_e])) (by (simp (disch := omega) only [mDoes, mOut, updI_n, updI_e])) ?_
      refine x_aload_n dX4_pass_36 rfl ?_
      refine x_callvV dX4_pass_37 mk_X4_look ml_X4_76 (k_look hP (updI z 0 (z 0 + 1)) R (inR_upd hA.1 (by omega)) (ZC_n hA.2.1 (by omega)) (by rw [updI_n (by decide)]; omega)) ((wg_app hP 0).trans rfl) rfl (fun w37 h37 => ?_)
      subst h37
      refine x_iconst dX4_pass_40 ?_
      exact x_iret dX4_pass_41 (⟨by unfold gP; rw [if_pos h23, if_neg (fun q => c1 ⟨h23, q⟩)]; rfl, by rw [show gP z m = 1 by unfold gP; rw [if_pos h23, if_neg (fun q => c1 ⟨h23, q⟩)]]; show _ = P ++ wk a (mTick z) R; rw [tick_look h23 (fun q => c1 ⟨h23, q⟩) (mPins_b hA.2.1.2.2.2.2.2.2.1 20 (by omega)).1]⟩)
