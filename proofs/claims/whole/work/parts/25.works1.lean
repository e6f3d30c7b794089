/-! ===== the class: Works ===== -/
abbrev oW (a : Nat) (x16 xp xi xo x15 x0 x1 x2 x3 x4 x5 x6 : Int) : AC := .inr (4, [.int (iI x16), .ref (a + 1), .ref (a + 2), .ref (a + 3), .ref (a + 4), .int (iI xp), .int (iI xi), .int (iI xo), .int (iI x15), .int (iI x0), .int (iI x1), .int (iI x2), .int (iI x3), .int (iI x4), .int (iI x5), .int (iI x6)])
abbrev wk (a : Nat) (z : Nat → Int) (R : AW) : AW := oW a (z 16) (mB (pF z)) (mB (iF z)) (mB (oF z)) (z 15) (z 0) (z 1) (z 2) (z 3) (z 4) (z 5) (z 6) :: aI 0 32 (fun j => z (90 + j)) :: aI 0 32 (fun j => z (122 + j)) :: aI 0 10 (fun j => z (20 + j)) :: aI 0 20 (fun j => z (70 + j)) :: R
theorem wk_fin {P : AW} {a : Nat} {R : AW} {z : Nat → Int} {x16 xp xi xo x15 x0 x1 x2 x3 x4 x5 x6 : Int} (h16 : x16 = z 16) (hp : xp = mB (pF z)) (hi : xi = mB (iF z)) (ho : xo = mB (oF z)) (h15 : x15 = z 15) (h0 : x0 = z 0) (h1 : x1 = z 1) (h2 : x2 = z 2) (h3 : x3 = z 3) (h4 : x4 = z 4) (h5 : x5 = z 5) (h6 : x6 = z 6) :
    P ++ (oW a x16 xp xi xo x15 x0 x1 x2 x3 x4 x5 x6 :: aI 0 32 (fun j => z (90 + j)) :: aI 0 32 (fun j => z (122 + j)) :: aI 0 10 (fun j => z (20 + j)) :: aI 0 20 (fun j => z (70 + j)) :: R) = P ++ wk a z R := by
  subst h16; subst hp; subst hi; subst ho; subst h15; subst h0; subst h1; subst h2; subst h3; subst h4; subst h5; subst h6
  rfl
theorem x_wk {mi : MI} {mc ms : Nat} {SC : Option (Nat × (Nat → Int32))} {Z : Zt} {pc : Nat} {ls : List (Option Value)} {st : List Value} {k n : Nat} {P : AW} {a : Nat} {R : AW} (hP : P.length = a) (z : Nat → Int) {x16 xp xi xo x15 x0 x1 x2 x3 x4 x5 x6 : Int} {f1 f2 f3 f4 : Nat → Int} (e1 : ∀ j, j < 32 → f1 j = z (90 + j)) (e2 : ∀ j, j < 32 → f2 j = z (122 + j)) (e3 : ∀ j, j < 10 → f3 j = z (20 + j)) (e4 : ∀ j, j < 20 → f4 j = z (70 + j))
    (h16 : x16 = z 16) (hp : xp = mB (pF z)) (hi : xi = mB (iF z)) (ho : xo = mB (oF z)) (h15 : x15 = z 15) (h0 : x0 = z 0) (h1 : x1 = z 1) (h2 : x2 = z 2) (h3 : x3 = z 3) (h4 : x4 = z 4) (h5 : x5 = z 5) (h6 : x6 = z 6)
    (kk : EX mi mc ms SC Z pc ls st (P ++ wk a z R) k n) : EX mi mc ms SC Z pc ls st (P ++ (oW a x16 xp xi xo x15 x0 x1 x2 x3 x4 x5 x6 :: aI 0 32 f1 :: aI 0 32 f2 :: aI 0 10 f3 :: aI 0 20 f4 :: R)) k n := by
  refine x_ext 1 hP rfl (g := fun j => z (90 + j)) e1 ?_
  refine x_ext 2 hP rfl (g := fun j => z (122 + j)) e2 ?_
  refine x_ext 3 hP rfl (g := fun j => z (20 + j)) e3 ?_
  refine x_ext 4 hP rfl (g := fun j => z (70 + j)) e4 ?_
  refine x_eqw ?_ kk
  exact wk_fin h16 hp hi ho h15 h0 h1 h2 h3 h4 h5 h6
theorem updI_id (z : Nat → Int) (j : Nat) : updI z j (z j) = z := by
  funext i
  unfold updI
  split
  · rename_i h; rw [h]
  · rfl
theorem pF_x {z z' : Nat → Int} (h : ∀ t, t < 20 → z' (30 + t) = z (30 + t)) : mB (pF z) = mB (pF z') := mB_x (fun t ht => by simp only [pF, h t ht])
theorem iF_x {z z' : Nat → Int} (h : ∀ t, t < 20 → z' (50 + t) = z (50 + t)) : mB (iF z) = mB (iF z') := mB_x (fun t ht => by simp only [iF, h t ht])
theorem oF_x {z z' : Nat → Int} (h : ∀ t, t < 20 → z' (50 + t) = z (50 + t)) : mB (oF z) = mB (oF z') := mB_x (fun t ht => by simp only [oF, h t ht])
set_option maxRecDepth 100000 in
set_option maxHeartbeats 4000000 in
theorem k_isOut {P : AW} {a : Nat} (hP : P.length = a) (z : Nat → Int) (R : AW) (hR : ∀ i, inR (z i)) (p : Int) (hip : inR p) : CTi I_X4_isOut 0 0 [.ref (a + 0), .int (iI p)] (P ++ wk a z R) (fun x w' => x = (if z 1 = p ∧ 3 ≤ z 3 then 1 else 0) ∧ w' = P ++ wk a z R) := by
  refine CT_of 0 rfl (Nat.le_of_ble_eq_true rfl) ?_
  show EX I_X4_isOut 0 0 none _ 0 [some (.ref (a + 0)), some (.int (iI p))] [] _ 0 0
  refine x_iload_n dX4_isOut_0 rfl ?_
  refine x_aload_n dX4_isOut_1 rfl ?_
  refine x_getfield 0 dX4_isOut_2 fg_X4_43 hP rfl rfl ?_
  refine x_icmp_ne 20 dX4_isOut_5 (fun h5 => ?_) (fun h5 => ?_) (ha := hip) (hb := hR 1)
  · refine x_iconst dX4_isOut_20 ?_
    exact x_zret dX4_isOut_21 (by omega) (⟨by (repeat' split) <;> omega, rfl⟩)
  · refine x_aload_n dX4_isOut_8 rfl ?_
    refine x_getfield 0 dX4_isOut_9 fg_X4_50 hP rfl rfl ?_
    refine x_iconst dX4_isOut_12 ?_
    refine x_icmp_lt 20 dX4_isOut_13 (fun h13 => ?_) (fun h13 => ?_) (ha := hR 3)
    · refine x_iconst dX4_isOut_20 ?_
      exact x_zret dX4_isOut_21 (by omega) (⟨by (repeat' split) <;> omega, rfl⟩)
    · refine x_iconst dX4_isOut_16 ?_
      refine x_goto 21 dX4_isOut_17 ?_
      exact x_zret dX4_isOut_21 (by omega) (⟨by (repeat' split) <;> omega, rfl⟩)
set_option maxRecDepth 100000 in
set_option maxHeartbeats 4000000 in
theorem k_isDone {P : AW} {a : Nat} (hP : P.length = a) (z : Nat → Int) (R : AW) (hR : ∀ i, inR (z i)) (hpn : P01 z) : CTi I_X4_isDone 0 0 [.ref (a + 0)] (P ++ wk a z R) (fun x w' => x = (if z 3 = 0 ∧ mPins z 20 = 0 then 1 else 0) ∧ w' = P ++ wk a z R) := by
  have hmb := mB_R (pF z)
  have hp0 := pF_0 hpn
  refine CT_of 0 rfl (Nat.le_of_ble_eq_true rfl) ?_
  show EX I_X4_isDone 0 0 none _ 0 [some (.ref (a + 0))] [] _ 0 0
  refine x_aload_n dX4_isDone_0 rfl ?_
  refine x_getfield 0 dX4_isDone_1 fg_X4_50 hP rfl rfl ?_
  refine x_if_ne 18 dX4_isDone_4 (fun h4 => ?_) (fun h4 => ?_) (ha := hR 3)
  · refine x_iconst dX4_isDone_18 ?_
    exact x_zret dX4_isDone_19 (by omega) (⟨by (repeat' split) <;> omega, rfl⟩)
  · refine x_aload_n dX4_isDone_7 rfl ?_
    refine x_getfield 0 dX4_isDone_8 fg_X4_28 hP rfl rfl ?_
    refine x_if_ne 18 dX4_isDone_11 (fun h11 => ?_) (fun h11 => ?_) (ha := by omega)
    · refine x_iconst dX4_isDone_18 ?_
      exact x_zret dX4_isDone_19 (by omega) (⟨by (repeat' split) <;> omega, rfl⟩)
    · refine x_iconst dX4_isDone_14 ?_
      refine x_goto 19 dX4_isDone_15 ?_
      exact x_zret dX4_isDone_19 (by omega) (⟨by (repeat' split) <;> omega, rfl⟩)
set_option maxRecDepth 100000 in
set_option maxHeartbeats 4000000 in
theorem k_ownSong {P : AW} {a : Nat} (hP : P.length = a) (z : Nat → Int) (R : AW) (h2 : z 2 = 0 ∨ z 2 = 1) : CTi I_X4_ownSong 0 0 [.ref (a + 0)] (P ++ wk a z R) (fun x w' => x = mSong z ∧ w' = P ++ wk a z R) := by
  refine CT_of 0 rfl (Nat.le_of_ble_eq_true rfl) ?_
  show EX I_X4_ownSong 0 0 none _ 0 [some (.ref (a + 0))] [] _ 0 0
  refine x_aload_n dX4_ownSong_0 rfl ?_
  refine x_getfield 0 dX4_ownSong_1 fg_X4_46 hP rfl rfl ?_
  refine x_if_eq 16 dX4_ownSong_4 (fun h4 => ?_) (fun h4 => ?_) (ha := by omega)
  · refine x_iconst dX4_ownSong_16 ?_
    refine x_aload_n dX4_ownSong_17 rfl ?_
    refine x_getfield 0 dX4_ownSong_18 fg_X4_43 hP rfl rfl ?_
    refine x_imul dX4_ownSong_21 ?_
    refine x_iconst dX4_ownSong_22 ?_
    refine x_iadd dX4_ownSong_23 ?_
    exact x_iret dX4_ownSong_24 (⟨by unfold mSong; (repeat' split) <;> omega, rfl⟩)
  · refine x_iconst dX4_ownSong_7 ?_
    refine x_aload_n dX4_ownSong_8 rfl ?_
    refine x_getfield 0 dX4_ownSong_9 fg_X4_43 hP rfl rfl ?_
    refine x_imul dX4_ownSong_12 ?_
    refine x_goto 24 dX4_ownSong_13 ?_
    exact x_iret dX4_ownSong_24 (⟨by unfold mSong; (repeat' split) <;> omega, rfl⟩)
set_option maxRecDepth 100000 in
set_option maxHeartbeats 4000000 in
theorem k_isIn {P : AW} {a : Nat} (hP : P.length = a) (z : Nat → Int) (R : AW) (s : Nat) (hs : s < 20) : CTi I_X4_isIn 0 0 [.ref (a + 0), .int (iI (s : Int))] (P ++ wk a z R) (fun x w' => x = (if z (30 + s) = 1 then 1 else 0) ∧ w' = P ++ wk a z R) := by
  refine CT_of 0 rfl (Nat.le_of_ble_eq_true rfl) ?_
  show EX I_X4_isIn 0 0 none _ 0 [some (.ref (a + 0)), some (.int (iI (s : Int)))] [] _ 0 0
  refine x_aload_n dX4_isIn_0 rfl ?_
  refine x_getfield 0 dX4_isIn_1 fg_X4_28 hP rfl rfl ?_
  refine x_iload_n dX4_isIn_4 rfl ?_
  refine x_ishr dX4_isIn_5 (shr_i _ _) ?_
  refine x_iconst dX4_isIn_6 ?_
  refine x_iand dX4_isIn_7 (bt_get (pF z) s hs (shr_i _ _)) ?_
  refine x_iconst dX4_isIn_8 ?_
  refine x_icmp_ne 16 dX4_isIn_9 (fun h9 => ?_) (fun h9 => ?_) (ha := by split <;> omega)
  · refine x_iconst dX4_isIn_16 ?_
    exact x_zret dX4_isIn_17 (by omega) (⟨by rw [if_neg (fun q => h9 (by simp [pF, q]))], rfl⟩)
  · refine x_iconst dX4_isIn_12 ?_
    refine x_goto 17 dX4_isIn_13 ?_
    exact x_zret dX4_isIn_17 (by omega) (⟨by rw [if_pos (by by_cases q : z (30 + s) = 1 <;> simp [pF, q] at h9 ⊢)], rfl⟩)
set_option maxRecDepth 100000 in
set_option maxHeartbeats 4000000 in
theorem k_howIs {P : AW} {a : Nat} (hP : P.length = a) (z : Nat → Int) (R : AW) (s : Nat) (hs : s < 20) (hh : 0 ≤ z (50 + s) ∧ z (50 + s) ≤ 2) : CTi I_X4_howIs 0 0 [.ref (a + 0), .int (iI (s : Int))] (P ++ wk a z R) (fun x w' => x = z (50 + s) ∧ w' = P ++ wk a z R) := by
  refine CT_of 0 rfl (Nat.le_of_ble_eq_true rfl) ?_
  show EX I_X4_howIs 0 0 none _ 0 [some (.ref (a + 0)), some (.int (iI (s : Int)))] [] _ 0 0
  refine x_aload_n dX4_howIs_0 rfl ?_
  refine x_getfield 0 dX4_howIs_1 fg_X4_31 hP rfl rfl ?_
  refine x_iload_n dX4_howIs_4 rfl ?_
  refine x_ishr dX4_howIs_5 (shr_i _ _) ?_
  refine x_iconst dX4_howIs_6 ?_
  refine x_iand dX4_howIs_7 (bt_get (iF z) s hs (shr_i _ _)) ?_
  refine x_iconst dX4_howIs_8 ?_
  refine x_icmp_ne 14 dX4_howIs_9 (fun h9 => ?_) (fun h9 => ?_) (ha := by split <;> omega)
  · refine x_aload_n dX4_howIs_14 rfl ?_
    refine x_getfield 0 dX4_howIs_15 fg_X4_34 hP rfl rfl ?_
    refine x_iload_n dX4_howIs_18 rfl ?_
    refine x_ishr dX4_howIs_19 (shr_i _ _) ?_
    refine x_iconst dX4_howIs_20 ?_
    refine x_iand dX4_howIs_21 (bt_get (oF z) s hs (shr_i _ _)) ?_
    refine x_iconst dX4_howIs_22 ?_
    refine x_icmp_ne 30 dX4_howIs_23 (fun h23 => ?_) (fun h23 => ?_) (ha := by split <;> omega)
    · refine x_iconst dX4_howIs_30 ?_
      exact x_iret dX4_howIs_31 (⟨by (have q1 : ¬ z (50 + s) = 1 := (fun q => h9 (by simp [iF, q]))); (have q2 : ¬ z (50 + s) = 2 := (fun q => h23 (by simp [oF, q]))); omega, rfl⟩)
    · refine x_iconst dX4_howIs_26 ?_
      refine x_goto 31 dX4_howIs_27 ?_
      exact x_iret dX4_howIs_31 (⟨by (have q1 : ¬ z (50 + s) = 1 := (fun q => h9 (by simp [iF, q]))); (have q2 : z (50 + s) = 2 := by (by_cases q : z (50 + s) = 2 <;> simp [oF, q] at h23 ⊢)); omega, rfl⟩)
  · refine x_iconst dX4_howIs_12 ?_
    exact x_iret dX4_howIs_13 (⟨by (have q1 : z (50 + s) = 1 := by (by_cases q : z (50 + s) = 1 <;> simp [iF, q] at h9 ⊢)); omega, rfl⟩)
theorem goOn0 {z : Nat → Int} (h : mPins z 20 = 0) : mGoOn z = mDoes z 0 0 := if_pos h
theorem goOn2 {z : Nat → Int} (h : ¬ mPins z 20 = 0) (h2 : (z 2 = 1 ∧ z 1 = 9) ∨ (¬ z 2 = 1 ∧ z 1 = 0)) : mGoOn z = mDoes z 2 2 := (if_neg h).trans (if_pos h2)
theorem goOn1 {z : Nat → Int} (h : ¬ mPins z 20 = 0) (h2 : ¬ ((z 2 = 1 ∧ z 1 = 9) ∨ (¬ z 2 = 1 ∧ z 1 = 0))) : mGoOn z = mDoes z 1 3 := (if_neg h).trans (if_neg h2)
set_option maxRecDepth 100000 in
set_option maxHeartbeats 4000000 in
theorem k_goOn {P : AW} {a : Nat} (hP : P.length = a) (z : Nat → Int) (R : AW) (hR : ∀ i, inR (z i)) (h1 : 0 ≤ z 1 ∧ z 1 ≤ 9) (h2 : z 2 = 0 ∨ z 2 = 1) (hpn : P01 z) : CTv I_X4_goOn 0 0 [.ref (a + 0)] (P ++ wk a z R) (fun w' => w' = P ++ wk a (mGoOn z) R) := by
  have hmb := mB_R (pF z)
  have hp0 := pF_0 hpn
  refine CT_of 1 rfl (Nat.le_of_ble_eq_true rfl) ?_
  show EX I_X4_goOn 0 0 none _ 0 [some (.ref (a + 0)), none] [] _ 0 0
  refine x_aload_n dX4_goOn_0 rfl ?_
  refine x_getfield 0 dX4_goOn_1 fg_X4_43 hP rfl rfl ?_
  refine x_aload_n dX4_goOn_4 rfl ?_
  refine x_getfield 0 dX4_goOn_5 fg_X4_46 hP rfl rfl ?_
  refine x_if_eq 16 dX4_goOn_8 (fun h8 => ?_) (fun h8 => ?_) (ha := by omega)
  · refine x_iconst dX4_goOn_16 ?_
    refine x_icmp_ne 24 dX4_goOn_17 (fun h17 => ?_) (fun h17 => ?_) (ha := by omega) (hb := by decide)
    · refine x_iconst dX4_goOn_24 ?_
      refine x_ist1 dX4_goOn_25 ?_
      refine x_aload_n dX4_goOn_26 rfl ?_
      refine x_getfield 0 dX4_goOn_27 fg_X4_28 hP rfl rfl ?_
      refine x_if_ne 46 dX4_goOn_30 (fun h30 => ?_) (fun h30 => ?_) (ha := by omega)
      · refine x_aload_n dX4_goOn_46 rfl ?_
        refine x_iload_n dX4_goOn_47 rfl ?_
        refine x_if_eq 55 dX4_goOn_48 (fun h48 => ?_) (fun h48 => absurd h48 (by decide))
        refine x_iconst dX4_goOn_55 ?_
        refine x_putfield 0 dX4_goOn_56 fl_X4_50 hP rfl (fun _ _ => ⟨rfl, rfl⟩) ?_
        refine x_aload_n dX4_goOn_59 rfl ?_
        refine x_iload_n dX4_goOn_60 rfl ?_
        refine x_if_eq 68 dX4_goOn_61 (fun h61 => ?_) (fun h61 => absurd h61 (by decide))
        refine x_iconst dX4_goOn_68 ?_
        refine x_putfield 0 dX4_goOn_69 fl_X4_53 hP rfl (fun _ _ => ⟨rfl, rfl⟩) ?_
        have hG : mGoOn z = mDoes z 1 3 := goOn1 (by omega) (by omega)
        refine x_wk hP (mDoes z 1 3) (fun j hj => by (simp (disch := omega) only [mDoes, mOut, updI_n, updI_e])) (fun j hj => by (simp (disch := omega) only [mDoes, mOut, updI_n, updI_e])) (fun j hj => by (simp (disch := omega) only [mDoes, mOut, updI_n, updI_e])) (fun j hj => by (simp (disch := omega) only [mDoes, mOut, updI_n, updI_e])) (by (simp (disch := omega) only [mDoes, mOut, updI_n, updI_e])) (pF_x (fun t ht => by (simp (disch := omega) only [mDoes, mOut, updI_n, updI_e]))) (iF_x (fun t ht => by (simp (disch := omega) only [mDoes, mOut, updI_n, updI_e]))) (oF_x (fun t ht => by (simp (disch := omega) only [mDoes, mOut, updI_n, updI_e]))) (by (simp (disch := omega) only [mDoes, mOut, updI_n, updI_e])) (by (simp (disch := omega) only [mDoes, mOut, updI_n, updI_e])) (by (simp (disch := omega) only [mDoes, mOut, updI_n, updI_e])) (by (simp (disch := omega) only [mDoes, mOut, updI_n, updI_e])) (by (simp (disch := omega) only [mDoes, mOut, updI_n, updI_e])) (by (simp (disch := omega) only [mDoes, mOut, updI_n, updI_e])) (by (simp (disch := omega) only [mDoes, mOut, updI_n, updI_e])) (by (simp (disch := omega) only [mDoes, mOut, updI_n, updI_e])) ?_
        rw [← hG]
        exact x_vret dX4_goOn_72 rfl
      · refine x_aload_n dX4_goOn_33 rfl ?_
        refine x_iconst dX4_goOn_34 ?_
        refine x_putfield 0 dX4_goOn_35 fl_X4_50 hP rfl (fun _ _ => ⟨rfl, rfl⟩) ?_
        refine x_aload_n dX4_goOn_38 rfl ?_
        refine x_iconst dX4_goOn_39 ?_
        refine x_putfield 0 dX4_goOn_40 fl_X4_53 hP rfl (fun _ _ => ⟨rfl, rfl⟩) ?_
        refine x_goto 72 dX4_goOn_43 ?_
        have hG : mGoOn z = mDoes z 0 0 := goOn0 (by omega)
        refine x_wk hP (mDoes z 0 0) (fun j hj => by (simp (disch := omega) only [mDoes, mOut, updI_n, updI_e])) (fun j hj => by (simp (disch := omega) only [mDoes, mOut, updI_n, updI_e])) (fun j hj => by (simp (disch := omega) only [mDoes, mOut, updI_n, updI_e])) (fun j hj => by (simp (disch := omega) only [mDoes, mOut, updI_n, updI_e])) (by (simp (disch := omega) only [mDoes, mOut, updI_n, updI_e])) (pF_x (fun t ht => by (simp (disch := omega) only [mDoes, mOut, updI_n, updI_e]))) (iF_x (fun t ht => by (simp (disch := omega) only [mDoes, mOut, updI_n, updI_e]))) (oF_x (fun t ht => by (simp (disch := omega) only [mDoes, mOut, updI_n, updI_e]))) (by (simp (disch := omega) only [mDoes, mOut, updI_n, updI_e])) (by (simp (disch := omega) only [mDoes, mOut, updI_n, updI_e])) (by (simp (disch := omega) only [mDoes, mOut, updI_n, updI_e])) (by (simp (disch := omega) only [mDoes, mOut, updI_n, updI_e])) (by (simp (disch := omega) only [mDoes, mOut, updI_n, updI_e])) (by (simp (disch := omega) only [mDoes, mOut, updI_n, updI_e])) (by (simp (disch := omega) only [mDoes, mOut, updI_n, updI_e])) (by (simp (disch := omega) only [mDoes, mOut, updI_n, updI_e])) ?_
        rw [← hG]
        exact x_vret dX4_goOn_72 rfl
    · refine x_iconst dX4_goOn_20 ?_
      refine x_goto 25 dX4_goOn_21 ?_
      refine x_ist1 dX4_goOn_25 ?_
      refine x_aload_n dX4_goOn_26 rfl ?_
      refine x_getfield 0 dX4_goOn_27 fg_X4_28 hP rfl rfl ?_
      refine x_if_ne 46 dX4_goOn_30 (fun h30 => ?_) (fun h30 => ?_) (ha := by omega)
      · refine x_aload_n dX4_goOn_46 rfl ?_
        refine x_iload_n dX4_goOn_47 rfl ?_
        refine x_if_eq 55 dX4_goOn_48 (fun h48 => absurd h48 (by decide)) (fun h48 => ?_)
        refine x_iconst dX4_goOn_51 ?_
        refine x_goto 56 dX4_goOn_52 ?_
        refine x_putfield 0 dX4_goOn_56 fl_X4_50 hP rfl (fun _ _ => ⟨rfl, rfl⟩) ?_
        refine x_aload_n dX4_goOn_59 rfl ?_
        refine x_iload_n dX4_goOn_60 rfl ?_
        refine x_if_eq 68 dX4_goOn_61 (fun h61 => absurd h61 (by decide)) (fun h61 => ?_)
        refine x_iconst dX4_goOn_64 ?_
        refine x_goto 69 dX4_goOn_65 ?_
        refine x_putfield 0 dX4_goOn_69 fl_X4_53 hP rfl (fun _ _ => ⟨rfl, rfl⟩) ?_
        have hG : mGoOn z = mDoes z 2 2 := goOn2 (by omega) (by omega)
        refine x_wk hP (mDoes z 2 2) (fun j hj => by (simp (disch := omega) only [mDoes, mOut, updI_n, updI_e])) (fun j hj => by (simp (disch := omega) only [mDoes, mOut, updI_n, updI_e])) (fun j hj => by (simp (disch := omega) only [mDoes, mOut, updI_n, updI_e])) (fun j hj => by (simp (disch := omega) only [mDoes, mOut, updI_n, updI_e])) (by (simp (disch := omega) only [mDoes, mOut, updI_n, updI_e])) (pF_x (fun t ht => by (simp (disch := omega) only [mDoes, mOut, updI_n, updI_e]))) (iF_x (fun t ht => by (simp (disch := omega) only [mDoes, mOut, updI_n, updI_e]))) (oF_x (fun t ht => by (simp (disch := omega) only [mDoes, mOut, updI_n, updI_e]))) (by (simp (disch := omega) only [mDoes, mOut, updI_n, updI_e])) (by (simp (disch := omega) only [mDoes, mOut, updI_n, updI_e])) (by (simp (disch := omega) only [mDoes, mOut, updI_n, updI_e])) (by (simp (disch := omega) only [mDoes, mOut, updI_n, updI_e])) (by (simp (disch := omega) only [mDoes, mOut, updI_n, updI_e])) (by (simp (disch := omega) only [mDoes, mOut, updI_n, updI_e])) (by (simp (disch := omega) only [mDoes, mOut, updI_n, updI_e])) (by (simp (disch := omega) only [mDoes, mOut, updI_n, updI_e])) ?_
        rw [← hG]
        exact x_vret dX4_goOn_72 rfl
      · refine x_aload_n dX4_goOn_33 rfl ?_
        refine x_iconst dX4_goOn_34 ?_
        refine x_putfield 0 dX4_goOn_35 fl_X4_50 hP rfl (fun _ _ => ⟨rfl, rfl⟩) ?_
        refine x_aload_n dX4_goOn_38 rfl ?_
        refine x_iconst dX4_goOn_39 ?_
        refine x_putfield 0 dX4_goOn_40 fl_X4_53 hP rfl (fun _ _ => ⟨rfl, rfl⟩) ?_
        refine x_goto 72 dX4_goOn_43 ?_
        have hG : mGoOn z = mDoes z 0 0 := goOn0 (by omega)
        refine x_wk hP (mDoes z 0 0) (fun j hj => by (simp (disch := omega) only [mDoes, mOut, updI_n, updI_e])) (fun j hj => by (simp (disch := omega) only [mDoes, mOut, updI_n, updI_e])) (fun j hj => by (simp (disch := omega) only [mDoes, mOut, updI_n, updI_e])) (fun j hj => by (simp (disch := omega) only [mDoes, mOut, updI_n, updI_e])) (by (simp (disch := omega) only [mDoes, mOut, updI_n, updI_e])) (pF_x (fun t ht => by (simp (disch := omega) only [mDoes, mOut, updI_n, updI_e]))) (iF_x (fun t ht => by (simp (disch := omega) only [mDoes, mOut, updI_n, updI_e]))) (oF_x (fun t ht => by (simp (disch := omega) only [mDoes, mOut, updI_n, updI_e]))) (by (simp (disch := omega) only [mDoes, mOut, updI_n, updI_e])) (by (simp (disch := omega) only [mDoes, mOut, updI_n, updI_e])) (by (simp (disch := omega) only [mDoes, mOut, updI_n, updI_e])) (by (simp (disch := omega) only [mDoes, mOut, updI_n, updI_e])) (by (simp (disch := omega) only [mDoes, mOut, updI_n, updI_e])) (by (simp (disch := omega) only [mDoes, mOut, updI_n, updI_e])) (by (simp (disch := omega) only [mDoes, mOut, updI_n, updI_e])) (by (simp (disch := omega) only [mDoes, mOut, updI_n, updI_e])) ?_
        rw [← hG]
        exact x_vret dX4_goOn_72 rfl
  · refine x_bipush dX4_goOn_11 ?_
    refine x_goto 17 dX4_goOn_13 ?_
    refine x_icmp_ne 24 dX4_goOn_17 (fun h17 => ?_) (fun h17 => ?_) (ha := by omega) (hb := by decide)
    · refine x_iconst dX4_goOn_24 ?_
      refine x_ist1 dX4_goOn_25 ?_
      refine x_aload_n dX4_goOn_26 rfl ?_
      refine x_getfield 0 dX4_goOn_27 fg_X4_28 hP rfl rfl ?_
      refine x_if_ne 46 dX4_goOn_30 (fun h30 => ?_) (fun h30 => ?_) (ha := by omega)
      · refine x_aload_n dX4_goOn_46 rfl ?_
        refine x_iload_n dX4_goOn_47 rfl ?_
        refine x_if_eq 55 dX4_goOn_48 (fun h48 => ?_) (fun h48 => absurd h48 (by decide))
        refine x_iconst dX4_goOn_55 ?_
        refine x_putfield 0 dX4_goOn_56 fl_X4_50 hP rfl (fun _ _ => ⟨rfl, rfl⟩) ?_
        refine x_aload_n dX4_goOn_59 rfl ?_
        refine x_iload_n dX4_goOn_60 rfl ?_
        refine x_if_eq 68 dX4_goOn_61 (fun h61 => ?_) (fun h61 => absurd h61 (by decide))
        refine x_iconst dX4_goOn_68 ?_
        refine x_putfield 0 dX4_goOn_69 fl_X4_53 hP rfl (fun _ _ => ⟨rfl, rfl⟩) ?_
        have hG : mGoOn z = mDoes z 1 3 := goOn1 (by omega) (by omega)
        refine x_wk hP (mDoes z 1 3) (fun j hj => by (simp (disch := omega) only [mDoes, mOut, updI_n, updI_e])) (fun j hj => by (simp (disch := omega) only [mDoes, mOut, updI_n, updI_e])) (fun j hj => by (simp (disch := omega) only [mDoes, mOut, updI_n, updI_e])) (fun j hj => by (simp (disch := omega) only [mDoes, mOut, updI_n, updI_e])) (by (simp (disch := omega) only [mDoes, mOut, updI_n, updI_e])) (pF_x (fun t ht => by (simp (disch := omega) only [mDoes, mOut, updI_n, updI_e]))) (iF_x (fun t ht => by (simp (disch := omega) only [mDoes, mOut, updI_n, updI_e]))) (oF_x (fun t ht => by (simp (disch := omega) only [mDoes, mOut, updI_n, updI_e]))) (by (simp (disch := omega) only [mDoes, mOut, updI_n, updI_e])) (by (simp (disch := omega) only [mDoes, mOut, updI_n, updI_e])) (by (simp (disch := omega) only [mDoes, mOut, updI_n, updI_e])) (by (simp (disch := omega) only [mDoes, mOut, updI_n, updI_e])) (by (simp (disch := omega) only [mDoes, mOut, updI_n, updI_e])) (by (simp (disch := omega) only [mDoes, mOut, updI_n, updI_e])) (by (simp (disch := omega) only [mDoes, mOut, updI_n, updI_e])) (by (simp (disch := omega) only [mDoes, mOut, updI_n, updI_e])) ?_
        rw [← hG]
        exact x_vret dX4_goOn_72 rfl
      · refine x_aload_n dX4_goOn_33 rfl ?_
        refine x_iconst dX4_goOn_34 ?_
        refine x_putfield 0 dX4_goOn_35 fl_X4_50 hP rfl (fun _ _ => ⟨rfl, rfl⟩) ?_
        refine x_aload_n dX4_goOn_38 rfl ?_
        refine x_iconst dX4_goOn_39 ?_
        refine x_putfield 0 dX4_goOn_40 fl_X4_53 hP rfl (fun _ _ => ⟨rfl, rfl⟩) ?_
        refine x_goto 72 dX4_goOn_43 ?_
        have hG : mGoOn z = mDoes z 0 0 := goOn0 (by omega)
        refine x_wk hP (mDoes z 0 0) (fun j hj => by (simp (disch := omega) only [mDoes, mOut, updI_n, updI_e])) (fun j hj => by (simp (disch := omega) only [mDoes, mOut, updI_n, updI_e])) (fun j hj => by (simp (disch := omega) only [mDoes, mOut, updI_n, updI_e])) (fun j hj => by (simp (disch := omega) only [mDoes, mOut, updI_n, updI_e])) (by (simp (disch := omega) only [mDoes, mOut, updI_n, updI_e])) (pF_x (fun t ht => by (simp (disch := omega) only [mDoes, mOut, updI_n, updI_e]))) (iF_x (fun t ht => by (simp (disch := omega) only [mDoes, mOut, updI_n, updI_e]))) (oF_x (fun t ht => by (simp (disch := omega) only [mDoes, mOut, updI_n, updI_e]))) (by (simp (disch := omega) only [mDoes, mOut, updI_n, updI_e])) (by (simp (disch := omega) only [mDoes, mOut, updI_n, updI_e])) (by (simp (disch := omega) only [mDoes, mOut, updI_n, updI_e])) (by (simp (disch := omega) only [mDoes, mOut, updI_n, updI_e])) (by (simp (disch := omega) only [mDoes, mOut, updI_n, updI_e])) (by (simp (disch := omega) only [mDoes, mOut, updI_n, updI_e])) (by (simp (disch := omega) only [mDoes, mOut, updI_n, updI_e])) (by (simp (disch := omega) only [mDoes, mOut, updI_n, updI_e])) ?_
        rw [← hG]
        exact x_vret dX4_goOn_72 rfl
    · refine x_iconst dX4_goOn_20 ?_
      refine x_goto 25 dX4_goOn_21 ?_
      refine x_ist1 dX4_goOn_25 ?_
      refine x_aload_n dX4_goOn_26 rfl ?_
      refine x_getfield 0 dX4_goOn_27 fg_X4_28 hP rfl rfl ?_
      refine x_if_ne 46 dX4_goOn_30 (fun h30 => ?_) (fun h30 => ?_) (ha := by omega)
      · refine x_aload_n dX4_goOn_46 rfl ?_
        refine x_iload_n dX4_goOn_47 rfl ?_
        refine x_if_eq 55 dX4_goOn_48 (fun h48 => absurd h48 (by decide)) (fun h48 => ?_)
        refine x_iconst dX4_goOn_51 ?_
        refine x_goto 56 dX4_goOn_52 ?_
        refine x_putfield 0 dX4_goOn_56 fl_X4_50 hP rfl (fun _ _ => ⟨rfl, rfl⟩) ?_
        refine x_aload_n dX4_goOn_59 rfl ?_
        refine x_iload_n dX4_goOn_60 rfl ?_
        refine x_if_eq 68 dX4_goOn_61 (fun h61 => absurd h61 (by decide)) (fun h61 => ?_)
        refine x_iconst dX4_goOn_64 ?_
        refine x_goto 69 dX4_goOn_65 ?_
        refine x_putfield 0 dX4_goOn_69 fl_X4_53 hP rfl (fun _ _ => ⟨rfl, rfl⟩) ?_
        have hG : mGoOn z = mDoes z 2 2 := goOn2 (by omega) (by omega)
        refine x_wk hP (mDoes z 2 2) (fun j hj => by (simp (disch := omega) only [mDoes, mOut, updI_n, updI_e])) (fun j hj => by (simp (disch := omega) only [mDoes, mOut, updI_n, updI_e])) (fun j hj => by (simp (disch := omega) only [mDoes, mOut, updI_n, updI_e])) (fun j hj => by (simp (disch := omega) only [mDoes, mOut, updI_n, updI_e])) (by (simp (disch := omega) only [mDoes, mOut, updI_n, updI_e])) (pF_x (fun t ht => by (simp (disch := omega) only [mDoes, mOut, updI_n, updI_e]))) (iF_x (fun t ht => by (simp (disch := omega) only [mDoes, mOut, updI_n, updI_e]))) (oF_x (fun t ht => by (simp (disch := omega) only [mDoes, mOut, updI_n, updI_e]))) (by (simp (disch := omega) only [mDoes, mOut, updI_n, updI_e])) (by (simp (disch := omega) only [mDoes, mOut, updI_n, updI_e])) (by (simp (disch := omega) only [mDoes, mOut, updI_n, updI_e])) (by (simp (disch := omega) only [mDoes, mOut, updI_n, updI_e])) (by (simp (disch := omega) only [mDoes, mOut, updI_n, updI_e])) (by (simp (disch := omega) only [mDoes, mOut, updI_n, updI_e])) (by (simp (disch := omega) only [mDoes, mOut, updI_n, updI_e])) (by (simp (disch := omega) only [mDoes, mOut, updI_n, updI_e])) ?_
        rw [← hG]
        exact x_vret dX4_goOn_72 rfl
      · refine x_aload_n dX4_goOn_33 rfl ?_
        refine x_iconst dX4_goOn_34 ?_
        refine x_putfield 0 dX4_goOn_35 fl_X4_50 hP rfl (fun _ _ => ⟨rfl, rfl⟩) ?_
        refine x_aload_n dX4_goOn_38 rfl ?_
        refine x_iconst dX4_goOn_39 ?_
        refine x_putfield 0 dX4_goOn_40 fl_X4_53 hP rfl (fun _ _ => ⟨rfl, rfl⟩) ?_
        refine x_goto 72 dX4_goOn_43 ?_
        have hG : mGoOn z = mDoes z 0 0 := goOn0 (by omega)
        refine x_wk hP (mDoes z 0 0) (fun j hj => by (simp (disch := omega) only [mDoes, mOut, updI_n, updI_e])) (fun j hj => by (simp (disch := omega) only [mDoes, mOut, updI_n, updI_e])) (fun j hj => by (simp (disch := omega) only [mDoes, mOut, updI_n, updI_e])) (fun j hj => by (simp (disch := omega) only [mDoes, mOut, updI_n, updI_e])) (by (simp (disch := omega) only [mDoes, mOut, updI_n, updI_e])) (pF_x (fun t ht => by (simp (disch := omega) only [mDoes, mOut, updI_n, updI_e]))) (iF_x (fun t ht => by (simp (disch := omega) only [mDoes, mOut, updI_n, updI_e]))) (oF_x (fun t ht => by (simp (disch := omega) only [mDoes, mOut, updI_n, updI_e]))) (by (simp (disch := omega) only [mDoes, mOut, updI_n, updI_e])) (by (simp (disch := omega) only [mDoes, mOut, updI_n, updI_e])) (by (simp (disch := omega) only [mDoes, mOut, updI_n, updI_e])) (by (simp (disch := omega) only [mDoes, mOut, updI_n, updI_e])) (by (simp (disch := omega) only [mDoes, mOut, updI_n, updI_e])) (by (simp (disch := omega) only [mDoes, mOut, updI_n, updI_e])) (by (simp (disch := omega) only [mDoes, mOut, updI_n, updI_e])) (by (simp (disch := omega) only [mDoes, mOut, updI_n, updI_e])) ?_
        rw [← hG]
        exact x_vret dX4_goOn_72 rfl
