theorem sl_upd (z : Nat → Int) (o k : Nat) (v : Int) (j : Nat) : updI (fun j => z (o + j)) k v j = updI z (o + k) v (o + j) := by
  unfold updI
  by_cases h : j = k
  · rw [if_pos h, if_pos (by omega)]
  · rw [if_neg h, if_neg (by omega)]
theorem pF_out {z : Nat → Int} (hc : ZC z) {s : Nat} (hs : s < 20) : mB (fun t => pF z t && (!decide (t = s) || iF z t)) = mB (pF (mOut z s)) := by
  apply mB_x
  intro t ht
  by_cases q : t = s
  · subst q
    have g7 := hc.2.2.2.2.2.2.1 t ht
    have g8 := hc.2.2.2.2.2.2.2.1 t ht
    have g10 := hc.2.2.2.2.2.2.2.2.2.1 t ht
    have e1 : mOut z t (30 + t) = (if z (50 + t) = 0 then 0 else z (30 + t)) := updI_e _ _ _
    simp only [pF, iF, e1, decide_true, Bool.not_true, Bool.false_or]
    by_cases c0 : z (50 + t) = 0
    · rw [if_pos c0]; simp [c0]
    · rw [if_neg c0]
      by_cases c1 : z (50 + t) = 1
      · simp [c1]
      · have := g10 (by omega)
        simp [this]
  · have e1 : mOut z s (30 + t) = z (30 + t) := mOut_n (by omega)
    simp [pF, q, e1]
theorem look_o {z : Nat → Int} (hc : ZC z) (h : ¬ z (30 + (mSong z).toNat) = 1) : mLook z = mGoOn z := by
  have hs := mSong_b hc.1.1 hc.1.2
  have h7 := hc.2.2.2.2.2.2.1 (mSong z).toNat (by omega)
  have e1 : mOut z (mSong z).toNat = z := by
    unfold mOut
    have : (if z (50 + (mSong z).toNat) = 0 then 0 else z (30 + (mSong z).toNat)) = z (30 + (mSong z).toNat) := by split <;> omega
    rw [this, updI_id]
  unfold mLook
  rw [if_neg h, e1, Int.add_zero, updI_id]
theorem look_m {z : Nat → Int} (h : z (30 + (mSong z).toNat) = 1) (h2 : ¬ 0 ≤ z (20 + (z 1).toNat)) : mLook z = mGoOn (updI (mOut z (mSong z).toNat) 6 (z 6 + 1)) := by
  unfold mLook
  rw [if_pos h, if_neg h2]
theorem look_g {z : Nat → Int} (h : z (30 + (mSong z).toNat) = 1) (h2 : 0 ≤ z (20 + (z 1).toNat)) : mLook z = mDoes (mOut z (mSong z).toNat) 3 4 := by
  unfold mLook
  rw [if_pos h, if_pos h2]
def mEnd (z : Nat → Int) : Nat → Int :=
  if z 3 = 1 then mLook (updI z 1 (z 1 + (if z 2 = 1 then 1 else -1)))
  else if z 3 = 2 then mLook (updI z 2 (1 - z 2))
  else if z 3 = 3 then mPlay z
  else if z 3 = 4 then mDoes z 5 4
  else mGoOn z
set_option maxRecDepth 100000 in
set_option maxHeartbeats 4000000 in
theorem k_within (w : AW) (v lo hi : Int) (h1 : inR v) (h2 : inR lo) (h3 : inR hi) : CTi I_X5_within 0 0 [.int (iI v), .int (iI lo), .int (iI hi)] (w) (fun x w' => x = (if lo ≤ v ∧ v ≤ hi then 1 else 0) ∧ w' = w) := by
  refine CT_of 0 rfl (Nat.le_of_ble_eq_true rfl) ?_
  show EX I_X5_within 0 0 none _ 0 [some (.int (iI v)), some (.int (iI lo)), some (.int (iI hi))] [] _ 0 0
  refine x_iload_n dX5_within_0 rfl ?_
  refine x_iload_n dX5_within_1 rfl ?_
  refine x_icmp_lt 14 dX5_within_2 (fun h2 => ?_) (fun h2 => ?_)
  · refine x_iconst dX5_within_14 ?_
    exact x_zret dX5_within_15 (by omega) (⟨by (repeat' split) <;> omega, rfl⟩)
  · refine x_iload_n dX5_within_5 rfl ?_
    refine x_iload_n dX5_within_6 rfl ?_
    refine x_icmp_gt 14 dX5_within_7 (fun h7 => ?_) (fun h7 => ?_)
    · refine x_iconst dX5_within_14 ?_
      exact x_zret dX5_within_15 (by omega) (⟨by (repeat' split) <;> omega, rfl⟩)
    · refine x_iconst dX5_within_10 ?_
      refine x_goto 15 dX5_within_11 ?_
      exact x_zret dX5_within_15 (by omega) (⟨by (repeat' split) <;> omega, rfl⟩)
set_option maxRecDepth 100000 in
set_option maxHeartbeats 4000000 in
theorem k_look {P : AW} {a : Nat} (hP : P.length = a) (z : Nat → Int) (R : AW) (hR : ∀ i, inR (z i)) (hzc : ZC z) (h6 : 0 ≤ z 6 ∧ z 6 ≤ 2000000000) : CTv I_X4_look 0 0 [.ref (a + 0)] (P ++ wk a z R) (fun w' => w' = P ++ wk a (mLook z) R) := by
  have hs := mSong_b hzc.1.1 hzc.1.2
  have hp := hzc.1
  refine CT_of 1 rfl (Nat.le_of_ble_eq_true rfl) ?_
  show EX I_X4_look 0 0 none _ 0 [some (.ref (a + 0)), none] [] _ 0 0
  refine x_iconst dX4_look_0 ?_
  refine x_aload_n dX4_look_1 rfl ?_
  refine x_calliV dX4_look_2 mk_X4_ownSong ml_X4_97 (k_ownSong hP z R hzc.2.1) ((wg_app hP 0).trans rfl) rfl (fun x2 w2 h2 => ?_)
  obtain ⟨rfl, rfl⟩ := h2
  refine x_top (show mSong z = (((mSong z).toNat : Nat) : Int) by omega) ?_
  refine x_ishl dX4_look_5 (show _ = iI (bt1 _) from shl_i _ _) ?_
  refine x_ist1 dX4_look_6 ?_
  refine x_aload_n dX4_look_7 rfl ?_
  refine x_getfield 0 dX4_look_8 fg_X4_28 hP rfl rfl ?_
  refine x_iload_n dX4_look_11 rfl ?_
  refine x_iand dX4_look_12 (and_i _ _) ?_
  refine x_if_ne 21 dX4_look_13 (fun h13 => ?_) (fun h13 => ?_) (ha := andI_R _ _)
  · have hpin : z (30 + (mSong z).toNat) = 1 := by
      have q := mt (andI_0 (pF z) (mSong z).toNat (by omega)).mpr h13
      simpa [pF] using q
    have hrk := hzc.2.2.2.2.1 (z 1).toNat (by omega)
    refine x_aload_n dX4_look_21 rfl ?_
    refine x_dup dX4_look_22 ?_
    refine x_getfield 0 dX4_look_23 fg_X4_28 hP rfl rfl ?_
    refine x_iload_n dX4_look_26 rfl ?_
    refine x_iconst dX4_look_27 ?_
    refine x_ixor dX4_look_28 (xor_i _ _) ?_
    refine x_aload_n dX4_look_29 rfl ?_
    refine x_getfield 0 dX4_look_30 fg_X4_31 hP rfl rfl ?_
    refine x_ior dX4_look_33 (or_i _ _) ?_
    refine x_iand dX4_look_34 (mB_look (pF z) (iF z) (mSong z).toNat (by omega)) ?_
    refine x_putfield 0 dX4_look_35 fl_X4_28 hP rfl (fun _ _ => ⟨rfl, rfl⟩) ?_
    refine x_aload_n dX4_look_38 rfl ?_
    refine x_getfield 0 dX4_look_39 fg_X4_22 hP rfl rfl ?_
    refine x_aload_n dX4_look_42 rfl ?_
    refine x_getfield 0 dX4_look_43 fg_X4_43 hP rfl rfl ?_
    refine x_iaload 3 ((z 1).toNat) dX4_look_46 hP rfl ?_
    refine x_bipush dX4_look_47 ?_
    refine x_icmp_ne 69 dX4_look_49 (fun h49 => ?_) (fun h49 => ?_) (ha := hR _)
    · refine x_aload_n dX4_look_69 rfl ?_
      refine x_iconst dX4_look_70 ?_
      refine x_putfield 0 dX4_look_71 fl_X4_50 hP rfl (fun _ _ => ⟨rfl, rfl⟩) ?_
      refine x_aload_n dX4_look_74 rfl ?_
      refine x_iconst dX4_look_75 ?_
      refine x_putfield 0 dX4_look_76 fl_X4_53 hP rfl (fun _ _ => ⟨rfl, rfl⟩) ?_
      have hr0 : 0 ≤ z (20 + (z 1).toNat) := by omega
      refine x_wk hP (mDoes (mOut z (mSong z).toNat) 3 4) (fun j hj => by (simp (disch := omega) only [mDoes, mOut, updI_n, updI_e])) (fun j hj => by (simp (disch := omega) only [mDoes, mOut, updI_n, updI_e])) (fun j hj => by (simp (disch := omega) only [mDoes, mOut, updI_n, updI_e])) (fun j hj => by (simp (disch := omega) only [mDoes, mOut, updI_n, updI_e])) (by (simp (disch := omega) only [mDoes, mOut, updI_n, updI_e])) ((pF_out hzc (s := (mSong z).toNat) (by omega)).trans (pF_x (fun t ht => by simp (disch := omega) only [mDoes, updI_n]))) (iF_x (fun t ht => by (simp (disch := omega) only [mDoes, mOut, updI_n, updI_e]))) (oF_x (fun t ht => by (simp (disch := omega) only [mDoes, mOut, updI_n, updI_e]))) (by (simp (disch := omega) only [mDoes, mOut, updI_n, updI_e])) (by (simp (disch := omega) only [mDoes, mOut, updI_n, updI_e])) (by (simp (disch := omega) only [mDoes, mOut, updI_n, updI_e])) (by (simp (disch := omega) only [mDoes, mOut, updI_n, updI_e])) (by (simp (disch := omega) only [mDoes, mOut, updI_n, updI_e])) (by (simp (disch := omega) only [mDoes, mOut, updI_n, updI_e])) (by (simp (disch := omega) only [mDoes, mOut, updI_n, updI_e])) (by (simp (disch := omega) only [mDoes, mOut, updI_n, updI_e])) ?_
      rw [← look_g hpin hr0]
      exact x_vret dX4_look_79 rfl
    · refine x_aload_n dX4_look_52 rfl ?_
      refine x_dup dX4_look_53 ?_
      refine x_getfield 0 dX4_look_54 fg_X4_59 hP rfl rfl ?_
      refine x_iconst dX4_look_57 ?_
      refine x_iadd dX4_look_58 ?_
      refine x_putfield 0 dX4_look_59 fl_X4_59 hP rfl (fun _ _ => ⟨rfl, rfl⟩) ?_
      have hz1 := ZC_n (j := 6) (v := z 6 + 1) (ZC_o hzc (mSong z).toNat (by omega)) (by omega)
      refine x_wk hP (updI (mOut z (mSong z).toNat) 6 (z 6 + 1)) (fun j hj => by (simp (disch := omega) only [mDoes, mOut, updI_n, updI_e])) (fun j hj => by (simp (disch := omega) only [mDoes, mOut, updI_n, updI_e])) (fun j hj => by (simp (disch := omega) only [mDoes, mOut, updI_n, updI_e])) (fun j hj => by (simp (disch := omega) only [mDoes, mOut, updI_n, updI_e])) (by (simp (disch := omega) only [mDoes, mOut, updI_n, updI_e])) ((pF_out hzc (s := (mSong z).toNat) (by omega)).trans (pF_x (fun t ht => updI_n (by omega)))) (iF_x (fun t ht => by (simp (disch := omega) only [mDoes, mOut, updI_n, updI_e]))) (oF_x (fun t ht => by (simp (disch := omega) only [mDoes, mOut, updI_n, updI_e]))) (by (simp (disch := omega) only [mDoes, mOut, updI_n, updI_e])) (by (simp (disch := omega) only [mDoes, mOut, updI_n, updI_e])) (by (simp (disch := omega) only [mDoes, mOut, updI_n, updI_e])) (by (simp (disch := omega) only [mDoes, mOut, updI_n, updI_e])) (by (simp (disch := omega) only [mDoes, mOut, updI_n, updI_e])) (by (simp (disch := omega) only [mDoes, mOut, updI_n, updI_e])) (by (simp (disch := omega) only [mDoes, mOut, updI_n, updI_e])) (by (simp (disch := omega) only [mDoes, mOut, updI_n, updI_e])) ?_
      refine x_aload_n dX4_look_62 rfl ?_
      refine x_callvV dX4_look_63 mk_X4_goOn ml_X4_94 (k_goOn hP (updI (mOut z (mSong z).toNat) 6 (z 6 + 1)) R (inR_upd (inR_o hR _) (by omega)) hz1.1 hz1.2.1 hz1.2.2.2.2.2.2.1) ((wg_app hP 0).trans rfl) rfl (fun w63 h63 => ?_)
      subst h63
      rw [← look_m hpin (by omega)]
      refine x_goto 79 dX4_look_66 ?_
      exact x_vret dX4_look_79 rfl
  · refine x_aload_n dX4_look_16 rfl ?_
    refine x_callvV dX4_look_17 mk_X4_goOn ml_X4_94 (k_goOn hP z R hR hzc.1 hzc.2.1 hzc.2.2.2.2.2.2.1) ((wg_app hP 0).trans rfl) rfl (fun w17 h17 => ?_)
    subst h17
    have hpo : ¬ z (30 + (mSong z).toNat) = 1 := by
      have q := (andI_0 (pF z) (mSong z).toNat (by omega)).mp h13
      simpa [pF] using q
    rw [← look_o hzc hpo]
    exact x_vret dX4_look_20 (rfl)
set_option maxRecDepth 100000 in
set_option maxHeartbeats 4000000 in
theorem k_play {P : AW} {a : Nat} (hP : P.length = a) (z : Nat → Int) (R : AW) (hR : ∀ i, inR (z i)) (hzc : ZC z) (hr0 : 0 ≤ z (20 + (z 1).toNat)) (h5 : 0 ≤ z 5 ∧ z 5 ≤ 2000000000) : CTv I_X4_play 0 0 [.ref (a + 0)] (P ++ wk a z R) (fun w' => w' = P ++ wk a (mPlay z) R) := by
  have hs := mSong_b hzc.1.1 hzc.1.2
  have hp := hzc.1
  obtain ⟨hsd, hsl, hs16⟩ := mSide_b hzc hr0
  have hrk := hzc.2.2.2.2.1 (z 1).toNat (by omega)
  have hz16 := hzc.2.2.2.1
  have hu := hzc.2.1
  have hm0 : ¬ z 2 = 0 → mSong z % 2 = 0 := by unfold mSong; intro q; rw [if_pos (by omega)]; omega
  have hm1 : z 2 = 0 → mSong z % 2 = 1 := by unfold mSong; intro q; rw [if_neg (by omega)]; omega
  have hmt := hzc.2.2.2.2.2.2.2.2.2.2.1 (mSong z).toNat (by omega)
  have hwr := hzc.2.2.2.2.2.2.2.2.2.2.2.2.2 (mSide z) hsl
  have htm := hzc.2.2.2.2.2.2.2.2.2.2.2.1 (mSide z) hsl
  have hwb := mWear_b hzc hr0
  refine CT_of 3 rfl (Nat.le_of_ble_eq_true rfl) ?_
  show EX I_X4_play 0 0 none _ 0 [some (.ref (a + 0)), none, none, none] [] _ 0 0
  refine x_aload_n dX4_play_0 rfl ?_
  refine x_getfield 0 dX4_play_1 fg_X4_22 hP rfl rfl ?_
  refine x_aload_n dX4_play_4 rfl ?_
  refine x_getfield 0 dX4_play_5 fg_X4_43 hP rfl rfl ?_
  refine x_iaload 3 ((z 1).toNat) dX4_play_8 hP rfl ?_
  refine x_ist1 dX4_play_9 ?_
  refine x_iload_n dX4_play_10 rfl ?_
  refine x_iconst dX4_play_11 ?_
  refine x_bipush dX4_play_12 ?_
  refine x_calliS dX4_play_14 mk_X5_within ml_X4_101 (k_within _ (z (20 + (z 1).toNat)) 0 15 (by omega) (by decide) (by decide)) rfl (fun x14 w14 h14 => ?_)
  obtain ⟨hb14, rfl⟩ := h14
  rw [if_pos (⟨by omega, by omega⟩)] at hb14
  subst hb14
  refine x_if_ne 25 dX4_play_17 (fun h17 => ?_) (fun h17 => absurd h17 (by decide))
  refine x_aload_n dX4_play_25 rfl ?_
  refine x_getfield 0 dX4_play_26 fg_X4_46 hP rfl rfl ?_
  refine x_if_eq 38 dX4_play_29 (fun h29 => ?_) (fun h29 => ?_) (ha := by omega)
  · refine x_iconst dX4_play_38 ?_
    refine x_iload_n dX4_play_39 rfl ?_
    refine x_imul dX4_play_40 ?_
    refine x_iconst dX4_play_41 ?_
    refine x_iadd dX4_play_42 ?_
    refine x_top (show _ = ((mSide z : Nat) : Int) by omega) ?_
    refine x_ist2 dX4_play_43 ?_
    refine x_aload_n dX4_play_44 rfl ?_
    refine x_calliV dX4_play_45 mk_X4_ownSong ml_X4_97 (k_ownSong hP z R hzc.2.1) ((wg_app hP 0).trans rfl) rfl (fun x45 w45 h45 => ?_)
    obtain ⟨rfl, rfl⟩ := h45
    refine x_top (show mSong z = (((mSong z).toNat : Nat) : Int) by omega) ?_
    refine x_ist3 dX4_play_48 ?_
    refine x_aload_n dX4_play_49 rfl ?_
    refine x_getfield 0 dX4_play_50 fg_X4_25 hP rfl rfl ?_
    refine x_iload_n dX4_play_53 rfl ?_
    refine x_aload_n dX4_play_54 rfl ?_
    refine x_getfield 0 dX4_play_55 fg_X4_25 hP rfl rfl ?_
    refine x_iload_n dX4_play_58 rfl ?_
    refine x_iaload 4 ((mSong z).toNat) dX4_play_59 hP rfl ?_
    refine x_iconst dX4_play_60 ?_
    refine x_iadd dX4_play_61 ?_
    refine x_bipush dX4_play_62 ?_
    refine x_irem dX4_play_64 ?_
    refine x_iastore 4 ((mSong z).toNat) dX4_play_65 hP rfl ?_
    refine x_aload_n dX4_play_66 rfl ?_
    refine x_getfield 0 dX4_play_67 fg_X4_19 hP rfl rfl ?_
    refine x_iload_n dX4_play_70 rfl ?_
    refine x_aload_n dX4_play_71 rfl ?_
    refine x_getfield 0 dX4_play_72 fg_X4_19 hP rfl rfl ?_
    refine x_iload_n dX4_play_75 rfl ?_
    refine x_iaload 2 (mSide z) dX4_play_76 hP rfl ?_
    refine x_iconst dX4_play_77 ?_
    refine x_iadd dX4_play_78 ?_
    refine x_bipush dX4_play_79 ?_
    refine x_min dX4_play_81 ml_X4_79 ?_ (hx := by omega) (hy := by decide)
    refine x_top (show min (z (122 + mSide z) + 1) 99 = mWear z by unfold mWear; split <;> omega) ?_
    refine x_iastore 2 (mSide z) dX4_play_84 hP rfl ?_
    refine x_aload_n dX4_play_85 rfl ?_
    refine x_dup dX4_play_86 ?_
    refine x_getfield 0 dX4_play_87 fg_X4_56 hP rfl rfl ?_
    refine x_iconst dX4_play_90 ?_
    refine x_iadd dX4_play_91 ?_
    refine x_putfield 0 dX4_play_92 fl_X4_56 hP rfl (fun _ _ => ⟨rfl, rfl⟩) ?_
    refine x_aload_n dX4_play_95 rfl ?_
    refine x_iconst dX4_play_96 ?_
    refine x_putfield 0 dX4_play_97 fl_X4_50 hP rfl (fun _ _ => ⟨rfl, rfl⟩) ?_
    refine x_aload_n dX4_play_100 rfl ?_
    refine x_aload_n dX4_play_101 rfl ?_
    refine x_getfield 0 dX4_play_102 fg_X4_19 hP rfl rfl ?_
    refine x_iload_n dX4_play_105 rfl ?_
    refine x_iaload 2 (mSide z) dX4_play_106 hP rfl ?_
    refine x_top (updI_e _ _ _) ?_
    refine x_aload_n dX4_play_107 rfl ?_
    refine x_getfield 0 dX4_play_108 fg_X4_37 hP rfl rfl ?_
    refine x_icmp_le 125 dX4_play_111 (fun h111 => ?_) (fun h111 => ?_) (ha := by omega) (hb := hR 15)
    · refine x_aload_n dX4_play_125 rfl ?_
      refine x_getfield 0 dX4_play_126 fg_X4_15 hP rfl rfl ?_
      refine x_iload_n dX4_play_129 rfl ?_
      refine x_iaload 1 (mSide z) dX4_play_130 hP rfl ?_
      refine x_putfield 0 dX4_play_131 fl_X4_53 hP rfl (fun _ _ => ⟨rfl, rfl⟩) ?_
      have hPl : mPlay z = mDoes (updI (updI (updI z (70 + (mSong z).toNat) ((z (70 + (mSong z).toNat) + 1) % 100)) (122 + mSide z) (mWear z)) 5 (z 5 + 1)) 4 (z (90 + mSide z)) := by unfold mPlay; rw [if_pos h111]
      refine x_wk hP (mDoes (updI (updI (updI z (70 + (mSong z).toNat) ((z (70 + (mSong z).toNat) + 1) % 100)) (122 + mSide z) (mWear z)) 5 (z 5 + 1)) 4 (z (90 + mSide z))) (fun j hj => by (simp (disch := omega) only [mDoes, mOut, updI_n, updI_e])) (fun j hj => by rw [sl_upd]; simp (disch := omega) only [mDoes, updI_n]; unfold updI; split; rfl; rw [if_neg (by omega)]) (fun j hj => by (simp (disch := omega) only [mDoes, mOut, updI_n, updI_e])) (fun j hj => by rw [sl_upd]; simp (disch := omega) only [mDoes, updI_n]) (by (simp (disch := omega) only [mDoes, mOut, updI_n, updI_e])) (pF_x (fun t ht => by (simp (disch := omega) only [mDoes, mOut, updI_n, updI_e]))) (iF_x (fun t ht => by (simp (disch := omega) only [mDoes, mOut, updI_n, updI_e]))) (oF_x (fun t ht => by (simp (disch := omega) only [mDoes, mOut, updI_n, updI_e]))) (by (simp (disch := omega) only [mDoes, mOut, updI_n, updI_e])) (by (simp (disch := omega) only [mDoes, mOut, updI_n, updI_e])) (by (simp (disch := omega) only [mDoes, mOut, updI_n, updI_e])) (by (simp (disch := omega) only [mDoes, mOut, updI_n, updI_e])) (by (simp (disch := omega) only [mDoes, mOut, updI_n, updI_e])) (by (simp (disch := omega) only [mDoes, mOut, updI_n, updI_e])) (by (simp (disch := omega) only [mDoes, mOut, updI_n, updI_e])) (by (simp (disch := omega) only [mDoes, mOut, updI_n, updI_e])) ?_
      rw [← hPl]
      exact x_vret dX4_play_134 rfl
    · refine x_iconst dX4_play_114 ?_
      refine x_aload_n dX4_play_115 rfl ?_
      refine x_getfield 0 dX4_play_116 fg_X4_15 hP rfl rfl ?_
      refine x_iload_n dX4_play_119 rfl ?_
      refine x_iaload 1 (mSide z) dX4_play_120 hP rfl ?_
      refine x_imul dX4_play_121 ?_
      refine x_goto 131 dX4_play_122 ?_
      refine x_putfield 0 dX4_play_131 fl_X4_53 hP rfl (fun _ _ => ⟨rfl, rfl⟩) ?_
      have hPl : mPlay z = mDoes (updI (updI (updI z (70 + (mSong z).toNat) ((z (70 + (mSong z).toNat) + 1) % 100)) (122 + mSide z) (mWear z)) 5 (z 5 + 1)) 4 (2 * z (90 + mSide z)) := by unfold mPlay; rw [if_neg h111]
      refine x_wk hP (mDoes (updI (updI (updI z (70 + (mSong z).toNat) ((z (70 + (mSong z).toNat) + 1) % 100)) (122 + mSide z) (mWear z)) 5 (z 5 + 1)) 4 (2 * z (90 + mSide z))) (fun j hj => by (simp (disch := omega) only [mDoes, mOut, updI_n, updI_e])) (fun j hj => by rw [sl_upd]; simp (disch := omega) only [mDoes, updI_n]; unfold updI; split; rfl; rw [if_neg (by omega)]) (fun j hj => by (simp (disch := omega) only [mDoes, mOut, updI_n, updI_e])) (fun j hj => by rw [sl_upd]; simp (disch := omega) only [mDoes, updI_n]) (by (simp (disch := omega) only [mDoes, mOut, updI_n, updI_e])) (pF_x (fun t ht => by (simp (disch := omega) only [mDoes, mOut, updI_n, updI_e]))) (iF_x (fun t ht => by (simp (disch := omega) only [mDoes, mOut, updI_n, updI_e]))) (oF_x (fun t ht => by (simp (disch := omega) only [mDoes, mOut, updI_n, updI_e]))) (by (simp (disch := omega) only [mDoes, mOut, updI_n, updI_e])) (by (simp (disch := omega) only [mDoes, mOut, updI_n, updI_e])) (by (simp (disch := omega) only [mDoes, mOut, updI_n, updI_e])) (by (simp (disch := omega) only [mDoes, mOut, updI_n, updI_e])) (by (simp (disch := omega) only [mDoes, mOut, updI_n, updI_e])) (by (simp (disch := omega) only [mDoes, mOut, updI_n, updI_e])) (by (simp (disch := omega) only [mDoes, mOut, updI_n, updI_e])) (by (simp (disch := omega) only [mDoes, mOut, updI_n, updI_e])) ?_
      rw [← hPl]
      exact x_vret dX4_play_134 rfl
  · refine x_iconst dX4_play_32 ?_
    refine x_iload_n dX4_play_33 rfl ?_
    refine x_imul dX4_play_34 ?_
    refine x_goto 43 dX4_play_35 ?_
    refine x_top (show _ = ((mSide z : Nat) : Int) by omega) ?_
    refine x_ist2 dX4_play_43 ?_
    refine x_aload_n dX4_play_44 rfl ?_
    refine x_calliV dX4_play_45 mk_X4_ownSong ml_X4_97 (k_ownSong hP z R hzc.2.1) ((wg_app hP 0).trans rfl) rfl (fun x45 w45 h45 => ?_)
    obtain ⟨rfl, rfl⟩ := h45
    refine x_top (show mSong z = (((mSong z).toNat : Nat) : Int) by omega) ?_
    refine x_ist3 dX4_play_48 ?_
    refine x_aload_n dX4_play_49 rfl ?_
    refine x_getfield 0 dX4_play_50 fg_X4_25 hP rfl rfl ?_
    refine x_iload_n dX4_play_53 rfl ?_
    refine x_aload_n dX4_play_54 rfl ?_
    refine x_getfield 0 dX4_play_55 fg_X4_25 hP rfl rfl ?_
    refine x_iload_n dX4_play_58 rfl ?_
    refine x_iaload 4 ((mSong z).toNat) dX4_play_59 hP rfl ?_
    refine x_iconst dX4_play_60 ?_
    refine x_iadd dX4_play_61 ?_
    refine x_bipush dX4_play_62 ?_
    refine x_irem dX4_play_64 ?_
    refine x_iastore 4 ((mSong z).toNat) dX4_play_65 hP rfl ?_
    refine x_aload_n dX4_play_66 rfl ?_
    refine x_getfield 0 dX4_play_67 fg_X4_19 hP rfl rfl ?_
    refine x_iload_n dX4_play_70 rfl ?_
    refine x_aload_n dX4_play_71 rfl ?_
    refine x_getfield 0 dX4_play_72 fg_X4_19 hP rfl rfl ?_
    refine x_iload_n dX4_play_75 rfl ?_
    refine x_iaload 2 (mSide z) dX4_play_76 hP rfl ?_
    refine x_iconst dX4_play_77 ?_
    refine x_iadd dX4_play_78 ?_
    refine x_bipush dX4_play_79 ?_
    refine x_min dX4_play_81 ml_X4_79 ?_ (hx := by omega) (hy := by decide)
    refine x_top (show min (z (122 + mSide z) + 1) 99 = mWear z by unfold mWear; split <;> omega) ?_
    refine x_iastore 2 (mSide z) dX4_play_84 hP rfl ?_
    refine x_aload_n dX4_play_85 rfl ?_
    refine x_dup dX4_play_86 ?_
    refine x_getfield 0 dX4_play_87 fg_X4_56 hP rfl rfl ?_
    refine x_iconst dX4_play_90 ?_
    refine x_iadd dX4_play_91 ?_
    refine x_putfield 0 dX4_play_92 fl_X4_56 hP rfl (fun _ _ => ⟨rfl, rfl⟩) ?_
    refine x_aload_n dX4_play_95 rfl ?_
    refine x_iconst dX4_play_96 ?_
    refine x_putfield 0 dX4_play_97 fl_X4_50 hP rfl (fun _ _ => ⟨rfl, rfl⟩) ?_
    refine x_aload_n dX4_play_100 rfl ?_
    refine x_aload_n dX4_play_101 rfl ?_
    refine x_getfield 0 dX4_play_102 fg_X4_19 hP rfl rfl ?_
    refine x_iload_n dX4_play_105 rfl ?_
    refine x_iaload 2 (mSide z) dX4_play_106 hP rfl ?_
    refine x_top (updI_e _ _ _) ?_
    refine x_aload_n dX4_play_107 rfl ?_
    refine x_getfield 0 dX4_play_108 fg_X4_37 hP rfl rfl ?_
    refine x_icmp_le 125 dX4_play_111 (fun h111 => ?_) (fun h111 => ?_) (ha := by omega) (hb := hR 15)
    · refine x_aload_n dX4_play_125 rfl ?_
      refine x_getfield 0 dX4_play_126 fg_X4_15 hP rfl rfl ?_
      refine x_iload_n dX4_play_129 rfl ?_
      refine x_iaload 1 (mSide z) dX4_play_130 hP rfl ?_
      refine x_putfield 0 dX4_play_131 fl_X4_53 hP rfl (fun _ _ => ⟨rfl, rfl⟩) ?_
      have hPl : mPlay z = mDoes (updI (updI (updI z (70 + (mSong z).toNat) ((z (70 + (mSong z).toNat) + 1) % 100)) (122 + mSide z) (mWear z)) 5 (z 5 + 1)) 4 (z (90 + mSide z)) := by unfold mPlay; rw [if_pos h111]
      refine x_wk hP (mDoes (updI (updI (updI z (70 + (mSong z).toNat) ((z (70 + (mSong z).toNat) + 1) % 100)) (122 + mSide z) (mWear z)) 5 (z 5 + 1)) 4 (z (90 + mSide z))) (fun j hj => by (simp (disch := omega) only [mDoes, mOut, updI_n, updI_e])) (fun j hj => by rw [sl_upd]; simp (disch := omega) only [mDoes, updI_n]; unfold updI; split; rfl; rw [if_neg (by omega)]) (fun j hj => by (simp (disch := omega) only [mDoes, mOut, updI_n, updI_e])) (fun j hj => by rw [sl_upd]; simp (disch := omega) only [mDoes, updI_n]) (by (simp (disch := omega) only [mDoes, mOut, updI_n, updI_e])) (pF_x (fun t ht => by (simp (disch := omega) only [mDoes, mOut, updI_n, updI_e]))) (iF_x (fun t ht => by (simp (disch := omega) only [mDoes, mOut, updI_n, updI_e]))) (oF_x (fun t ht => by (simp (disch := omega) only [mDoes, mOut, updI_n, updI_e]))) (by (simp (disch := omega) only [mDoes, mOut, updI_n, updI_e])) (by (simp (disch := omega) only [mDoes, mOut, updI_n, updI_e])) (by (simp (disch := omega) only [mDoes, mOut, updI_n, updI_e])) (by (simp (disch := omega) only [mDoes, mOut, updI_n, updI_e])) (by (simp (disch := omega) only [mDoes, mOut, updI_n, updI_e])) (by (simp (disch := omega) only [mDoes, mOut, updI_n, updI_e])) (by (simp (disch := omega) only [mDoes, mOut, updI_n, updI_e])) (by (simp (disch := omega) only [mDoes, mOut, updI_n, updI_e])) ?_
      rw [← hPl]
      exact x_vret dX4_play_134 rfl
    · refine x_iconst dX4_play_114 ?_
      refine x_aload_n dX4_play_115 rfl ?_
      refine x_getfield 0 dX4_play_116 fg_X4_15 hP rfl rfl ?_
      refine x_iload_n dX4_play_119 rfl ?_
      refine x_iaload 1 (mSide z) dX4_play_120 hP rfl ?_
      refine x_imul dX4_play_121 ?_
      refine x_goto 131 dX4_play_122 ?_
      refine x_putfield 0 dX4_play_131 fl_X4_53 hP rfl (fun _ _ => ⟨rfl, rfl⟩) ?_
      have hPl : mPlay z = mDoes (updI (updI (updI z (70 + (mSong z).toNat) ((z (70 + (mSong z).toNat) + 1) % 100)) (122 + mSide z) (mWear z)) 5 (z 5 + 1)) 4 (2 * z (90 + mSide z)) := by unfold mPlay; rw [if_neg h111]
      refine x_wk hP (mDoes (updI (updI (updI z (70 + (mSong z).toNat) ((z (70 + (mSong z).toNat) + 1) % 100)) (122 + mSide z) (mWear z)) 5 (z 5 + 1)) 4 (2 * z (90 + mSide z))) (fun j hj => by (simp (disch := omega) only [mDoes, mOut, updI_n, updI_e])) (fun j hj => by rw [sl_upd]; simp (disch := omega) only [mDoes, updI_n]; unfold updI; split; rfl; rw [if_neg (by omega)]) (fun j hj => by (simp (disch := omega) only [mDoes, mOut, updI_n, updI_e])) (fun j hj => by rw [sl_upd]; simp (disch := omega) only [mDoes, updI_n]) (by (simp (disch := omega) only [mDoes, mOut, updI_n, updI_e])) (pF_x (fun t ht => by (simp (disch := omega) only [mDoes, mOut, updI_n, updI_e]))) (iF_x (fun t ht => by (simp (disch := omega) only [mDoes, mOut, updI_n, updI_e]))) (oF_x (fun t ht => by (simp (disch := omega) only [mDoes, mOut, updI_n, updI_e]))) (by (simp (disch := omega) only [mDoes, mOut, updI_n, updI_e])) (by (simp (disch := omega) only [mDoes, mOut, updI_n, updI_e])) (by (simp (disch := omega) only [mDoes, mOut, updI_n, updI_e])) (by (simp (disch := omega) only [mDoes, mOut, updI_n, updI_e])) (by (simp (disch := omega) only [mDoes, mOut, updI_n, updI_e])) (by (simp (disch := omega) only [mDoes, mOut, updI_n, updI_e])) (by (simp (disch := omega) only [mDoes, mOut, updI_n, updI_e])) (by (simp (disch := omega) only [mDoes, mOut, updI_n, updI_e])) ?_
      rw [← hPl]
      exact x_vret dX4_play_134 rfl
