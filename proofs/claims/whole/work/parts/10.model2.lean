/-! ===== what holds of z ===== -/
def P01 (z : Nat → Int) : Prop := ∀ s, s < 20 → z (30 + s) = 0 ∨ z (30 + s) = 1
theorem mPins_b {z : Nat → Int} (h : P01 z) : ∀ n, n ≤ 20 → 0 ≤ mPins z n ∧ mPins z n ≤ n
  | 0, _ => by simp [mPins]
  | n + 1, hn => by
    have h1 := mPins_b h n (by omega)
    have h2 := h n (by omega)
    simp only [mPins]
    omega
theorem mPins_R {z : Nat → Int} (h : P01 z) : inR (mPins z 20) := by
  have := mPins_b h 20 (by omega)
  omega
theorem P01_u {z : Nat → Int} {j : Nat} {v : Int} (h : P01 z) (hv : v = 0 ∨ v = 1) : P01 (updI z j v) := by
  intro s hs
  unfold updI
  split
  · exact hv
  · exact h s hs
theorem P01_n {z : Nat → Int} {j : Nat} {v : Int} (h : P01 z) (hj : j < 30) : P01 (updI z j v) := by
  intro s hs
  rw [updI_n (by omega)]
  exact h s hs
theorem P01_o {z : Nat → Int} (h : P01 z) (s : Nat) (hs : s < 20) : P01 (mOut z s) := by
  unfold mOut
  refine P01_u h ?_
  split
  · exact Or.inl rfl
  · exact h s hs
theorem mSong_b {z : Nat → Int} (h1 : 0 ≤ z 1) (h2 : z 1 ≤ 9) : 0 ≤ mSong z ∧ mSong z ≤ 19 := by
  unfold mSong
  split <;> omega
set_option maxRecDepth 100000 in
set_option maxHeartbeats 4000000 in
theorem c_look {P : AW} {a : Nat} (hP : P.length = a) (fr : List Value) (z : Nat → Int) (R : AW) (hR : ∀ i, inR (z i)) (h1 : 0 ≤ z 1) (h2 : z 1 ≤ 9) (hpn : P01 z) (h6 : 0 ≤ z 6 ∧ z 6 ≤ 2000000000) : CTv I_X6_look 0 0 [.ref (a + 0)] (P ++ mz a fr z R) (fun w' => w' = P ++ mz a fr (mLook z) R) := by
  have hs := mSong_b h1 h2
  refine CT_of 2 rfl (Nat.le_of_ble_eq_true rfl) ?_
  show EX I_X6_look 0 0 none _ 0 [some (.ref (a + 0)), none, none] [] _ 0 0
  refine x_aload_n dX6_look_0 rfl ?_
  refine x_calliV dX6_look_1 mk_X6_songHere ml_X6_89 (c_songHere hP fr z R hR) ((wg_app hP 0).trans rfl) rfl (fun x1 w1 h1 => ?_)
  obtain ⟨rfl, rfl⟩ := h1
  refine x_ist1 dX6_look_4 ?_
  refine x_aload_n dX6_look_5 rfl ?_
  refine x_getfield 0 dX6_look_6 fg_X6_7 hP rfl rfl ?_
  refine x_bipush dX6_look_9 ?_
  refine x_iload_n dX6_look_11 rfl ?_
  refine x_iadd dX6_look_12 ?_
  refine x_iaload 1 (30 + (mSong z).toNat) dX6_look_13 hP rfl ?_
  refine x_iconst dX6_look_14 ?_
  refine x_icmp_ne 22 dX6_look_15 (fun h15 => ?_) (fun h15 => ?_) (ha := hR _)
  · refine x_iconst dX6_look_22 ?_
    refine x_ist2 dX6_look_23 ?_
    refine x_aload_n dX6_look_24 rfl ?_
    refine x_getfield 0 dX6_look_25 fg_X6_7 hP rfl rfl ?_
    refine x_bipush dX6_look_28 ?_
    refine x_iload_n dX6_look_30 rfl ?_
    refine x_iadd dX6_look_31 ?_
    refine x_aload_n dX6_look_32 rfl ?_
    refine x_getfield 0 dX6_look_33 fg_X6_7 hP rfl rfl ?_
    refine x_bipush dX6_look_36 ?_
    refine x_iload_n dX6_look_38 rfl ?_
    refine x_iadd dX6_look_39 ?_
    refine x_iaload 1 (50 + (mSong z).toNat) dX6_look_40 hP rfl ?_
    refine x_if_ne 48 dX6_look_41 (fun h41 => ?_) (fun h41 => ?_) (ha := hR _)
    · refine x_aload_n dX6_look_48 rfl ?_
      refine x_getfield 0 dX6_look_49 fg_X6_7 hP rfl rfl ?_
      refine x_bipush dX6_look_52 ?_
      refine x_iload_n dX6_look_54 rfl ?_
      refine x_iadd dX6_look_55 ?_
      refine x_iaload 1 (30 + (mSong z).toNat) dX6_look_56 hP rfl ?_
      refine x_iastore 1 (30 + (mSong z).toNat) dX6_look_57 hP rfl ?_
      refine x_iload_n dX6_look_58 rfl ?_
      refine x_if_eq 86 dX6_look_59 (fun h59 => ?_) (fun h59 => absurd h59 (by decide))
      refine x_aload_n dX6_look_86 rfl ?_
      refine x_getfield 0 dX6_look_87 fg_X6_7 hP rfl rfl ?_
      refine x_bipush dX6_look_90 ?_
      refine x_dup2 dX6_look_92 ?_
      refine x_iaload 1 (6) dX6_look_93 hP rfl ?_
      refine x_top (updI_n (by omega)) ?_
      refine x_iload_n dX6_look_94 rfl ?_
      refine x_if_eq 102 dX6_look_95 (fun h95 => ?_) (fun h95 => absurd h95 (by decide))
      refine x_iconst dX6_look_102 ?_
      refine x_iadd dX6_look_103 ?_
      refine x_iastore 1 (6) dX6_look_104 hP rfl ?_
      refine x_aload_n dX6_look_105 rfl ?_
      refine x_callvV dX6_look_106 mk_X6_goOn ml_X6_92 (c_goOn hP fr _ R (inR_upd (inR_upd hR (by first | exact hR _ | decide)) (by omega)) (mPins_R (P01_n (P01_u hpn (by first | exact Or.inl rfl | exact hpn _ (by omega))) (by decide)))) ((wg_app hP 0).trans rfl) rfl (fun w106 h106 => ?_)
      subst h106
      exact x_vret dX6_look_109 (by unfold mLook mOut; (repeat' split) <;> first | rfl | (exfalso; omega))
    · refine x_iconst dX6_look_44 ?_
      refine x_goto 57 dX6_look_45 ?_
      refine x_iastore 1 (30 + (mSong z).toNat) dX6_look_57 hP rfl ?_
      refine x_iload_n dX6_look_58 rfl ?_
      refine x_if_eq 86 dX6_look_59 (fun h59 => ?_) (fun h59 => absurd h59 (by decide))
      refine x_aload_n dX6_look_86 rfl ?_
      refine x_getfield 0 dX6_look_87 fg_X6_7 hP rfl rfl ?_
      refine x_bipush dX6_look_90 ?_
      refine x_dup2 dX6_look_92 ?_
      refine x_iaload 1 (6) dX6_look_93 hP rfl ?_
      refine x_top (updI_n (by omega)) ?_
      refine x_iload_n dX6_look_94 rfl ?_
      refine x_if_eq 102 dX6_look_95 (fun h95 => ?_) (fun h95 => absurd h95 (by decide))
      refine x_iconst dX6_look_102 ?_
      refine x_iadd dX6_look_103 ?_
      refine x_iastore 1 (6) dX6_look_104 hP rfl ?_
      refine x_aload_n dX6_look_105 rfl ?_
      refine x_callvV dX6_look_106 mk_X6_goOn ml_X6_92 (c_goOn hP fr _ R (inR_upd (inR_upd hR (by first | exact hR _ | decide)) (by omega)) (mPins_R (P01_n (P01_u hpn (by first | exact Or.inl rfl | exact hpn _ (by omega))) (by decide)))) ((wg_app hP 0).trans rfl) rfl (fun w106 h106 => ?_)
      subst h106
      exact x_vret dX6_look_109 (by unfold mLook mOut; (repeat' split) <;> first | rfl | (exfalso; omega))
  · refine x_iconst dX6_look_18 ?_
    refine x_goto 23 dX6_look_19 ?_
    refine x_ist2 dX6_look_23 ?_
    refine x_aload_n dX6_look_24 rfl ?_
    refine x_getfield 0 dX6_look_25 fg_X6_7 hP rfl rfl ?_
    refine x_bipush dX6_look_28 ?_
    refine x_iload_n dX6_look_30 rfl ?_
    refine x_iadd dX6_look_31 ?_
    refine x_aload_n dX6_look_32 rfl ?_
    refine x_getfield 0 dX6_look_33 fg_X6_7 hP rfl rfl ?_
    refine x_bipush dX6_look_36 ?_
    refine x_iload_n dX6_look_38 rfl ?_
    refine x_iadd dX6_look_39 ?_
    refine x_iaload 1 (50 + (mSong z).toNat) dX6_look_40 hP rfl ?_
    refine x_if_ne 48 dX6_look_41 (fun h41 => ?_) (fun h41 => ?_) (ha := hR _)
    · refine x_aload_n dX6_look_48 rfl ?_
      refine x_getfield 0 dX6_look_49 fg_X6_7 hP rfl rfl ?_
      refine x_bipush dX6_look_52 ?_
      refine x_iload_n dX6_look_54 rfl ?_
      refine x_iadd dX6_look_55 ?_
      refine x_iaload 1 (30 + (mSong z).toNat) dX6_look_56 hP rfl ?_
      refine x_iastore 1 (30 + (mSong z).toNat) dX6_look_57 hP rfl ?_
      refine x_iload_n dX6_look_58 rfl ?_
      refine x_if_eq 86 dX6_look_59 (fun h59 => absurd h59 (by decide)) (fun h59 => ?_)
      refine x_aload_n dX6_look_62 rfl ?_
      refine x_getfield 0 dX6_look_63 fg_X6_7 hP rfl rfl ?_
      refine x_bipush dX6_look_66 ?_
      refine x_aload_n dX6_look_68 rfl ?_
      refine x_getfield 0 dX6_look_69 fg_X6_7 hP rfl rfl ?_
      refine x_iconst dX6_look_72 ?_
      refine x_iaload 1 (1) dX6_look_73 hP rfl ?_
      refine x_top (updI_n (by omega)) ?_
      refine x_iadd dX6_look_74 ?_
      refine x_iaload 1 (20 + (z 1).toNat) dX6_look_75 hP rfl ?_
      refine x_top (updI_n (by omega)) ?_
      refine x_if_lt 86 dX6_look_76 (fun h76 => ?_) (fun h76 => ?_) (ha := hR _)
      · refine x_aload_n dX6_look_86 rfl ?_
        refine x_getfield 0 dX6_look_87 fg_X6_7 hP rfl rfl ?_
        refine x_bipush dX6_look_90 ?_
        refine x_dup2 dX6_look_92 ?_
        refine x_iaload 1 (6) dX6_look_93 hP rfl ?_
        refine x_top (updI_n (by omega)) ?_
        refine x_iload_n dX6_look_94 rfl ?_
        refine x_if_eq 102 dX6_look_95 (fun h95 => absurd h95 (by decide)) (fun h95 => ?_)
        refine x_iconst dX6_look_98 ?_
        refine x_goto 103 dX6_look_99 ?_
        refine x_iadd dX6_look_103 ?_
        refine x_iastore 1 (6) dX6_look_104 hP rfl ?_
        refine x_aload_n dX6_look_105 rfl ?_
        refine x_callvV dX6_look_106 mk_X6_goOn ml_X6_92 (c_goOn hP fr _ R (inR_upd (inR_upd hR (by first | exact hR _ | decide)) (by omega)) (mPins_R (P01_n (P01_u hpn (by first | exact Or.inl rfl | exact hpn _ (by omega))) (by decide)))) ((wg_app hP 0).trans rfl) rfl (fun w106 h106 => ?_)
        subst h106
        exact x_vret dX6_look_109 (by unfold mLook mOut; (repeat' split) <;> first | rfl | (exfalso; omega))
      · refine x_aload_n dX6_look_79 rfl ?_
        refine x_iconst dX6_look_80 ?_
        refine x_iconst dX6_look_81 ?_
        refine x_callvV dX6_look_82 mk_X6_does ml_X6_85 (c_does hP fr _ R 3 4) ((wg_app hP 0).trans rfl) rfl (fun w82 h82 => ?_)
        subst h82
        exact x_vret dX6_look_85 (by unfold mLook mOut; (repeat' split) <;> first | rfl | (exfalso; omega))
    · refine x_iconst dX6_look_44 ?_
      refine x_goto 57 dX6_look_45 ?_
      refine x_iastore 1 (30 + (mSong z).toNat) dX6_look_57 hP rfl ?_
      refine x_iload_n dX6_look_58 rfl ?_
      refine x_if_eq 86 dX6_look_59 (fun h59 => absurd h59 (by decide)) (fun h59 => ?_)
      refine x_aload_n dX6_look_62 rfl ?_
      refine x_getfield 0 dX6_look_63 fg_X6_7 hP rfl rfl ?_
      refine x_bipush dX6_look_66 ?_
      refine x_aload_n dX6_look_68 rfl ?_
      refine x_getfield 0 dX6_look_69 fg_X6_7 hP rfl rfl ?_
      refine x_iconst dX6_look_72 ?_
      refine x_iaload 1 (1) dX6_look_73 hP rfl ?_
      refine x_top (updI_n (by omega)) ?_
      refine x_iadd dX6_look_74 ?_
      refine x_iaload 1 (20 + (z 1).toNat) dX6_look_75 hP rfl ?_
      refine x_top (updI_n (by omega)) ?_
      refine x_if_lt 86 dX6_look_76 (fun h76 => ?_) (fun h76 => ?_) (ha := hR _)
      · refine x_aload_n dX6_look_86 rfl ?_
        refine x_getfield 0 dX6_look_87 fg_X6_7 hP rfl rfl ?_
        refine x_bipush dX6_look_90 ?_
        refine x_dup2 dX6_look_92 ?_
        refine x_iaload 1 (6) dX6_look_93 hP rfl ?_
        refine x_top (updI_n (by omega)) ?_
        refine x_iload_n dX6_look_94 rfl ?_
        refine x_if_eq 102 dX6_look_95 (fun h95 => absurd h95 (by decide)) (fun h95 => ?_)
        refine x_iconst dX6_look_98 ?_
        refine x_goto 103 dX6_look_99 ?_
        refine x_iadd dX6_look_103 ?_
        refine x_iastore 1 (6) dX6_look_104 hP rfl ?_
        refine x_aload_n dX6_look_105 rfl ?_
        refine x_callvV dX6_look_106 mk_X6_goOn ml_X6_92 (c_goOn hP fr _ R (inR_upd (inR_upd hR (by first | exact hR _ | decide)) (by omega)) (mPins_R (P01_n (P01_u hpn (by first | exact Or.inl rfl | exact hpn _ (by omega))) (by decide)))) ((wg_app hP 0).trans rfl) rfl (fun w106 h106 => ?_)
        subst h106
        exact x_vret dX6_look_109 (by unfold mLook mOut; (repeat' split) <;> first | rfl | (exfalso; omega))
      · refine x_aload_n dX6_look_79 rfl ?_
        refine x_iconst dX6_look_80 ?_
        refine x_iconst dX6_look_81 ?_
        refine x_callvV dX6_look_82 mk_X6_does ml_X6_85 (c_does hP fr _ R 3 4) ((wg_app hP 0).trans rfl) rfl (fun w82 h82 => ?_)
        subst h82
        exact x_vret dX6_look_85 (by unfold mLook mOut; (repeat' split) <;> first | rfl | (exfalso; omega))
set_option maxRecDepth 100000 in
set_option maxHeartbeats 4000000 in
theorem c_play {P : AW} {a : Nat} (hP : P.length = a) (fr : List Value) (z : Nat → Int) (R : AW) (hR : ∀ i, inR (z i)) (h1 : 0 ≤ z 1) (h2 : z 1 ≤ 9) (hr1 : 0 ≤ z (20 + (z 1).toNat)) (hr2 : z (20 + (z 1).toNat) ≤ 15) (hm : ∀ s, s < 20 → 0 ≤ z (70 + s) ∧ z (70 + s) ≤ 99) (hwr : ∀ s, s < 32 → 0 ≤ z (122 + s) ∧ z (122 + s) ≤ 99) : CTv I_X6_play 0 0 [.ref (a + 0)] (P ++ mz a fr z R) (fun w' => w' = P ++ mz a fr (mPlay z) R) := by
  have hs := mSong_b h1 h2
  have hm := hm (mSong z).toNat (by omega)
  have hsd : 2 * z (20 + (z 1).toNat) + mSong z % 2 = ((mSide z : Nat) : Int) := by unfold mSide; omega
  have hw := hwr (mSide z) (by omega)
  refine CT_of 2 rfl (Nat.le_of_ble_eq_true rfl) ?_
  show EX I_X6_play 0 0 none _ 0 [some (.ref (a + 0)), none, none] [] _ 0 0
  refine x_aload_n dX6_play_0 rfl ?_
  refine x_calliV dX6_play_1 mk_X6_songHere ml_X6_89 (c_songHere hP fr z R hR) ((wg_app hP 0).trans rfl) rfl (fun x1 w1 h1 => ?_)
  obtain ⟨rfl, rfl⟩ := h1
  refine x_ist1 dX6_play_4 ?_
  refine x_iconst dX6_play_5 ?_
  refine x_aload_n dX6_play_6 rfl ?_
  refine x_getfield 0 dX6_play_7 fg_X6_7 hP rfl rfl ?_
  refine x_bipush dX6_play_10 ?_
  refine x_aload_n dX6_play_12 rfl ?_
  refine x_getfield 0 dX6_play_13 fg_X6_7 hP rfl rfl ?_
  refine x_iconst dX6_play_16 ?_
  refine x_iaload 1 (1) dX6_play_17 hP rfl ?_
  refine x_iadd dX6_play_18 ?_
  refine x_iaload 1 (20 + (z 1).toNat) dX6_play_19 hP rfl ?_
  refine x_imul dX6_play_20 ?_
  refine x_iload_n dX6_play_21 rfl ?_
  refine x_iconst dX6_play_22 ?_
  refine x_irem dX6_play_23 ?_
  refine x_iadd dX6_play_24 ?_
  refine x_ist2 dX6_play_25 ?_
  refine x_aload_n dX6_play_26 rfl ?_
  refine x_getfield 0 dX6_play_27 fg_X6_7 hP rfl rfl ?_
  refine x_bipush dX6_play_30 ?_
  refine x_iload_n dX6_play_32 rfl ?_
  refine x_iadd dX6_play_33 ?_
  refine x_aload_n dX6_play_34 rfl ?_
  refine x_getfield 0 dX6_play_35 fg_X6_7 hP rfl rfl ?_
  refine x_bipush dX6_play_38 ?_
  refine x_iload_n dX6_play_40 rfl ?_
  refine x_iadd dX6_play_41 ?_
  refine x_iaload 1 (70 + (mSong z).toNat) dX6_play_42 hP rfl ?_
  refine x_iconst dX6_play_43 ?_
  refine x_iadd dX6_play_44 ?_
  refine x_bipush dX6_play_45 ?_
  refine x_irem dX6_play_47 ?_ (h1 := by omega) (h2 := by omega)
  refine x_iastore 1 (70 + (mSong z).toNat) dX6_play_48 hP rfl ?_
  refine x_aload_n dX6_play_49 rfl ?_
  refine x_getfield 0 dX6_play_50 fg_X6_7 hP rfl rfl ?_
  refine x_bipush dX6_play_53 ?_
  refine x_iload_n dX6_play_55 rfl ?_
  refine x_iadd dX6_play_56 ?_
  refine x_aload_n dX6_play_57 rfl ?_
  refine x_getfield 0 dX6_play_58 fg_X6_7 hP rfl rfl ?_
  refine x_bipush dX6_play_61 ?_
  refine x_iload_n dX6_play_63 rfl ?_
  refine x_iadd dX6_play_64 ?_
  refine x_iaload 1 (122 + mSide z) dX6_play_65 hP rfl ?_
  refine x_top (updI_n (by omega)) ?_
  refine x_bipush dX6_play_66 ?_
  refine x_icmp_ge 85 dX6_play_68 (fun h68 => ?_) (fun h68 => ?_) (ha := hR _)
  · refine x_bipush dX6_play_85 ?_
    refine x_iastore 1 (122 + mSide z) dX6_play_87 hP rfl ?_
    refine x_aload_n dX6_play_88 rfl ?_
    refine x_getfield 0 dX6_play_89 fg_X6_7 hP rfl rfl ?_
    refine x_iconst dX6_play_92 ?_
    refine x_dup2 dX6_play_93 ?_
    refine x_iaload 1 (5) dX6_play_94 hP rfl ?_
    refine x_top ((updI_n (by omega)).trans (updI_n (by omega))) ?_
    refine x_iconst dX6_play_95 ?_
    refine x_iadd dX6_play_96 ?_
    refine x_iastore 1 (5) dX6_play_97 hP rfl ?_
    refine x_aload_n dX6_play_98 rfl ?_
    refine x_iconst dX6_play_99 ?_
    refine x_aload_n dX6_play_100 rfl ?_
    refine x_getfield 0 dX6_play_101 fg_X6_7 hP rfl rfl ?_
    refine x_bipush dX6_play_104 ?_
    refine x_iload_n dX6_play_106 rfl ?_
    refine x_iadd dX6_play_107 ?_
    refine x_iaload 1 (122 + mSide z) dX6_play_108 hP rfl ?_
    refine x_top ((updI_n (by omega)).trans (updI_e _ _ _)) ?_
    refine x_aload_n dX6_play_109 rfl ?_
    refine x_getfield 0 dX6_play_110 fg_X6_7 hP rfl rfl ?_
    refine x_bipush dX6_play_113 ?_
    refine x_iaload 1 (15) dX6_play_115 hP rfl ?_
    refine x_top ((updI_n (by omega)).trans ((updI_n (by omega)).trans (updI_n (by omega)))) ?_
    refine x_icmp_le 133 dX6_play_116 (fun h116 => ?_) (fun h116 => ?_) (ha := by omega) (hb := hR _)
    · refine x_aload_n dX6_play_133 rfl ?_
      refine x_getfield 0 dX6_play_134 fg_X6_7 hP rfl rfl ?_
      refine x_bipush dX6_play_137 ?_
      refine x_iload_n dX6_play_139 rfl ?_
      refine x_iadd dX6_play_140 ?_
      refine x_iaload 1 (90 + mSide z) dX6_play_141 hP rfl ?_
      refine x_top ((updI_n (by omega)).trans ((updI_n (by omega)).trans (updI_n (by omega)))) ?_
      refine x_callvV dX6_play_142 mk_X6_does ml_X6_85 (c_does hP fr _ R 4 _) ((wg_app hP 0).trans rfl) rfl (fun w142 h142 => ?_)
      subst h142
      exact x_vret dX6_play_145 (by unfold mPlay mWear; (repeat' split) <;> first | rfl | (exfalso; omega))
    · refine x_iconst dX6_play_119 ?_
      refine x_aload_n dX6_play_120 rfl ?_
      refine x_getfield 0 dX6_play_121 fg_X6_7 hP rfl rfl ?_
      refine x_bipush dX6_play_124 ?_
      refine x_iload_n dX6_play_126 rfl ?_
      refine x_iadd dX6_play_127 ?_
      refine x_iaload 1 (90 + mSide z) dX6_play_128 hP rfl ?_
      refine x_top ((updI_n (by omega)).trans ((updI_n (by omega)).trans (updI_n (by omega)))) ?_
      refine x_imul dX6_play_129 ?_
      refine x_goto 142 dX6_play_130 ?_
      refine x_callvV dX6_play_142 mk_X6_does ml_X6_85 (c_does hP fr _ R 4 _) ((wg_app hP 0).trans rfl) rfl (fun w142 h142 => ?_)
      subst h142
      exact x_vret dX6_play_145 (by unfold mPlay mWear; (repeat' split) <;> first | rfl | (exfalso; omega))
  · refine x_aload_n dX6_play_71 rfl ?_
    refine x_getfield 0 dX6_play_72 fg_X6_7 hP rfl rfl ?_
    refine x_bipush dX6_play_75 ?_
    refine x_iload_n dX6_play_77 rfl ?_
    refine x_iadd dX6_play_78 ?_
    refine x_iaload 1 (122 + mSide z) dX6_play_79 hP rfl ?_
    refine x_top (updI_n (by omega)) ?_
    refine x_iconst dX6_play_80 ?_
    refine x_iadd dX6_play_81 ?_
    refine x_goto 87 dX6_play_82 ?_
    refine x_iastore 1 (122 + mSide z) dX6_play_87 hP rfl ?_
    refine x_aload_n dX6_play_88 rfl ?_
    refine x_getfield 0 dX6_play_89 fg_X6_7 hP rfl rfl ?_
    refine x_iconst dX6_play_92 ?_
    refine x_dup2 dX6_play_93 ?_
    refine x_iaload 1 (5) dX6_play_94 hP rfl ?_
    refine x_top ((updI_n (by omega)).trans (updI_n (by omega))) ?_
    refine x_iconst dX6_play_95 ?_
    refine x_iadd dX6_play_96 ?_
    refine x_iastore 1 (5) dX6_play_97 hP rfl ?_
    refine x_aload_n dX6_play_98 rfl ?_
    refine x_iconst dX6_play_99 ?_
    refine x_aload_n dX6_play_100 rfl ?_
    refine x_getfield 0 dX6_play_101 fg_X6_7 hP rfl rfl ?_
    refine x_bipush dX6_play_104 ?_
    refine x_iload_n dX6_play_106 rfl ?_
    refine x_iadd dX6_play_107 ?_
    refine x_iaload 1 (122 + mSide z) dX6_play_108 hP rfl ?_
    refine x_top ((updI_n (by omega)).trans (updI_e _ _ _)) ?_
    refine x_aload_n dX6_play_109 rfl ?_
    refine x_getfield 0 dX6_play_110 fg_X6_7 hP rfl rfl ?_
    refine x_bipush dX6_play_113 ?_
    refine x_iaload 1 (15) dX6_play_115 hP rfl ?_
    refine x_top ((updI_n (by omega)).trans ((updI_n (by omega)).trans (updI_n (by omega)))) ?_
    refine x_icmp_le 133 dX6_play_116 (fun h116 => ?_) (fun h116 => ?_) (ha := by omega) (hb := hR _)
    · refine x_aload_n dX6_play_133 rfl ?_
      refine x_getfield 0 dX6_play_134 fg_X6_7 hP rfl rfl ?_
      refine x_bipush dX6_play_137 ?_
      refine x_iload_n dX6_play_139 rfl ?_
      refine x_iadd dX6_play_140 ?_
      refine x_iaload 1 (90 + mSide z) dX6_play_141 hP rfl ?_
      refine x_top ((updI_n (by omega)).trans ((updI_n (by omega)).trans (updI_n (by omega)))) ?_
      refine x_callvV dX6_play_142 mk_X6_does ml_X6_85 (c_does hP fr _ R 4 _) ((wg_app hP 0).trans rfl) rfl (fun w142 h142 => ?_)
      subst h142
      exact x_vret dX6_play_145 (by unfold mPlay mWear; (repeat' split) <;> first | rfl | (exfalso; omega))
    · refine x_iconst dX6_play_119 ?_
      refine x_aload_n dX6_play_120 rfl ?_
      refine x_getfield 0 dX6_play_121 fg_X6_7 hP rfl rfl ?_
      refine x_bipush dX6_play_124 ?_
      refine x_iload_n dX6_play_126 rfl ?_
      refine x_iadd dX6_play_127 ?_
      refine x_iaload 1 (90 + mSide z) dX6_play_128 hP rfl ?_
      refine x_top ((updI_n (by omega)).trans ((updI_n (by omega)).trans (updI_n (by omega)))) ?_
      refine x_imul dX6_play_129 ?_
      refine x_goto 142 dX6_play_130 ?_
      refine x_callvV dX6_play_142 mk_X6_does ml_X6_85 (c_does hP fr _ R 4 _) ((wg_app hP 0).trans rfl) rfl (fun w142 h142 => ?_)
      subst h142
      exact x_vret dX6_play_145 (by unfold mPlay mWear; (repeat' split) <;> first | rfl | (exfalso; omega))
