set_option maxRecDepth 100000 in
set_option maxHeartbeats 4000000 in
theorem b_record {P : AW} {a : Nat} (hP : P.length = a) (ik : Int) (z y t so st : Nat → Int) (td sk le ot sn pk : Int) (R : AW) (hA : ZA z) (h0 : z 0 ≤ 1000000) (hC : CI z td sk so st le ot sn pk) (u v : Int) (hiu : inR u) (hiv : inR v)  : CTi I_X5_record 0 0 [.ref (a + 0), .int (iI u), .int (iI v)] (P ++ bx a ik z y t so st td sk le ot sn pk R) (fun x w' => x = rRec z u v ∧ BI P a ik (sRec z u v) y R w') := by
  have hB : BI P a ik z y R (P ++ bx a ik z y t so st td sk le ot sn pk R) := ⟨t, so, st, td, sk, le, ot, sn, pk, rfl, hC⟩
  have hR := hA.1
  have hzc := hA.2.1
  have hm := hzc.2.2.2.1
  refine CT_of 0 rfl (Nat.le_of_ble_eq_true rfl) ?_
  show EX I_X5_record 0 0 none _ 0 [some (.ref (a + 0)), some (.int (iI u)), some (.int (iI v))] [] _ 0 0
  refine x_iload_n dX5_record_0 rfl ?_
  refine x_iconst dX5_record_1 ?_
  refine x_bipush dX5_record_2 ?_
  refine x_calliS dX5_record_4 mk_X5_within ml_X5_54 (k_within _ u 1 60 hiu (by decide) (by decide)) rfl (fun x4 w4 h4 => ?_)
  obtain ⟨hb4, rfl⟩ := h4
  by_cases c4 : 1 ≤ u ∧ u ≤ 60
  · rw [if_pos c4] at hb4
    subst hb4
    refine x_if_eq 20 dX5_record_7 (fun h7 => absurd h7 (by decide)) (fun h7 => ?_)
    refine x_iload_n dX5_record_10 rfl ?_
    refine x_iconst dX5_record_11 ?_
    refine x_bipush dX5_record_12 ?_
    refine x_calliS dX5_record_14 mk_X5_within ml_X5_54 (k_within _ v 1 60 hiv (by decide) (by decide)) rfl (fun x14 w14 h14 => ?_)
    obtain ⟨hb14, rfl⟩ := h14
    by_cases c14 : 1 ≤ v ∧ v ≤ 60
    · rw [if_pos c14] at hb14
      subst hb14
      refine x_if_ne 22 dX5_record_17 (fun h17 => ?_) (fun h17 => absurd h17 (by decide))
      refine x_aload_n dX5_record_22 rfl ?_
      refine x_getfield 0 dX5_record_23 fg_X5_12 hP rfl rfl ?_
      refine x_getfield 1 dX5_record_26 fg_X5_58 hP rfl rfl ?_
      refine x_bipush dX5_record_29 ?_
      refine x_icmp_lt 37 dX5_record_31 (fun h31 => ?_) (fun h31 => ?_)
      · refine x_aload_n dX5_record_37 rfl ?_
        refine x_getfield 0 dX5_record_38 fg_X5_12 hP rfl rfl ?_
        refine x_iload_n dX5_record_41 rfl ?_
        refine x_iload_n dX5_record_42 rfl ?_
        refine x_calliV dX5_record_43 mk_X4_addRecord ml_X5_62 (v_addRecord hP (oB a ik) (tk z) (tk y) z y t so st td sk le ot sn pk R u v (by omega)) ((wg_app hP 1).trans rfl) rfl (fun x43 w43 h43 => ?_)
        obtain ⟨rfl, rfl⟩ := h43
        exact x_iret dX5_record_46 (⟨by unfold rRec; (repeat' split) <;> first | rfl | omega | (exfalso; omega), by rw [show sRec z u v = updI (updI (updI z (90 + (2 * z 16).toNat) u) (90 + (2 * z 16).toNat + 1) v) 16 (z 16 + 1) from if_pos ⟨by omega, by omega⟩]; exact BI_w (fun i h1 h2 => by (simp (disch := omega) only [mDoes, mOut, updI_n, updI_e])) (CI_keep hA h0 (fun i hi => by unfold KX2 at hi; (simp (disch := omega) only [mDoes, mOut, updI_n, updI_e])) hC)⟩)
      · refine x_bipush dX5_record_34 ?_
        exact x_iret dX5_record_36 (⟨by unfold rRec; (repeat' split) <;> first | rfl | omega | (exfalso; omega), by rw [show sRec z u v = z from (by unfold sRec; (repeat' split) <;> first | rfl | (exfalso; omega))]; exact hB⟩)
    · rw [if_neg c14] at hb14
      subst hb14
      refine x_if_ne 22 dX5_record_17 (fun h17 => absurd h17 (by decide)) (fun h17 => ?_)
      refine x_iconst dX5_record_20 ?_
      exact x_iret dX5_record_21 (⟨by unfold rRec; (repeat' split) <;> first | rfl | omega | (exfalso; omega), by rw [show sRec z u v = z from (by unfold sRec; (repeat' split) <;> first | rfl | (exfalso; omega))]; exact hB⟩)
  · rw [if_neg c4] at hb4
    subst hb4
    refine x_if_eq 20 dX5_record_7 (fun h7 => ?_) (fun h7 => absurd h7 (by decide))
    refine x_iconst dX5_record_20 ?_
    exact x_iret dX5_record_21 (⟨by unfold rRec; (repeat' split) <;> first | rfl | omega | (exfalso; omega), by rw [show sRec z u v = z from (by unfold sRec; (repeat' split) <;> first | rfl | (exfalso; omega))]; exact hB⟩)
set_option maxRecDepth 100000 in
set_option maxHeartbeats 4000000 in
theorem b_told {P : AW} {a : Nat} (hP : P.length = a) (ik : Int) (z y t so st : Nat → Int) (td sk le ot sn pk : Int) (R : AW) (hA : ZA z) (h0 : z 0 ≤ 1000000) (hC : CI z td sk so st le ot sn pk) (r h : Int) (hir : inR r) (hih : inR h)  : CTi I_X5_told 0 0 [.ref (a + 0), .int (iI r), .int (iI h)] (P ++ bx a ik z y t so st td sk le ot sn pk R) (fun x w' => x = rTold z r h ∧ BI P a ik (z) y R w') := by
  have hB : BI P a ik z y R (P ++ bx a ik z y t so st td sk le ot sn pk R) := ⟨t, so, st, td, sk, le, ot, sn, pk, rfl, hC⟩
  have hR := hA.1
  have hzc := hA.2.1
  have hm := hzc.2.2.2.1
  refine CT_of 0 rfl (Nat.le_of_ble_eq_true rfl) ?_
  show EX I_X5_told 0 0 none _ 0 [some (.ref (a + 0)), some (.int (iI r)), some (.int (iI h))] [] _ 0 0
  refine x_iload_n dX5_told_0 rfl ?_
  refine x_iconst dX5_told_1 ?_
  refine x_aload_n dX5_told_2 rfl ?_
  refine x_getfield 0 dX5_told_3 fg_X5_12 hP rfl rfl ?_
  refine x_getfield 1 dX5_told_6 fg_X5_58 hP rfl rfl ?_
  refine x_iconst dX5_told_9 ?_
  refine x_isub dX5_told_10 ?_
  refine x_calliS dX5_told_11 mk_X5_within ml_X5_54 (k_within _ r 0 (z 16 - 1) hir (by decide) (by omega)) rfl (fun x11 w11 h11 => ?_)
  obtain ⟨hb11, rfl⟩ := h11
  by_cases c11 : 0 ≤ r ∧ r ≤ (z 16 - 1)
  · rw [if_pos c11] at hb11
    subst hb11
    refine x_if_ne 19 dX5_told_14 (fun h14 => ?_) (fun h14 => absurd h14 (by decide))
    refine x_iload_n dX5_told_19 rfl ?_
    rcases (show h = 0 ∨ h = 1 ∨ h = 2 ∨ h = 3 ∨ h = 4 ∨ (h < 0 ∨ 4 < h) by omega) with h20 | h20 | h20 | h20 | h20 | h20
    · refine x_tsIn 0 56 dX5_told_20 (by omega) ?_
      refine x_aload_n dX5_told_56 rfl ?_
      refine x_getfield 0 dX5_told_57 fg_X5_12 hP rfl rfl ?_
      refine x_getfield 1 dX5_told_60 fg_X5_81 hP rfl rfl ?_
      refine x_iconst dX5_told_63 ?_
      refine x_iload_n dX5_told_64 rfl ?_
      refine x_imul dX5_told_65 ?_
      refine x_iload_n dX5_told_66 rfl ?_
      refine x_iadd dX5_told_67 ?_
      refine x_iaload 2 ((2 * r).toNat) dX5_told_68 hP rfl ?_
      exact x_iret dX5_told_69 (⟨by unfold rTold; (repeat' split) <;> first | rfl | omega | (exfalso; omega), hB⟩)
    · refine x_tsIn 1 56 dX5_told_20 (by omega) ?_
      refine x_aload_n dX5_told_56 rfl ?_
      refine x_getfield 0 dX5_told_57 fg_X5_12 hP rfl rfl ?_
      refine x_getfield 1 dX5_told_60 fg_X5_81 hP rfl rfl ?_
      refine x_iconst dX5_told_63 ?_
      refine x_iload_n dX5_told_64 rfl ?_
      refine x_imul dX5_told_65 ?_
      refine x_iload_n dX5_told_66 rfl ?_
      refine x_iadd dX5_told_67 ?_
      refine x_iaload 2 ((2 * r).toNat + 1) dX5_told_68 hP rfl ?_
      exact x_iret dX5_told_69 (⟨by unfold rTold; (repeat' split) <;> first | rfl | omega | (exfalso; omega), hB⟩)
    · refine x_tsIn 2 70 dX5_told_20 (by omega) ?_
      refine x_aload_n dX5_told_70 rfl ?_
      refine x_getfield 0 dX5_told_71 fg_X5_12 hP rfl rfl ?_
      refine x_getfield 1 dX5_told_74 fg_X5_84 hP rfl rfl ?_
      refine x_iconst dX5_told_77 ?_
      refine x_iload_n dX5_told_78 rfl ?_
      refine x_imul dX5_told_79 ?_
      refine x_iload_n dX5_told_80 rfl ?_
      refine x_iadd dX5_told_81 ?_
      refine x_iconst dX5_told_82 ?_
      refine x_isub dX5_told_83 ?_
      refine x_iaload 3 ((2 * r).toNat) dX5_told_84 hP rfl ?_
      exact x_iret dX5_told_85 (⟨by unfold rTold; (repeat' split) <;> first | rfl | omega | (exfalso; omega), hB⟩)
    · refine x_tsIn 3 70 dX5_told_20 (by omega) ?_
      refine x_aload_n dX5_told_70 rfl ?_
      refine x_getfield 0 dX5_told_71 fg_X5_12 hP rfl rfl ?_
      refine x_getfield 1 dX5_told_74 fg_X5_84 hP rfl rfl ?_
      refine x_iconst dX5_told_77 ?_
      refine x_iload_n dX5_told_78 rfl ?_
      refine x_imul dX5_told_79 ?_
      refine x_iload_n dX5_told_80 rfl ?_
      refine x_iadd dX5_told_81 ?_
      refine x_iconst dX5_told_82 ?_
      refine x_isub dX5_told_83 ?_
      refine x_iaload 3 ((2 * r).toNat + 1) dX5_told_84 hP rfl ?_
      exact x_iret dX5_told_85 (⟨by unfold rTold; (repeat' split) <;> first | rfl | omega | (exfalso; omega), hB⟩)
    · refine x_tsIn 4 86 dX5_told_20 (by omega) ?_
      refine x_aload_n dX5_told_86 rfl ?_
      refine x_getfield 0 dX5_told_87 fg_X5_12 hP rfl rfl ?_
      refine x_iload_n dX5_told_90 rfl ?_
      refine x_calliV dX5_told_91 mk_X4_placeOf ml_X5_66 (v_placeOf hP (oB a ik) (tk z) (tk y) z y t so st td sk le ot sn pk R hR r hir) ((wg_app hP 1).trans rfl) rfl (fun x91 w91 h91 => ?_)
      obtain ⟨rfl, rfl⟩ := h91
      exact x_iret dX5_told_94 (⟨by rw [show rTold z r h = mPlaceOf z r 10 from (by unfold rTold; (repeat' split) <;> first | rfl | omega | (exfalso; omega))]; have := fPl_m hzc r; rw [if_pos (by omega)] at this; omega, hB⟩)
    · refine x_tsOut 95 dX5_told_20 h20 ?_
      refine x_iconst dX5_told_95 ?_
      exact x_iret dX5_told_96 (⟨by unfold rTold; (repeat' split) <;> first | rfl | omega | (exfalso; omega), hB⟩)
  · rw [if_neg c11] at hb11
    subst hb11
    refine x_if_ne 19 dX5_told_14 (fun h14 => absurd h14 (by decide)) (fun h14 => ?_)
    refine x_iconst dX5_told_17 ?_
    exact x_iret dX5_told_18 (⟨by unfold rTold; (repeat' split) <;> first | rfl | omega | (exfalso; omega), hB⟩)
set_option maxRecDepth 100000 in
set_option maxHeartbeats 4000000 in
theorem b_song {P : AW} {a : Nat} (hP : P.length = a) (ik : Int) (z y t so st : Nat → Int) (td sk le ot sn pk : Int) (R : AW) (hA : ZA z) (h0 : z 0 ≤ 1000000) (hC : CI z td sk so st le ot sn pk) (s h : Int) (his : inR s) (hih : inR h)  : CTi I_X5_song 0 0 [.ref (a + 0), .int (iI s), .int (iI h)] (P ++ bx a ik z y t so st td sk le ot sn pk R) (fun x w' => x = rSong z s h ∧ BI P a ik (z) y R w') := by
  have hB : BI P a ik z y R (P ++ bx a ik z y t so st td sk le ot sn pk R) := ⟨t, so, st, td, sk, le, ot, sn, pk, rfl, hC⟩
  have hR := hA.1
  have hzc := hA.2.1
  refine CT_of 0 rfl (Nat.le_of_ble_eq_true rfl) ?_
  show EX I_X5_song 0 0 none _ 0 [some (.ref (a + 0)), some (.int (iI s)), some (.int (iI h))] [] _ 0 0
  refine x_iload_n dX5_song_0 rfl ?_
  refine x_iconst dX5_song_1 ?_
  refine x_bipush dX5_song_2 ?_
  refine x_calliS dX5_song_4 mk_X5_within ml_X5_54 (k_within _ s 0 19 his (by decide) (by decide)) rfl (fun x4 w4 h4 => ?_)
  obtain ⟨hb4, rfl⟩ := h4
  by_cases c4 : 0 ≤ s ∧ s ≤ 19
  · rw [if_pos c4] at hb4
    subst hb4
    refine x_if_ne 12 dX5_song_7 (fun h7 => ?_) (fun h7 => absurd h7 (by decide))
    refine x_iload_n dX5_song_12 rfl ?_
    rcases (show h = 0 ∨ h = 1 ∨ h = 2 ∨ h = 3 ∨ (h < 0 ∨ 3 < h) by omega) with h13 | h13 | h13 | h13 | h13
    · refine x_tsIn 0 44 dX5_song_13 (by omega) ?_
      refine x_aload_n dX5_song_44 rfl ?_
      refine x_getfield 0 dX5_song_45 fg_X5_12 hP rfl rfl ?_
      refine x_iload_n dX5_song_48 rfl ?_
      refine x_top (show ((s.toNat : Nat) : Int) = s by omega).symm ?_
      refine x_calliV dX5_song_49 mk_X4_isIn ml_X5_87 (v_isIn hP (oB a ik) (tk z) (tk y) z y t so st td sk le ot sn pk R s.toNat (by omega)) ((wg_app hP 1).trans rfl) rfl (fun x49 w49 h49 => ?_)
      obtain ⟨hb49, rfl⟩ := h49
      by_cases c49 : z (30 + s.toNat) = 1
      · rw [if_pos c49] at hb49
        subst hb49
        refine x_if_eq 59 dX5_song_52 (fun h52 => absurd h52 (by decide)) (fun h52 => ?_)
        refine x_iconst dX5_song_55 ?_
        refine x_goto 60 dX5_song_56 ?_
        exact x_iret dX5_song_60 (⟨by have hp01 := hzc.2.2.2.2.2.2.1 s.toNat (by omega); unfold rSong; (repeat' split) <;> first | rfl | omega | (exfalso; omega), hB⟩)
      · rw [if_neg c49] at hb49
        subst hb49
        refine x_if_eq 59 dX5_song_52 (fun h52 => ?_) (fun h52 => absurd h52 (by decide))
        refine x_iconst dX5_song_59 ?_
        exact x_iret dX5_song_60 (⟨by have hp01 := hzc.2.2.2.2.2.2.1 s.toNat (by omega); unfold rSong; (repeat' split) <;> first | rfl | omega | (exfalso; omega), hB⟩)
    · refine x_tsIn 1 61 dX5_song_13 (by omega) ?_
      refine x_aload_n dX5_song_61 rfl ?_
      refine x_getfield 0 dX5_song_62 fg_X5_12 hP rfl rfl ?_
      refine x_iload_n dX5_song_65 rfl ?_
      refine x_top (show ((s.toNat : Nat) : Int) = s by omega).symm ?_
      refine x_calliV dX5_song_66 mk_X4_howIs ml_X5_90 (v_howIs hP (oB a ik) (tk z) (tk y) z y t so st td sk le ot sn pk R s.toNat (by omega) (hzc.2.2.2.2.2.2.2.1 s.toNat (by omega))) ((wg_app hP 1).trans rfl) rfl (fun x66 w66 h66 => ?_)
      obtain ⟨rfl, rfl⟩ := h66
      exact x_iret dX5_song_69 (⟨by unfold rSong; (repeat' split) <;> first | rfl | omega | (exfalso; omega), hB⟩)
    · refine x_tsIn 2 70 dX5_song_13 (by omega) ?_
      refine x_aload_n dX5_song_70 rfl ?_
      refine x_getfield 0 dX5_song_71 fg_X5_12 hP rfl rfl ?_
      refine x_getfield 1 dX5_song_74 fg_X5_93 hP rfl rfl ?_
      refine x_iload_n dX5_song_77 rfl ?_
      refine x_iaload 5 (s.toNat) dX5_song_78 hP rfl ?_
      exact x_iret dX5_song_79 (⟨by unfold rSong; (repeat' split) <;> first | rfl | omega | (exfalso; omega), hB⟩)
    · refine x_tsIn 3 80 dX5_song_13 (by omega) ?_
      refine x_aload_n dX5_song_80 rfl ?_
      refine x_getfield 0 dX5_song_81 fg_X5_12 hP rfl rfl ?_
      refine x_getfield 1 dX5_song_84 fg_X5_77 hP rfl rfl ?_
      refine x_iload_n dX5_song_87 rfl ?_
      refine x_iconst dX5_song_88 ?_
      refine x_idiv dX5_song_89 ?_
      refine x_iaload 4 ((s / 2).toNat) dX5_song_90 hP rfl ?_
      exact x_iret dX5_song_91 (⟨by unfold rSong; (repeat' split) <;> first | rfl | omega | (exfalso; omega), hB⟩)
    · refine x_tsOut 92 dX5_song_13 h13 ?_
      refine x_iconst dX5_song_92 ?_
      exact x_iret dX5_song_93 (⟨by unfold rSong; (repeat' split) <;> first | rfl | omega | (exfalso; omega), hB⟩)
  · rw [if_neg c4] at hb4
    subst hb4
    refine x_if_ne 12 dX5_song_7 (fun h7 => absurd h7 (by decide)) (fun h7 => ?_)
    refine x_iconst dX5_song_10 ?_
    exact x_iret dX5_song_11 (⟨by unfold rSong; (repeat' split) <;> first | rfl | omega | (exfalso; omega), hB⟩)
set_option maxRecDepth 100000 in
set_option maxHeartbeats 4000000 in
theorem b_stick {P : AW} {a : Nat} (hP : P.length = a) (ik : Int) (z y t so st : Nat → Int) (td sk le ot sn pk : Int) (R : AW) (hA : ZA z) (h0 : z 0 ≤ 1000000) (hC : CI z td sk so st le ot sn pk) (s h : Int) (his : inR s) (hih : inR h)  : CTi I_X5_stick 0 0 [.ref (a + 0), .int (iI s), .int (iI h)] (P ++ bx a ik z y t so st td sk le ot sn pk R) (fun x w' => x = rStk z s h ∧ BI P a ik (sStk z s h) y R w') := by
  have hB : BI P a ik z y R (P ++ bx a ik z y t so st td sk le ot sn pk R) := ⟨t, so, st, td, sk, le, ot, sn, pk, rfl, hC⟩
  have hR := hA.1
  have hzc := hA.2.1
  refine CT_of 1 rfl (Nat.le_of_ble_eq_true rfl) ?_
  show EX I_X5_stick 0 0 none _ 0 [some (.ref (a + 0)), some (.int (iI s)), some (.int (iI h)), none] [] _ 0 0
  refine x_iload_n dX5_stick_0 rfl ?_
  refine x_iconst dX5_stick_1 ?_
  refine x_bipush dX5_stick_2 ?_
  refine x_calliS dX5_stick_4 mk_X5_within ml_X5_54 (k_within _ s 0 19 his (by decide) (by decide)) rfl (fun x4 w4 h4 => ?_)
  obtain ⟨hb4, rfl⟩ := h4
  by_cases c4 : 0 ≤ s ∧ s ≤ 19
  · rw [if_pos c4] at hb4
    subst hb4
    refine x_if_eq 19 dX5_stick_7 (fun h7 => absurd h7 (by decide)) (fun h7 => ?_)
    refine x_iload_n dX5_stick_10 rfl ?_
    refine x_iconst dX5_stick_11 ?_
    refine x_iconst dX5_stick_12 ?_
    refine x_calliS dX5_stick_13 mk_X5_within ml_X5_54 (k_within _ h 0 2 hih (by decide) (by decide)) rfl (fun x13 w13 h13 => ?_)
    obtain ⟨hb13, rfl⟩ := h13
    by_cases c13 : 0 ≤ h ∧ h ≤ 2
    · rw [if_pos c13] at hb13
      subst hb13
      refine x_if_ne 21 dX5_stick_16 (fun h16 => ?_) (fun h16 => absurd h16 (by decide))
      refine x_aload_n dX5_stick_21 rfl ?_
      refine x_getfield 0 dX5_stick_22 fg_X5_36 hP rfl rfl ?_
      refine x_callvV dX5_stick_25 mk_X0_forget ml_X5_74 (k_forget hP (oB a ik) (tk z) (tk y) z y t so st td sk le ot sn pk R) ((wg_app hP 13).trans rfl) rfl (fun w25 h25 => ?_)
      subst h25
      refine x_aload_n dX5_stick_28 rfl ?_
      refine x_getfield 0 dX5_stick_29 fg_X5_12 hP rfl rfl ?_
      refine x_iload_n dX5_stick_32 rfl ?_
      refine x_top (show ((s.toNat : Nat) : Int) = s by omega).symm ?_
      refine x_calliV dX5_stick_33 mk_X4_howIs ml_X5_90 (v_howIs hP (oB a ik) (tk z) (tk y) z y t so st td (0) le ot sn (0) R s.toNat (by omega) (hzc.2.2.2.2.2.2.2.1 s.toNat (by omega))) ((wg_app hP 1).trans rfl) rfl (fun x33 w33 h33 => ?_)
      obtain ⟨rfl, rfl⟩ := h33
      refine x_ist3 dX5_stick_36 ?_
      refine x_aload_n dX5_stick_37 rfl ?_
      refine x_getfield 0 dX5_stick_38 fg_X5_12 hP rfl rfl ?_
      refine x_iload_n dX5_stick_41 rfl ?_
      refine x_top (show ((s.toNat : Nat) : Int) = s by omega).symm ?_
      refine x_iload_n dX5_stick_42 rfl ?_
      refine x_callvV dX5_stick_43 mk_X4_makePin ml_X5_96 (v_makePin hP (oB a ik) (tk z) (tk y) z y t so st td (0) le ot sn (0) R s.toNat (by omega) h (by omega)) ((wg_app hP 1).trans rfl) rfl (fun w43 h43 => ?_)
      subst h43
      refine x_iload_n dX5_stick_46 rfl ?_
      exact x_iret dX5_stick_47 (⟨by unfold rStk; (repeat' split) <;> first | rfl | omega | (exfalso; omega), by rw [show sStk z s h = updI (updI z (50 + s.toNat) h) (30 + s.toNat) (if h = 1 then 1 else if h = 2 then 0 else z (30 + s.toNat)) from if_pos (by omega)]; exact BI_w (fun i h1 h2 => by (simp (disch := omega) only [mDoes, mOut, updI_n, updI_e])) (CI_0 _ _ _ _ _ _ _)⟩)
    · rw [if_neg c13] at hb13
      subst hb13
      refine x_if_ne 21 dX5_stick_16 (fun h16 => absurd h16 (by decide)) (fun h16 => ?_)
      refine x_iconst dX5_stick_19 ?_
      exact x_iret dX5_stick_20 (⟨by unfold rStk; (repeat' split) <;> first | rfl | omega | (exfalso; omega), by rw [show sStk z s h = z from (by unfold sStk; (repeat' split) <;> first | rfl | (exfalso; omega))]; exact hB⟩)
  · rw [if_neg c4] at hb4
    subst hb4
    refine x_if_eq 19 dX5_stick_7 (fun h7 => ?_) (fun h7 => absurd h7 (by decide))
    refine x_iconst dX5_stick_19 ?_
    exact x_iret dX5_stick_20 (⟨by unfold rStk; (repeat' split) <;> first | rfl | omega | (exfalso; omega), by rw [show sStk z s h = z from (by unfold sStk; (repeat' split) <;> first | rfl | (exfalso; omega))]; exact hB⟩)
set_option maxRecDepth 100000 in
set_option maxHeartbeats 4000000 in
theorem b_prices {P : AW} {a : Nat} (hP : P.length = a) (ik : Int) (z y t so st : Nat → Int) (td sk le ot sn pk : Int) (R : AW) (hA : ZA z) (h0 : z 0 ≤ 1000000) (hC : CI z td sk so st le ot sn pk) (p q m : Int) (hip : inR p) (hiq : inR q) (him : inR m)  : CTi I_X5_prices 0 0 [.ref (a + 0), .int (iI p), .int (iI q), .int (iI m)] (P ++ bx a ik z y t so st td sk le ot sn pk R) (fun x w' => x = rPri p q m ∧ BI P a ik (sPri z p q m) y R w') := by
  have hB : BI P a ik z y R (P ++ bx a ik z y t so st td sk le ot sn pk R) := ⟨t, so, st, td, sk, le, ot, sn, pk, rfl, hC⟩
  have hR := hA.1
  have hzc := hA.2.1
  refine CT_of 0 rfl (Nat.le_of_ble_eq_true rfl) ?_
  show EX I_X5_prices 0 0 none _ 0 [some (.ref (a + 0)), some (.int (iI p)), some (.int (iI q)), some (.int (iI m))] [] _ 0 0
  refine x_iload_n dX5_prices_0 rfl ?_
  refine x_iconst dX5_prices_1 ?_
  refine x_bipush dX5_prices_2 ?_
  refine x_calliS dX5_prices_4 mk_X5_within ml_X5_54 (k_within _ p 1 99 hip (by decide) (by decide)) rfl (fun x4 w4 h4 => ?_)
  obtain ⟨hb4, rfl⟩ := h4
  by_cases c4 : 1 ≤ p ∧ p ≤ 99
  · rw [if_pos c4] at hb4
    subst hb4
    refine x_if_eq 31 dX5_prices_7 (fun h7 => absurd h7 (by decide)) (fun h7 => ?_)
    refine x_iload_n dX5_prices_10 rfl ?_
    refine x_iload_n dX5_prices_11 rfl ?_
    refine x_sipush dX5_prices_12 ?_
    refine x_calliS dX5_prices_15 mk_X5_within ml_X5_54 (k_within _ q p 999 hiq hip (by decide)) rfl (fun x15 w15 h15 => ?_)
    obtain ⟨hb15, rfl⟩ := h15
    by_cases c15 : p ≤ q ∧ q ≤ 999
    · rw [if_pos c15] at hb15
      subst hb15
      refine x_if_eq 31 dX5_prices_18 (fun h18 => absurd h18 (by decide)) (fun h18 => ?_)
      refine x_iload_n dX5_prices_21 rfl ?_
      refine x_iconst dX5_prices_22 ?_
      refine x_bipush dX5_prices_23 ?_
      refine x_calliS dX5_prices_25 mk_X5_within ml_X5_54 (k_within _ m 1 20 him (by decide) (by decide)) rfl (fun x25 w25 h25 => ?_)
      obtain ⟨hb25, rfl⟩ := h25
      by_cases c25 : 1 ≤ m ∧ m ≤ 20
      · rw [if_pos c25] at hb25
        subst hb25
        refine x_if_ne 33 dX5_prices_28 (fun h28 => ?_) (fun h28 => absurd h28 (by decide))
        refine x_aload_n dX5_prices_33 rfl ?_
        refine x_getfield 0 dX5_prices_34 fg_X5_19 hP rfl rfl ?_
        refine x_iload_n dX5_prices_37 rfl ?_
        refine x_iload_n dX5_prices_38 rfl ?_
        refine x_iload_n dX5_prices_39 rfl ?_
        refine x_callvV dX5_prices_40 mk_X3_newPrices ml_X5_100 (v_newPrices hP (oB a ik) (tk y) z z y t so st td sk le ot sn pk R p q m) ((wg_app hP 6).trans rfl) rfl (fun w40 h40 => ?_)
        subst h40
        refine x_iconst dX5_prices_43 ?_
        exact x_iret dX5_prices_44 (⟨by unfold rPri; (repeat' split) <;> first | rfl | omega | (exfalso; omega), by rw [show sPri z p q m = updI (updI (updI (updI z 11 p) 12 q) 13 m) 9 0 from if_pos (by omega)]; exact BI_m (fun i h1 => by (simp (disch := omega) only [mDoes, mOut, updI_n, updI_e])) (CI_keep hA h0 (XR_mon _ (fun i h1 => by (simp (disch := omega) only [mDoes, mOut, updI_n, updI_e]))) hC)⟩)
      · rw [if_neg c25] at hb25
        subst hb25
        refine x_if_ne 33 dX5_prices_28 (fun h28 => absurd h28 (by decide)) (fun h28 => ?_)
        refine x_iconst dX5_prices_31 ?_
        exact x_iret dX5_prices_32 (⟨by unfold rPri; (repeat' split) <;> first | rfl | omega | (exfalso; omega), by rw [show sPri z p q m = z from (by unfold sPri; (repeat' split) <;> first | rfl | (exfalso; omega))]; exact hB⟩)
    · rw [if_neg c15] at hb15
      subst hb15
      refine x_if_eq 31 dX5_prices_18 (fun h18 => ?_) (fun h18 => absurd h18 (by decide))
      refine x_iconst dX5_prices_31 ?_
      exact x_iret dX5_prices_32 (⟨by unfold rPri; (repeat' split) <;> first | rfl | omega | (exfalso; omega), by rw [show sPri z p q m = z from (by unfold sPri; (repeat' split) <;> first | rfl | (exfalso; omega))]; exact hB⟩)
  · rw [if_neg c4] at hb4
    subst hb4
    refine x_if_eq 31 dX5_prices_7 (fun h7 => ?_) (fun h7 => absurd h7 (by decide))
    refine x_iconst dX5_prices_31 ?_
    exact x_iret dX5_prices_32 (⟨by unfold rPri; (repeat' split) <;> first | rfl | omega | (exfalso; omega), by rw [show sPri z p q m = z from (by unfold sPri; (repeat' split) <;> first | rfl | (exfalso; omega))]; exact hB⟩)
set_option maxRecDepth 100000 in
set_option maxHeartbeats 4000000 in
theorem b_coin {P : AW} {a : Nat} (hP : P.length = a) (ik : Int) (z y t so st : Nat → Int) (td sk le ot sn pk : Int) (R : AW) (hA : ZA z) (h0 : z 0 ≤ 1000000) (hC : CI z td sk so st le ot sn pk) (v : Int) (hiv : inR v) (o9 : 0 ≤ z 9 ∧ z 9 ≤ 80000000) (o11 : 1 ≤ z 11 ∧ z 11 ≤ 99) (o12 : 1 ≤ z 12 ∧ z 12 ≤ 999) (o13 : 1 ≤ z 13 ∧ z 13 ≤ 20) : CTi I_X5_coin 0 0 [.ref (a + 0), .int (iI v)] (P ++ bx a ik z y t so st td sk le ot sn pk R) (fun x w' => x = rCoin z v ∧ BI P a ik (sCoin z v) y R w') := by
  have hB : BI P a ik z y R (P ++ bx a ik z y t so st td sk le ot sn pk R) := ⟨t, so, st, td, sk, le, ot, sn, pk, rfl, hC⟩
  have hR := hA.1
  have hzc := hA.2.1
  refine CT_of 0 rfl (Nat.le_of_ble_eq_true rfl) ?_
  show EX I_X5_coin 0 0 none _ 0 [some (.ref (a + 0)), some (.int (iI v))] [] _ 0 0
  refine x_iload_n dX5_coin_0 rfl ?_
  refine x_iconst dX5_coin_1 ?_
  refine x_bipush dX5_coin_2 ?_
  refine x_calliS dX5_coin_4 mk_X5_within ml_X5_54 (k_within _ v 1 99 hiv (by decide) (by decide)) rfl (fun x4 w4 h4 => ?_)
  obtain ⟨hb4, rfl⟩ := h4
  by_cases c4 : 1 ≤ v ∧ v ≤ 99
  · rw [if_pos c4] at hb4
    subst hb4
    refine x_if_ne 12 dX5_coin_7 (fun h7 => ?_) (fun h7 => absurd h7 (by decide))
    refine x_aload_n dX5_coin_12 rfl ?_
    refine x_getfield 0 dX5_coin_13 fg_X5_19 hP rfl rfl ?_
    refine x_iload_n dX5_coin_16 rfl ?_
    refine x_callvV dX5_coin_17 mk_X3_take ml_X5_104 (v_take hP (oB a ik) (tk y) z z y t so st td sk le ot sn pk R v (by omega) o9 o11 o12 o13) ((wg_app hP 6).trans rfl) rfl (fun w17 h17 => ?_)
    subst h17
    refine x_aload_n dX5_coin_20 rfl ?_
    refine x_getfield 0 dX5_coin_21 fg_X5_19 hP rfl rfl ?_
    refine x_getfield 6 dX5_coin_24 fg_X5_108 hP rfl rfl ?_
    exact x_iret dX5_coin_27 (⟨by rw [show rCoin z v = z 7 + mDue z v from if_pos (by omega)]; exact updI_e _ _ _, by rw [show sCoin z v = updI (mPaid z v) 7 (z 7 + mDue z v) from if_pos (by omega)]; exact BI_m (fun i h1 => by (simp (disch := omega) only [mPaid, updI_n, updI_e])) (CI_keep hA h0 (XR_mon _ (fun i h1 => by (simp (disch := omega) only [mPaid, updI_n, updI_e]))) hC)⟩)
  · rw [if_neg c4] at hb4
    subst hb4
    refine x_if_ne 12 dX5_coin_7 (fun h7 => absurd h7 (by decide)) (fun h7 => ?_)
    refine x_iconst dX5_coin_10 ?_
    exact x_iret dX5_coin_11 (⟨by unfold rCoin; (repeat' split) <;> first | rfl | omega | (exfalso; omega), by rw [show sCoin z v = z from (by unfold sCoin; (repeat' split) <;> first | rfl | (exfalso; omega))]; exact hB⟩)
set_option maxRecDepth 100000 in
set_option maxHeartbeats 4000000 in
theorem b_set {P : AW} {a : Nat} (hP : P.length = a) (ik : Int) (z y t so st : Nat → Int) (td sk le ot sn pk : Int) (R : AW) (hA : ZA z) (h0 : z 0 ≤ 1000000) (hC : CI z td sk so st le ot sn pk) (h v : Int) (hih : inR h) (hiv : inR v)  : CTi I_X5_set 0 0 [.ref (a + 0), .int (iI h), .int (iI v)] (P ++ bx a ik z y t so st td sk le ot sn pk R) (fun x w' => x = rSet z h v ∧ BI P a ik (sSet z h v) y R w') := by
  have hB : BI P a ik z y R (P ++ bx a ik z y t so st td sk le ot sn pk R) := ⟨t, so, st, td, sk, le, ot, sn, pk, rfl, hC⟩
  have hR := hA.1
  have hzc := hA.2.1
  refine CT_of 1 rfl (Nat.le_of_ble_eq_true rfl) ?_
  show EX I_X5_set 0 0 none _ 0 [some (.ref (a + 0)), some (.int (iI h)), some (.int (iI v)), none] [] _ 0 0
  refine x_iload_n dX5_set_0 rfl ?_
  rcases (show h = 0 ∨ h = 1 ∨ (¬ h = 0 ∧ ¬ h = 1) by omega) with h1 | h1 | h1
  · refine x_lookup (off := 27) 28 dX5_set_1 (by rw [h1]; first | done | rfl | decide) ?_
    refine x_iload_n dX5_set_28 rfl ?_
    refine x_iconst dX5_set_29 ?_
    refine x_iconst dX5_set_30 ?_
    refine x_calliS dX5_set_31 mk_X5_within ml_X5_54 (k_within _ v 0 1 hiv (by decide) (by decide)) rfl (fun x31 w31 h31 => ?_)
    obtain ⟨hb31, rfl⟩ := h31
    by_cases c31 : 0 ≤ v ∧ v ≤ 1
    · rw [if_pos c31] at hb31
      subst hb31
      refine x_if_ne 39 dX5_set_34 (fun h34 => ?_) (fun h34 => absurd h34 (by decide))
      refine x_aload_n dX5_set_39 rfl ?_
      refine x_getfield 0 dX5_set_40 fg_X5_19 hP rfl rfl ?_
      refine x_getfield 6 dX5_set_43 fg_X5_111 hP rfl rfl ?_
      refine x_ist3 dX5_set_46 ?_
      refine x_aload_n dX5_set_47 rfl ?_
      refine x_getfield 0 dX5_set_48 fg_X5_19 hP rfl rfl ?_
      refine x_iload_n dX5_set_51 rfl ?_
      refine x_putfield 6 dX5_set_52 fl_X5_111 hP rfl (fun _ _ => ⟨rfl, rfl⟩) ?_
      refine x_eqw (w' := P ++ ow a (oB a ik) (tk (updI z 14 v)) (tk y) z y t so st td sk le ot sn pk R) (by rw [← tk_fin (z := updI z 14 v) (x11 := z 11) (x12 := z 12) (x13 := z 13) (x9 := z 9) (x7 := z 7) (x8 := z 8) (x10 := z 10) (x14 := v) (by (simp (disch := omega) only [mDoes, mOut, updI_n, updI_e])) (by (simp (disch := omega) only [mDoes, mOut, updI_n, updI_e])) (by (simp (disch := omega) only [mDoes, mOut, updI_n, updI_e])) (by (simp (disch := omega) only [mDoes, mOut, updI_n, updI_e])) (by (simp (disch := omega) only [mDoes, mOut, updI_n, updI_e])) (by (simp (disch := omega) only [mDoes, mOut, updI_n, updI_e])) (by (simp (disch := omega) only [mDoes, mOut, updI_n, updI_e])) (by (simp (disch := omega) only [mDoes, mOut, updI_n, updI_e]))]; rfl) ?_
      refine x_iload_n dX5_set_55 rfl ?_
      exact x_iret dX5_set_56 (⟨by unfold rSet; (repeat' split) <;> first | rfl | omega | (exfalso; omega), by rw [show sSet z h v = updI z 14 v from if_pos (by omega)]; exact BI_m (fun i h1 => by (simp (disch := omega) only [mDoes, mOut, updI_n, updI_e])) (CI_keep hA h0 (XR_mon _ (fun i h1 => by (simp (disch := omega) only [mDoes, mOut, updI_n, updI_e]))) hC)⟩)
    · rw [if_neg c31] at hb31
      subst hb31
      refine x_if_ne 39 dX5_set_34 (fun h34 => absurd h34 (by decide)) (fun h34 => ?_)
      refine x_iconst dX5_set_37 ?_
      exact x_iret dX5_set_38 (⟨by unfold rSet; (repeat' split) <;> first | rfl | omega | (exfalso; omega), by rw [show sSet z h v = z from (by unfold sSet; (repeat' split) <;> first | rfl | (exfalso; omega))]; exact hB⟩)
  · refine x_lookup (off := 56) 57 dX5_set_1 (by rw [h1]; first | done | rfl | decide) ?_
    refine x_iload_n dX5_set_57 rfl ?_
    refine x_iconst dX5_set_58 ?_
    refine x_bipush dX5_set_59 ?_
    refine x_calliS dX5_set_61 mk_X5_within ml_X5_54 (k_within _ v 1 99 hiv (by decide) (by decide)) rfl (fun x61 w61 h61 => ?_)
    obtain ⟨hb61, rfl⟩ := h61
    by_cases c61 : 1 ≤ v ∧ v ≤ 99
    · rw [if_pos c61] at hb61
      subst hb61
      refine x_if_ne 69 dX5_set_64 (fun h64 => ?_) (fun h64 => absurd h64 (by decide))
      refine x_aload_n dX5_set_69 rfl ?_
      refine x_getfield 0 dX5_set_70 fg_X5_36 hP rfl rfl ?_
      refine x_callvV dX5_set_73 mk_X0_forget ml_X5_74 (k_forget hP (oB a ik) (tk z) (tk y) z y t so st td sk le ot sn pk R) ((wg_app hP 13).trans rfl) rfl (fun w73 h73 => ?_)
      subst h73
      refine x_aload_n dX5_set_76 rfl ?_
      refine x_getfield 0 dX5_set_77 fg_X5_12 hP rfl rfl ?_
      refine x_getfield 1 dX5_set_80 fg_X5_114 hP rfl rfl ?_
      refine x_ist3 dX5_set_83 ?_
      refine x_aload_n dX5_set_84 rfl ?_
      refine x_getfield 0 dX5_set_85 fg_X5_12 hP rfl rfl ?_
      refine x_iload_n dX5_set_88 rfl ?_
      refine x_putfield 1 dX5_set_89 fl_X5_114 hP rfl (fun _ _ => ⟨rfl, rfl⟩) ?_
      refine x_wk1 hP (updI z 15 v) (fun j hj => by (simp (disch := omega) only [mDoes, mOut, updI_n, updI_e])) (fun j hj => by (simp (disch := omega) only [mDoes, mOut, updI_n, updI_e])) (fun j hj => by (simp (disch := omega) only [mDoes, mOut, updI_n, updI_e])) (fun j hj => by (simp (disch := omega) only [mDoes, mOut, updI_n, updI_e])) (by (simp (disch := omega) only [mDoes, mOut, updI_n, updI_e])) (pF_x (fun t ht => by (simp (disch := omega) only [mDoes, mOut, updI_n, updI_e]))) (iF_x (fun t ht => by (simp (disch := omega) only [mDoes, mOut, updI_n, updI_e]))) (oF_x (fun t ht => by (simp (disch := omega) only [mDoes, mOut, updI_n, updI_e]))) (by (simp (disch := omega) only [mDoes, mOut, updI_n, updI_e])) (by (simp (disch := omega) only [mDoes, mOut, updI_n, updI_e])) (by (simp (disch := omega) only [mDoes, mOut, updI_n, updI_e])) (by (simp (disch := omega) only [mDoes, mOut, updI_n, updI_e])) (by (simp (disch := omega) only [mDoes, mOut, updI_n, updI_e])) (by (simp (disch := omega) only [mDoes, mOut, updI_n, updI_e])) (by (simp (disch := omega) only [mDoes, mOut, updI_n, updI_e])) (by (simp (disch := omega) only [mDoes, mOut, updI_n, updI_e])) ?_
      refine x_iload_n dX5_set_92 rfl ?_
      exact x_iret dX5_set_93 (⟨by unfold rSet; (repeat' split) <;> first | rfl | omega | (exfalso; omega), by rw [show sSet z h v = updI z 15 v from (if_neg (by omega)).trans (if_pos (by omega))]; exact BI_w (fun i h1 h2 => by (simp (disch := omega) only [mDoes, mOut, updI_n, updI_e])) (CI_0 _ _ _ _ _ _ _)⟩)
    · rw [if_neg c61] at hb61
      subst hb61
      refine x_if_ne 69 dX5_set_64 (fun h64 => absurd h64 (by decide)) (fun h64 => ?_)
      refine x_iconst dX5_set_67 ?_
      exact x_iret dX5_set_68 (⟨by unfold rSet; (repeat' split) <;> first | rfl | omega | (exfalso; omega), by rw [show sSet z h v = z from (by unfold sSet; (repeat' split) <;> first | rfl | (exfalso; omega))]; exact hB⟩)
  · refine x_lookup (off := 93) 94 dX5_set_1 (by simp [Op.lookupswitch.offset, h1]; first | done | omega) ?_
    refine x_iconst dX5_set_94 ?_
    exact x_iret dX5_set_95 (⟨by unfold rSet; (repeat' split) <;> first | rfl | omega | (exfalso; omega), by rw [show sSet z h v = z from (by unfold sSet; (repeat' split) <;> first | rfl | (exfalso; omega))]; exact hB⟩)
set_option maxRecDepth 100000 in
set_option maxHeartbeats 4000000 in
theorem b_carriage {P : AW} {a : Nat} (hP : P.length = a) (ik : Int) (z y t so st : Nat → Int) (td sk le ot sn pk : Int) (R : AW) (hA : ZA z) (h0 : z 0 ≤ 1000000) (hC : CI z td sk so st le ot sn pk) (h : Int) (hih : inR h)  : CTi I_X5_carriage 0 0 [.ref (a + 0), .int (iI h)] (P ++ bx a ik z y t so st td sk le ot sn pk R) (fun x w' => x = rCar z h ∧ BI P a ik (z) y R w') := by
  have hB : BI P a ik z y R (P ++ bx a ik z y t so st td sk le ot sn pk R) := ⟨t, so, st, td, sk, le, ot, sn, pk, rfl, hC⟩
  have hR := hA.1
  have hzc := hA.2.1
  have hz2 := hzc.2.1
  refine CT_of 0 rfl (Nat.le_of_ble_eq_true rfl) ?_
  show EX I_X5_carriage 0 0 none _ 0 [some (.ref (a + 0)), some (.int (iI h))] [] _ 0 0
  refine x_iload_n dX5_carriage_0 rfl ?_
  rcases (show h = 0 ∨ h = 1 ∨ h = 2 ∨ h = 3 ∨ (h < 0 ∨ 3 < h) by omega) with h1 | h1 | h1 | h1 | h1
  · refine x_tsIn 0 32 dX5_carriage_1 (by omega) ?_
    refine x_aload_n dX5_carriage_32 rfl ?_
    refine x_getfield 0 dX5_carriage_33 fg_X5_12 hP rfl rfl ?_
    refine x_getfield 1 dX5_carriage_36 fg_X5_134 hP rfl rfl ?_
    exact x_iret dX5_carriage_39 (⟨by rw [h1]; rfl, hB⟩)
  · refine x_tsIn 1 40 dX5_carriage_1 (by omega) ?_
    refine x_aload_n dX5_carriage_40 rfl ?_
    refine x_getfield 0 dX5_carriage_41 fg_X5_12 hP rfl rfl ?_
    refine x_getfield 1 dX5_carriage_44 fg_X5_137 hP rfl rfl ?_
    refine x_if_eq 54 dX5_carriage_47 (fun h47 => ?_) (fun h47 => ?_) (ha := by omega)
    · refine x_iconst dX5_carriage_54 ?_
      exact x_iret dX5_carriage_55 (⟨by rw [h1]; show _ = z 2; omega, hB⟩)
    · refine x_iconst dX5_carriage_50 ?_
      refine x_goto 55 dX5_carriage_51 ?_
      exact x_iret dX5_carriage_55 (⟨by rw [h1]; show _ = z 2; omega, hB⟩)
  · refine x_tsIn 2 56 dX5_carriage_1 (by omega) ?_
    refine x_aload_n dX5_carriage_56 rfl ?_
    refine x_getfield 0 dX5_carriage_57 fg_X5_12 hP rfl rfl ?_
    refine x_getfield 1 dX5_carriage_60 fg_X5_140 hP rfl rfl ?_
    exact x_iret dX5_carriage_63 (⟨by rw [h1]; rfl, hB⟩)
  · refine x_tsIn 3 64 dX5_carriage_1 (by omega) ?_
    refine x_aload_n dX5_carriage_64 rfl ?_
    refine x_getfield 0 dX5_carriage_65 fg_X5_12 hP rfl rfl ?_
    refine x_getfield 1 dX5_carriage_68 fg_X5_143 hP rfl rfl ?_
    exact x_iret dX5_carriage_71 (⟨by rw [h1]; rfl, hB⟩)
  · refine x_tsOut 72 dX5_carriage_1 h1 ?_
    refine x_iconst dX5_carriage_72 ?_
    exact x_iret dX5_carriage_73 (⟨by unfold rCar; rw [if_neg (by omega)], hB⟩)
