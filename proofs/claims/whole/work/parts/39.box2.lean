/-! ===== the class: the box, second part ===== -/
theorem gP_m {z : Nat → Int} (hd : ZD z) {m : Int} (hm : 1 ≤ m) : 1 ≤ gP z m ∧ ((gP z m : Nat) : Int) ≤ m := by
  obtain ⟨d1, d2, d3, d4, d5, d6, d7⟩ := hd
  unfold gP
  (repeat' split) <;> omega
theorem ticks_add (z : Nat → Int) (g : Nat) : ∀ h : Nat, mTicks (mTicks z g) h = mTicks z (g + h)
  | 0 => rfl
  | h + 1 => by
    show mTick (mTicks (mTicks z g) h) = mTick (mTicks z (g + h))
    rw [ticks_add z g h]
theorem zk_p (z : Nat → Int) (s : Nat) (v w : Int) (t : Nat) : updI (updI (updI z (30 + s) 1) 8 v) 7 w (30 + t) = if t = s then 1 else z (30 + t) := by
  rw [updI_n (by omega), updI_n (by omega)]
  unfold updI
  by_cases q : t = s
  · rw [if_pos (by omega), if_pos q]
  · rw [if_neg (by omega), if_neg q]
theorem btS_n {z : Nat → Int} {p q : Nat} {s : Int × Int × Int} (h : (s.2.1 = -4 ∧ s.2.2 = -4) ∨ 0 ≤ s.2.1) : ((btS z p q s).2.1 = -4 ∧ (btS z p q s).2.2 = -4) ∨ 0 ≤ (btS z p q s).2.1 := by
  unfold btS
  (repeat' split) <;> first | exact h | exact Or.inr (show (0 : Int) ≤ (p : Int) by omega)
theorem btF_n {z : Nat → Int} {p : Nat} : ∀ (r q : Nat) (s : Int × Int × Int), (s.2.1 = -4 ∧ s.2.2 = -4) ∨ 0 ≤ s.2.1 → ((btF z p r q s).2.1 = -4 ∧ (btF z p r q s).2.2 = -4) ∨ 0 ≤ (btF z p r q s).2.1
  | 0, _, _, h => h
  | r + 1, q, s, h => btF_n r (q + 1) _ (btS_n h)
theorem btG_n {z : Nat → Int} : ∀ (r p : Nat) (s : Int × Int × Int), (s.2.1 = -4 ∧ s.2.2 = -4) ∨ 0 ≤ s.2.1 → ((btG z r p s).2.1 = -4 ∧ (btG z r p s).2.2 = -4) ∨ 0 ≤ (btG z r p s).2.1
  | 0, _, _, h => h
  | r + 1, p, s, h => btG_n r (p + 1) _ (btF_n _ _ _ h)
set_option maxRecDepth 100000 in
set_option maxHeartbeats 4000000 in
theorem b_change {P : AW} {a : Nat} (hP : P.length = a) (ik : Int) (z y t so st : Nat → Int) (td sk le ot sn pk : Int) (R : AW) (hA : ZA z) (h0 : z 0 ≤ 1000000) (hC : CI z td sk so st le ot sn pk) (p r : Int) (hip : inR p) (hir : inR r)  : CTi I_X5_change 0 0 [.ref (a + 0), .int (iI p), .int (iI r)] (P ++ bx a ik z y t so st td sk le ot sn pk R) (fun x w' => x = rChg z p r ∧ BI P a ik (sChg z p r) y R w') := by
  have hB : BI P a ik z y R (P ++ bx a ik z y t so st td sk le ot sn pk R) := ⟨t, so, st, td, sk, le, ot, sn, pk, rfl, hC⟩
  have hR := hA.1
  have hzc := hA.2.1
  have hm := hzc.2.2.2.1
  have hpo := mPlaceOf_b z r 10
  have hfb := fPl_b z r 10 0 (by decide)
  have hf : (fPl z r 10 0 = mPlaceOf z r 10 ∧ 0 ≤ r) ∨ (fPl z r 10 0 = -4 ∧ r < 0) ∨ r = -4 := by have h := fPl_m hzc r; split at h <;> omega
  refine CT_of 2 rfl (Nat.le_of_ble_eq_true rfl) ?_
  show EX I_X5_change 0 0 none _ 0 [some (.ref (a + 0)), some (.int (iI p)), some (.int (iI r)), none, none] [] _ 0 0
  refine x_iload_n dX5_change_0 rfl ?_
  refine x_iconst dX5_change_1 ?_
  refine x_bipush dX5_change_2 ?_
  refine x_calliS dX5_change_4 mk_X5_within ml_X5_54 (k_within _ p 0 9 hip (by decide) (by decide)) rfl (fun x4 w4 h4 => ?_)
  obtain ⟨hb4, rfl⟩ := h4
  by_cases c4 : 0 ≤ p ∧ p ≤ 9
  · rw [if_pos c4] at hb4
    subst hb4
    refine x_if_eq 27 dX5_change_7 (fun h7 => absurd h7 (by decide)) (fun h7 => ?_)
    refine x_iload_n dX5_change_10 rfl ?_
    refine x_iconst dX5_change_11 ?_
    refine x_aload_n dX5_change_12 rfl ?_
    refine x_getfield 0 dX5_change_13 fg_X5_12 hP rfl rfl ?_
    refine x_getfield 1 dX5_change_16 fg_X5_58 hP rfl rfl ?_
    refine x_iconst dX5_change_19 ?_
    refine x_isub dX5_change_20 ?_
    refine x_calliS dX5_change_21 mk_X5_within ml_X5_54 (k_within _ r (-1) (z 16 - 1) hir (by decide) (by omega)) rfl (fun x21 w21 h21 => ?_)
    obtain ⟨hb21, rfl⟩ := h21
    by_cases c21 : (-1) ≤ r ∧ r ≤ (z 16 - 1)
    · rw [if_pos c21] at hb21
      subst hb21
      refine x_if_ne 29 dX5_change_24 (fun h24 => ?_) (fun h24 => absurd h24 (by decide))
      refine x_aload_n dX5_change_29 rfl ?_
      refine x_getfield 0 dX5_change_30 fg_X5_12 hP rfl rfl ?_
      refine x_iload_n dX5_change_33 rfl ?_
      refine x_calliV dX5_change_34 mk_X4_placeOf ml_X5_66 (v_placeOf hP (oB a ik) (tk z) (tk y) z y t so st td sk le ot sn pk R hR r hir) ((wg_app hP 1).trans rfl) rfl (fun x34 w34 h34 => ?_)
      obtain ⟨rfl, rfl⟩ := h34
      refine x_ist3 dX5_change_37 ?_
      refine x_aload_n dX5_change_38 rfl ?_
      refine x_getfield 0 dX5_change_39 fg_X5_12 hP rfl rfl ?_
      refine x_iload_n dX5_change_42 rfl ?_
      refine x_calliV dX5_change_43 mk_X4_isOut ml_X5_70 (v_isOut hP (oB a ik) (tk z) (tk y) z y t so st td sk le ot sn pk R hR p hip) ((wg_app hP 1).trans rfl) rfl (fun x43 w43 h43 => ?_)
      obtain ⟨hb43, rfl⟩ := h43
      by_cases c43 : z 1 = p ∧ 3 ≤ z 3
      · rw [if_pos c43] at hb43
        subst hb43
        refine x_if_ne 60 dX5_change_46 (fun h46 => ?_) (fun h46 => absurd h46 (by decide))
        refine x_bipush dX5_change_60 ?_
        exact x_iret dX5_change_62 (⟨by unfold rChg; (repeat' split) <;> first | rfl | omega | (exfalso; omega), by rw [show sChg z p r = z from (by unfold sChg; (repeat' split) <;> first | rfl | (exfalso; omega))]; exact hB⟩)
      · rw [if_neg c43] at hb43
        subst hb43
        refine x_if_ne 60 dX5_change_46 (fun h46 => absurd h46 (by decide)) (fun h46 => ?_)
        refine x_iload_n dX5_change_49 rfl ?_
        refine x_bipush dX5_change_50 ?_
        refine x_icmp_eq 63 dX5_change_52 (fun h52 => ?_) (fun h52 => ?_)
        · refine x_aload_n dX5_change_63 rfl ?_
          refine x_getfield 0 dX5_change_64 fg_X5_36 hP rfl rfl ?_
          refine x_callvV dX5_change_67 mk_X0_forget ml_X5_74 (k_forget hP (oB a ik) (tk z) (tk y) z y t so st td sk le ot sn pk R) ((wg_app hP 13).trans rfl) rfl (fun w67 h67 => ?_)
          subst h67
          refine x_aload_n dX5_change_70 rfl ?_
          refine x_getfield 0 dX5_change_71 fg_X5_12 hP rfl rfl ?_
          refine x_getfield 1 dX5_change_74 fg_X5_77 hP rfl rfl ?_
          refine x_iload_n dX5_change_77 rfl ?_
          refine x_iaload 4 (p.toNat) dX5_change_78 hP rfl ?_
          refine x_ist4 dX5_change_79 ?_
          refine x_aload_n dX5_change_81 rfl ?_
          refine x_getfield 0 dX5_change_82 fg_X5_12 hP rfl rfl ?_
          refine x_getfield 1 dX5_change_85 fg_X5_77 hP rfl rfl ?_
          refine x_iload_n dX5_change_88 rfl ?_
          refine x_iload_n dX5_change_89 rfl ?_
          refine x_if_ge 98 dX5_change_90 (fun h90 => ?_) (fun h90 => ?_)
          · refine x_iload_n dX5_change_98 rfl ?_
            refine x_top (show _ = (if 0 ≤ r then r else -4) by split <;> omega) ?_
            refine x_iastore 4 (p.toNat) dX5_change_99 hP rfl ?_
            refine x_wk1 hP (updI z (20 + p.toNat) (if 0 ≤ r then r else -4)) (fun j hj => by (simp (disch := omega) only [mDoes, mOut, updI_n, updI_e])) (fun j hj => by (simp (disch := omega) only [mDoes, mOut, updI_n, updI_e])) (fun j hj => sl_upd z 20 p.toNat _ j) (fun j hj => by (simp (disch := omega) only [mDoes, mOut, updI_n, updI_e])) (by (simp (disch := omega) only [mDoes, mOut, updI_n, updI_e])) (pF_x (fun t ht => by (simp (disch := omega) only [mDoes, mOut, updI_n, updI_e]))) (iF_x (fun t ht => by (simp (disch := omega) only [mDoes, mOut, updI_n, updI_e]))) (oF_x (fun t ht => by (simp (disch := omega) only [mDoes, mOut, updI_n, updI_e]))) (by (simp (disch := omega) only [mDoes, mOut, updI_n, updI_e])) (by (simp (disch := omega) only [mDoes, mOut, updI_n, updI_e])) (by (simp (disch := omega) only [mDoes, mOut, updI_n, updI_e])) (by (simp (disch := omega) only [mDoes, mOut, updI_n, updI_e])) (by (simp (disch := omega) only [mDoes, mOut, updI_n, updI_e])) (by (simp (disch := omega) only [mDoes, mOut, updI_n, updI_e])) (by (simp (disch := omega) only [mDoes, mOut, updI_n, updI_e])) (by (simp (disch := omega) only [mDoes, mOut, updI_n, updI_e])) ?_
            refine x_iload dX5_change_100 rfl ?_
            exact x_iret dX5_change_102 (⟨by unfold rChg; (repeat' split) <;> first | rfl | omega | (exfalso; omega), by rw [show sChg z p r = updI z (20 + p.toNat) (if 0 ≤ r then r else -4) from if_pos ⟨by omega, by omega⟩]; exact BI_w (fun i h1 h2 => by (simp (disch := omega) only [mDoes, mOut, updI_n, updI_e])) (CI_0 _ _ _ _ _ _ _)⟩)
          · refine x_bipush dX5_change_93 ?_
            refine x_goto 99 dX5_change_95 ?_
            refine x_top (show _ = (if 0 ≤ r then r else -4) by split <;> omega) ?_
            refine x_iastore 4 (p.toNat) dX5_change_99 hP rfl ?_
            refine x_wk1 hP (updI z (20 + p.toNat) (if 0 ≤ r then r else -4)) (fun j hj => by (simp (disch := omega) only [mDoes, mOut, updI_n, updI_e])) (fun j hj => by (simp (disch := omega) only [mDoes, mOut, updI_n, updI_e])) (fun j hj => sl_upd z 20 p.toNat _ j) (fun j hj => by (simp (disch := omega) only [mDoes, mOut, updI_n, updI_e])) (by (simp (disch := omega) only [mDoes, mOut, updI_n, updI_e])) (pF_x (fun t ht => by (simp (disch := omega) only [mDoes, mOut, updI_n, updI_e]))) (iF_x (fun t ht => by (simp (disch := omega) only [mDoes, mOut, updI_n, updI_e]))) (oF_x (fun t ht => by (simp (disch := omega) only [mDoes, mOut, updI_n, updI_e]))) (by (simp (disch := omega) only [mDoes, mOut, updI_n, updI_e])) (by (simp (disch := omega) only [mDoes, mOut, updI_n, updI_e])) (by (simp (disch := omega) only [mDoes, mOut, updI_n, updI_e])) (by (simp (disch := omega) only [mDoes, mOut, updI_n, updI_e])) (by (simp (disch := omega) only [mDoes, mOut, updI_n, updI_e])) (by (simp (disch := omega) only [mDoes, mOut, updI_n, updI_e])) (by (simp (disch := omega) only [mDoes, mOut, updI_n, updI_e])) (by (simp (disch := omega) only [mDoes, mOut, updI_n, updI_e])) ?_
            refine x_iload dX5_change_100 rfl ?_
            exact x_iret dX5_change_102 (⟨by unfold rChg; (repeat' split) <;> first | rfl | omega | (exfalso; omega), by rw [show sChg z p r = updI z (20 + p.toNat) (if 0 ≤ r then r else -4) from if_pos ⟨by omega, by omega⟩]; exact BI_w (fun i h1 h2 => by (simp (disch := omega) only [mDoes, mOut, updI_n, updI_e])) (CI_0 _ _ _ _ _ _ _)⟩)
        · refine x_iload_n dX5_change_55 rfl ?_
          refine x_iload_n dX5_change_56 rfl ?_
          refine x_icmp_eq 63 dX5_change_57 (fun h57 => ?_) (fun h57 => ?_)
          · refine x_aload_n dX5_change_63 rfl ?_
            refine x_getfield 0 dX5_change_64 fg_X5_36 hP rfl rfl ?_
            refine x_callvV dX5_change_67 mk_X0_forget ml_X5_74 (k_forget hP (oB a ik) (tk z) (tk y) z y t so st td sk le ot sn pk R) ((wg_app hP 13).trans rfl) rfl (fun w67 h67 => ?_)
            subst h67
            refine x_aload_n dX5_change_70 rfl ?_
            refine x_getfield 0 dX5_change_71 fg_X5_12 hP rfl rfl ?_
            refine x_getfield 1 dX5_change_74 fg_X5_77 hP rfl rfl ?_
            refine x_iload_n dX5_change_77 rfl ?_
            refine x_iaload 4 (p.toNat) dX5_change_78 hP rfl ?_
            refine x_ist4 dX5_change_79 ?_
            refine x_aload_n dX5_change_81 rfl ?_
            refine x_getfield 0 dX5_change_82 fg_X5_12 hP rfl rfl ?_
            refine x_getfield 1 dX5_change_85 fg_X5_77 hP rfl rfl ?_
            refine x_iload_n dX5_change_88 rfl ?_
            refine x_iload_n dX5_change_89 rfl ?_
            refine x_if_ge 98 dX5_change_90 (fun h90 => ?_) (fun h90 => ?_)
            · refine x_iload_n dX5_change_98 rfl ?_
              refine x_top (show _ = (if 0 ≤ r then r else -4) by split <;> omega) ?_
              refine x_iastore 4 (p.toNat) dX5_change_99 hP rfl ?_
              refine x_wk1 hP (updI z (20 + p.toNat) (if 0 ≤ r then r else -4)) (fun j hj => by (simp (disch := omega) only [mDoes, mOut, updI_n, updI_e])) (fun j hj => by (simp (disch := omega) only [mDoes, mOut, updI_n, updI_e])) (fun j hj => sl_upd z 20 p.toNat _ j) (fun j hj => by (simp (disch := omega) only [mDoes, mOut, updI_n, updI_e])) (by (simp (disch := omega) only [mDoes, mOut, updI_n, updI_e])) (pF_x (fun t ht => by (simp (disch := omega) only [mDoes, mOut, updI_n, updI_e]))) (iF_x (fun t ht => by (simp (disch := omega) only [mDoes, mOut, updI_n, updI_e]))) (oF_x (fun t ht => by (simp (disch := omega) only [mDoes, mOut, updI_n, updI_e]))) (by (simp (disch := omega) only [mDoes, mOut, updI_n, updI_e])) (by (simp (disch := omega) only [mDoes, mOut, updI_n, updI_e])) (by (simp (disch := omega) only [mDoes, mOut, updI_n, updI_e])) (by (simp (disch := omega) only [mDoes, mOut, updI_n, updI_e])) (by (simp (disch := omega) only [mDoes, mOut, updI_n, updI_e])) (by (simp (disch := omega) only [mDoes, mOut, updI_n, updI_e])) (by (simp (disch := omega) only [mDoes, mOut, updI_n, updI_e])) (by (simp (disch := omega) only [mDoes, mOut, updI_n, updI_e])) ?_
              refine x_iload dX5_change_100 rfl ?_
              exact x_iret dX5_change_102 (⟨by unfold rChg; (repeat' split) <;> first | rfl | omega | (exfalso; omega), by rw [show sChg z p r = updI z (20 + p.toNat) (if 0 ≤ r then r else -4) from if_pos ⟨by omega, by omega⟩]; exact BI_w (fun i h1 h2 => by (simp (disch := omega) only [mDoes, mOut, updI_n, updI_e])) (CI_0 _ _ _ _ _ _ _)⟩)
            · refine x_bipush dX5_change_93 ?_
              refine x_goto 99 dX5_change_95 ?_
              refine x_top (show _ = (if 0 ≤ r then r else -4) by split <;> omega) ?_
              refine x_iastore 4 (p.toNat) dX5_change_99 hP rfl ?_
              refine x_wk1 hP (updI z (20 + p.toNat) (if 0 ≤ r then r else -4)) (fun j hj => by (simp (disch := omega) only [mDoes, mOut, updI_n, updI_e])) (fun j hj => by (simp (disch := omega) only [mDoes, mOut, updI_n, updI_e])) (fun j hj => sl_upd z 20 p.toNat _ j) (fun j hj => by (simp (disch := omega) only [mDoes, mOut, updI_n, updI_e])) (by (simp (disch := omega) only [mDoes, mOut, updI_n, updI_e])) (pF_x (fun t ht => by (simp (disch := omega) only [mDoes, mOut, updI_n, updI_e]))) (iF_x (fun t ht => by (simp (disch := omega) only [mDoes, mOut, updI_n, updI_e]))) (oF_x (fun t ht => by (simp (disch := omega) only [mDoes, mOut, updI_n, updI_e]))) (by (simp (disch := omega) only [mDoes, mOut, updI_n, updI_e])) (by (simp (disch := omega) only [mDoes, mOut, updI_n, updI_e])) (by (simp (disch := omega) only [mDoes, mOut, updI_n, updI_e])) (by (simp (disch := omega) only [mDoes, mOut, updI_n, updI_e])) (by (simp (disch := omega) only [mDoes, mOut, updI_n, updI_e])) (by (simp (disch := omega) only [mDoes, mOut, updI_n, updI_e])) (by (simp (disch := omega) only [mDoes, mOut, updI_n, updI_e])) (by (simp (disch := omega) only [mDoes, mOut, updI_n, updI_e])) ?_
              refine x_iload dX5_change_100 rfl ?_
              exact x_iret dX5_change_102 (⟨by unfold rChg; (repeat' split) <;> first | rfl | omega | (exfalso; omega), by rw [show sChg z p r = updI z (20 + p.toNat) (if 0 ≤ r then r else -4) from if_pos ⟨by omega, by omega⟩]; exact BI_w (fun i h1 h2 => by (simp (disch := omega) only [mDoes, mOut, updI_n, updI_e])) (CI_0 _ _ _ _ _ _ _)⟩)
          · refine x_bipush dX5_change_60 ?_
            exact x_iret dX5_change_62 (⟨by unfold rChg; (repeat' split) <;> first | rfl | omega | (exfalso; omega), by rw [show sChg z p r = z from (by unfold sChg; (repeat' split) <;> first | rfl | (exfalso; omega))]; exact hB⟩)
    · rw [if_neg c21] at hb21
      subst hb21
      refine x_if_ne 29 dX5_change_24 (fun h24 => absurd h24 (by decide)) (fun h24 => ?_)
      refine x_iconst dX5_change_27 ?_
      exact x_iret dX5_change_28 (⟨by unfold rChg; (repeat' split) <;> first | rfl | omega | (exfalso; omega), by rw [show sChg z p r = z from (by unfold sChg; (repeat' split) <;> first | rfl | (exfalso; omega))]; exact hB⟩)
  · rw [if_neg c4] at hb4
    subst hb4
    refine x_if_eq 27 dX5_change_7 (fun h7 => ?_) (fun h7 => absurd h7 (by decide))
    refine x_iconst dX5_change_27 ?_
    exact x_iret dX5_change_28 (⟨by unfold rChg; (repeat' split) <;> first | rfl | omega | (exfalso; omega), by rw [show sChg z p r = z from (by unfold sChg; (repeat' split) <;> first | rfl | (exfalso; omega))]; exact hB⟩)
set_option maxRecDepth 100000 in
set_option maxHeartbeats 4000000 in
theorem b_vain {P : AW} {a : Nat} (hP : P.length = a) (ik : Int) (z y t so st : Nat → Int) (td sk le ot sn pk : Int) (R : AW) (hA : ZA z) (h0 : z 0 ≤ 1000000) (hC : CI z td sk so st le ot sn pk)  : CTi I_X5_keyInVain 0 0 [.ref (a + 0)] (P ++ bx a ik z y t so st td sk le ot sn pk R) (fun x w' => x = (if z 14 = 1 then -2 else z 7 - 1) ∧ BI P a ik (if z 14 = 1 then z else updI (updI z 8 (z 8 + 1)) 7 (z 7 - 1)) y R w') := by
  have hB : BI P a ik z y R (P ++ bx a ik z y t so st td sk le ot sn pk R) := ⟨t, so, st, td, sk, le, ot, sn, pk, rfl, hC⟩
  have hR := hA.1
  have hzc := hA.2.1
  refine CT_of 0 rfl (Nat.le_of_ble_eq_true rfl) ?_
  show EX I_X5_keyInVain 0 0 none _ 0 [some (.ref (a + 0))] [] _ 0 0
  refine x_aload_n dX5_keyInVain_0 rfl ?_
  refine x_getfield 0 dX5_keyInVain_1 fg_X5_19 hP rfl rfl ?_
  refine x_getfield 6 dX5_keyInVain_4 fg_X5_111 hP rfl rfl ?_
  refine x_iconst dX5_keyInVain_7 ?_
  refine x_icmp_ne 14 dX5_keyInVain_8 (fun h8 => ?_) (fun h8 => ?_) (ha := hR 14)
  · refine x_aload_n dX5_keyInVain_14 rfl ?_
    refine x_getfield 0 dX5_keyInVain_15 fg_X5_19 hP rfl rfl ?_
    refine x_dup dX5_keyInVain_18 ?_
    refine x_getfield 6 dX5_keyInVain_19 fg_X5_108 hP rfl rfl ?_
    refine x_iconst dX5_keyInVain_22 ?_
    refine x_isub dX5_keyInVain_23 ?_
    refine x_putfield 6 dX5_keyInVain_24 fl_X5_108 hP rfl (fun _ _ => ⟨rfl, rfl⟩) ?_
    refine x_aload_n dX5_keyInVain_27 rfl ?_
    refine x_getfield 0 dX5_keyInVain_28 fg_X5_19 hP rfl rfl ?_
    refine x_dup dX5_keyInVain_31 ?_
    refine x_getfield 6 dX5_keyInVain_32 fg_X5_124 hP rfl rfl ?_
    refine x_iconst dX5_keyInVain_35 ?_
    refine x_iadd dX5_keyInVain_36 ?_
    refine x_putfield 6 dX5_keyInVain_37 fl_X5_124 hP rfl (fun _ _ => ⟨rfl, rfl⟩) ?_
    refine x_eqw (w' := P ++ ow a (oB a ik) (tk (updI (updI z 8 (z 8 + 1)) 7 (z 7 - 1))) (tk y) z y t so st td sk le ot sn pk R) (by rw [← tk_fin (z := updI (updI z 8 (z 8 + 1)) 7 (z 7 - 1)) (x11 := z 11) (x12 := z 12) (x13 := z 13) (x9 := z 9) (x7 := z 7 - 1) (x8 := z 8 + 1) (x10 := z 10) (x14 := z 14) (by (simp (disch := omega) only [mDoes, mOut, updI_n, updI_e]); first | done | omega) (by (simp (disch := omega) only [mDoes, mOut, updI_n, updI_e]); first | done | omega) (by (simp (disch := omega) only [mDoes, mOut, updI_n, updI_e]); first | done | omega) (by (simp (disch := omega) only [mDoes, mOut, updI_n, updI_e]); first | done | omega) (by (simp (disch := omega) only [mDoes, mOut, updI_n, updI_e]); first | done | omega) (by (simp (disch := omega) only [mDoes, mOut, updI_n, updI_e]); first | done | omega) (by (simp (disch := omega) only [mDoes, mOut, updI_n, updI_e]); first | done | omega) (by (simp (disch := omega) only [mDoes, mOut, updI_n, updI_e]); first | done | omega)]; rfl) ?_
    refine x_aload_n dX5_keyInVain_40 rfl ?_
    refine x_getfield 0 dX5_keyInVain_41 fg_X5_19 hP rfl rfl ?_
    refine x_getfield 6 dX5_keyInVain_44 fg_X5_108 hP rfl rfl ?_
    exact x_iret dX5_keyInVain_47 (⟨by rw [if_neg h8]; exact updI_e _ _ _, by rw [if_neg h8]; exact BI_m (fun i h1 => by (simp (disch := omega) only [mDoes, mOut, updI_n, updI_e])) (CI_keep hA h0 (XR_mon _ (fun i h1 => by (simp (disch := omega) only [mDoes, mOut, updI_n, updI_e]))) hC)⟩)
  · refine x_bipush dX5_keyInVain_11 ?_
    exact x_iret dX5_keyInVain_13 (⟨(if_pos h8).symm, by rw [if_pos h8]; exact hB⟩)
set_option maxRecDepth 100000 in
set_option maxHeartbeats 4000000 in
theorem b_key {P : AW} {a : Nat} (hP : P.length = a) (ik : Int) (z y t so st : Nat → Int) (td sk le ot sn pk : Int) (R : AW) (hA : ZA z) (h0 : z 0 ≤ 1000000) (hC : CI z td sk so st le ot sn pk) (s : Int) (his : inR s) (o7 : 0 ≤ z 7) : CTi I_X5_key 0 0 [.ref (a + 0), .int (iI s)] (P ++ bx a ik z y t so st td sk le ot sn pk R) (fun x w' => x = rKey z s ∧ BI P a ik (sKey z s) y R w') := by
  have hB : BI P a ik z y R (P ++ bx a ik z y t so st td sk le ot sn pk R) := ⟨t, so, st, td, sk, le, ot, sn, pk, rfl, hC⟩
  have hR := hA.1
  have hzc := hA.2.1
  refine CT_of 0 rfl (Nat.le_of_ble_eq_true rfl) ?_
  show EX I_X5_key 0 0 none _ 0 [some (.ref (a + 0)), some (.int (iI s))] [] _ 0 0
  refine x_iload_n dX5_key_0 rfl ?_
  refine x_iconst dX5_key_1 ?_
  refine x_bipush dX5_key_2 ?_
  refine x_calliS dX5_key_4 mk_X5_within ml_X5_54 (k_within _ s 0 19 his (by decide) (by decide)) rfl (fun x4 w4 h4 => ?_)
  obtain ⟨hb4, rfl⟩ := h4
  by_cases c4 : 0 ≤ s ∧ s ≤ 19
  · rw [if_pos c4] at hb4
    subst hb4
    refine x_if_ne 12 dX5_key_7 (fun h7 => ?_) (fun h7 => absurd h7 (by decide))
    refine x_aload_n dX5_key_12 rfl ?_
    refine x_getfield 0 dX5_key_13 fg_X5_19 hP rfl rfl ?_
    refine x_getfield 6 dX5_key_16 fg_X5_108 hP rfl rfl ?_
    refine x_iconst dX5_key_19 ?_
    refine x_icmp_ge 26 dX5_key_20 (fun h20 => ?_) (fun h20 => ?_) (ha := hR 7)
    · refine x_aload_n dX5_key_26 rfl ?_
      refine x_getfield 0 dX5_key_27 fg_X5_12 hP rfl rfl ?_
      refine x_iload_n dX5_key_30 rfl ?_
      refine x_top (show ((s.toNat : Nat) : Int) = s by omega).symm ?_
      refine x_calliV dX5_key_31 mk_X4_isIn ml_X5_87 (v_isIn hP (oB a ik) (tk z) (tk y) z y t so st td sk le ot sn pk R s.toNat (by omega)) ((wg_app hP 1).trans rfl) rfl (fun x31 w31 h31 => ?_)
      obtain ⟨hb31, rfl⟩ := h31
      by_cases c31 : z (30 + s.toNat) = 1
      · rw [if_pos c31] at hb31
        subst hb31
        refine x_if_ne 48 dX5_key_34 (fun h34 => ?_) (fun h34 => absurd h34 (by decide))
        refine x_aload_n dX5_key_48 rfl ?_
        refine x_calliV dX5_key_49 mk_X5_keyInVain ml_X5_117 (b_vain hP ik z y t so st td sk le ot sn pk R hA h0 hC) ((wg_app hP 0).trans rfl) rfl (fun x49 w49 h49 => ?_)
        obtain ⟨rfl, hb49⟩ := h49
        exact x_iret dX5_key_52 (⟨by rw [show rKey z s = (if z 14 = 1 then -2 else z 7 - 1) from (if_pos c4).trans ((if_neg (by omega)).trans (if_neg (by omega)))], by rw [show sKey z s = (if z 14 = 1 then z else updI (updI z 8 (z 8 + 1)) 7 (z 7 - 1)) from (if_pos c4).trans ((if_neg (by omega)).trans ((if_neg (by omega)).trans (by rw [updI_id])))]; exact hb49⟩)
      · rw [if_neg c31] at hb31
        subst hb31
        refine x_if_ne 48 dX5_key_34 (fun h34 => absurd h34 (by decide)) (fun h34 => ?_)
        refine x_aload_n dX5_key_37 rfl ?_
        refine x_getfield 0 dX5_key_38 fg_X5_12 hP rfl rfl ?_
        refine x_iload_n dX5_key_41 rfl ?_
        refine x_top (show ((s.toNat : Nat) : Int) = s by omega).symm ?_
        refine x_calliV dX5_key_42 mk_X4_howIs ml_X5_90 (v_howIs hP (oB a ik) (tk z) (tk y) z y t so st td sk le ot sn pk R s.toNat (by omega) (hzc.2.2.2.2.2.2.2.1 s.toNat (by omega))) ((wg_app hP 1).trans rfl) rfl (fun x42 w42 h42 => ?_)
        obtain ⟨rfl, rfl⟩ := h42
        refine x_if_eq 53 dX5_key_45 (fun h45 => ?_) (fun h45 => ?_) (ha := hR _)
        · have hp01 := hzc.2.2.2.2.2.2.1 s.toNat (by omega)
          have hs20 : s.toNat < 20 := by omega
          refine x_aload_n dX5_key_53 rfl ?_
          refine x_getfield 0 dX5_key_54 fg_X5_36 hP rfl rfl ?_
          refine x_callvV dX5_key_57 mk_X0_forget ml_X5_74 (k_forget hP (oB a ik) (tk z) (tk y) z y t so st td sk le ot sn pk R) ((wg_app hP 13).trans rfl) rfl (fun w57 h57 => ?_)
          subst h57
          refine x_aload_n dX5_key_60 rfl ?_
          refine x_getfield 0 dX5_key_61 fg_X5_12 hP rfl rfl ?_
          refine x_dup dX5_key_64 ?_
          refine x_getfield 1 dX5_key_65 fg_X5_121 hP rfl rfl ?_
          refine x_iconst dX5_key_68 ?_
          refine x_iload_n dX5_key_69 rfl ?_
          refine x_top (show ((s.toNat : Nat) : Int) = s by omega).symm ?_
          refine x_ishl dX5_key_70 (show _ = iI (bt1 _) from shl_i _ _) ?_
          refine x_ior dX5_key_71 (mB_or (pF z) s.toNat hs20) ?_
          refine x_putfield 1 dX5_key_72 fl_X5_121 hP rfl (fun _ _ => ⟨rfl, rfl⟩) ?_
          refine x_wk1 hP (updI (updI (updI z (30 + s.toNat) 1) 8 (z 8 + 0)) 7 (z 7 - 1)) (fun j hj => by (simp (disch := omega) only [mDoes, mOut, updI_n, updI_e])) (fun j hj => by (simp (disch := omega) only [mDoes, mOut, updI_n, updI_e])) (fun j hj => by (simp (disch := omega) only [mDoes, mOut, updI_n, updI_e])) (fun j hj => by (simp (disch := omega) only [mDoes, mOut, updI_n, updI_e])) (by (simp (disch := omega) only [mDoes, mOut, updI_n, updI_e])) (mB_x (fun t ht => by simp only [pF, zk_p]; by_cases q : t = s.toNat <;> simp [q])) (iF_x (fun t ht => by (simp (disch := omega) only [mDoes, mOut, updI_n, updI_e]))) (oF_x (fun t ht => by (simp (disch := omega) only [mDoes, mOut, updI_n, updI_e]))) (by (simp (disch := omega) only [mDoes, mOut, updI_n, updI_e])) (by (simp (disch := omega) only [mDoes, mOut, updI_n, updI_e])) (by (simp (disch := omega) only [mDoes, mOut, updI_n, updI_e])) (by (simp (disch := omega) only [mDoes, mOut, updI_n, updI_e])) (by (simp (disch := omega) only [mDoes, mOut, updI_n, updI_e])) (by (simp (disch := omega) only [mDoes, mOut, updI_n, updI_e])) (by (simp (disch := omega) only [mDoes, mOut, updI_n, updI_e])) (by (simp (disch := omega) only [mDoes, mOut, updI_n, updI_e])) ?_
          refine x_aload_n dX5_key_75 rfl ?_
          refine x_getfield 0 dX5_key_76 fg_X5_19 hP rfl rfl ?_
          refine x_dup dX5_key_79 ?_
          refine x_getfield 6 dX5_key_80 fg_X5_108 hP rfl rfl ?_
          refine x_iconst dX5_key_83 ?_
          refine x_isub dX5_key_84 ?_
          refine x_putfield 6 dX5_key_85 fl_X5_108 hP rfl (fun _ _ => ⟨rfl, rfl⟩) ?_
          refine x_eqw (w' := P ++ ow a (oB a ik) (tk (updI (updI (updI z (30 + s.toNat) 1) 8 (z 8 + 0)) 7 (z 7 - 1))) (tk y) (updI (updI (updI z (30 + s.toNat) 1) 8 (z 8 + 0)) 7 (z 7 - 1)) y t so st td (0) le ot sn (0) R) (by rw [← tk_fin (z := updI (updI (updI z (30 + s.toNat) 1) 8 (z 8 + 0)) 7 (z 7 - 1)) (x11 := z 11) (x12 := z 12) (x13 := z 13) (x9 := z 9) (x7 := z 7 - 1) (x8 := z 8) (x10 := z 10) (x14 := z 14) (by (simp (disch := omega) only [mDoes, mOut, updI_n, updI_e]); first | done | omega) (by (simp (disch := omega) only [mDoes, mOut, updI_n, updI_e]); first | done | omega) (by (simp (disch := omega) only [mDoes, mOut, updI_n, updI_e]); first | done | omega) (by (simp (disch := omega) only [mDoes, mOut, updI_n, updI_e]); first | done | omega) (by (simp (disch := omega) only [mDoes, mOut, updI_n, updI_e]); first | done | omega) (by (simp (disch := omega) only [mDoes, mOut, updI_n, updI_e]); first | done | omega) (by (simp (disch := omega) only [mDoes, mOut, updI_n, updI_e]); first | done | omega) (by (simp (disch := omega) only [mDoes, mOut, updI_n, updI_e]); first | done | omega)]; rfl) ?_
          refine x_aload_n dX5_key_88 rfl ?_
          refine x_getfield 0 dX5_key_89 fg_X5_19 hP rfl rfl ?_
          refine x_getfield 6 dX5_key_92 fg_X5_108 hP rfl rfl ?_
          exact x_iret dX5_key_95 (⟨by rw [show rKey z s = z 7 - 1 from (if_pos c4).trans ((if_neg (by omega)).trans (if_pos ⟨by omega, by omega⟩))]; exact updI_e _ _ _, by rw [show sKey z s = updI (updI (updI z (30 + s.toNat) 1) 8 (z 8 + 0)) 7 (z 7 - 1) from (if_pos c4).trans ((if_neg (by omega)).trans (if_pos ⟨by omega, by omega⟩))]; exact ⟨_, _, _, _, _, _, _, _, _, rfl, CI_0 _ _ _ _ _ _ _⟩⟩)
        · refine x_aload_n dX5_key_48 rfl ?_
          refine x_calliV dX5_key_49 mk_X5_keyInVain ml_X5_117 (b_vain hP ik z y t so st td sk le ot sn pk R hA h0 hC) ((wg_app hP 0).trans rfl) rfl (fun x49 w49 h49 => ?_)
          obtain ⟨rfl, hb49⟩ := h49
          exact x_iret dX5_key_52 (⟨by rw [show rKey z s = (if z 14 = 1 then -2 else z 7 - 1) from (if_pos c4).trans ((if_neg (by omega)).trans (if_neg (by omega)))], by rw [show sKey z s = (if z 14 = 1 then z else updI (updI z 8 (z 8 + 1)) 7 (z 7 - 1)) from (if_pos c4).trans ((if_neg (by omega)).trans ((if_neg (by omega)).trans (by rw [updI_id])))]; exact hb49⟩)
    · refine x_bipush dX5_key_23 ?_
      exact x_iret dX5_key_25 (⟨by unfold rKey; (repeat' split) <;> first | rfl | omega | (exfalso; omega), by rw [show sKey z s = z from (by unfold sKey; (repeat' split) <;> first | rfl | (exfalso; omega))]; exact hB⟩)
  · rw [if_neg c4] at hb4
    subst hb4
    refine x_if_ne 12 dX5_key_7 (fun h7 => absurd h7 (by decide)) (fun h7 => ?_)
    refine x_iconst dX5_key_10 ?_
    exact x_iret dX5_key_11 (⟨by unfold rKey; (repeat' split) <;> first | rfl | omega | (exfalso; omega), by rw [show sKey z s = z from (by unfold sKey; (repeat' split) <;> first | rfl | (exfalso; omega))]; exact hB⟩)
set_option maxRecDepth 100000 in
set_option maxHeartbeats 4000000 in
theorem lk_ticks {P : AW} {a : Nat} (hP : P.length = a) (ik : Int) (z y t so st : Nat → Int) (td sk le ot sn pk : Int) (R : AW) (n : Int) (hn : 1 ≤ n ∧ n ≤ 2000) {Q : Int → AW → Prop} : ∀ (F m : Nat) (zz : Nat → Int) (i : Nat), m ≤ F → (i : Int) + (m : Int) ≤ n → ZA zz → zz 0 + (m : Int) ≤ 1000000000 →
    Q (mTicks zz m 0) (P ++ ow a (oB a ik) (tk z) (tk y) (mTicks zz m) y t so st td (0) le ot sn (0) R) → EX I_X5_ticks 0 0 none (ZM 0 0 (fun r w' => ∃ x : Int, r = some (.int (iI x)) ∧ Q x w')) 41 [some (.ref (a + 0)), some (.int (iI n)), some (.int (iI ((m : Int)))), some (.int (iI ((i : Nat) : Int)))] [] (P ++ ow a (oB a ik) (tk z) (tk y) (zz) y t so st td (0) le ot sn (0) R) 0 0 := by
  intro F
  induction F with
  | zero =>
    intro m zz i hm hi hA h0 hq
    have hm' : m = 0 := by omega
    subst hm'
    refine x_iload_n dX5_ticks_41 rfl ?_
    refine x_iload_n dX5_ticks_42 rfl ?_
    refine x_icmp_ge 67 dX5_ticks_43 (fun h43 => ?_) (fun h43 => ?_)
    · refine x_aload_n dX5_ticks_67 rfl ?_
      refine x_getfield 0 dX5_ticks_68 fg_X5_12 hP rfl rfl ?_
      refine x_getfield 1 dX5_ticks_71 fg_X5_127 hP rfl rfl ?_
      exact x_iret dX5_ticks_74 (hq)
    · refine x_iload_n dX5_ticks_46 rfl ?_
      refine x_if_le 67 dX5_ticks_47 (fun h47 => ?_) (fun h47 => by exfalso; omega)
      refine x_aload_n dX5_ticks_67 rfl ?_
      refine x_getfield 0 dX5_ticks_68 fg_X5_12 hP rfl rfl ?_
      refine x_getfield 1 dX5_ticks_71 fg_X5_127 hP rfl rfl ?_
      exact x_iret dX5_ticks_74 (hq)
  | succ F ih =>
    intro m zz i hm hi hA h0 hq
    cases m with
    | zero => exact ih 0 zz i (by omega) hi hA h0 hq
    | succ m =>
    have hg := gP_m hA.2.2.1 (m := ((m + 1 : Nat) : Int)) (by omega)
    have hZ : ZA (mTicks zz (gP zz ((m + 1 : Nat) : Int))) ∧ mTicks zz (gP zz ((m + 1 : Nat) : Int)) 0 = zz 0 + gP zz ((m + 1 : Nat) : Int) := ZA_ticks hA _ (by omega)
    refine x_iload_n dX5_ticks_41 rfl ?_
    refine x_iload_n dX5_ticks_42 rfl ?_
    refine x_icmp_ge 67 dX5_ticks_43 (fun h43 => by exfalso; omega) (fun h43 => ?_)
    refine x_iload_n dX5_ticks_46 rfl ?_
    refine x_if_le 67 dX5_ticks_47 (fun h47 => by exfalso; omega) (fun h47 => ?_)
    refine x_iload_n dX5_ticks_50 rfl ?_
    refine x_aload_n dX5_ticks_51 rfl ?_
    refine x_getfield 0 dX5_ticks_52 fg_X5_12 hP rfl rfl ?_
    refine x_iload_n dX5_ticks_55 rfl ?_
    refine x_calliV dX5_ticks_56 mk_X4_pass ml_X5_131 (v_pass hP (oB a ik) (tk z) (tk y) (zz) y t so st td (0) le ot sn (0) R hA ((m + 1 : Nat) : Int) (by omega) (by omega)) ((wg_app hP 1).trans rfl) rfl (fun x56 w56 h56 => ?_)
    obtain ⟨rfl, rfl⟩ := h56
    refine x_isub dX5_ticks_59 ?_
    refine x_ist2 dX5_ticks_60 ?_
    refine x_inc3 dX5_ticks_61 ?_
    refine x_goto 41 dX5_ticks_64 ?_
    have e1 : (((m + 1 : Nat) : Int) - ((gP zz ((m + 1 : Nat) : Int) : Nat) : Int)) = ((m + 1 - gP zz ((m + 1 : Nat) : Int) : Nat) : Int) := by omega
    rw [e1]
    have e2 : mTicks (mTicks zz (gP zz ((m + 1 : Nat) : Int))) (m + 1 - gP zz ((m + 1 : Nat) : Int)) = mTicks zz (m + 1) := by rw [ticks_add, show gP zz ((m + 1 : Nat) : Int) + (m + 1 - gP zz ((m + 1 : Nat) : Int)) = m + 1 by omega]
    rw [← e2] at hq
    exact ih (m + 1 - gP zz ((m + 1 : Nat) : Int)) _ (i + 1) (by omega) (by omega) hZ.1 (by omega) hq
set_option maxRecDepth 100000 in
set_option maxHeartbeats 4000000 in
theorem b_ticks {P : AW} {a : Nat} (hP : P.length = a) (ik : Int) (z y t so st : Nat → Int) (td sk le ot sn pk : Int) (R : AW) (hA : ZA z) (h0 : z 0 ≤ 1000000) (hC : CI z td sk so st le ot sn pk) (n : Int) (hin : inR n)  : CTi I_X5_ticks 0 0 [.ref (a + 0), .int (iI n)] (P ++ bx a ik z y t so st td sk le ot sn pk R) (fun x w' => x = rTks z n ∧ BI P a ik (sTks z n) y R w') := by
  have hB : BI P a ik z y R (P ++ bx a ik z y t so st td sk le ot sn pk R) := ⟨t, so, st, td, sk, le, ot, sn, pk, rfl, hC⟩
  have hR := hA.1
  have hzc := hA.2.1
  refine CT_of 2 rfl (Nat.le_of_ble_eq_true rfl) ?_
  show EX I_X5_ticks 0 0 none _ 0 [some (.ref (a + 0)), some (.int (iI n)), none, none] [] _ 0 0
  refine x_iload_n dX5_ticks_0 rfl ?_
  refine x_iconst dX5_ticks_1 ?_
  refine x_sipush dX5_ticks_2 ?_
  refine x_calliS dX5_ticks_5 mk_X5_within ml_X5_54 (k_within _ n 1 2000 hin (by decide) (by decide)) rfl (fun x5 w5 h5 => ?_)
  obtain ⟨hb5, rfl⟩ := h5
  by_cases c5 : 1 ≤ n ∧ n ≤ 2000
  · rw [if_pos c5] at hb5
    subst hb5
    refine x_if_ne 13 dX5_ticks_8 (fun h8 => ?_) (fun h8 => absurd h8 (by decide))
    refine x_aload_n dX5_ticks_13 rfl ?_
    refine x_getfield 0 dX5_ticks_14 fg_X5_12 hP rfl rfl ?_
    refine x_getfield 1 dX5_ticks_17 fg_X5_127 hP rfl rfl ?_
    refine x_ldc dX5_ticks_20 kc_X5_130 ?_
    refine x_iload_n dX5_ticks_22 rfl ?_
    refine x_isub dX5_ticks_23 ?_
    refine x_icmp_le 30 dX5_ticks_24 (fun h24 => ?_) (fun h24 => ?_) (ha := hR 0) (hb := by omega)
    · refine x_aload_n dX5_ticks_30 rfl ?_
      refine x_getfield 0 dX5_ticks_31 fg_X5_36 hP rfl rfl ?_
      refine x_callvV dX5_ticks_34 mk_X0_forget ml_X5_74 (k_forget hP (oB a ik) (tk z) (tk y) z y t so st td sk le ot sn pk R) ((wg_app hP 13).trans rfl) rfl (fun w34 h34 => ?_)
      subst h34
      refine x_iload_n dX5_ticks_37 rfl ?_
      refine x_ist2 dX5_ticks_38 ?_
      refine x_iconst dX5_ticks_39 ?_
      refine x_ist3 dX5_ticks_40 ?_
      refine x_eqls (show _ = [some (.ref (a + 0)), some (.int (iI n)), some (.int (iI ((n.toNat : Int)))), some (.int (iI ((0 : Nat) : Int)))] by rw [show ((n.toNat : Nat) : Int) = n by omega]; rfl) ?_
      refine lk_ticks hP ik z y t so st td 0 le ot sn 0 R n c5 2000 n.toNat z 0 (by omega) (by omega) hA (by omega) ⟨((if_pos c5).trans (if_pos (by omega))).symm, ?_⟩
      rw [show sTks z n = mTicks z n.toNat from if_pos ⟨c5, by omega⟩]
      exact BI_w (fun i h1 h2 => ticks_same hA n.toNat (by omega) i (by omega)) (CI_0 _ _ _ _ _ _ _)
    · refine x_bipush dX5_ticks_27 ?_
      exact x_iret dX5_ticks_29 (⟨by unfold rTks; (repeat' split) <;> first | rfl | omega | (exfalso; omega), by rw [show sTks z n = z from (by unfold sTks; (repeat' split) <;> first | rfl | (exfalso; omega))]; exact hB⟩)
  · rw [if_neg c5] at hb5
    subst hb5
    refine x_if_ne 13 dX5_ticks_8 (fun h8 => absurd h8 (by decide)) (fun h8 => ?_)
    refine x_iconst dX5_ticks_11 ?_
    exact x_iret dX5_ticks_12 (⟨by unfold rTks; (repeat' split) <;> first | rfl | omega | (exfalso; omega), by rw [show sTks z n = z from (by unfold sTks; (repeat' split) <;> first | rfl | (exfalso; omega))]; exact hB⟩)
set_option maxRecDepth 100000 in
set_option maxHeartbeats 4000000 in
theorem b_next {P : AW} {a : Nat} (hP : P.length = a) (ik : Int) (z y t so st : Nat → Int) (td sk le ot sn pk : Int) (R : AW) (hA : ZA z) (h0 : z 0 ≤ 1000000) (hC : CI z td sk so st le ot sn pk) (i : Int) (hii : inR i)  : CTi I_X5_next 0 0 [.ref (a + 0), .int (iI i)] (P ++ bx a ik z y t so st td sk le ot sn pk R) (fun x w' => x = rNext z i ∧ BI P a ik (z) y R w') := by
  have hB : BI P a ik z y R (P ++ bx a ik z y t so st td sk le ot sn pk R) := ⟨t, so, st, td, sk, le, ot, sn, pk, rfl, hC⟩
  have hR := hA.1
  have hzc := hA.2.1
  have hlen := mFt_len z
  refine CT_of 0 rfl (Nat.le_of_ble_eq_true rfl) ?_
  show EX I_X5_next 0 0 none _ 0 [some (.ref (a + 0)), some (.int (iI i))] [] _ 0 0
  refine x_iload_n dX5_next_0 rfl ?_
  refine x_iconst dX5_next_1 ?_
  refine x_bipush dX5_next_2 ?_
  refine x_calliS dX5_next_4 mk_X5_within ml_X5_54 (k_within _ i 0 63 hii (by decide) (by decide)) rfl (fun x4 w4 h4 => ?_)
  obtain ⟨hb4, rfl⟩ := h4
  by_cases c4 : 0 ≤ i ∧ i ≤ 63
  · rw [if_pos c4] at hb4
    subst hb4
    refine x_if_ne 12 dX5_next_7 (fun h7 => ?_) (fun h7 => absurd h7 (by decide))
    refine x_aload_n dX5_next_12 rfl ?_
    refine x_getfield 0 dX5_next_13 fg_X5_36 hP rfl rfl ?_
    refine x_aload_n dX5_next_16 rfl ?_
    refine x_getfield 0 dX5_next_17 fg_X5_12 hP rfl rfl ?_
    refine x_callvV dX5_next_20 mk_X0_foresee ml_X5_163 (k_foresee hP (oB a ik) (tk z) (tk y) z y t so st td sk le ot sn pk R hA h0 hC.1) ((wg_app hP 13).trans rfl) rfl (fun w20 h20 => ?_)
    obtain ⟨t', so', st', td', rfl, hck⟩ := h20
    have htd := hck.1
    refine x_iload_n dX5_next_23 rfl ?_
    refine x_aload_n dX5_next_24 rfl ?_
    refine x_getfield 0 dX5_next_25 fg_X5_36 hP rfl rfl ?_
    refine x_getfield 13 dX5_next_28 fg_X5_167 hP rfl rfl ?_
    refine x_icmp_ge 46 dX5_next_31 (fun h31 => ?_) (fun h31 => ?_) (hb := by omega)
    · refine x_bipush dX5_next_46 ?_
      exact x_iret dX5_next_48 (⟨by unfold rNext; rw [if_pos c4, if_pos (by omega)], ⟨t', so', st', td', 1, le, ot, sn, pk, rfl, Or.inr ⟨rfl, hck⟩, hC.2⟩⟩)
    · refine x_aload_n dX5_next_34 rfl ?_
      refine x_getfield 0 dX5_next_35 fg_X5_36 hP rfl rfl ?_
      refine x_getfield 13 dX5_next_38 fg_X5_170 hP rfl rfl ?_
      refine x_iload_n dX5_next_41 rfl ?_
      refine x_iaload 19 (i.toNat) dX5_next_42 hP rfl ?_
      refine x_goto 48 dX5_next_43 ?_
      exact x_iret dX5_next_48 (⟨by unfold rNext; rw [if_pos c4, if_neg (by omega)]; exact (hck.2 i.toNat (by omega)).1, ⟨t', so', st', td', 1, le, ot, sn, pk, rfl, Or.inr ⟨rfl, hck⟩, hC.2⟩⟩)
  · rw [if_neg c4] at hb4
    subst hb4
    refine x_if_ne 12 dX5_next_7 (fun h7 => absurd h7 (by decide)) (fun h7 => ?_)
    refine x_iconst dX5_next_10 ?_
    exact x_iret dX5_next_11 (⟨by unfold rNext; rw [if_neg (by omega)], hB⟩)
set_option maxRecDepth 100000 in
set_option maxHeartbeats 4000000 in
theorem b_when {P : AW} {a : Nat} (hP : P.length = a) (ik : Int) (z y t so st : Nat → Int) (td sk le ot sn pk : Int) (R : AW) (hA : ZA z) (h0 : z 0 ≤ 1000000) (hC : CI z td sk so st le ot sn pk) (s : Int) (his : inR s)  : CTi I_X5_when 0 0 [.ref (a + 0), .int (iI s)] (P ++ bx a ik z y t so st td sk le ot sn pk R) (fun x w' => x = rWhen z s ∧ BI P a ik (z) y R w') := by
  have hB : BI P a ik z y R (P ++ bx a ik z y t so st td sk le ot sn pk R) := ⟨t, so, st, td, sk, le, ot, sn, pk, rfl, hC⟩
  have hR := hA.1
  have hzc := hA.2.1
  refine CT_of 0 rfl (Nat.le_of_ble_eq_true rfl) ?_
  show EX I_X5_when 0 0 none _ 0 [some (.ref (a + 0)), some (.int (iI s))] [] _ 0 0
  refine x_iload_n dX5_when_0 rfl ?_
  refine x_iconst dX5_when_1 ?_
  refine x_bipush dX5_when_2 ?_
  refine x_calliS dX5_when_4 mk_X5_within ml_X5_54 (k_within _ s 0 19 his (by decide) (by decide)) rfl (fun x4 w4 h4 => ?_)
  obtain ⟨hb4, rfl⟩ := h4
  by_cases c4 : 0 ≤ s ∧ s ≤ 19
  · rw [if_pos c4] at hb4
    subst hb4
    refine x_if_ne 12 dX5_when_7 (fun h7 => ?_) (fun h7 => absurd h7 (by decide))
    refine x_aload_n dX5_when_12 rfl ?_
    refine x_getfield 0 dX5_when_13 fg_X5_36 hP rfl rfl ?_
    refine x_aload_n dX5_when_16 rfl ?_
    refine x_getfield 0 dX5_when_17 fg_X5_12 hP rfl rfl ?_
    refine x_callvV dX5_when_20 mk_X0_foresee ml_X5_163 (k_foresee hP (oB a ik) (tk z) (tk y) z y t so st td sk le ot sn pk R hA h0 hC.1) ((wg_app hP 13).trans rfl) rfl (fun w20 h20 => ?_)
    obtain ⟨t', so', st', td', rfl, hck⟩ := h20
    have htd := hck.1
    refine x_aload_n dX5_when_23 rfl ?_
    refine x_getfield 0 dX5_when_24 fg_X5_36 hP rfl rfl ?_
    refine x_iload_n dX5_when_27 rfl ?_
    refine x_calliV dX5_when_28 mk_X0_startOf ml_X5_173 (k_startOf hP (oB a ik) (tk z) (tk y) z y (t') (so') (st') (td') (1) le ot sn pk R hA h0 hck s his) ((wg_app hP 13).trans rfl) rfl (fun x28 w28 h28 => ?_)
    obtain ⟨rfl, rfl⟩ := h28
    exact x_iret dX5_when_31 (⟨by unfold rWhen; rw [if_pos c4], ⟨t', so', st', td', 1, le, ot, sn, pk, rfl, Or.inr ⟨rfl, hck⟩, hC.2⟩⟩)
  · rw [if_neg c4] at hb4
    subst hb4
    refine x_if_ne 12 dX5_when_7 (fun h7 => absurd h7 (by decide)) (fun h7 => ?_)
    refine x_iconst dX5_when_10 ?_
    exact x_iret dX5_when_11 (⟨by unfold rWhen; rw [if_neg (by omega)], hB⟩)
set_option maxRecDepth 100000 in
set_option maxHeartbeats 4000000 in
theorem b_done {P : AW} {a : Nat} (hP : P.length = a) (ik : Int) (z y t so st : Nat → Int) (td sk le ot sn pk : Int) (R : AW) (hA : ZA z) (h0 : z 0 ≤ 1000000) (hC : CI z td sk so st le ot sn pk)  : CTi I_X5_done 0 0 [.ref (a + 0)] (P ++ bx a ik z y t so st td sk le ot sn pk R) (fun x w' => x = rDone z ∧ BI P a ik (z) y R w') := by
  have hB : BI P a ik z y R (P ++ bx a ik z y t so st td sk le ot sn pk R) := ⟨t, so, st, td, sk, le, ot, sn, pk, rfl, hC⟩
  have hR := hA.1
  have hzc := hA.2.1
  have hi0 := iF_0 z
  have hz5 := hA.2.2.2
  refine CT_of 0 rfl (Nat.le_of_ble_eq_true rfl) ?_
  show EX I_X5_done 0 0 none _ 0 [some (.ref (a + 0))] [] _ 0 0
  refine x_aload_n dX5_done_0 rfl ?_
  refine x_getfield 0 dX5_done_1 fg_X5_12 hP rfl rfl ?_
  refine x_getfield 1 dX5_done_4 fg_X5_176 hP rfl rfl ?_
  refine x_if_eq 13 dX5_done_7 (fun h7 => ?_) (fun h7 => ?_) (ha := by have := mB_R (iF z); omega)
  · refine x_aload_n dX5_done_13 rfl ?_
    refine x_getfield 0 dX5_done_14 fg_X5_36 hP rfl rfl ?_
    refine x_aload_n dX5_done_17 rfl ?_
    refine x_getfield 0 dX5_done_18 fg_X5_12 hP rfl rfl ?_
    refine x_iconst dX5_done_21 ?_
    refine x_iconst dX5_done_22 ?_
    refine x_calliV dX5_done_23 mk_X0_doneBy ml_X5_179 (k_doneBy hP (oB a ik) (tk z) (tk y) z y t so st td sk le ot sn pk R hzc.2.1 ⟨by omega, h0⟩ 0 0 (by omega) (by omega) (by rw [swp_00]; exact hA) (by rw [swp_00]; exact hi0.mp h7)) ((wg_app hP 13).trans rfl) rfl (fun x23 w23 h23 => ?_)
    obtain ⟨rfl, t', rfl⟩ := h23
    exact x_iret dX5_done_26 (⟨by rw [swp_00]; exact (if_pos (hi0.mp h7)).symm, ⟨_, _, _, _, _, _, _, _, _, rfl, hC⟩⟩)
  · refine x_bipush dX5_done_10 ?_
    exact x_iret dX5_done_12 (⟨(if_neg (fun h => h7 (hi0.mpr h))).symm, hB⟩)
set_option maxRecDepth 100000 in
set_option maxHeartbeats 4000000 in
theorem b_better {P : AW} {a : Nat} (hP : P.length = a) (ik : Int) (z y t so st : Nat → Int) (td sk le ot sn pk : Int) (R : AW) (hA : ZA z) (h0 : z 0 ≤ 1000000) (hC : CI z td sk so st le ot sn pk) (h : Int) (hih : inR h)  : CTi I_X5_better 0 0 [.ref (a + 0), .int (iI h)] (P ++ bx a ik z y t so st td sk le ot sn pk R) (fun x w' => x = rBet z h ∧ BI P a ik (z) y R w') := by
  have hB : BI P a ik z y R (P ++ bx a ik z y t so st td sk le ot sn pk R) := ⟨t, so, st, td, sk, le, ot, sn, pk, rfl, hC⟩
  have hR := hA.1
  have hzc := hA.2.1
  have hi0 := iF_0 z
  have hbn : ((mBt z).2.1 = -4 ∧ (mBt z).2.2 = -4) ∨ 0 ≤ (mBt z).2.1 := btG_n 10 0 _ (Or.inl ⟨rfl, rfl⟩)
  refine CT_of 0 rfl (Nat.le_of_ble_eq_true rfl) ?_
  show EX I_X5_better 0 0 none _ 0 [some (.ref (a + 0)), some (.int (iI h))] [] _ 0 0
  refine x_iload_n dX5_better_0 rfl ?_
  refine x_iconst dX5_better_1 ?_
  refine x_iconst dX5_better_2 ?_
  refine x_calliS dX5_better_3 mk_X5_within ml_X5_54 (k_within _ h 0 2 hih (by decide) (by decide)) rfl (fun x3 w3 h3 => ?_)
  obtain ⟨hb3, rfl⟩ := h3
  by_cases c3 : 0 ≤ h ∧ h ≤ 2
  · rw [if_pos c3] at hb3
    subst hb3
    refine x_if_ne 11 dX5_better_6 (fun h6 => ?_) (fun h6 => absurd h6 (by decide))
    refine x_aload_n dX5_better_11 rfl ?_
    refine x_getfield 0 dX5_better_12 fg_X5_12 hP rfl rfl ?_
    refine x_getfield 1 dX5_better_15 fg_X5_176 hP rfl rfl ?_
    refine x_if_eq 24 dX5_better_18 (fun h18 => ?_) (fun h18 => ?_) (ha := by have := mB_R (iF z); omega)
    · refine x_aload_n dX5_better_24 rfl ?_
      refine x_getfield 0 dX5_better_25 fg_X5_36 hP rfl rfl ?_
      refine x_aload_n dX5_better_28 rfl ?_
      refine x_getfield 0 dX5_better_29 fg_X5_12 hP rfl rfl ?_
      refine x_callvV dX5_better_32 mk_X0_seekPair ml_X5_183 (k_seekPair hP (oB a ik) (tk z) (tk y) z y t so st td sk le ot sn pk R hA h0 (hi0.mp h18) hC.2) ((wg_app hP 13).trans rfl) rfl (fun w32 h32 => ?_)
      obtain ⟨t', le', ot', sn', rfl, hcp'⟩ := h32
      have hcp := hcp'
      unfold CP at hcp
      refine x_iload_n dX5_better_35 rfl ?_
      refine x_if_ne 47 dX5_better_36 (fun h36 => ?_) (fun h36 => ?_)
      · refine x_iload_n dX5_better_47 rfl ?_
        refine x_iconst dX5_better_48 ?_
        refine x_icmp_ne 62 dX5_better_49 (fun h49 => ?_) (fun h49 => ?_)
        · refine x_aload_n dX5_better_62 rfl ?_
          refine x_getfield 0 dX5_better_63 fg_X5_36 hP rfl rfl ?_
          refine x_getfield 13 dX5_better_66 fg_X5_192 hP rfl rfl ?_
          exact x_iret dX5_better_69 (⟨by unfold rBet; rw [if_pos c3, if_pos (hi0.mp h18)]; unfold snS at hcp; (repeat' split at hcp) <;> (repeat' split) <;> omega, ⟨_, _, _, _, _, _, _, _, _, rfl, hC.1, Or.inr ⟨rfl, hcp'⟩⟩⟩)
        · refine x_aload_n dX5_better_52 rfl ?_
          refine x_getfield 0 dX5_better_53 fg_X5_36 hP rfl rfl ?_
          refine x_getfield 13 dX5_better_56 fg_X5_189 hP rfl rfl ?_
          refine x_goto 69 dX5_better_59 ?_
          exact x_iret dX5_better_69 (⟨by unfold rBet; rw [if_pos c3, if_pos (hi0.mp h18)]; unfold snS at hcp; (repeat' split at hcp) <;> (repeat' split) <;> omega, ⟨_, _, _, _, _, _, _, _, _, rfl, hC.1, Or.inr ⟨rfl, hcp'⟩⟩⟩)
      · refine x_aload_n dX5_better_39 rfl ?_
        refine x_getfield 0 dX5_better_40 fg_X5_36 hP rfl rfl ?_
        refine x_getfield 13 dX5_better_43 fg_X5_186 hP rfl rfl ?_
        exact x_iret dX5_better_46 (⟨by unfold rBet; rw [if_pos c3, if_pos (hi0.mp h18)]; unfold snS at hcp; (repeat' split at hcp) <;> (repeat' split) <;> omega, ⟨_, _, _, _, _, _, _, _, _, rfl, hC.1, Or.inr ⟨rfl, hcp'⟩⟩⟩)
    · refine x_bipush dX5_better_21 ?_
      exact x_iret dX5_better_23 (⟨by unfold rBet; rw [if_pos c3, if_neg (fun h => h18 (hi0.mpr h))], hB⟩)
  · rw [if_neg c3] at hb3
    subst hb3
    refine x_if_ne 11 dX5_better_6 (fun h6 => absurd h6 (by decide)) (fun h6 => ?_)
    refine x_iconst dX5_better_9 ?_
    exact x_iret dX5_better_10 (⟨by unfold rBet; rw [if_neg (by omega)], hB⟩)
