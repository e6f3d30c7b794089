/-! ===== the class: the evening ===== -/
theorem pq_fb {tp : Nat → Int} {tl : Nat} (htl : tl ≤ 80) (hT : ∀ i, i < tl → 32 ≤ tp i ∧ tp i ≤ 126) : ∀ (F q f : Nat), q ≤ tl → (pq tp tl F q).2 = some f → f ≤ 82
  | 0, q, f, _, h => by simp [pq] at h
  | F + 1, q, f, hq, h => by
    have hs := skp_b tp tl 80 q
    by_cases c1 : byt tp tl (skp tp tl 80 q) < 0
    · rw [pq_e c1] at h; cases h
    · by_cases c2 : aOk tp tl (skp tp tl 80 q)
      · rw [pq_c c1 c2] at h
        have hQ := aQ_b htl hT (i := skp tp tl 80 q) (by omega) c2
        exact pq_fb htl hT F _ f (by omega) h
      · rw [pq_f c1 c2] at h
        cases h
        exact aF_b tp htl (by omega) hT
theorem mActs_fb {tp : Nat → Int} {tl : Nat} (htl : tl ≤ 80) (hT : ∀ i, i < tl → 32 ≤ tp i ∧ tp i ≤ 126) {f : Nat} (h : (mActs tp tl).2 = some f) : f ≤ 82 := by
  by_cases c2 : aOk tp tl 0
  · rw [mActs_c c2] at h
    have hQ := aQ_b htl hT (i := 0) (by omega) c2
    exact pq_fb htl hT 81 _ f (by omega) h
  · rw [mActs_f c2] at h
    cases h
    exact aF_b tp htl (by omega) hT
set_option maxRecDepth 100000 in
set_option maxHeartbeats 4000000 in
theorem lk_eva {P : AW} {a : Nat} (hP : P.length = a) (ik : Int) (y : Nat → Int) (tp : Nat → Int) (tl ta : Nat) (kd nb : Nat → Int) (R : AW) (htl : tl ≤ 80) (hT : ∀ i, i < tl → 32 ≤ tp i ∧ tp i ≤ 126) (c : Int) (hc0 : 0 ≤ c) (hc : c ≤ 39000) {Q : Int → AW → Prop} : ∀ (r k : Nat) (z t so st : Nat → Int) (td sk le ot sn pk : Int) (l3 l4 l5 : Option Value), k + r = (mActs tp tl).1.length → GA (c + (k : Int)) z → CI z td sk so st le ot sn pk →
    (∀ (x : Int) (w' : AW), x = (evR ((mActs tp tl).1.drop k) z (k : Int)).1 → BI P a ik (evR ((mActs tp tl).1.drop k) z (k : Int)).2 y (tw (a + 21) tp (0) ta ((mActs tp tl).1.length) (wr kd 0 ((mActs tp tl).1.map Prod.fst)) (wr nb 0 ((mActs tp tl).1.map Prod.snd)) R) w' → Q x w') →
    EX I_X5_evening 0 0 none (ZM 0 0 (fun r w' => ∃ x : Int, r = some (.int (iI x)) ∧ Q x w')) 24 [some (.ref (a + 0)), some (.int (iI 0)), some (.int (iI ((k : Nat) : Int))), l3, l4, l5] [] (P ++ bx a ik z y t so st td sk le ot sn pk ((tw (a + 21) tp (0) ta ((mActs tp tl).1.length) (wr kd 0 ((mActs tp tl).1.map Prod.fst)) (wr nb 0 ((mActs tp tl).1.map Prod.snd)) R))) 0 0 := by
  have hao := mActs_ok htl hT
  intro r
  induction r with
  | zero =>
    intro k z t so st td sk le ot sn pk l3 l4 l5 hk hGA hC hq
    have hs' : k = (mActs tp tl).1.length := by omega
    subst hs'
    refine x_iload_n dX5_evening_24 rfl ?_
    refine x_aload_n dX5_evening_25 rfl ?_
    refine x_getfield 0 dX5_evening_26 fg_X5_43 hP rfl rfl ?_
    refine x_getfield 21 dX5_evening_29 fg_X5_235 hP rfl rfl ?_
    refine x_icmp_ge 110 dX5_evening_32 (fun h32 => ?_) (fun h32 => by exfalso; omega)
    refine x_aload_n dX5_evening_110 rfl ?_
    refine x_getfield 0 dX5_evening_111 fg_X5_43 hP rfl rfl ?_
    refine x_getfield 21 dX5_evening_114 fg_X5_235 hP rfl rfl ?_
    exact x_iret dX5_evening_117 (by have e1 : (mActs tp tl).1.drop (mActs tp tl).1.length = [] := List.drop_length; rw [e1] at hq; exact hq _ _ rfl ⟨t, so, st, td, sk, le, ot, sn, pk, rfl, hC⟩)
  | succ r ih =>
    intro k z t so st td sk le ot sn pk l3 l4 l5 hk hGA hC hq
    have hx0 : actOk ((mActs tp tl).1.getD k (0, 0)) := hao.1 _ (by simp [List.getD, show k < (mActs tp tl).1.length by omega])
    obtain ⟨x1, x2⟩ := id hx0
    obtain ⟨hA, h0, hm⟩ := id hGA
    obtain ⟨m7, m8, m9, m10, m11, m12, m13, m14⟩ := id hm
    refine x_iload_n dX5_evening_24 rfl ?_
    refine x_aload_n dX5_evening_25 rfl ?_
    refine x_getfield 0 dX5_evening_26 fg_X5_43 hP rfl rfl ?_
    refine x_getfield 21 dX5_evening_29 fg_X5_235 hP rfl rfl ?_
    refine x_icmp_ge 110 dX5_evening_32 (fun h32 => by exfalso; omega) (fun h32 => ?_)
    refine x_iload_n dX5_evening_35 rfl ?_
    refine x_bipush dX5_evening_36 ?_
    refine x_icmp_ge 110 dX5_evening_38 (fun h38 => by exfalso; omega) (fun h38 => ?_)
    refine x_aload_n dX5_evening_41 rfl ?_
    refine x_getfield 0 dX5_evening_42 fg_X5_43 hP rfl rfl ?_
    refine x_getfield 21 dX5_evening_45 fg_X5_238 hP rfl rfl ?_
    refine x_iload_n dX5_evening_48 rfl ?_
    refine x_iaload 23 (k) dX5_evening_49 hP rfl ?_
    refine x_top (wr_fst (mActs tp tl).1 kd k (by omega)) ?_
    refine x_ist3 dX5_evening_50 ?_
    refine x_aload_n dX5_evening_51 rfl ?_
    refine x_getfield 0 dX5_evening_52 fg_X5_43 hP rfl rfl ?_
    refine x_getfield 21 dX5_evening_55 fg_X5_241 hP rfl rfl ?_
    refine x_iload_n dX5_evening_58 rfl ?_
    refine x_iaload 24 (k) dX5_evening_59 hP rfl ?_
    refine x_top (wr_snd (mActs tp tl).1 nb k (by omega)) ?_
    refine x_ist4 dX5_evening_60 ?_
    refine x_iload_n dX5_evening_62 rfl ?_
    refine x_if_ne 75 dX5_evening_63 (fun h63 => ?_) (fun h63 => ?_) (ha := by omega)
    · refine x_iload_n dX5_evening_75 rfl ?_
      refine x_iconst dX5_evening_76 ?_
      refine x_icmp_ne 89 dX5_evening_77 (fun h77 => ?_) (fun h77 => ?_) (ha := by omega)
      · refine x_aload_n dX5_evening_89 rfl ?_
        refine x_iload dX5_evening_90 rfl ?_
        refine x_calliV dX5_evening_92 mk_X5_ticks ml_X5_250 (b_ticks hP ik z y t so st td sk le ot sn pk (tw (a + 21) tp (0) ta ((mActs tp tl).1.length) (wr kd 0 ((mActs tp tl).1.map Prod.fst)) (wr nb 0 ((mActs tp tl).1.map Prod.snd)) R) hA h0 hC ((mActs tp tl).1.getD k (0, 0)).2 (by omega)) ((wg_app hP 0).trans rfl) rfl (fun x92 w92 h92 => ?_)
        obtain ⟨rfl, t', so', st', td', sk', le', ot', sn', pk', rfl, hC'⟩ := h92
        have hRr : inR (rTks z ((mActs tp tl).1.getD k (0, 0)).2) := by unfold rTks; (repeat' split) <;> first | exact (ZA_ticks hA _ (by omega)).1.1 0 | omega
        refine x_ist5 dX5_evening_95 ?_
        refine x_iload dX5_evening_97 rfl ?_
        refine x_if_ge 104 dX5_evening_99 (fun h99 => ?_) (fun h99 => ?_) (ha := hRr)
        · refine x_inc2 dX5_evening_104 ?_
          refine x_goto 24 dX5_evening_107 ?_
          have e2 : actR z ((mActs tp tl).1.getD k (0, 0)).1 ((mActs tp tl).1.getD k (0, 0)).2 = rTks z ((mActs tp tl).1.getD k (0, 0)).2 := (if_neg h63).trans (if_neg h77)
          have e3 : actS z ((mActs tp tl).1.getD k (0, 0)).1 ((mActs tp tl).1.getD k (0, 0)).2 = sTks z ((mActs tp tl).1.getD k (0, 0)).2 := (if_neg h63).trans (if_neg h77)
          have hGk := GA_act (k := ((mActs tp tl).1.getD k (0, 0)).1) (v := ((mActs tp tl).1.getD k (0, 0)).2) hGA (by omega) (by omega)
          rw [e3] at hGk
          rw [drop_getD (mActs tp tl).1 k (by omega), evR_n (by rw [e2]; omega), e3] at hq
          exact ih (k + 1) _ t' so' st' td' sk' le' ot' sn' pk' _ _ _ (by omega) (by rw [show c + ((k + 1 : Nat) : Int) = c + (k : Int) + 1 by omega]; exact hGk) hC' hq
        · refine x_iload_n dX5_evening_102 rfl ?_
          exact x_iret dX5_evening_103 (by rw [drop_getD (mActs tp tl).1 k (by omega), evR_s (by rw [show actR z ((mActs tp tl).1.getD k (0, 0)).1 ((mActs tp tl).1.getD k (0, 0)).2 = rTks z ((mActs tp tl).1.getD k (0, 0)).2 from (if_neg h63).trans (if_neg h77)]; omega), show actS z ((mActs tp tl).1.getD k (0, 0)).1 ((mActs tp tl).1.getD k (0, 0)).2 = sTks z ((mActs tp tl).1.getD k (0, 0)).2 from (if_neg h63).trans (if_neg h77)] at hq; exact hq _ _ rfl ⟨t', so', st', td', sk', le', ot', sn', pk', rfl, hC'⟩)
      · refine x_aload_n dX5_evening_80 rfl ?_
        refine x_iload dX5_evening_81 rfl ?_
        refine x_calliV dX5_evening_83 mk_X5_coin ml_X5_247 (b_coin hP ik z y t so st td sk le ot sn pk (tw (a + 21) tp (0) ta ((mActs tp tl).1.length) (wr kd 0 ((mActs tp tl).1.map Prod.fst)) (wr nb 0 ((mActs tp tl).1.map Prod.snd)) R) hA h0 hC ((mActs tp tl).1.getD k (0, 0)).2 (by omega) (by omega) m11 m12 m13) ((wg_app hP 0).trans rfl) rfl (fun x83 w83 h83 => ?_)
        obtain ⟨rfl, t', so', st', td', sk', le', ot', sn', pk', rfl, hC'⟩ := h83
        have hRr : inR (rCoin z ((mActs tp tl).1.getD k (0, 0)).2) := by unfold rCoin; split <;> first | (rename_i hv; have := mDue_b m9.1 m11 m12 m13 hv; omega) | omega
        refine x_goto 95 dX5_evening_86 ?_
        refine x_ist5 dX5_evening_95 ?_
        refine x_iload dX5_evening_97 rfl ?_
        refine x_if_ge 104 dX5_evening_99 (fun h99 => ?_) (fun h99 => ?_) (ha := hRr)
        · refine x_inc2 dX5_evening_104 ?_
          refine x_goto 24 dX5_evening_107 ?_
          have e2 : actR z ((mActs tp tl).1.getD k (0, 0)).1 ((mActs tp tl).1.getD k (0, 0)).2 = rCoin z ((mActs tp tl).1.getD k (0, 0)).2 := (if_neg h63).trans (if_pos h77)
          have e3 : actS z ((mActs tp tl).1.getD k (0, 0)).1 ((mActs tp tl).1.getD k (0, 0)).2 = sCoin z ((mActs tp tl).1.getD k (0, 0)).2 := (if_neg h63).trans (if_pos h77)
          have hGk := GA_act (k := ((mActs tp tl).1.getD k (0, 0)).1) (v := ((mActs tp tl).1.getD k (0, 0)).2) hGA (by omega) (by omega)
          rw [e3] at hGk
          rw [drop_getD (mActs tp tl).1 k (by omega), evR_n (by rw [e2]; omega), e3] at hq
          exact ih (k + 1) _ t' so' st' td' sk' le' ot' sn' pk' _ _ _ (by omega) (by rw [show c + ((k + 1 : Nat) : Int) = c + (k : Int) + 1 by omega]; exact hGk) hC' hq
        · refine x_iload_n dX5_evening_102 rfl ?_
          exact x_iret dX5_evening_103 (by rw [drop_getD (mActs tp tl).1 k (by omega), evR_s (by rw [show actR z ((mActs tp tl).1.getD k (0, 0)).1 ((mActs tp tl).1.getD k (0, 0)).2 = rCoin z ((mActs tp tl).1.getD k (0, 0)).2 from (if_neg h63).trans (if_pos h77)]; omega), show actS z ((mActs tp tl).1.getD k (0, 0)).1 ((mActs tp tl).1.getD k (0, 0)).2 = sCoin z ((mActs tp tl).1.getD k (0, 0)).2 from (if_neg h63).trans (if_pos h77)] at hq; exact hq _ _ rfl ⟨t', so', st', td', sk', le', ot', sn', pk', rfl, hC'⟩)
    · refine x_aload_n dX5_evening_66 rfl ?_
      refine x_iload dX5_evening_67 rfl ?_
      refine x_calliV dX5_evening_69 mk_X5_key ml_X5_244 (b_key hP ik z y t so st td sk le ot sn pk (tw (a + 21) tp (0) ta ((mActs tp tl).1.length) (wr kd 0 ((mActs tp tl).1.map Prod.fst)) (wr nb 0 ((mActs tp tl).1.map Prod.snd)) R) hA h0 hC ((mActs tp tl).1.getD k (0, 0)).2 (by omega) m7.1) ((wg_app hP 0).trans rfl) rfl (fun x69 w69 h69 => ?_)
      obtain ⟨rfl, t', so', st', td', sk', le', ot', sn', pk', rfl, hC'⟩ := h69
      have hRr : inR (rKey z ((mActs tp tl).1.getD k (0, 0)).2) := by unfold rKey; (repeat' split) <;> omega
      refine x_goto 95 dX5_evening_72 ?_
      refine x_ist5 dX5_evening_95 ?_
      refine x_iload dX5_evening_97 rfl ?_
      refine x_if_ge 104 dX5_evening_99 (fun h99 => ?_) (fun h99 => ?_) (ha := hRr)
      · refine x_inc2 dX5_evening_104 ?_
        refine x_goto 24 dX5_evening_107 ?_
        have e2 : actR z ((mActs tp tl).1.getD k (0, 0)).1 ((mActs tp tl).1.getD k (0, 0)).2 = rKey z ((mActs tp tl).1.getD k (0, 0)).2 := if_pos h63
        have e3 : actS z ((mActs tp tl).1.getD k (0, 0)).1 ((mActs tp tl).1.getD k (0, 0)).2 = sKey z ((mActs tp tl).1.getD k (0, 0)).2 := if_pos h63
        have hGk := GA_act (k := ((mActs tp tl).1.getD k (0, 0)).1) (v := ((mActs tp tl).1.getD k (0, 0)).2) hGA (by omega) (by omega)
        rw [e3] at hGk
        rw [drop_getD (mActs tp tl).1 k (by omega), evR_n (by rw [e2]; omega), e3] at hq
        exact ih (k + 1) _ t' so' st' td' sk' le' ot' sn' pk' _ _ _ (by omega) (by rw [show c + ((k + 1 : Nat) : Int) = c + (k : Int) + 1 by omega]; exact hGk) hC' hq
      · refine x_iload_n dX5_evening_102 rfl ?_
        exact x_iret dX5_evening_103 (by rw [drop_getD (mActs tp tl).1 k (by omega), evR_s (by rw [show actR z ((mActs tp tl).1.getD k (0, 0)).1 ((mActs tp tl).1.getD k (0, 0)).2 = rKey z ((mActs tp tl).1.getD k (0, 0)).2 from if_pos h63]; omega), show actS z ((mActs tp tl).1.getD k (0, 0)).1 ((mActs tp tl).1.getD k (0, 0)).2 = sKey z ((mActs tp tl).1.getD k (0, 0)).2 from if_pos h63] at hq; exact hq _ _ rfl ⟨t', so', st', td', sk', le', ot', sn', pk', rfl, hC'⟩)
set_option maxRecDepth 100000 in
set_option maxHeartbeats 4000000 in
theorem b_evening {P : AW} {a : Nat} (hP : P.length = a) (ik : Int) (z y t so st : Nat → Int) (td sk le ot sn pk : Int) (tp : Nat → Int) (tl ta ac : Nat) (kd nb : Nat → Int) (R : AW) (hC : CI z td sk so st le ot sn pk) (htl : tl ≤ 80) (hT : ∀ i, i < tl → 32 ≤ tp i ∧ tp i ≤ 126) (c : Int) (hc0 : 0 ≤ c) (hc : c ≤ 39000) (hGA : GA c z) : CTi I_X5_evening 0 0 [.ref (a + 0)] (P ++ bx a ik z y t so st td sk le ot sn pk ((tw (a + 21) tp tl ta ac kd nb R))) (fun x w' => x = rEve z tp tl ∧ ∃ (ta ac : Nat) (kd nb : Nat → Int), BI P a ik (sEve z tp tl) y (tw (a + 21) tp (0) ta ac kd nb R) w') := by
  refine CT_of 5 rfl (Nat.le_of_ble_eq_true rfl) ?_
  show EX I_X5_evening 0 0 none _ 0 [some (.ref (a + 0)), none, none, none, none, none] [] _ 0 0
  refine x_aload_n dX5_evening_0 rfl ?_
  refine x_getfield 0 dX5_evening_1 fg_X5_43 hP rfl rfl ?_
  refine x_calliV dX5_evening_4 mk_X2_readActs ml_X5_232 (q_readActs hP (oB a ik) (tk z) (tk y) z y t so st td sk le ot sn pk tp tl ta ac kd nb R htl hT) ((wg_app hP 21).trans rfl) rfl (fun x4 w4 h4 => ?_)
  rcases h4 with ⟨hno, rfl, ta', rfl⟩ | ⟨f, hsf, rfl, ta', ac', kd', nb', rfl⟩
  · refine x_ist1 dX5_evening_7 ?_
    refine x_aload_n dX5_evening_8 rfl ?_
    refine x_getfield 0 dX5_evening_9 fg_X5_43 hP rfl rfl ?_
    refine x_iconst dX5_evening_12 ?_
    refine x_putfield 21 dX5_evening_13 fl_X5_226 hP rfl (fun _ _ => ⟨rfl, rfl⟩) ?_
    refine x_iload_n dX5_evening_16 rfl ?_
    refine x_if_eq 22 dX5_evening_17 (fun h17 => ?_) (fun h17 => absurd h17 (by decide))
    refine x_iconst dX5_evening_22 ?_
    refine x_ist2 dX5_evening_23 ?_
    refine x_eqw (w' := P ++ bx a ik z y t so st td sk le ot sn pk ((tw (a + 21) tp (0) ta' ((mActs tp tl).1.length) (wr kd 0 ((mActs tp tl).1.map Prod.fst)) (wr nb 0 ((mActs tp tl).1.map Prod.snd)) R))) rfl ?_
    refine lk_eva hP ik y tp tl ta' kd nb R htl hT c hc0 hc (mActs tp tl).1.length 0 z t so st td sk le ot sn pk _ _ _ (by omega) (by simpa using hGA) hC (fun x w' hx hw => ⟨?_, ta', (mActs tp tl).1.length, wr kd 0 ((mActs tp tl).1.map Prod.fst), wr nb 0 ((mActs tp tl).1.map Prod.snd), ?_⟩)
    · rw [hx]; unfold rEve; rw [hno]; rfl
    · unfold sEve; rw [hno]; exact hw
  · have hfb := mActs_fb htl hT hsf
    refine x_ist1 dX5_evening_7 ?_
    refine x_aload_n dX5_evening_8 rfl ?_
    refine x_getfield 0 dX5_evening_9 fg_X5_43 hP rfl rfl ?_
    refine x_iconst dX5_evening_12 ?_
    refine x_putfield 21 dX5_evening_13 fl_X5_226 hP rfl (fun _ _ => ⟨rfl, rfl⟩) ?_
    refine x_iload_n dX5_evening_16 rfl ?_
    refine x_if_eq 22 dX5_evening_17 (fun h17 => by exfalso; omega) (fun h17 => ?_)
    refine x_iload_n dX5_evening_20 rfl ?_
    exact x_iret dX5_evening_21 (⟨by unfold rEve; rw [hsf], _, _, _, _, by unfold sEve; rw [hsf]; exact ⟨t, so, st, td, sk, le, ot, sn, pk, rfl, hC⟩⟩)
