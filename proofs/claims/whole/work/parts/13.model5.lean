/-! ===== all that holds of z, and that a tick keeps it ===== -/
theorem inR_d {z : Nat → Int} {x t : Int} (h : ∀ i, inR (z i)) (hx : inR x) (ht : inR t) : ∀ i, inR (mDoes z x t i) := inR_upd (inR_upd h hx) ht
theorem inR_g {z : Nat → Int} (h : ∀ i, inR (z i)) : ∀ i, inR (mGoOn z i) := by
  unfold mGoOn
  (repeat' split) <;> exact inR_d h (by decide) (by decide)
theorem inR_o {z : Nat → Int} (h : ∀ i, inR (z i)) (s : Nat) : ∀ i, inR (mOut z s i) := by
  unfold mOut
  refine inR_upd h ?_
  split
  · decide
  · exact h _
theorem inR_l {z : Nat → Int} (h : ∀ i, inR (z i)) (h6 : 0 ≤ z 6 ∧ z 6 ≤ 2000000000) : ∀ i, inR (mLook z i) := by
  unfold mLook
  split
  · split
    · exact inR_d (inR_o h _) (by decide) (by decide)
    · exact inR_g (inR_upd (inR_o h _) (by omega))
  · exact inR_g (inR_upd (inR_o h _) (by omega))
theorem inR_p {z : Nat → Int} (h : ∀ i, inR (z i)) (hc : ZC z) (hr : 0 ≤ z (20 + (z 1).toNat)) (h5 : 0 ≤ z 5 ∧ z 5 ≤ 2000000000) : ∀ i, inR (mPlay z i) := by
  obtain ⟨e1, e2, e3⟩ := mSide_b hc hr
  have hw := mWear_b hc hr
  have hs := mSong_b hc.1.1 hc.1.2
  have ht := hc.2.2.2.2.2.2.2.2.2.2.2.1 (mSide z) e2
  have hm := hc.2.2.2.2.2.2.2.2.2.2.1 (mSong z).toNat (by omega)
  unfold mPlay
  refine inR_d (inR_upd (inR_upd (inR_upd h (by omega)) (by omega)) (by omega)) (by decide) ?_
  split <;> omega
def ZA (z : Nat → Int) : Prop := (∀ i, inR (z i)) ∧ ZC z ∧ ZD z ∧ (0 ≤ z 5 ∧ z 5 ≤ z 0 ∧ 0 ≤ z 6 ∧ z 6 ≤ z 0)
theorem look_05 {z : Nat → Int} (hc : ZC z) : mLook z 0 = z 0 ∧ mLook z 5 = z 5 ∧ (mLook z 6 = z 6 ∨ mLook z 6 = z 6 + 1) := by
  have hs := mSong_b hc.1.1 hc.1.2
  unfold mLook
  split
  · split
    · rw [mDoes_n (by decide) (by decide), mDoes_n (by decide) (by decide), mDoes_n (by decide) (by decide), mOut_n (by omega), mOut_n (by omega), mOut_n (by omega)]
      exact ⟨rfl, rfl, Or.inl rfl⟩
    · rw [mGoOn_n (by decide) (by decide), mGoOn_n (by decide) (by decide), mGoOn_n (by decide) (by decide), updI_n (by decide), updI_n (by decide), updI_e, mOut_n (by omega), mOut_n (by omega)]
      exact ⟨rfl, rfl, Or.inr rfl⟩
  · rw [mGoOn_n (by decide) (by decide), mGoOn_n (by decide) (by decide), mGoOn_n (by decide) (by decide), updI_n (by decide), updI_n (by decide), updI_e, mOut_n (by omega), mOut_n (by omega)]
    exact ⟨rfl, rfl, Or.inl (by omega)⟩
theorem play_05 {z : Nat → Int} (hc : ZC z) : mPlay z 0 = z 0 ∧ mPlay z 5 = z 5 + 1 ∧ mPlay z 6 = z 6 := by
  have hs := mSong_b hc.1.1 hc.1.2
  unfold mPlay
  rw [mDoes_n (by decide) (by decide), mDoes_n (by decide) (by decide), mDoes_n (by decide) (by decide), updI_n (by decide), updI_n (by omega), updI_n (by omega), updI_e, updI_n (by decide), updI_n (by omega), updI_n (by omega)]
  exact ⟨rfl, rfl, rfl⟩
/-- the counts behind a tick -/
theorem tick_05 {z : Nat → Int} (hc : ZC z) (hd : ZD z) : mTick z 0 = z 0 + 1 ∧ (mTick z 5 = z 5 ∨ mTick z 5 = z 5 + 1) ∧ (mTick z 6 = z 6 ∨ mTick z 6 = z 6 + 1) := by
  have h1 := hc.1
  have h2 := hc.2.1
  obtain ⟨d1, d2, d3, d4, d5, d6, d7⟩ := hd
  have c0 := ZC_n (j := 0) (v := z 0 + 1) hc (by omega)
  have c4 := ZC_n (j := 4) (v := z 4 - 1) c0 (by omega)
  have e0 : updI z 0 (z 0 + 1) 0 = z 0 + 1 := updI_e _ _ _
  have e5 : updI z 0 (z 0 + 1) 5 = z 5 := updI_n (by decide)
  have e6 : updI z 0 (z 0 + 1) 6 = z 6 := updI_n (by decide)
  have f0 : updI (updI z 0 (z 0 + 1)) 4 (z 4 - 1) 0 = z 0 + 1 := (updI_n (by decide)).trans e0
  have f5 : updI (updI z 0 (z 0 + 1)) 4 (z 4 - 1) 5 = z 5 := (updI_n (by decide)).trans e5
  have f6 : updI (updI z 0 (z 0 + 1)) 4 (z 4 - 1) 6 = z 6 := (updI_n (by decide)).trans e6
  unfold mTick
  split
  · split
    · exact ⟨e0, Or.inl e5, Or.inl e6⟩
    · have := look_05 c0
      rw [e0, e5, e6] at this
      exact ⟨this.1, Or.inl this.2.1, this.2.2⟩
  · split
    · exact ⟨f0, Or.inl f5, Or.inl f6⟩
    · split
      · have := look_05 (ZC_p (v := z 1 + (if z 2 = 1 then 1 else -1)) c4 (by split <;> omega) (by split <;> omega))
        rw [updI_n (j := 1) (by decide), updI_n (j := 1) (by decide), updI_n (j := 1) (by decide), f0, f5, f6] at this
        exact ⟨this.1, Or.inl this.2.1, this.2.2⟩
      · split
        · have := look_05 (ZC_t (v := 1 - z 2) c4 (by omega))
          rw [updI_n (j := 2) (by decide), updI_n (j := 2) (by decide), updI_n (j := 2) (by decide), f0, f5, f6] at this
          exact ⟨this.1, Or.inl this.2.1, this.2.2⟩
        · split
          · have := play_05 c4
            rw [f0, f5, f6] at this
            exact ⟨this.1, Or.inr this.2.1, Or.inl this.2.2⟩
          · split
            · rw [mDoes_n (by decide) (by decide), mDoes_n (by decide) (by decide), mDoes_n (by decide) (by decide)]
              exact ⟨f0, Or.inl f5, Or.inl f6⟩
            · rw [mGoOn_n (by decide) (by decide), mGoOn_n (by decide) (by decide), mGoOn_n (by decide) (by decide)]
              exact ⟨f0, Or.inl f5, Or.inl f6⟩
theorem inR_t {z : Nat → Int} (h : ∀ i, inR (z i)) (hc : ZC z) (hd : ZD z) (h0 : 0 ≤ z 0 ∧ z 0 ≤ 2000000000) (h5 : 0 ≤ z 5 ∧ z 5 ≤ 2000000000) (h6 : 0 ≤ z 6 ∧ z 6 ≤ 2000000000) : ∀ i, inR (mTick z i) := by
  have h1 := hc.1
  have h2 := hc.2.1
  obtain ⟨d1, d2, d3, d4, d5, d6, d7⟩ := hd
  have r0 := inR_upd (j := 0) (v := z 0 + 1) h (by omega)
  have r4 := inR_upd (j := 4) (v := z 4 - 1) r0 (by omega)
  have c4 := ZC_n (j := 4) (v := z 4 - 1) (ZC_n (j := 0) (v := z 0 + 1) hc (by omega)) (by omega)
  have f5 : updI (updI z 0 (z 0 + 1)) 4 (z 4 - 1) 5 = z 5 := (updI_n (by decide)).trans (updI_n (by decide))
  have f6 : updI (updI z 0 (z 0 + 1)) 4 (z 4 - 1) 6 = z 6 := (updI_n (by decide)).trans (updI_n (by decide))
  unfold mTick
  split
  · split
    · exact r0
    · exact inR_l r0 (by rw [updI_n (by decide)]; exact h6)
  · split
    · exact r4
    · split
      · exact inR_l (inR_upd r4 (by split <;> omega)) (by rw [updI_n (by decide), f6]; exact h6)
      · split
        · exact inR_l (inR_upd r4 (by omega)) (by rw [updI_n (by decide), f6]; exact h6)
        · split
          · refine inR_p r4 c4 ?_ (by rw [f5]; exact h5)
            rw [updI_n (j := 4) (q := 1) (by decide), updI_n (j := 0) (q := 1) (by decide), updI_n (j := 4) (by omega), updI_n (j := 0) (by omega)]
            exact d5 (by omega)
          · split
            · exact inR_d r4 (by decide) (by decide)
            · exact inR_g r4
theorem ZA_tick {z : Nat → Int} (h : ZA z) (hb : z 0 < 2000000000) : ZA (mTick z) := by
  obtain ⟨hR, hc, hd, h5⟩ := h
  have ht := tick_05 hc hd
  have hi := ZI_tick hc hd
  exact ⟨inR_t hR hc hd (by omega) (by omega) (by omega), hi.1, hi.2, by omega⟩
theorem ZA_ticks {z : Nat → Int} (h : ZA z) : ∀ n : Nat, z 0 + n ≤ 2000000000 → ZA (mTicks z n) ∧ mTicks z n 0 = z 0 + n
  | 0, _ => ⟨h, by simp [mTicks]⟩
  | n + 1, hn => by
    have ih := ZA_ticks h n (by omega)
    have := tick_05 ih.1.2.1 ih.1.2.2.1
    exact ⟨ZA_tick ih.1 (by omega), by show mTick (mTicks z n) 0 = _; omega⟩
theorem ZA_B {z : Nat → Int} (h : ZA z) (hb : z 0 < 2000000000) : ZB z := by
  obtain ⟨hR, hc, hd, h5⟩ := h
  exact ⟨by omega, by omega, by omega⟩
set_option maxRecDepth 100000 in
set_option maxHeartbeats 4000000 in
theorem l_ticks {P : AW} {a : Nat} (hP : P.length = a) (fr : List Value) (z : Nat → Int) (R : AW) (hA : ZA z) (n : Int) (hn : 0 ≤ n ∧ n ≤ 2000) (h0 : z 0 + n ≤ 1000000) {Z : Zt} (hx : EX I_X6_ticks 0 0 none Z 47 [some (.ref (a + 0)), some (.int (iI n)), some (.int (iI ((n.toNat : Nat) : Int)))] [] (P ++ mz a fr (mTicks z (n.toNat)) R) 0 0) : ∀ (r k : Nat), k + r = n.toNat → EX I_X6_ticks 0 0 none Z 32 [some (.ref (a + 0)), some (.int (iI n)), some (.int (iI ((k : Nat) : Int)))] [] (P ++ mz a fr (mTicks z (k)) R) 0 0 := by
  intro r
  induction r with
  | zero =>
    intro k hs
    have hs' : k = n.toNat := by omega
    subst hs'
    refine x_iload_n dX6_ticks_32 rfl ?_
    refine x_iload_n dX6_ticks_33 rfl ?_
    refine x_icmp_ge 47 dX6_ticks_34 (fun h34 => ?_) (fun h34 => by exfalso; omega)
    exact hx
  | succ r ih =>
    intro k hs
    have ht := ZA_ticks hA k (by omega)
    refine x_iload_n dX6_ticks_32 rfl ?_
    refine x_iload_n dX6_ticks_33 rfl ?_
    refine x_icmp_ge 47 dX6_ticks_34 (fun h34 => by exfalso; omega) (fun h34 => ?_)
    refine x_aload_n dX6_ticks_37 rfl ?_
    refine x_callvV dX6_ticks_38 mk_X6_tick ml_X6_104 (c_tick hP fr (mTicks z k) R ht.1.1 ht.1.2.1 ht.1.2.2.1 (ZA_B ht.1 (by omega))) ((wg_app hP 0).trans rfl) rfl (fun w38 h38 => ?_)
    subst h38
    refine x_eqw (w' := P ++ mz a fr (mTicks z (k + 1)) R) rfl ?_
    refine x_inc2 dX6_ticks_41 ?_
    refine x_goto 32 dX6_ticks_44 ?_
    exact ih (k + 1) (by omega)
set_option maxRecDepth 100000 in
set_option maxHeartbeats 4000000 in
theorem c_ticks {P : AW} {a : Nat} (hP : P.length = a) (fr : List Value) (z : Nat → Int) (R : AW) (hA : ZA z) (hz0b : z 0 ≤ 1000000) (n : Int) (hin : inR n) : CTi I_X6_ticks 0 0 [.ref (a + 0), .int (iI n)] (P ++ mz a fr z R) (fun x w' => x = rTks z n ∧ w' = P ++ mz a fr (sTks z n) R) := by
  have hR := hA.1
  have hz0 := hA.2.2.2
  have hz9 := hR 0
  refine CT_of 1 rfl (Nat.le_of_ble_eq_true rfl) ?_
  show EX I_X6_ticks 0 0 none _ 0 [some (.ref (a + 0)), some (.int (iI n)), none] [] _ 0 0
  refine x_iload_n dX6_ticks_0 rfl ?_
  refine x_i2l dX6_ticks_1 ?_
  refine x_lconst dX6_ticks_2 ?_
  refine x_ldc2 dX6_ticks_3 kl_X6_101 ?_
  refine x_calliS dX6_ticks_6 mk_X6_in ml_X6_43 (c_in _ n 1 2000 hin (by decide) (by decide)) rfl (fun x6 w6 h6 => ?_)
  obtain ⟨hb6, rfl⟩ := h6
  by_cases c6 : 1 ≤ n ∧ n ≤ 2000
  · rw [if_pos c6] at hb6
    subst hb6
    refine x_if_ne 14 dX6_ticks_9 (fun h9 => ?_) (fun h9 => absurd h9 (by decide))
    refine x_aload_n dX6_ticks_14 rfl ?_
    refine x_getfield 0 dX6_ticks_15 fg_X6_7 hP rfl rfl ?_
    refine x_iconst dX6_ticks_18 ?_
    refine x_iaload 1 (0) dX6_ticks_19 hP rfl ?_
    refine x_iload_n dX6_ticks_20 rfl ?_
    refine x_iadd dX6_ticks_21 ?_
    refine x_ldc dX6_ticks_22 kc_X6_103 ?_
    refine x_icmp_le 30 dX6_ticks_24 (fun h24 => ?_) (fun h24 => ?_) (ha := by omega) (hb := by decide)
    · refine x_iconst dX6_ticks_30 ?_
      refine x_ist2 dX6_ticks_31 ?_
      refine x_eqw (w' := P ++ mz a fr (mTicks z 0) R) rfl (l_ticks hP fr z R hA n (by omega) h24 ?_ n.toNat 0 (by omega))
      refine x_aload_n dX6_ticks_47 rfl ?_
      refine x_getfield 0 dX6_ticks_48 fg_X6_7 hP rfl rfl ?_
      refine x_iconst dX6_ticks_51 ?_
      refine x_iaload 1 (0) dX6_ticks_52 hP rfl ?_
      exact x_iret dX6_ticks_53 (⟨by unfold rTks; (repeat' split) <;> first | rfl | omega | (exfalso; omega), by unfold sTks; (repeat' split) <;> first | rfl | (exfalso; omega)⟩)
    · refine x_bipush dX6_ticks_27 ?_
      exact x_iret dX6_ticks_29 (⟨by unfold rTks; (repeat' split) <;> first | rfl | omega | (exfalso; omega), by unfold sTks; (repeat' split) <;> first | rfl | (exfalso; omega)⟩)
  · rw [if_neg c6] at hb6
    subst hb6
    refine x_if_ne 14 dX6_ticks_9 (fun h9 => absurd h9 (by decide)) (fun h9 => ?_)
    refine x_iconst dX6_ticks_12 ?_
    exact x_iret dX6_ticks_13 (⟨by unfold rTks; (repeat' split) <;> first | rfl | omega | (exfalso; omega), by unfold sTks; (repeat' split) <;> first | rfl | (exfalso; omega)⟩)
set_option maxRecDepth 100000 in
set_option maxHeartbeats 4000000 in
theorem l_count {P : AW} {a : Nat} (hP : P.length = a) (fr : List Value) (z : Nat → Int) (R : AW) (hR : ∀ i, inR (z i)) (h : Int) {Z : Zt} (hx : EX I_X6_count 0 0 none Z 147 [some (.ref (a + 0)), some (.int (iI h)), some (.int (iI (mEmpty z 10))), some (.int (iI ((10 : Nat) : Int)))] [] (P ++ mz a fr z R) 0 0) : ∀ (r s : Nat), s + r = 10 → EX I_X6_count 0 0 none Z 115 [some (.ref (a + 0)), some (.int (iI h)), some (.int (iI (mEmpty z s))), some (.int (iI ((s : Nat) : Int)))] [] (P ++ mz a fr z R) 0 0 := by
  intro r
  induction r with
  | zero =>
    intro s hs
    have hs' : s = 10 := by omega
    subst hs'
    refine x_iload_n dX6_count_115 rfl ?_
    refine x_bipush dX6_count_116 ?_
    refine x_icmp_ge 147 dX6_count_118 (fun h118 => ?_) (fun h118 => by exfalso; omega)
    exact hx
  | succ r ih =>
    intro s hs
    refine x_iload_n dX6_count_115 rfl ?_
    refine x_bipush dX6_count_116 ?_
    refine x_icmp_ge 147 dX6_count_118 (fun h118 => by exfalso; omega) (fun h118 => ?_)
    refine x_iload_n dX6_count_121 rfl ?_
    refine x_aload_n dX6_count_122 rfl ?_
    refine x_getfield 0 dX6_count_123 fg_X6_7 hP rfl rfl ?_
    refine x_bipush dX6_count_126 ?_
    refine x_iload_n dX6_count_128 rfl ?_
    refine x_iadd dX6_count_129 ?_
    refine x_iaload 1 (20 + s) dX6_count_130 hP rfl ?_
    refine x_if_ge 138 dX6_count_131 (fun h131 => ?_) (fun h131 => ?_) (ha := hR _)
    · refine x_iconst dX6_count_138 ?_
      refine x_iadd dX6_count_139 ?_
      refine x_ist2 dX6_count_140 ?_
      refine x_inc3 dX6_count_141 ?_
      refine x_goto 115 dX6_count_144 ?_
      have hq : mEmpty z (s + 1) = mEmpty z s + 0 := by simp only [mEmpty]; rw [if_pos h131]
      have := ih (s + 1) (by omega)
      rw [hq] at this
      exact this
    · refine x_iconst dX6_count_134 ?_
      refine x_goto 139 dX6_count_135 ?_
      refine x_iadd dX6_count_139 ?_
      refine x_ist2 dX6_count_140 ?_
      refine x_inc3 dX6_count_141 ?_
      refine x_goto 115 dX6_count_144 ?_
      have hq : mEmpty z (s + 1) = mEmpty z s + 1 := by simp only [mEmpty]; rw [if_neg h131]
      have := ih (s + 1) (by omega)
      rw [hq] at this
      exact this
set_option maxRecDepth 100000 in
set_option maxHeartbeats 4000000 in
theorem c_count {P : AW} {a : Nat} (hP : P.length = a) (fr : List Value) (z : Nat → Int) (R : AW) (hR : ∀ i, inR (z i)) (h : Int) (hih : inR h) : CTi I_X6_count 0 0 [.ref (a + 0), .int (iI h)] (P ++ mz a fr z R) (fun x w' => x = rCnt z h ∧ w' = P ++ mz a fr z R) := by
  refine CT_of 2 rfl (Nat.le_of_ble_eq_true rfl) ?_
  show EX I_X6_count 0 0 none _ 0 [some (.ref (a + 0)), some (.int (iI h)), none, none] [] _ 0 0
  refine x_iload_n dX6_count_0 rfl ?_
  rcases (show h = 0 ∨ h = 1 ∨ h = 2 ∨ h = 3 ∨ h = 4 ∨ h = 5 ∨ h = 6 ∨ h = 7 ∨ h = 8 ∨ (h < 0 ∨ 8 < h) by omega) with h1 | h1 | h1 | h1 | h1 | h1 | h1 | h1 | h1 | h1
  · refine x_tsIn 0 52 dX6_count_1 (by omega) ?_
    refine x_aload_n dX6_count_52 rfl ?_
    refine x_getfield 0 dX6_count_53 fg_X6_7 hP rfl rfl ?_
    refine x_bipush dX6_count_56 ?_
    refine x_iaload 1 (16) dX6_count_58 hP rfl ?_
    exact x_iret dX6_count_59 (⟨by unfold rCnt; (repeat' split) <;> first | rfl | omega | (exfalso; omega), rfl⟩)
  · refine x_tsIn 1 60 dX6_count_1 (by omega) ?_
    refine x_aload_n dX6_count_60 rfl ?_
    refine x_calliV dX6_count_61 mk_X6_pinsIn ml_X6_82 (c_pinsIn hP fr z R) ((wg_app hP 0).trans rfl) rfl (fun x61 w61 h61 => ?_)
    obtain ⟨rfl, rfl⟩ := h61
    exact x_iret dX6_count_64 (⟨by unfold rCnt; (repeat' split) <;> first | rfl | omega | (exfalso; omega), rfl⟩)
  · refine x_tsIn 2 65 dX6_count_1 (by omega) ?_
    refine x_aload_n dX6_count_65 rfl ?_
    refine x_getfield 0 dX6_count_66 fg_X6_7 hP rfl rfl ?_
    refine x_bipush dX6_count_69 ?_
    refine x_iaload 1 (7) dX6_count_71 hP rfl ?_
    exact x_iret dX6_count_72 (⟨by unfold rCnt; (repeat' split) <;> first | rfl | omega | (exfalso; omega), rfl⟩)
  · refine x_tsIn 3 73 dX6_count_1 (by omega) ?_
    refine x_aload_n dX6_count_73 rfl ?_
    refine x_getfield 0 dX6_count_74 fg_X6_7 hP rfl rfl ?_
    refine x_bipush dX6_count_77 ?_
    refine x_iaload 1 (8) dX6_count_79 hP rfl ?_
    exact x_iret dX6_count_80 (⟨by unfold rCnt; (repeat' split) <;> first | rfl | omega | (exfalso; omega), rfl⟩)
  · refine x_tsIn 4 81 dX6_count_1 (by omega) ?_
    refine x_aload_n dX6_count_81 rfl ?_
    refine x_getfield 0 dX6_count_82 fg_X6_7 hP rfl rfl ?_
    refine x_bipush dX6_count_85 ?_
    refine x_iaload 1 (10) dX6_count_87 hP rfl ?_
    exact x_iret dX6_count_88 (⟨by unfold rCnt; (repeat' split) <;> first | rfl | omega | (exfalso; omega), rfl⟩)
  · refine x_tsIn 5 89 dX6_count_1 (by omega) ?_
    refine x_aload_n dX6_count_89 rfl ?_
    refine x_getfield 0 dX6_count_90 fg_X6_7 hP rfl rfl ?_
    refine x_iconst dX6_count_93 ?_
    refine x_iaload 1 (5) dX6_count_94 hP rfl ?_
    exact x_iret dX6_count_95 (⟨by unfold rCnt; (repeat' split) <;> first | rfl | omega | (exfalso; omega), rfl⟩)
  · refine x_tsIn 6 96 dX6_count_1 (by omega) ?_
    refine x_aload_n dX6_count_96 rfl ?_
    refine x_getfield 0 dX6_count_97 fg_X6_7 hP rfl rfl ?_
    refine x_bipush dX6_count_100 ?_
    refine x_iaload 1 (6) dX6_count_102 hP rfl ?_
    exact x_iret dX6_count_103 (⟨by unfold rCnt; (repeat' split) <;> first | rfl | omega | (exfalso; omega), rfl⟩)
  · refine x_tsIn 7 104 dX6_count_1 (by omega) ?_
    refine x_aload_n dX6_count_104 rfl ?_
    refine x_getfield 0 dX6_count_105 fg_X6_7 hP rfl rfl ?_
    refine x_iconst dX6_count_108 ?_
    refine x_iaload 1 (0) dX6_count_109 hP rfl ?_
    exact x_iret dX6_count_110 (⟨by unfold rCnt; (repeat' split) <;> first | rfl | omega | (exfalso; omega), rfl⟩)
  · refine x_tsIn 8 111 dX6_count_1 (by omega) ?_
    refine x_iconst dX6_count_111 ?_
    refine x_ist2 dX6_count_112 ?_
    refine x_iconst dX6_count_113 ?_
    refine x_ist3 dX6_count_114 ?_
    refine l_count hP fr z R hR h ?_ 10 0 rfl
    refine x_iload_n dX6_count_147 rfl ?_
    exact x_iret dX6_count_148 (⟨by unfold rCnt; (repeat' split) <;> first | rfl | omega | (exfalso; omega), rfl⟩)
  · refine x_tsOut 149 dX6_count_1 h1 ?_
    refine x_iconst dX6_count_149 ?_
    exact x_iret dX6_count_150 (⟨by unfold rCnt; (repeat' split) <;> first | rfl | omega | (exfalso; omega), rfl⟩)
