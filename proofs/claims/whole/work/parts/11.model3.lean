/-- what holds of z, but for what the carriage does -/
def ZC (z : Nat → Int) : Prop :=
  (0 ≤ z 1 ∧ z 1 ≤ 9) ∧ (z 2 = 0 ∨ z 2 = 1) ∧ (1 ≤ z 15 ∧ z 15 ≤ 99) ∧ (0 ≤ z 16 ∧ z 16 ≤ 16) ∧
  (∀ p, p < 10 → z (20 + p) = -4 ∨ (0 ≤ z (20 + p) ∧ z (20 + p) < z 16)) ∧
  (∀ p q, p < q → q < 10 → z (20 + p) = z (20 + q) → z (20 + p) = -4) ∧
  P01 z ∧ (∀ s, s < 20 → 0 ≤ z (50 + s) ∧ z (50 + s) ≤ 2) ∧ (∀ s, s < 20 → z (50 + s) = 1 → z (30 + s) = 1) ∧ (∀ s, s < 20 → z (50 + s) = 2 → z (30 + s) = 0) ∧
  (∀ s, s < 20 → 0 ≤ z (70 + s) ∧ z (70 + s) ≤ 99) ∧ (∀ r, r < 32 → 0 ≤ z (90 + r) ∧ z (90 + r) ≤ 60) ∧ (∀ r : Nat, (r : Int) < 2 * z 16 → 1 ≤ z (90 + r)) ∧ (∀ r, r < 32 → 0 ≤ z (122 + r) ∧ z (122 + r) ≤ 99)
/-- what the carriage does -/
def ZD (z : Nat → Int) : Prop :=
  (0 ≤ z 3 ∧ z 3 ≤ 5) ∧ (0 ≤ z 4 ∧ z 4 ≤ 120) ∧ (z 3 = 0 → z 4 = 0) ∧ (¬ z 3 = 0 → 1 ≤ z 4) ∧ (3 ≤ z 3 → 0 ≤ z (20 + (z 1).toNat)) ∧
  (z 3 = 1 → (z 2 = 1 → z 1 ≤ 8) ∧ (z 2 = 0 → 1 ≤ z 1)) ∧ (z 3 = 2 → (z 2 = 1 ∧ z 1 = 9) ∨ (z 2 = 0 ∧ z 1 = 0))
def ZB (z : Nat → Int) : Prop := (0 ≤ z 0 ∧ z 0 ≤ 2000000000) ∧ (0 ≤ z 5 ∧ z 5 ≤ 2000000000) ∧ (0 ≤ z 6 ∧ z 6 ≤ 2000000000)
theorem ZC_eq {z z' : Nat → Int} (h : ZC z) (e : ∀ i, i = 1 ∨ i = 2 ∨ 15 ≤ i → z' i = z i) : ZC z' := by
  obtain ⟨h1, h2, h3, h4, h5, h6, h7, h8, h9, h10, h11, h12, h13, h14⟩ := h
  refine ⟨by rw [e 1 (by omega)]; exact h1, by rw [e 2 (by omega)]; exact h2, by rw [e 15 (by omega)]; exact h3, by rw [e 16 (by omega)]; exact h4, fun p hp => by rw [e (20 + p) (by omega), e 16 (by omega)]; exact h5 p hp, fun p q hpq hq he => ?_, fun s hs => by rw [e _ (by omega)]; exact h7 s hs, fun s hs => by rw [e _ (by omega)]; exact h8 s hs, fun s hs he => ?_, fun s hs he => ?_, fun s hs => by rw [e _ (by omega)]; exact h11 s hs, fun s hs => by rw [e _ (by omega)]; exact h12 s hs, fun r hr => ?_, fun s hs => by rw [e _ (by omega)]; exact h14 s hs⟩
  · rw [e (20 + p) (by omega), e (20 + q) (by omega)] at he
    rw [e (20 + p) (by omega)]
    exact h6 p q hpq hq he
  · rw [e _ (by omega)] at he ⊢
    exact h9 s hs he
  · rw [e _ (by omega)] at he ⊢
    exact h10 s hs he
  · rw [e 16 (by omega)] at hr
    rw [e _ (by omega)]
    exact h13 r hr
theorem ZC_n {z : Nat → Int} {j : Nat} {v : Int} (h : ZC z) (hj : j = 0 ∨ (3 ≤ j ∧ j ≤ 14)) : ZC (updI z j v) := ZC_eq h (fun i hi => updI_n (by omega))
theorem ZC_p {z : Nat → Int} {v : Int} (h : ZC z) (h1 : 0 ≤ v) (h2 : v ≤ 9) : ZC (updI z 1 v) := by
  obtain ⟨g1, g2, g3, g4, g5, g6, g7, g8, g9, g10, g11, g12, g13, g14⟩ := h
  have e : ∀ i, ¬ i = 1 → updI z 1 v i = z i := fun i hi => updI_n hi
  refine ⟨by rw [updI_e]; exact ⟨h1, h2⟩, by rw [e 2 (by omega)]; exact g2, by rw [e 15 (by omega)]; exact g3, by rw [e 16 (by omega)]; exact g4, fun p hp => by rw [e (20 + p) (by omega), e 16 (by omega)]; exact g5 p hp, fun p q hpq hq he => ?_, fun s hs => by rw [e _ (by omega)]; exact g7 s hs, fun s hs => by rw [e _ (by omega)]; exact g8 s hs, fun s hs he => ?_, fun s hs he => ?_, fun s hs => by rw [e _ (by omega)]; exact g11 s hs, fun s hs => by rw [e _ (by omega)]; exact g12 s hs, fun r hr => ?_, fun s hs => by rw [e _ (by omega)]; exact g14 s hs⟩
  · rw [e (20 + p) (by omega), e (20 + q) (by omega)] at he
    rw [e (20 + p) (by omega)]
    exact g6 p q hpq hq he
  · rw [e _ (by omega)] at he ⊢
    exact g9 s hs he
  · rw [e _ (by omega)] at he ⊢
    exact g10 s hs he
  · rw [e 16 (by omega)] at hr
    rw [e _ (by omega)]
    exact g13 r hr
theorem ZC_t {z : Nat → Int} {v : Int} (h : ZC z) (h1 : v = 0 ∨ v = 1) : ZC (updI z 2 v) := by
  obtain ⟨g1, g2, g3, g4, g5, g6, g7, g8, g9, g10, g11, g12, g13, g14⟩ := h
  have e : ∀ i, ¬ i = 2 → updI z 2 v i = z i := fun i hi => updI_n hi
  refine ⟨by rw [e 1 (by omega)]; exact g1, by rw [updI_e]; exact h1, by rw [e 15 (by omega)]; exact g3, by rw [e 16 (by omega)]; exact g4, fun p hp => by rw [e (20 + p) (by omega), e 16 (by omega)]; exact g5 p hp, fun p q hpq hq he => ?_, fun s hs => by rw [e _ (by omega)]; exact g7 s hs, fun s hs => by rw [e _ (by omega)]; exact g8 s hs, fun s hs he => ?_, fun s hs he => ?_, fun s hs => by rw [e _ (by omega)]; exact g11 s hs, fun s hs => by rw [e _ (by omega)]; exact g12 s hs, fun r hr => ?_, fun s hs => by rw [e _ (by omega)]; exact g14 s hs⟩
  · rw [e (20 + p) (by omega), e (20 + q) (by omega)] at he
    rw [e (20 + p) (by omega)]
    exact g6 p q hpq hq he
  · rw [e _ (by omega)] at he ⊢
    exact g9 s hs he
  · rw [e _ (by omega)] at he ⊢
    exact g10 s hs he
  · rw [e 16 (by omega)] at hr
    rw [e _ (by omega)]
    exact g13 r hr
theorem ZC_o {z : Nat → Int} (h : ZC z) (s : Nat) (hs : s < 20) : ZC (mOut z s) := by
  obtain ⟨g1, g2, g3, g4, g5, g6, g7, g8, g9, g10, g11, g12, g13, g14⟩ := h
  have e : ∀ i, ¬ i = 30 + s → mOut z s i = z i := fun i hi => updI_n hi
  refine ⟨by rw [e 1 (by omega)]; exact g1, by rw [e 2 (by omega)]; exact g2, by rw [e 15 (by omega)]; exact g3, by rw [e 16 (by omega)]; exact g4, fun p hp => by rw [e (20 + p) (by omega), e 16 (by omega)]; exact g5 p hp, fun p q hpq hq he => ?_, P01_o g7 s hs, fun s hs => by rw [e _ (by omega)]; exact g8 s hs, fun t ht he => ?_, fun t ht he => ?_, fun s hs => by rw [e _ (by omega)]; exact g11 s hs, fun s hs => by rw [e _ (by omega)]; exact g12 s hs, fun r hr => ?_, fun s hs => by rw [e _ (by omega)]; exact g14 s hs⟩
  · rw [e (20 + p) (by omega), e (20 + q) (by omega)] at he
    rw [e (20 + p) (by omega)]
    exact g6 p q hpq hq he
  · rw [e _ (by omega)] at he
    by_cases hst : t = s
    · subst hst
      unfold mOut
      rw [updI_e, if_neg (by omega)]
      exact g9 t ht he
    · rw [e _ (by omega)]
      exact g9 t ht he
  · rw [e _ (by omega)] at he
    by_cases hst : t = s
    · subst hst
      unfold mOut
      rw [updI_e, if_neg (by omega)]
      exact g10 t ht he
    · rw [e _ (by omega)]
      exact g10 t ht he
  · rw [e 16 (by omega)] at hr
    rw [e _ (by omega)]
    exact g13 r hr
/-- mOut leaves all but one pin -/
theorem mOut_n {z : Nat → Int} {s i : Nat} (h : ¬ i = 30 + s) : mOut z s i = z i := updI_n h
theorem mDoes_n {z : Nat → Int} {x t : Int} {i : Nat} (h3 : ¬ i = 3) (h4 : ¬ i = 4) : mDoes z x t i = z i := (updI_n h4).trans (updI_n h3)
theorem mDoes_3 (z : Nat → Int) (x t : Int) : mDoes z x t 3 = x := (updI_n (by decide)).trans (updI_e _ _ _)
theorem mDoes_4 (z : Nat → Int) (x t : Int) : mDoes z x t 4 = t := updI_e _ _ _
theorem ZC_d {z : Nat → Int} {x t : Int} (h : ZC z) : ZC (mDoes z x t) := ZC_eq h (fun i hi => mDoes_n (by omega) (by omega))
theorem ZD_d {z : Nat → Int} {x t : Int} (h1 : 0 ≤ x ∧ x ≤ 5) (h2 : 0 ≤ t ∧ t ≤ 120) (h3 : x = 0 → t = 0) (h4 : ¬ x = 0 → 1 ≤ t) (h5 : 3 ≤ x → 0 ≤ z (20 + (z 1).toNat)) (h6 : x = 1 → (z 2 = 1 → z 1 ≤ 8) ∧ (z 2 = 0 → 1 ≤ z 1)) (h7 : x = 2 → (z 2 = 1 ∧ z 1 = 9) ∨ (z 2 = 0 ∧ z 1 = 0)) : ZD (mDoes z x t) := by
  refine ⟨by rw [mDoes_3]; exact h1, by rw [mDoes_4]; exact h2, by rw [mDoes_3, mDoes_4]; exact h3, by rw [mDoes_3, mDoes_4]; exact h4, ?_, ?_, ?_⟩
  · rw [mDoes_3, mDoes_n (i := 1) (by decide) (by decide), mDoes_n (by omega) (by omega)]
    exact h5
  · rw [mDoes_3, mDoes_n (i := 1) (by decide) (by decide), mDoes_n (i := 2) (by omega) (by omega)]
    exact h6
  · rw [mDoes_3, mDoes_n (i := 1) (by decide) (by decide), mDoes_n (i := 2) (by omega) (by omega)]
    exact h7
theorem ZI_goOn {z : Nat → Int} (h : ZC z) : ZC (mGoOn z) ∧ ZD (mGoOn z) := by
  have h1 := h.1
  have h2 := h.2.1
  unfold mGoOn
  split
  · exact ⟨ZC_d h, ZD_d (by omega) (by omega) (by omega) (by omega) (by omega) (by omega) (by omega)⟩
  · split
    · exact ⟨ZC_d h, ZD_d (by omega) (by omega) (by omega) (by omega) (by omega) (by omega) (by omega)⟩
    · exact ⟨ZC_d h, ZD_d (by omega) (by omega) (by omega) (by omega) (by omega) (by omega) (by omega)⟩
theorem mGoOn_n {z : Nat → Int} {i : Nat} (h3 : ¬ i = 3) (h4 : ¬ i = 4) : mGoOn z i = z i := by
  unfold mGoOn
  (repeat' split) <;> exact mDoes_n h3 h4
theorem ZI_look {z : Nat → Int} (h : ZC z) : ZC (mLook z) ∧ ZD (mLook z) := by
  have hs := mSong_b h.1.1 h.1.2
  have ho := ZC_o h (mSong z).toNat (by omega)
  have h1 := h.1
  unfold mLook
  split
  · split
    · refine ⟨ZC_d ho, ZD_d (by omega) (by omega) (by omega) (by omega) (fun _ => ?_) (by omega) (by omega)⟩
      rw [mOut_n (i := 1) (by omega), mOut_n (by omega)]
      assumption
    · exact ZI_goOn (ZC_n ho (by omega))
  · exact ZI_goOn (ZC_n ho (by omega))
theorem mSide_b {z : Nat → Int} (h : ZC z) (hr : 0 ≤ z (20 + (z 1).toNat)) : 2 * z (20 + (z 1).toNat) + mSong z % 2 = ((mSide z : Nat) : Int) ∧ mSide z < 32 ∧ ((mSide z : Nat) : Int) < 2 * z 16 := by
  have h1 := h.1
  have h5 := h.2.2.2.2.1 (z 1).toNat (by omega)
  have h4 := h.2.2.2.1
  have hs := mSong_b h.1.1 h.1.2
  have e : 2 * z (20 + (z 1).toNat) + mSong z % 2 = ((mSide z : Nat) : Int) := by unfold mSide; omega
  omega
theorem ZC_wm {z : Nat → Int} {j : Nat} {v : Int} (h : ZC z) (hj : (70 ≤ j ∧ j < 90) ∨ 122 ≤ j) (hv : 0 ≤ v ∧ v ≤ 99) : ZC (updI z j v) := by
  obtain ⟨g1, g2, g3, g4, g5, g6, g7, g8, g9, g10, g11, g12, g13, g14⟩ := h
  have e : ∀ i, ¬ i = j → updI z j v i = z i := fun i hi => updI_n hi
  refine ⟨by rw [e 1 (by omega)]; exact g1, by rw [e 2 (by omega)]; exact g2, by rw [e 15 (by omega)]; exact g3, by rw [e 16 (by omega)]; exact g4, fun p hp => by rw [e (20 + p) (by omega), e 16 (by omega)]; exact g5 p hp, fun p q hpq hq he => ?_, fun s hs => by rw [e _ (by omega)]; exact g7 s hs, fun s hs => by rw [e _ (by omega)]; exact g8 s hs, fun t ht he => ?_, fun t ht he => ?_, fun s hs => ?_, fun s hs => by rw [e _ (by omega)]; exact g12 s hs, fun r hr => ?_, fun s hs => ?_⟩
  · rw [e (20 + p) (by omega), e (20 + q) (by omega)] at he
    rw [e (20 + p) (by omega)]
    exact g6 p q hpq hq he
  · rw [e _ (by omega)] at he ⊢
    exact g9 t ht he
  · rw [e _ (by omega)] at he ⊢
    exact g10 t ht he
  · unfold updI
    split
    · exact hv
    · exact g11 s hs
  · rw [e 16 (by omega)] at hr
    have : (r : Int) < 32 := by omega
    rw [e _ (by omega)]
    exact g13 r hr
  · unfold updI
    split
    · exact hv
    · exact g14 s hs
theorem mWear_b {z : Nat → Int} (h : ZC z) (hr : 0 ≤ z (20 + (z 1).toNat)) : 1 ≤ mWear z ∧ mWear z ≤ 99 := by
  obtain ⟨e1, e2, -⟩ := mSide_b h hr
  have := h.2.2.2.2.2.2.2.2.2.2.2.2.2 (mSide z) e2
  unfold mWear
  split <;> omega
theorem ZI_play {z : Nat → Int} (h : ZC z) (hr : 0 ≤ z (20 + (z 1).toNat)) : ZC (mPlay z) ∧ ZD (mPlay z) := by
  obtain ⟨e1, e2, e3⟩ := mSide_b h hr
  have hs := mSong_b h.1.1 h.1.2
  have h1 := h.1
  have hw := mWear_b h hr
  have ht := h.2.2.2.2.2.2.2.2.2.2.2.1 (mSide z) e2
  have ht1 := h.2.2.2.2.2.2.2.2.2.2.2.2.1 (mSide z) e3
  have hm := h.2.2.2.2.2.2.2.2.2.2.1 (mSong z).toNat (by omega)
  have hc := ZC_n (j := 5) (v := z 5 + 1) (ZC_wm (j := 122 + mSide z) (v := mWear z) (ZC_wm (j := 70 + (mSong z).toNat) (v := (z (70 + (mSong z).toNat) + 1) % 100) h (by omega) (by omega)) (by omega) (by omega)) (by omega)
  refine ⟨ZC_d hc, ZD_d (by omega) (by split <;> omega) (by omega) (by split <;> omega) (fun _ => ?_) (by omega) (by omega)⟩
  rw [updI_n (j := 5) (q := 1) (by decide), updI_n (j := 122 + mSide z) (q := 1) (by omega), updI_n (j := 70 + (mSong z).toNat) (q := 1) (by omega), updI_n (j := 5) (by omega), updI_n (j := 122 + mSide z) (by omega), updI_n (j := 70 + (mSong z).toNat) (by omega)]
  exact hr
theorem ZI_tick {z : Nat → Int} (h : ZC z) (hd : ZD z) : ZC (mTick z) ∧ ZD (mTick z) := by
  have h1 := h.1
  have h2 := h.2.1
  obtain ⟨d1, d2, d3, d4, d5, d6, d7⟩ := hd
  unfold mTick
  split
  · split
    · refine ⟨ZC_n h (by omega), ?_⟩
      unfold ZD
      rw [updI_n (q := 3) (by decide), updI_n (q := 4) (by decide), updI_n (q := 1) (by decide), updI_n (q := 2) (by decide), updI_n (by omega)]
      exact ⟨d1, d2, d3, d4, d5, d6, d7⟩
    · exact ZI_look (ZC_n h (by omega))
  · split
    · refine ⟨ZC_n (ZC_n h (by omega)) (by omega), ?_⟩
      unfold ZD
      rw [updI_e, updI_n (j := 4) (q := 3) (by decide), updI_n (j := 4) (q := 1) (by decide), updI_n (j := 4) (q := 2) (by decide), updI_n (j := 4) (by omega), updI_n (j := 0) (q := 3) (by decide), updI_n (j := 0) (q := 1) (by decide), updI_n (j := 0) (q := 2) (by decide), updI_n (j := 0) (by omega)]
      exact ⟨d1, by omega, by omega, by omega, d5, d6, d7⟩
    · have hc := ZC_n (j := 4) (v := z 4 - 1) (ZC_n (j := 0) (v := z 0 + 1) h (by omega)) (by omega)
      split
      · refine ZI_look (ZC_p hc ?_ ?_) <;> split <;> omega
      · split
        · exact ZI_look (ZC_t hc (by omega))
        · split
          · refine ZI_play hc ?_
            rw [updI_n (j := 4) (q := 1) (by decide), updI_n (j := 0) (q := 1) (by decide), updI_n (j := 4) (by omega), updI_n (j := 0) (by omega)]
            exact d5 (by omega)
          · split
            · refine ⟨ZC_d hc, ZD_d (by omega) (by omega) (by omega) (by omega) (fun _ => ?_) (by omega) (by omega)⟩
              rw [updI_n (j := 4) (q := 1) (by decide), updI_n (j := 0) (q := 1) (by decide), updI_n (j := 4) (by omega), updI_n (j := 0) (by omega)]
              exact d5 (by omega)
            · exact ZI_goOn hc
set_option maxRecDepth 100000 in
set_option maxHeartbeats 4000000 in
theorem c_tick {P : AW} {a : Nat} (hP : P.length = a) (fr : List Value) (z : Nat → Int) (R : AW) (hR : ∀ i, inR (z i)) (hzc : ZC z) (hzd : ZD z) (hzb : ZB z) : CTv I_X6_tick 0 0 [.ref (a + 0)] (P ++ mz a fr z R) (fun w' => w' = P ++ mz a fr (mTick z) R) := by
  have hpn := hzc.2.2.2.2.2.2.1
  have h1 := hzc.1
  have h2 := hzc.2.1
  obtain ⟨d1, d2, d3, d4, d5, d6, d7⟩ := id hzd
  obtain ⟨b1, b2, b3⟩ := id hzb
  refine CT_of 0 rfl (Nat.le_of_ble_eq_true rfl) ?_
  show EX I_X6_tick 0 0 none _ 0 [some (.ref (a + 0))] [] _ 0 0
  refine x_aload_n dX6_tick_0 rfl ?_
  refine x_getfield 0 dX6_tick_1 fg_X6_7 hP rfl rfl ?_
  refine x_iconst dX6_tick_4 ?_
  refine x_dup2 dX6_tick_5 ?_
  refine x_iaload 1 (0) dX6_tick_6 hP rfl ?_
  refine x_iconst dX6_tick_7 ?_
  refine x_iadd dX6_tick_8 ?_
  refine x_iastore 1 (0) dX6_tick_9 hP rfl ?_
  refine x_aload_n dX6_tick_10 rfl ?_
  refine x_getfield 0 dX6_tick_11 fg_X6_7 hP rfl rfl ?_
  refine x_iconst dX6_tick_14 ?_
  refine x_iaload 1 (3) dX6_tick_15 hP rfl ?_
  refine x_top (updI_n (by omega)) ?_
  refine x_if_ne 31 dX6_tick_16 (fun h16 => ?_) (fun h16 => ?_) (ha := hR _)
  · refine x_aload_n dX6_tick_31 rfl ?_
    refine x_getfield 0 dX6_tick_32 fg_X6_7 hP rfl rfl ?_
    refine x_iconst dX6_tick_35 ?_
    refine x_dup2 dX6_tick_36 ?_
    refine x_iaload 1 (4) dX6_tick_37 hP rfl ?_
    refine x_top (updI_n (by omega)) ?_
    refine x_iconst dX6_tick_38 ?_
    refine x_isub dX6_tick_39 ?_
    refine x_iastore 1 (4) dX6_tick_40 hP rfl ?_
    refine x_aload_n dX6_tick_41 rfl ?_
    refine x_getfield 0 dX6_tick_42 fg_X6_7 hP rfl rfl ?_
    refine x_iconst dX6_tick_45 ?_
    refine x_iaload 1 (4) dX6_tick_46 hP rfl ?_
    refine x_top (updI_e _ _ _) ?_
    refine x_if_le 51 dX6_tick_47 (fun h47 => ?_) (fun h47 => ?_)
    · refine x_aload_n dX6_tick_51 rfl ?_
      refine x_getfield 0 dX6_tick_52 fg_X6_7 hP rfl rfl ?_
      refine x_iconst dX6_tick_55 ?_
      refine x_iaload 1 (3) dX6_tick_56 hP rfl ?_
      refine x_top ((updI_n (by omega)).trans (updI_n (by omega))) ?_
      rcases (show z 3 = 1 ∨ z 3 = 2 ∨ z 3 = 3 ∨ z 3 = 4 ∨ (z 3 < 1 ∨ 4 < z 3) by omega) with h57 | h57 | h57 | h57 | h57
      · refine x_tsIn 0 88 dX6_tick_57 (by omega) ?_ (ha := hR _)
        refine x_aload_n dX6_tick_88 rfl ?_
        refine x_getfield 0 dX6_tick_89 fg_X6_7 hP rfl rfl ?_
        refine x_iconst dX6_tick_92 ?_
        refine x_dup2 dX6_tick_93 ?_
        refine x_iaload 1 (1) dX6_tick_94 hP rfl ?_
        refine x_top ((updI_n (by omega)).trans (updI_n (by omega))) ?_
        refine x_aload_n dX6_tick_95 rfl ?_
        refine x_getfield 0 dX6_tick_96 fg_X6_7 hP rfl rfl ?_
        refine x_iconst dX6_tick_99 ?_
        refine x_iaload 1 (2) dX6_tick_100 hP rfl ?_
        refine x_top ((updI_n (by omega)).trans (updI_n (by omega))) ?_
        refine x_iconst dX6_tick_101 ?_
        refine x_icmp_ne 109 dX6_tick_102 (fun h102 => ?_) (fun h102 => ?_) (ha := hR _)
        · refine x_iconst dX6_tick_109 ?_
          refine x_iadd dX6_tick_110 ?_
          refine x_iastore 1 (1) dX6_tick_111 hP rfl ?_
          refine x_aload_n dX6_tick_112 rfl ?_
          refine x_callvV dX6_tick_113 mk_X6_look ml_X6_95 (c_look hP fr _ R (inR_upd (inR_upd (inR_upd hR (by omega)) (by omega)) (by omega)) (by rw [updI_e]; omega) (by rw [updI_e]; omega) (P01_n (P01_n (P01_n hpn (by decide)) (by decide)) (by decide)) (by rw [updI_n, updI_n, updI_n] <;> omega)) ((wg_app hP 0).trans rfl) rfl (fun w113 h113 => ?_)
          subst h113
          refine x_goto 160 dX6_tick_116 ?_
          exact x_vret dX6_tick_160 (by unfold mTick; (repeat' split) <;> first | rfl | (exfalso; omega))
        · refine x_iconst dX6_tick_105 ?_
          refine x_goto 110 dX6_tick_106 ?_
          refine x_iadd dX6_tick_110 ?_
          refine x_iastore 1 (1) dX6_tick_111 hP rfl ?_
          refine x_aload_n dX6_tick_112 rfl ?_
          refine x_callvV dX6_tick_113 mk_X6_look ml_X6_95 (c_look hP fr _ R (inR_upd (inR_upd (inR_upd hR (by omega)) (by omega)) (by omega)) (by rw [updI_e]; omega) (by rw [updI_e]; omega) (P01_n (P01_n (P01_n hpn (by decide)) (by decide)) (by decide)) (by rw [updI_n, updI_n, updI_n] <;> omega)) ((wg_app hP 0).trans rfl) rfl (fun w113 h113 => ?_)
          subst h113
          refine x_goto 160 dX6_tick_116 ?_
          exact x_vret dX6_tick_160 (by unfold mTick; (repeat' split) <;> first | rfl | (exfalso; omega))
      · refine x_tsIn 1 119 dX6_tick_57 (by omega) ?_ (ha := hR _)
        refine x_aload_n dX6_tick_119 rfl ?_
        refine x_getfield 0 dX6_tick_120 fg_X6_7 hP rfl rfl ?_
        refine x_iconst dX6_tick_123 ?_
        refine x_iconst dX6_tick_124 ?_
        refine x_aload_n dX6_tick_125 rfl ?_
        refine x_getfield 0 dX6_tick_126 fg_X6_7 hP rfl rfl ?_
        refine x_iconst dX6_tick_129 ?_
        refine x_iaload 1 (2) dX6_tick_130 hP rfl ?_
        refine x_top ((updI_n (by omega)).trans (updI_n (by omega))) ?_
        refine x_isub dX6_tick_131 ?_
        refine x_iastore 1 (2) dX6_tick_132 hP rfl ?_
        refine x_aload_n dX6_tick_133 rfl ?_
        refine x_callvV dX6_tick_134 mk_X6_look ml_X6_95 (c_look hP fr _ R (inR_upd (inR_upd (inR_upd hR (by omega)) (by omega)) (by omega)) (by rw [updI_n, updI_n, updI_n] <;> omega) (by rw [updI_n, updI_n, updI_n] <;> omega) (P01_n (P01_n (P01_n hpn (by decide)) (by decide)) (by decide)) (by rw [updI_n, updI_n, updI_n] <;> omega)) ((wg_app hP 0).trans rfl) rfl (fun w134 h134 => ?_)
        subst h134
        refine x_goto 160 dX6_tick_137 ?_
        exact x_vret dX6_tick_160 (by unfold mTick; (repeat' split) <;> first | rfl | (exfalso; omega))
      · refine x_tsIn 2 140 dX6_tick_57 (by omega) ?_ (ha := hR _)
        refine x_aload_n dX6_tick_140 rfl ?_
        have hpr : (0 ≤ updI (updI z 0 (z 0 + 1)) 4 (z 4 - 1) (20 + (updI (updI z 0 (z 0 + 1)) 4 (z 4 - 1) 1).toNat)) ∧ (updI (updI z 0 (z 0 + 1)) 4 (z 4 - 1) (20 + (updI (updI z 0 (z 0 + 1)) 4 (z 4 - 1) 1).toNat) ≤ 15) ∧ (∀ s, s < 20 → 0 ≤ updI (updI z 0 (z 0 + 1)) 4 (z 4 - 1) (70 + s) ∧ updI (updI z 0 (z 0 + 1)) 4 (z 4 - 1) (70 + s) ≤ 99) ∧ (∀ s, s < 32 → 0 ≤ updI (updI z 0 (z 0 + 1)) 4 (z 4 - 1) (122 + s) ∧ updI (updI z 0 (z 0 + 1)) 4 (z 4 - 1) (122 + s) ≤ 99) := by
          have hc := ZC_n (j := 4) (v := z 4 - 1) (ZC_n (j := 0) (v := z 0 + 1) hzc (by omega)) (by omega)
          have g5 := hc.2.2.2.2.1 (updI (updI z 0 (z 0 + 1)) 4 (z 4 - 1) 1).toNat (by have := hc.1; omega)
          have g4 := hc.2.2.2.1
          have g0 : 0 ≤ updI (updI z 0 (z 0 + 1)) 4 (z 4 - 1) (20 + (updI (updI z 0 (z 0 + 1)) 4 (z 4 - 1) 1).toNat) := by
            rw [updI_n (j := 4) (q := 1) (by decide), updI_n (j := 0) (q := 1) (by decide), updI_n (j := 4) (by omega), updI_n (j := 0) (by omega)]
            exact d5 (by omega)
          exact ⟨g0, by omega, hc.2.2.2.2.2.2.2.2.2.2.1, hc.2.2.2.2.2.2.2.2.2.2.2.2.2⟩
        refine x_callvV dX6_tick_141 mk_X6_play ml_X6_98 (c_play hP fr _ R (inR_upd (inR_upd hR (by omega)) (by omega)) (by rw [updI_n, updI_n] <;> omega) (by rw [updI_n, updI_n] <;> omega) hpr.1 hpr.2.1 hpr.2.2.1 hpr.2.2.2) ((wg_app hP 0).trans rfl) rfl (fun w141 h141 => ?_)
        subst h141
        refine x_goto 160 dX6_tick_144 ?_
        exact x_vret dX6_tick_160 (by unfold mTick; (repeat' split) <;> first | rfl | (exfalso; omega))
      · refine x_tsIn 3 147 dX6_tick_57 (by omega) ?_ (ha := hR _)
        refine x_aload_n dX6_tick_147 rfl ?_
        refine x_iconst dX6_tick_148 ?_
        refine x_iconst dX6_tick_149 ?_
        refine x_callvV dX6_tick_150 mk_X6_does ml_X6_85 (c_does hP fr _ R 5 4) ((wg_app hP 0).trans rfl) rfl (fun w150 h150 => ?_)
        subst h150
        refine x_goto 160 dX6_tick_153 ?_
        exact x_vret dX6_tick_160 (by unfold mTick; (repeat' split) <;> first | rfl | (exfalso; omega))
      · refine x_tsOut 156 dX6_tick_57 h57 ?_ (ha := hR _)
        refine x_aload_n dX6_tick_156 rfl ?_
        refine x_callvV dX6_tick_157 mk_X6_goOn ml_X6_92 (c_goOn hP fr _ R (inR_upd (inR_upd hR (by omega)) (by omega)) (mPins_R (P01_n (P01_n hpn (by decide)) (by decide)))) ((wg_app hP 0).trans rfl) rfl (fun w157 h157 => ?_)
        subst h157
        exact x_vret dX6_tick_160 (by unfold mTick; (repeat' split) <;> first | rfl | (exfalso; omega))
    · exact x_vret dX6_tick_50 (by unfold mTick; (repeat' split) <;> first | rfl | (exfalso; omega))
  · refine x_aload_n dX6_tick_19 rfl ?_
    refine x_calliV dX6_tick_20 mk_X6_pinsIn ml_X6_82 (c_pinsIn hP fr _ R) ((wg_app hP 0).trans rfl) rfl (fun x20 w20 h20 => ?_)
    obtain ⟨rfl, rfl⟩ := h20
    refine x_if_le 30 dX6_tick_23 (fun h23 => ?_) (fun h23 => ?_) (ha := mPins_R (P01_n hpn (by decide)))
    · exact x_vret dX6_tick_30 (by unfold mTick; (repeat' split) <;> first | rfl | (exfalso; omega))
    · refine x_aload_n dX6_tick_26 rfl ?_
      refine x_callvV dX6_tick_27 mk_X6_look ml_X6_95 (c_look hP fr _ R (inR_upd hR (by omega)) (by rw [updI_n] <;> omega) (by rw [updI_n] <;> omega) (P01_n hpn (by decide)) (by rw [updI_n] <;> omega)) ((wg_app hP 0).trans rfl) rfl (fun w27 h27 => ?_)
      subst h27
      exact x_vret dX6_tick_30 (by unfold mTick; (repeat' split) <;> first | rfl | (exfalso; omega))
