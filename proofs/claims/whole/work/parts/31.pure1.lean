/-! ===== what would be: whole steps against ticks ===== -/
def stp (z : Nat → Int) : Nat → Int := mTicks z (gP z 120)
theorem gP_0 {z : Nat → Int} (h3 : z 3 = 0) (hp : ¬ mPins z 20 = 0) : gP z 120 = 1 := (if_pos h3).trans (if_neg hp)
theorem gP_n {z : Nat → Int} (h3 : ¬ z 3 = 0) (hd : ZD z) : gP z 120 = (z 4).toNat := by
  obtain ⟨d1, d2, d3, d4, d5, d6, d7⟩ := hd
  rw [show gP z 120 = (min 120 (z 4)).toNat from if_neg h3, show min 120 (z 4) = z 4 by omega]
theorem gP_b {z : Nat → Int} (hd : ZD z) : 1 ≤ gP z 120 ∧ gP z 120 ≤ 120 := by
  by_cases h3 : z 3 = 0
  · unfold gP
    rw [if_pos h3]
    split
    · exact ⟨by decide, by decide⟩
    · omega
  · rw [gP_n h3 hd]
    obtain ⟨d1, d2, d3, d4, d5, d6, d7⟩ := hd
    omega
theorem stp_0 {z : Nat → Int} (h3 : z 3 = 0) (hp : ¬ mPins z 20 = 0) (hb : 0 ≤ mPins z 20) : stp z = mLook (updI z 0 (z 0 + 1)) := by
  unfold stp
  rw [gP_0 h3 hp]
  exact tick_look h3 hp hb
theorem stp_n {z : Nat → Int} (h3 : ¬ z 3 = 0) (hd : ZD z) : stp z = mEnd (updI (updI z 0 (z 0 + z 4)) 4 (z 4 - z 4)) := by
  unfold stp
  rw [gP_n h3 hd]
  exact ticks_end h3 (hd.2.2.2.1 h3)
theorem ft_go {z : Nat → Int} (h3 : ¬ z 3 = 0) {n t q : Nat} (hn : n < 64) : ∀ (i F : Nat), (i : Int) < z 4 → q + i ≤ 2000 → ft (F + i) z n t q = ft F (mTicks z i) n (t + i) (q + i)
  | 0, F, _, _ => rfl
  | i + 1, F, h, hq => by
    have ih := ft_go h3 (t := t) (q := q) hn i (F + 1) (by omega) (by omega)
    have e1 := ticks_go h3 i (by omega)
    have e2 := ticks_go h3 (i + 1) h
    have e3 : mTicks z i 3 = z 3 := by rw [e1]; exact (updI_n (by decide)).trans (updI_n (by decide))
    have e5 : mTicks z i 5 = z 5 := by rw [e1]; exact (updI_n (by decide)).trans (updI_n (by decide))
    have e6 : mTicks z (i + 1) 5 = z 5 := by rw [e2]; exact (updI_n (by decide)).trans (updI_n (by decide))
    have e7 : mTick (mTicks z i) = mTicks z (i + 1) := rfl
    rw [show F + (i + 1) = F + 1 + i by omega, ih, ft_n (by omega) (by rw [e7]; omega), e7]
    rfl
theorem ft_pre {z : Nat → Int} (hA : ZA z) (hnd : ¬ (z 3 = 0 ∧ mPins z 20 = 0)) {n t q : Nat} (hn : n < 64) (hq : q + gP z 120 ≤ 2000) : ∃ g, gP z 120 = g + 1 ∧ mTicks z g 5 = z 5 ∧ ¬ (mTicks z g 3 = 0 ∧ mPins (mTicks z g) 20 = 0) ∧ ∀ F, ft (F + g) z n t q = ft F (mTicks z g) n (t + g) (q + g) := by
  by_cases h3 : z 3 = 0
  · exact ⟨0, gP_0 h3 (fun h => hnd ⟨h3, h⟩), rfl, hnd, fun F => rfl⟩
  · have hg := gP_n h3 hA.2.2.1
    have hb := gP_b hA.2.2.1
    have h4 : 1 ≤ z 4 := hA.2.2.1.2.2.2.1 h3
    have e1 := ticks_go h3 (gP z 120 - 1) (by omega)
    refine ⟨gP z 120 - 1, by omega, ?_, ?_, fun F => ft_go h3 hn _ F (by omega) (by omega)⟩
    · rw [e1]; exact (updI_n (by decide)).trans (updI_n (by decide))
    · intro h
      apply h3
      rw [← h.1, e1]
      exact ((updI_n (by decide)).trans (updI_n (by decide))).symm
/-- a whole step of the foretelling -/
theorem ft_step {z : Nat → Int} (hA : ZA z) (h0 : z 0 ≤ 1000000000) (hnd : ¬ (z 3 = 0 ∧ mPins z 20 = 0)) {n t q : Nat} (hn : n < 64) (hq : q + gP z 120 ≤ 2000) (F : Nat) :
    ft (F + gP z 120) z n t q = (if stp z 5 = z 5 then ft F (stp z) n (t + gP z 120) (q + gP z 120) else ((mSong (stp z), ((t + gP z 120 : Nat) : Int)) :: (ft F (stp z) (n + 1) (t + gP z 120) 0).1, (ft F (stp z) (n + 1) (t + gP z 120) 0).2)) := by
  obtain ⟨g, hg, h5, hy, hf⟩ := ft_pre hA hnd (t := t) hn hq
  have hb := gP_b hA.2.2.1
  have hs : stp z = mTick (mTicks z g) := by unfold stp; rw [hg]; rfl
  have hyA := (ZA_ticks hA g (by omega)).1
  have ht := (tick_05 hyA.2.1 hyA.2.2.1).2.1
  rw [hs, hg, show F + (g + 1) = F + 1 + g by omega, hf]
  by_cases c : mTick (mTicks z g) 5 ≤ mTicks z g 5
  · rw [ft_n (by omega) c, if_pos (by omega)]
    rfl
  · rw [ft_s (by omega) c, if_neg (by omega)]
    rfl
/-! the carriage's place in its round -/
def ph (z : Nat → Int) : Nat := if z 2 = 1 then (z 1).toNat else 19 - (z 1).toNat
def sg (p : Nat) : Nat := if p ≤ 9 then 2 * p else 2 * (19 - p) + 1
theorem ph_b {z : Nat → Int} (hc : ZC z) : ph z < 20 ∧ (mSong z).toNat = sg (ph z) := by
  obtain ⟨c1, c2, -⟩ := hc
  unfold ph sg mSong
  rcases c2 with h | h
  · rw [if_neg (by omega), if_neg (by omega)]
    refine ⟨by omega, ?_⟩
    rw [if_neg (by omega)]
    omega
  · rw [if_pos h, if_pos h]
    refine ⟨by omega, ?_⟩
    rw [if_pos (by omega)]
    omega
theorem sg_on {s : Nat} (hs : s < 20) : ∃ p, p < 20 ∧ sg p = s := by
  unfold sg
  by_cases h : s % 2 = 0
  · exact ⟨s / 2, by omega, by rw [if_pos (by omega)]; omega⟩
  · exact ⟨19 - s / 2, by omega, by rw [if_neg (by omega)]; omega⟩
theorem sg_b {p : Nat} (h : p < 20) : sg p < 20 := by unfold sg; split <;> omega
/-- nothing is stuck in -/
def NS (z : Nat → Int) : Prop := ∀ s, s < 20 → ¬ z (50 + s) = 1
/-- a look at this song would grip nothing -/
def okS (z : Nat → Int) (s : Nat) : Prop := (NS z → z (30 + s) = 0) ∧ (z (30 + s) = 1 → z (20 + s / 2) < 0)
theorem NS_x {z y : Nat → Int} (e : ∀ s, s < 20 → y (50 + s) = z (50 + s)) : NS y → NS z := fun h s hs => by rw [← e s hs]; exact h s hs
theorem okS_m {z y : Nat → Int} {s : Nat} (hs : s < 20) (hz : z (30 + s) = 0 ∨ z (30 + s) = 1) (e5 : ∀ s, s < 20 → y (50 + s) = z (50 + s)) (e2 : ∀ p, p < 10 → y (20 + p) = z (20 + p)) (e3 : y (30 + s) = z (30 + s) ∨ y (30 + s) = 0) (h : okS z s) : okS y s := by
  refine ⟨fun hn => ?_, fun h1 => ?_⟩
  · have := h.1 (NS_x e5 hn)
    omega
  · rw [e2 _ (by omega)]
    exact h.2 (by omega)
theorem look_pin {z : Nat → Int} {t : Nat} (ht : t < 20) : mLook z (30 + t) = if t = (mSong z).toNat then (if z (50 + t) = 0 then 0 else z (30 + t)) else z (30 + t) := by
  have e : mOut z (mSong z).toNat (30 + t) = if t = (mSong z).toNat then (if z (50 + t) = 0 then 0 else z (30 + t)) else z (30 + t) := by
    unfold mOut updI
    by_cases h : t = (mSong z).toNat
    · rw [if_pos (by omega), if_pos h, h]
    · rw [if_neg (by omega), if_neg h]
  rw [← e]
  unfold mLook
  (repeat' split)
  · rw [mDoes_n (by omega) (by omega)]
  · rw [mGoOn_n (by omega) (by omega), updI_n (by omega)]
  · rw [mGoOn_n (by omega) (by omega), updI_n (by omega)]
theorem goOn_e (z : Nat → Int) : (mGoOn z 3 = 0 ∧ mGoOn z 4 = 0 ∧ mPins (mGoOn z) 20 = 0) ∨ ((mGoOn z 3 = 1 ∨ mGoOn z 3 = 2) ∧ mGoOn z 4 ≤ 3 ∧ ¬ mPins (mGoOn z) 20 = 0) := by
  have hp : mPins (mGoOn z) 20 = mPins z 20 := pins_eq (fun t ht => mGoOn_n (by omega) (by omega)) 20 (by decide)
  rw [hp]
  unfold mGoOn
  by_cases c : mPins z 20 = 0
  · rw [if_pos c]
    exact Or.inl ⟨mDoes_3 _ _ _, mDoes_4 _ _ _, c⟩
  · rw [if_neg c]
    refine Or.inr ⟨?_, ?_, c⟩
    · split
      · exact Or.inr (mDoes_3 _ _ _)
      · exact Or.inl (mDoes_3 _ _ _)
    · split <;> rw [mDoes_4] <;> decide
theorem look_e (z : Nat → Int) : (mLook z 3 = 3 ∧ mLook z 4 = 4 ∧ z (30 + (mSong z).toNat) = 1 ∧ 0 ≤ z (20 + (z 1).toNat)) ∨
    (((mLook z 3 = 0 ∧ mLook z 4 = 0 ∧ mPins (mLook z) 20 = 0) ∨ ((mLook z 3 = 1 ∨ mLook z 3 = 2) ∧ mLook z 4 ≤ 3 ∧ ¬ mPins (mLook z) 20 = 0)) ∧ (z (30 + (mSong z).toNat) = 1 → z (20 + (z 1).toNat) < 0)) := by
  unfold mLook
  by_cases c1 : z (30 + (mSong z).toNat) = 1
  · rw [if_pos c1]
    by_cases c2 : 0 ≤ z (20 + (z 1).toNat)
    · rw [if_pos c2]
      exact Or.inl ⟨mDoes_3 _ _ _, mDoes_4 _ _ _, c1, c2⟩
    · rw [if_neg c2]
      exact Or.inr ⟨goOn_e _, fun _ => by omega⟩
  · rw [if_neg c1]
    exact Or.inr ⟨goOn_e _, fun h => absurd h c1⟩
/-- so many quiet steps behind, and what they tell -/
def QI (z : Nat → Int) (k : Nat) : Prop :=
  (z 3 = 4 → k = 0) ∧ (z 3 = 5 → k ≤ 1) ∧ (z 3 = 0 → ¬ mPins z 20 = 0 → k = 0) ∧ (z 3 = 3 → k ≤ 22) ∧ (1 ≤ k → z 4 ≤ 4) ∧
  ((z 3 = 1 ∨ z 3 = 2) → 1 ≤ k → ¬ mPins z 20 = 0) ∧ ((z 3 = 1 ∨ z 3 = 2) → ∀ i : Nat, i < 20 → i + 2 < k → okS z (sg ((ph z + 20 - i) % 20)))
theorem QI_0 (z : Nat → Int) : QI z 0 := ⟨fun _ => rfl, fun _ => by omega, fun _ _ => rfl, fun _ => by omega, fun h => by omega, fun _ h => by omega, fun _ i _ h => by omega⟩
theorem QI_all {z : Nat → Int} {k : Nat} (hc : ZC z) (h : QI z k) (h12 : z 3 = 1 ∨ z 3 = 2) (hk : 22 ≤ k) : ∀ s, s < 20 → okS z s := by
  intro s hs
  obtain ⟨p, hp, e⟩ := sg_on hs
  have hb := (ph_b hc).1
  have := h.2.2.2.2.2.2 h12 ((ph z + 20 - p) % 20) (by omega) (by omega)
  rw [show (ph z + 20 - (ph z + 20 - p) % 20) % 20 = p by omega, e] at this
  exact this
/-- behind a look -/
theorem QI_look {w z : Nat → Int} {k : Nat} (hcz : ZC z) (hcw : ZC w) (e2 : ∀ p, p < 10 → w (20 + p) = z (20 + p)) (e3 : ∀ s, s < 20 → w (30 + s) = z (30 + s)) (e5 : ∀ s, s < 20 → w (50 + s) = z (50 + s))
    (h : k = 0 ∨ (ph w = (ph z + 1) % 20 ∧ (z 3 = 1 ∨ z 3 = 2) ∧ QI z k)) : QI (mLook w) (k + 1) := by
  have hl := look_e w
  have hpw := ph_b hcw
  have hpz := ph_b hcz
  have hs := sg_b hpw.1
  have e1 : mLook w 1 = w 1 := look_same hcw (by omega)
  have e1' : mLook w 2 = w 2 := look_same hcw (by omega)
  have hph : ph (mLook w) = ph w := by unfold ph; rw [e1, e1']
  have h20 : ∀ p, p < 10 → mLook w (20 + p) = w (20 + p) := fun p hp => look_same hcw (by omega)
  have h50 : ∀ s, s < 20 → mLook w (50 + s) = w (50 + s) := fun s hs => look_same hcw (by omega)
  have hP01 := hcw.2.2.2.2.2.2.1
  have hplace : (w 1).toNat = sg (ph w) / 2 := by
    rw [← hpw.2]
    have := hcw.1
    have := hcw.2.1
    unfold mSong
    split <;> omega
  refine ⟨fun h4 => by omega, fun h5 => by omega, fun h0 hp => by omega, fun h3 => ?_, fun _ => by omega, fun h12 _ => by omega, fun h12 i hi hik => ?_⟩
  · rcases h with rfl | ⟨hq, h12, hQ⟩
    · omega
    · rcases Nat.lt_or_ge k 22 with hk | hk
      · omega
      · exfalso
        have ha := QI_all hcz hQ h12 hk (sg (ph w)) hs
        rcases hl with ⟨-, -, g1, g2⟩ | ⟨hl, -⟩
        · rw [hpw.2, e3 _ hs] at g1
          have := ha.2 g1
          rw [← hplace, ← e2 _ (by have := hcw.1; omega)] at this
          omega
        · omega
  · rcases h with rfl | ⟨hq, h12', hQ⟩
    · omega
    · rw [hph]
      by_cases hi0 : i = 0
      · subst hi0
        rw [show (ph w + 20 - 0) % 20 = ph w by omega]
        have hlp := look_pin (z := w) hs
        rw [if_pos hpw.2.symm] at hlp
        rcases hl with ⟨hl, -⟩ | ⟨-, hl⟩
        · omega
        · refine ⟨fun hn => ?_, fun h1 => ?_⟩
          · have hn' := hn (sg (ph w)) hs
            rw [h50 _ hs] at hn'
            have hh := hcw.2.2.2.2.2.2.2.1 (sg (ph w)) hs
            have h2 := hcw.2.2.2.2.2.2.2.2.2.1 (sg (ph w)) hs
            rw [hlp]
            split
            · rfl
            · exact h2 (by omega)
          · rw [h20 _ (by omega), ← hplace]
            refine hl ?_
            rw [hpw.2]
            rw [hlp] at h1
            split at h1 <;> omega
      · have hz := hQ.2.2.2.2.2.2 h12' (i - 1) (by omega) (by omega)
        rw [show (ph z + 20 - (i - 1)) % 20 = (ph w + 20 - i) % 20 by omega] at hz
        have hsi := sg_b (p := (ph w + 20 - i) % 20) (by omega)
        refine okS_m hsi (hcz.2.2.2.2.2.2.1 _ hsi) (fun s hs => (h50 s hs).trans (e5 s hs)) (fun p hp => (h20 p hp).trans (e2 p hp)) ?_ hz
        rw [look_pin hsi]
        rw [← e3 _ hsi]
        have := hP01 _ hsi
        split
        · split <;> omega
        · exact Or.inl rfl
