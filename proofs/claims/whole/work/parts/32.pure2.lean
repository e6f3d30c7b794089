/-! ===== what would be: the class's steps tell what the ticks tell ===== -/
theorem u_n {z : Nat → Int} {v w : Int} {i : Nat} (h0 : ¬ i = 0) (h4 : ¬ i = 4) : updI (updI z 0 v) 4 w i = z i := (updI_n h4).trans (updI_n h0)
theorem ZC_u {z : Nat → Int} (h : ZC z) (v w : Int) : ZC (updI (updI z 0 v) 4 w) := ZC_eq h (fun i hi => u_n (by omega) (by omega))
theorem ZC_0 {z : Nat → Int} (h : ZC z) (v : Int) : ZC (updI z 0 v) := ZC_eq h (fun i hi => updI_n (by omega))
/-- where a whole step ends -/
theorem stp_c {z : Nat → Int} (hA : ZA z) (hnd : ¬ (z 3 = 0 ∧ mPins z 20 = 0)) :
    (∃ w, stp z = mLook w ∧ ZC w ∧ (∀ i, 5 ≤ i → w i = z i) ∧ ((z 3 = 0 ∧ ¬ mPins z 20 = 0) ∨ ((z 3 = 1 ∨ z 3 = 2) ∧ ph w = (ph z + 1) % 20))) ∨
    (z 3 = 3 ∧ ∃ u, stp z = mPlay u ∧ ZC u ∧ (∀ i, 5 ≤ i → u i = z i) ∧ 0 ≤ u (20 + (u 1).toNat)) ∨ (z 3 = 4 ∧ ∃ u, stp z = mDoes u 5 4 ∧ (∀ i, 5 ≤ i → u i = z i)) ∨ (z 3 = 5 ∧ ∃ u, stp z = mGoOn u ∧ (∀ i, 5 ≤ i → u i = z i)) := by
  obtain ⟨hR, hc, hd, hb⟩ := id hA
  have hpb := mPins_b hc.2.2.2.2.2.2.1 20 (by decide)
  by_cases h3 : z 3 = 0
  · have hp : ¬ mPins z 20 = 0 := fun h => hnd ⟨h3, h⟩
    exact Or.inl ⟨_, stp_0 h3 hp hpb.1, ZC_0 hc _, fun i hi => updI_n (by omega), Or.inl ⟨h3, hp⟩⟩
  · have hs := stp_n h3 hd
    have hu3 : updI (updI z 0 (z 0 + z 4)) 4 (z 4 - z 4) 3 = z 3 := u_n (by decide) (by decide)
    have hu1 : updI (updI z 0 (z 0 + z 4)) 4 (z 4 - z 4) 1 = z 1 := u_n (by decide) (by decide)
    have hu2 : updI (updI z 0 (z 0 + z 4)) 4 (z 4 - z 4) 2 = z 2 := u_n (by decide) (by decide)
    have hcu := ZC_u hc (z 0 + z 4) (z 4 - z 4)
    have hui : ∀ i, 5 ≤ i → updI (updI z 0 (z 0 + z 4)) 4 (z 4 - z 4) i = z i := fun i hi => u_n (by omega) (by omega)
    generalize updI (updI z 0 (z 0 + z 4)) 4 (z 4 - z 4) = u at hs hu3 hu1 hu2 hcu hui
    obtain ⟨d1, d2, d3, d4, d5, d6, d7⟩ := hd
    have hc1 := hc.1
    have hc2 := hc.2.1
    rcases (show z 3 = 1 ∨ z 3 = 2 ∨ z 3 = 3 ∨ z 3 = 4 ∨ z 3 = 5 by omega) with h | h | h | h | h
    · refine Or.inl ⟨_, hs.trans (end1 (by omega)), ZC_p hcu ?_ ?_, fun i hi => (updI_n (by omega)).trans (hui i hi), Or.inr ⟨Or.inl h, ?_⟩⟩
      · have := d6 h; split <;> omega
      · have := d6 h; split <;> omega
      · have := d6 h
        unfold ph
        rw [updI_n (by decide), updI_e, hu2, hu1]
        split <;> omega
    · refine Or.inl ⟨_, hs.trans (end2 (by omega)), ZC_t hcu (by omega), fun i hi => (updI_n (by omega)).trans (hui i hi), Or.inr ⟨Or.inr h, ?_⟩⟩
      have := d7 h
      have e1 : updI u 2 (1 - u 2) 1 = u 1 := updI_n (by decide)
      unfold ph
      rw [updI_e, e1, hu2, hu1]
      (repeat' split) <;> omega
    · exact Or.inr (Or.inl ⟨h, u, hs.trans (end3 (by omega)), hcu, hui, by rw [hu1, hui _ (by omega)]; exact d5 (by omega)⟩)
    · exact Or.inr (Or.inr (Or.inl ⟨h, u, hs.trans (end4 (by omega)), hui⟩))
    · exact Or.inr (Or.inr (Or.inr ⟨h, u, hs.trans (end5 (by omega)), hui⟩))
theorem QI_step {z : Nat → Int} {k : Nat} (hA : ZA z) (hnd : ¬ (z 3 = 0 ∧ mPins z 20 = 0)) (hQ : QI z k) (h5 : stp z 5 = z 5) : QI (stp z) (k + 1) := by
  rcases stp_c hA hnd with ⟨w, e, hcw, hw, h⟩ | ⟨h3, u, e, hcu, hu, hr⟩ | ⟨h3, u, e, hu⟩ | ⟨h3, u, e, hu⟩
  · rw [e]
    refine QI_look hA.2.1 hcw (fun p hp => hw _ (by omega)) (fun s hs => hw _ (by omega)) (fun s hs => hw _ (by omega)) ?_
    rcases h with ⟨a1, a2⟩ | ⟨a1, a2⟩
    · exact Or.inl (hQ.2.2.1 a1 a2)
    · exact Or.inr ⟨a2, a1, hQ⟩
  · exfalso
    have := (play_05 hcu).2.1
    rw [e] at h5
    have := hu 5 (by decide)
    omega
  · have hk := hQ.1 h3
    subst hk
    rw [e]
    have e3 := mDoes_3 u 5 4
    have e4 := mDoes_4 u 5 4
    exact ⟨fun _ => by omega, fun _ => by omega, fun _ => by omega, fun _ => by omega, fun _ => by omega, fun h => by omega, fun h => by omega⟩
  · have hk := hQ.2.1 h3
    rw [e]
    have hg := goOn_e u
    exact ⟨fun _ => by omega, fun _ => by omega, fun _ _ => by omega, fun _ => by omega, fun _ => by omega, fun h _ => by omega, fun _ i _ _ => by omega⟩
theorem pins_le {z y : Nat → Int} (h : ∀ t, t < 20 → y (30 + t) ≤ z (30 + t)) : ∀ n, n ≤ 20 → mPins y n ≤ mPins z n
  | 0, _ => by simp [mPins]
  | n + 1, hn => by
    have h1 := pins_le h n (by omega)
    have h2 := h n (by omega)
    simp only [mPins]
    omega
theorem pins_lt {z y : Nat → Int} (h : ∀ t, t < 20 → y (30 + t) ≤ z (30 + t)) {s : Nat} (hs : y (30 + s) + 1 ≤ z (30 + s)) : ∀ n, n ≤ 20 → s < n → mPins y n + 1 ≤ mPins z n
  | 0, _, h0 => by omega
  | n + 1, hn, h0 => by
    have h2 := h n (by omega)
    simp only [mPins]
    by_cases e : s = n
    · subst e
      have h1 := pins_le h s (by omega)
      omega
    · have h1 := pins_lt h hs n (by omega) (by omega)
      omega
def b3 (z : Nat → Int) : Int := if z 3 = 3 then 1 else 0
/-- with nothing stuck in each song takes a pin out -/
theorem step_pins {z : Nat → Int} (hA : ZA z) (hN : NS z) (hnd : ¬ (z 3 = 0 ∧ mPins z 20 = 0)) : mPins (stp z) 20 + b3 (stp z) + (if stp z 5 = z 5 then 0 else 1) ≤ mPins z 20 + b3 z := by
  rcases stp_c hA hnd with ⟨w, e, hcw, hw, h⟩ | ⟨h3, u, e, hcu, hu, hr⟩ | ⟨h3, u, e, hu⟩ | ⟨h3, u, e, hu⟩
  · have hz3 : b3 z = 0 := if_neg (by omega)
    have e5 : stp z 5 = z 5 := by rw [e, (look_05 hcw).2.1]; exact hw 5 (by decide)
    rw [if_pos e5, hz3]
    have hpw := ph_b hcw
    have hs := sg_b hpw.1
    have hP := hcw.2.2.2.2.2.2.1
    have hle : ∀ t, t < 20 → stp z (30 + t) ≤ z (30 + t) := fun t ht => by
      have := hP t ht
      rw [e, look_pin ht, ← hw (30 + t) (by omega)]
      (repeat' split) <;> omega
    have h1 := pins_le hle 20 (by decide)
    by_cases c : stp z 3 = 3
    · rw [show b3 (stp z) = 1 from if_pos c]
      have hl := look_e w
      rw [← e] at hl
      have h2 := pins_lt hle (s := sg (ph w)) (by
        have hp1 : w (30 + sg (ph w)) = 1 := by rw [← hpw.2]; rcases hl with hl | hl <;> omega
        have hn := hN (sg (ph w)) hs
        rw [← hw _ (by omega)] at hn
        have hh := hcw.2.2.2.2.2.2.2.1 (sg (ph w)) hs
        have hh2 := hcw.2.2.2.2.2.2.2.2.2.1 (sg (ph w)) hs
        rw [e, look_pin hs, if_pos hpw.2.symm, if_pos (by omega), ← hw (30 + sg (ph w)) (by omega)]
        omega) 20 (by decide) hs
      omega
    · rw [show b3 (stp z) = 0 from if_neg c]
      omega
  · have e5 : ¬ stp z 5 = z 5 := by
      rw [e, (play_05 hcu).2.1]
      have := hu 5 (by decide)
      omega
    have e3 : b3 (stp z) = 0 := if_neg (by rw [e]; unfold mPlay; rw [mDoes_3]; decide)
    have ep : mPins (stp z) 20 = mPins z 20 := pins_eq (fun t ht => by rw [e, play_same hcu (by omega)]; exact hu _ (by omega)) 20 (by decide)
    rw [if_neg e5, e3, ep, show b3 z = 1 from if_pos h3]
    omega
  · have e5 : stp z 5 = z 5 := by rw [e, mDoes_n (by decide) (by decide)]; exact hu 5 (by decide)
    have e3 : b3 (stp z) = 0 := if_neg (by rw [e, mDoes_3]; decide)
    have ep : mPins (stp z) 20 = mPins z 20 := pins_eq (fun t ht => by rw [e, mDoes_n (by omega) (by omega)]; exact hu _ (by omega)) 20 (by decide)
    rw [if_pos e5, e3, ep, show b3 z = 0 from if_neg (by omega)]
    omega
  · have e5 : stp z 5 = z 5 := by rw [e, mGoOn_n (by decide) (by decide)]; exact hu 5 (by decide)
    have e3 : b3 (stp z) = 0 := if_neg (by rw [e]; have := goOn_e u; omega)
    have ep : mPins (stp z) 20 = mPins z 20 := pins_eq (fun t ht => by rw [e, mGoOn_n (by omega) (by omega)]; exact hu _ (by omega)) 20 (by decide)
    rw [if_pos e5, e3, ep, show b3 z = 0 from if_neg (by omega)]
    omega
/-- no song can come -/
def NG (z : Nat → Int) : Prop := (z 3 = 0 ∨ z 3 = 1 ∨ z 3 = 2) ∧ ∀ s, s < 20 → z (30 + s) = 1 → z (20 + s / 2) < 0
theorem NG_look {z w : Nat → Int} (hcw : ZC w) (hw : ∀ i, 5 ≤ i → w i = z i) (h : ∀ s, s < 20 → z (30 + s) = 1 → z (20 + s / 2) < 0) : NG (mLook w) ∧ mLook w 5 = z 5 := by
  have hpw := ph_b hcw
  have hs := sg_b hpw.1
  have hP := hcw.2.2.2.2.2.2.1
  have hplace : (w 1).toNat = sg (ph w) / 2 := by
    rw [← hpw.2]
    have := hcw.1
    have := hcw.2.1
    unfold mSong
    split <;> omega
  have hl := look_e w
  refine ⟨⟨?_, fun s hs h1 => ?_⟩, ((look_05 hcw).2.1).trans (hw 5 (by decide))⟩
  · rcases hl with ⟨l1, l2, l3, l4⟩ | ⟨l1, -⟩
    · exfalso
      rw [hpw.2, hw _ (by omega)] at l3
      have := h _ hs l3
      rw [hplace, hw _ (by omega)] at l4
      omega
    · omega
  · rw [look_same hcw (by omega), hw _ (by omega)]
    refine h s hs ?_
    have := hP s hs
    rw [look_pin hs] at h1
    rw [← hw _ (by omega)]
    (repeat' split at h1) <;> omega
theorem NG_tick {z : Nat → Int} (hA : ZA z) (h : NG z) : NG (mTick z) ∧ mTick z 5 = z 5 := by
  obtain ⟨hR, hc, hd, hb⟩ := id hA
  have hpb := mPins_b hc.2.2.2.2.2.2.1 20 (by decide)
  by_cases h3 : z 3 = 0
  · by_cases hp : mPins z 20 = 0
    · rw [tick_rest h3 hp]
      refine ⟨⟨?_, fun s hs h1 => ?_⟩, updI_n (by decide)⟩
      · rw [updI_n (by decide)]; exact h.1
      · rw [updI_n (by omega)] at h1 ⊢; exact h.2 s hs h1
    · rw [tick_look h3 hp hpb.1]
      exact NG_look (ZC_0 hc _) (fun i hi => updI_n (by omega)) h.2
  · by_cases h4 : 0 < z 4 - 1
    · rw [tick_go h3 h4]
      refine ⟨⟨?_, fun s hs h1 => ?_⟩, u_n (by decide) (by decide)⟩
      · rw [u_n (by decide) (by decide)]; exact h.1
      · rw [u_n (by omega) (by omega)] at h1 ⊢; exact h.2 s hs h1
    · rw [tick_end h3 h4]
      have hu3 : updI (updI z 0 (z 0 + 1)) 4 (z 4 - 1) 3 = z 3 := u_n (by decide) (by decide)
      have hu1 : updI (updI z 0 (z 0 + 1)) 4 (z 4 - 1) 1 = z 1 := u_n (by decide) (by decide)
      have hu2 : updI (updI z 0 (z 0 + 1)) 4 (z 4 - 1) 2 = z 2 := u_n (by decide) (by decide)
      have hcu := ZC_u hc (z 0 + 1) (z 4 - 1)
      have hui : ∀ i, 5 ≤ i → updI (updI z 0 (z 0 + 1)) 4 (z 4 - 1) i = z i := fun i hi => u_n (by omega) (by omega)
      generalize updI (updI z 0 (z 0 + 1)) 4 (z 4 - 1) = u at hu3 hu1 hu2 hcu hui ⊢
      obtain ⟨d1, d2, d3, d4, d5, d6, d7⟩ := hd
      have hc1 := hc.1
      have hc2 := hc.2.1
      have h12 := h.1
      rcases (show z 3 = 1 ∨ z 3 = 2 by omega) with h1 | h2
      · rw [end1 (by omega)]
        refine NG_look (ZC_p hcu ?_ ?_) (fun i hi => (updI_n (by omega)).trans (hui i hi)) h.2
        · have := d6 h1; split <;> omega
        · have := d6 h1; split <;> omega
      · rw [end2 (by omega)]
        exact NG_look (ZC_t hcu (by omega)) (fun i hi => (updI_n (by omega)).trans (hui i hi)) h.2
theorem ft_ng : ∀ (F : Nat) (z : Nat → Int) (n t q : Nat), ZA z → z 0 + F ≤ 2000000000 → NG z → (ft F z n t q).1 = []
  | 0, _, _, _, _, _, _, _ => rfl
  | F + 1, z, n, t, q, hA, h0, hN => by
    by_cases c : 64 ≤ n ∨ 2000 ≤ q ∨ (z 3 = 0 ∧ mPins z 20 = 0)
    · rw [ft_x c]
    · have hT := NG_tick hA hN
      have ht0 := (tick_05 hA.2.1 hA.2.2.1).1
      rw [ft_n c (by omega)]
      exact ft_ng F _ n _ _ (ZA_tick hA (by omega)) (by omega) hT.1
def fs : Nat → (Nat → Int) → Nat → Nat → Nat → List (Int × Int)
  | 0, _, _, _, _ => []
  | F + 1, z, n, t, k => if 64 ≤ n ∨ 24 ≤ k ∨ (z 3 = 0 ∧ mPins z 20 = 0) then [] else if stp z 5 = z 5 then fs F (stp z) n (t + gP z 120) (k + 1) else (mSong (stp z), ((t + gP z 120 : Nat) : Int)) :: fs F (stp z) (n + 1) (t + gP z 120) 0
theorem fs_x {F : Nat} {z : Nat → Int} {n t k : Nat} (h : 64 ≤ n ∨ 24 ≤ k ∨ (z 3 = 0 ∧ mPins z 20 = 0)) : fs (F + 1) z n t k = [] := if_pos h
theorem fs_q {F : Nat} {z : Nat → Int} {n t k : Nat} (h : ¬ (64 ≤ n ∨ 24 ≤ k ∨ (z 3 = 0 ∧ mPins z 20 = 0))) (h5 : stp z 5 = z 5) : fs (F + 1) z n t k = fs F (stp z) n (t + gP z 120) (k + 1) := (if_neg h).trans (if_pos h5)
theorem fs_s {F : Nat} {z : Nat → Int} {n t k : Nat} (h : ¬ (64 ≤ n ∨ 24 ≤ k ∨ (z 3 = 0 ∧ mPins z 20 = 0))) (h5 : ¬ stp z 5 = z 5) : fs (F + 1) z n t k = (mSong (stp z), ((t + gP z 120 : Nat) : Int)) :: fs F (stp z) (n + 1) (t + gP z 120) 0 := (if_neg h).trans (if_neg h5)
theorem QI_end {z : Nat → Int} {k : Nat} (hA : ZA z) (hQ : QI z k) (hk : 23 ≤ k) (hnd : ¬ (z 3 = 0 ∧ mPins z 20 = 0)) : (z 3 = 1 ∨ z 3 = 2) ∧ (∀ s, s < 20 → okS z s) := by
  have hd := hA.2.2.1.1
  have h12 : z 3 = 1 ∨ z 3 = 2 := by
    obtain ⟨q1, q2, q3, q4, -⟩ := hQ
    rcases (show z 3 = 0 ∨ z 3 = 1 ∨ z 3 = 2 ∨ z 3 = 3 ∨ z 3 = 4 ∨ z 3 = 5 by omega) with h | h | h | h | h | h
    · have := q3 h (fun hp => hnd ⟨h, hp⟩); omega
    · exact Or.inl h
    · exact Or.inr h
    · have := q4 h; omega
    · have := q1 h; omega
    · have := q2 h; omega
  exact ⟨h12, QI_all hA.2.1 hQ h12 (by omega)⟩
theorem gP_q {z : Nat → Int} {k : Nat} (hA : ZA z) (hQ : QI z k) (hk : 1 ≤ k) (hnd : ¬ (z 3 = 0 ∧ mPins z 20 = 0)) : gP z 120 ≤ 4 := by
  by_cases h3 : z 3 = 0
  · rw [gP_0 h3 (fun h => hnd ⟨h3, h⟩)]; omega
  · rw [gP_n h3 hA.2.2.1]
    have := hQ.2.2.2.2.1 hk
    omega
theorem fs_ft : ∀ (F G : Nat) (z : Nat → Int) (n t k q : Nat), ZA z → z 0 + G ≤ 3000000 → QI z k → (k = 0 ∧ q = 0) ∨ (1 ≤ k ∧ q ≤ 120 + 4 * k) → 1536 ≤ F + k + 24 * n → k ≤ 24 → n ≤ 64 → 340 * (65 - n) ≤ G + q → fs F z n t k = (ft G z n t q).1 := by
  intro F
  induction F with
  | zero =>
    intro G z n t k q hA h0 hQ hq hF hk hn hG
    show [] = (ft G z n t q).1
    obtain ⟨G, rfl⟩ : ∃ G', G = G' + 1 := ⟨G - 1, by omega⟩
    by_cases c : 64 ≤ n ∨ 2000 ≤ q ∨ (z 3 = 0 ∧ mPins z 20 = 0)
    · rw [ft_x c]
    · have he := QI_end hA hQ (by omega) (by omega)
      exact (ft_ng _ z n t q hA (by omega) ⟨by omega, fun s hs => (he.2 s hs).2⟩).symm
  | succ F ih =>
    intro G z n t k q hA h0 hQ hq hF hk hn hG
    have hg := gP_b hA.2.2.1
    by_cases c : 64 ≤ n ∨ 24 ≤ k ∨ (z 3 = 0 ∧ mPins z 20 = 0)
    · rw [fs_x c]
      obtain ⟨G, rfl⟩ : ∃ G', G = G' + 1 := ⟨G - 1, by omega⟩
      by_cases c2 : 64 ≤ n ∨ 2000 ≤ q ∨ (z 3 = 0 ∧ mPins z 20 = 0)
      · rw [ft_x c2]
      · have he := QI_end hA hQ (by omega) (by omega)
        exact (ft_ng _ z n t q hA (by omega) ⟨by omega, fun s hs => (he.2 s hs).2⟩).symm
    · have hnd : ¬ (z 3 = 0 ∧ mPins z 20 = 0) := by omega
      have hg4 : 1 ≤ k → gP z 120 ≤ 4 := fun hk1 => gP_q hA hQ hk1 hnd
      obtain ⟨G, rfl⟩ : ∃ G', G = G' + gP z 120 := ⟨G - gP z 120, by omega⟩
      have hZ : ZA (stp z) ∧ stp z 0 = z 0 + gP z 120 := ZA_ticks hA (gP z 120) (by omega)
      rw [ft_step hA (by omega) hnd (by omega) (by omega) G]
      by_cases h5 : stp z 5 = z 5
      · rw [fs_q c h5, if_pos h5]
        exact ih G (stp z) n _ (k + 1) _ hZ.1 (by omega) (QI_step hA hnd hQ h5) (by omega) (by omega) (by omega) hn (by omega)
      · rw [fs_s c h5, if_neg h5]
        have := ih G (stp z) (n + 1) (t + gP z 120) 0 0 hZ.1 (by omega) (QI_0 _) (Or.inl ⟨rfl, rfl⟩) (by omega) (by omega) (by omega) (by omega)
        rw [this]
theorem fs_mFt {z : Nat → Int} (hA : ZA z) (h0 : z 0 ≤ 1000000) : fs 1536 z 0 0 0 = (mFt z).1 :=
  fs_ft 1536 130065 z 0 0 0 0 hA (by omega) (QI_0 z) (Or.inl ⟨rfl, rfl⟩) (by omega) (by omega) (by omega) (by omega)
def db : Nat → (Nat → Int) → Nat → Nat
  | 0, _, t => t
  | F + 1, z, t => if z 3 = 0 ∧ mPins z 20 = 0 then t else db F (stp z) (t + gP z 120)
theorem db_ft : ∀ (F G : Nat) (z : Nat → Int) (n t k q : Nat), ZA z → NS z → z 0 + G ≤ 3000000 → QI z k → (k = 0 ∧ q = 0) ∨ (1 ≤ k ∧ q ≤ 120 + 4 * k) → (n : Int) + mPins z 20 + b3 z ≤ 21 → 24 * (22 - n) ≤ F + k → 340 * (65 - n) ≤ G + q → db F z t = (ft G z n t q).2 := by
  intro F
  induction F with
  | zero =>
    intro G z n t k q hA hN h0 hQ hq hp hF hG
    have hpb := mPins_b hA.2.1.2.2.2.2.2.2.1 20 (by decide)
    have hb3 : 0 ≤ b3 z := by unfold b3; split <;> omega
    show t = (ft G z n t q).2
    by_cases c : z 3 = 0 ∧ mPins z 20 = 0
    · cases G with
      | zero => rfl
      | succ G => rw [ft_x (Or.inr (Or.inr c))]
    · exfalso
      have he := QI_end hA hQ (by omega) c
      have h1 := pins_le (z := fun _ => 0) (y := z) (fun t ht => by rw [(he.2 t ht).1 hN]; decide) 20 (by decide)
      have h2 := hQ.2.2.2.2.2.1 he.1 (by omega)
      have h3 : mPins (fun _ => 0) 20 = 0 := by decide
      omega
  | succ F ih =>
    intro G z n t k q hA hN h0 hQ hq hp hF hG
    have hpb := mPins_b hA.2.1.2.2.2.2.2.2.1 20 (by decide)
    have hb3 : 0 ≤ b3 z := by unfold b3; split <;> omega
    have hg := gP_b hA.2.2.1
    unfold db
    by_cases c : z 3 = 0 ∧ mPins z 20 = 0
    · rw [if_pos c]
      cases G with
      | zero => rfl
      | succ G => rw [ft_x (Or.inr (Or.inr c))]
    · rw [if_neg c]
      have hk : k ≤ 22 := by
        rcases Nat.lt_or_ge 22 k with hk | hk
        · exfalso
          have he := QI_end hA hQ (by omega) c
          have h1 := pins_le (z := fun _ => 0) (y := z) (fun t ht => by rw [(he.2 t ht).1 hN]; decide) 20 (by decide)
          have h2 := hQ.2.2.2.2.2.1 he.1 (by omega)
          have h3 : mPins (fun _ => 0) 20 = 0 := by decide
          omega
        · exact hk
      have hg4 : 1 ≤ k → gP z 120 ≤ 4 := fun hk1 => gP_q hA hQ hk1 c
      obtain ⟨G, rfl⟩ : ∃ G', G = G' + gP z 120 := ⟨G - gP z 120, by omega⟩
      have hZ : ZA (stp z) ∧ stp z 0 = z 0 + gP z 120 := ZA_ticks hA (gP z 120) (by omega)
      have hN' : NS (stp z) := NS_x (y := z) (fun s hs => (ticks_same hA (gP z 120) (by omega) (50 + s) (by omega)).symm) hN
      have hsp := step_pins hA hN c
      rw [ft_step hA (by omega) c (by omega) (by omega) G]
      by_cases h5 : stp z 5 = z 5
      · rw [if_pos h5] at hsp ⊢
        exact ih G (stp z) n _ (k + 1) _ hZ.1 hN' (by omega) (QI_step hA c hQ h5) (by omega) (by omega) (by omega) (by omega)
      · rw [if_neg h5] at hsp ⊢
        exact ih G (stp z) (n + 1) _ 0 0 hZ.1 hN' (by omega) (QI_0 _) (Or.inl ⟨rfl, rfl⟩) (by omega) (by omega) (by omega)
theorem stk_ns {z : Nat → Int} (h : mStk z 20 = 0) : NS z := by
  have : ∀ n, mStk z n = 0 → ∀ s, s < n → ¬ z (50 + s) = 1 := by
    intro n
    induction n with
    | zero => intro _ s hs; omega
    | succ n ih =>
      intro h s hs
      unfold mStk at h
      by_cases e : s = n
      · subst e
        intro h1
        simp [h1] at h
      · refine ih ?_ s (by omega)
        split at h
        · omega
        · rename_i hx
          omega
  exact this 20 h
theorem db_mDn {z : Nat → Int} (hA : ZA z) (h0 : z 0 ≤ 1000000) (hS : mStk z 20 = 0) : ((db 1000 z 0 : Nat) : Int) = mDn z := by
  have hpb := mPins_b hA.2.1.2.2.2.2.2.2.1 20 (by decide)
  have hb3 : b3 z ≤ 1 := by unfold b3; split <;> omega
  unfold mDn mFt
  rw [db_ft 1000 130065 z 0 0 0 0 hA (stk_ns hS) (by omega) (QI_0 z) (Or.inl ⟨rfl, rfl⟩) (by omega) (by omega) (by omega)]
