/-! ===== what would be does not hang on these ===== -/
def XR (X : Nat → Prop) (z z' : Nat → Int) : Prop := ∀ i, ¬ X i → z' i = z i
def XD (X : Nat → Prop) : Prop := ∀ i, X i → (7 ≤ i ∧ i ≤ 14) ∨ i = 16 ∨ (20 ≤ i ∧ i < 30) ∨ (90 ≤ i ∧ i < 122)
def XI (X : Nat → Prop) (z : Nat → Int) : Prop := (∀ s, s < 20 → z (30 + s) = 1 → ¬ X (20 + s / 2)) ∧ (3 ≤ z 3 → ¬ X (20 + (z 1).toNat)) ∧ (∀ p, p < 10 → ¬ X (20 + p) → ∀ r : Nat, z (20 + p) = (r : Int) → ¬ X (90 + 2 * r) ∧ ¬ X (90 + (2 * r + 1)))
theorem XD_n {X : Nat → Prop} (h : XD X) {i : Nat} (hi : i < 7 ∨ i = 15 ∨ (30 ≤ i ∧ i < 90) ∨ 122 ≤ i) : ¬ X i := fun hx => by have := h i hx; omega
theorem XR_u {X : Nat → Prop} {z z' : Nat → Int} (h : XR X z z') (j : Nat) {v v' : Int} (hv : v' = v) : XR X (updI z j v) (updI z' j v') := by
  subst hv
  intro i hi
  unfold updI
  split
  · rfl
  · exact h i hi
theorem XR_does {X : Nat → Prop} {z z' : Nat → Int} (h : XR X z z') (x : Int) {t t' : Int} (ht : t' = t) : XR X (mDoes z x t) (mDoes z' x t') := XR_u (XR_u h 3 rfl) 4 ht
theorem XR_pins {X : Nat → Prop} {z z' : Nat → Int} (hX : XD X) (h : XR X z z') : mPins z' 20 = mPins z 20 := pins_eq (fun t ht => h _ (XD_n hX (by omega))) 20 (by decide)
theorem XR_song {X : Nat → Prop} {z z' : Nat → Int} (hX : XD X) (h : XR X z z') : mSong z' = mSong z := by
  unfold mSong
  rw [h 1 (XD_n hX (by omega)), h 2 (XD_n hX (by omega))]
theorem XR_goOn {X : Nat → Prop} {z z' : Nat → Int} (hX : XD X) (h : XR X z z') : XR X (mGoOn z) (mGoOn z') := by
  have e0 := XR_pins hX h
  have e1 := h 1 (XD_n hX (by omega))
  have e2 := h 2 (XD_n hX (by omega))
  unfold mGoOn
  rw [e0, e1, e2]
  (repeat' split) <;> exact XR_does h _ rfl
theorem XR_out {X : Nat → Prop} {z z' : Nat → Int} (hX : XD X) (h : XR X z z') {s : Nat} (hs : s < 20) : XR X (mOut z s) (mOut z' s) := by
  unfold mOut
  refine XR_u h _ ?_
  rw [h (50 + s) (XD_n hX (by omega)), h (30 + s) (XD_n hX (by omega))]
theorem song_pl {z : Nat → Int} (hc : ZC z) : (mSong z).toNat < 20 ∧ (mSong z).toNat / 2 = (z 1).toNat := by
  have := hc.1
  have := hc.2.1
  unfold mSong
  split <;> omega
theorem XR_look {X : Nat → Prop} {z z' : Nat → Int} (hX : XD X) (hc : ZC z) (hp : ∀ s, s < 20 → z (30 + s) = 1 → ¬ X (20 + s / 2)) (h : XR X z z') : XR X (mLook z) (mLook z') := by
  have hs := song_pl hc
  have e1 := h 1 (XD_n hX (by omega))
  have e6 := h 6 (XD_n hX (by omega))
  have e3 := h (30 + (mSong z).toNat) (XD_n hX (by omega))
  have eo := XR_out hX h hs.1
  unfold mLook
  rw [XR_song hX h, e3, e1, e6]
  by_cases c : z (30 + (mSong z).toNat) = 1
  · have hn := hp _ hs.1 c
    rw [hs.2] at hn
    rw [if_pos c, if_pos c, h _ hn]
    split
    · exact XR_does eo _ rfl
    · exact XR_goOn hX (XR_u eo _ rfl)
  · rw [if_neg c, if_neg c]
    exact XR_goOn hX (XR_u eo _ rfl)
theorem XR_play {X : Nat → Prop} {z z' : Nat → Int} (hX : XD X) (hc : ZC z) (hr : 0 ≤ z (20 + (z 1).toNat)) (hp : ¬ X (20 + (z 1).toNat)) (hq : ∀ r : Nat, z (20 + (z 1).toNat) = (r : Int) → ¬ X (90 + 2 * r) ∧ ¬ X (90 + (2 * r + 1))) (h : XR X z z') : XR X (mPlay z) (mPlay z') := by
  have hs := song_pl hc
  have hb := mSide_b hc hr
  have e1 := h 1 (XD_n hX (by omega))
  have e15 := h 15 (XD_n hX (by omega))
  have e5 := h 5 (XD_n hX (by omega))
  have ep := h _ hp
  have eS : mSide z' = mSide z := by
    unfold mSide
    rw [XR_song hX h, e1, ep]
  have hr' := hq (z (20 + (z 1).toNat)).toNat (by omega)
  have hsi : ¬ X (90 + mSide z) := by
    rcases (show mSide z = 2 * (z (20 + (z 1).toNat)).toNat ∨ mSide z = 2 * (z (20 + (z 1).toNat)).toNat + 1 by omega) with e | e
    · rw [e]; exact hr'.1
    · rw [e]; exact hr'.2
  have e9 := h _ hsi
  have e12 := h (122 + mSide z) (XD_n hX (by omega))
  have e7 := h (70 + (mSong z).toNat) (XD_n hX (by omega))
  have eW : mWear z' = mWear z := by
    unfold mWear
    rw [eS, e12]
  unfold mPlay
  rw [eW, eS, e9, e15, XR_song hX h, e7, e5]
  exact XR_does (XR_u (XR_u (XR_u h _ rfl) _ rfl) _ rfl) _ rfl
theorem XI_m {X : Nat → Prop} {z y : Nat → Int} (h : XI X z) (e2 : ∀ p, p < 10 → y (20 + p) = z (20 + p)) (e3 : ∀ s, s < 20 → y (30 + s) = 1 → z (30 + s) = 1) (h3 : 3 ≤ y 3 → ¬ X (20 + (y 1).toNat)) : XI X y :=
  ⟨fun s hs h1 => h.1 s hs (e3 s hs h1), h3, fun p hp hx r hr => h.2.2 p hp hx r (by rw [← e2 p hp]; exact hr)⟩
theorem XI_look {X : Nat → Prop} {z w : Nat → Int} (hcw : ZC w) (hw : ∀ i, 5 ≤ i → w i = z i) (h : XI X z) : XI X (mLook w) := by
  have hs := song_pl hcw
  refine XI_m h (fun p hp => by rw [look_same hcw (by omega)]; exact hw _ (by omega)) (fun s hs h1 => ?_) (fun h3 => ?_)
  · rw [look_pin hs] at h1
    rw [← hw _ (by omega)]
    (repeat' split at h1) <;> omega
  · rcases look_e w with ⟨-, -, l3, -⟩ | ⟨l1, -⟩
    · rw [look_same hcw (by omega), ← hs.2]
      exact h.1 _ hs.1 (by rw [← hw _ (by omega)]; exact l3)
    · omega
theorem XR_tick {X : Nat → Prop} {z z' : Nat → Int} (hX : XD X) (hA : ZA z) (hI : XI X z) (h : XR X z z') : XR X (mTick z) (mTick z') ∧ XI X (mTick z) := by
  obtain ⟨hR, hc, hd, hb⟩ := id hA
  have hpb := mPins_b hc.2.2.2.2.2.2.1 20 (by decide)
  have e0 := h 0 (XD_n hX (by omega))
  have e1 := h 1 (XD_n hX (by omega))
  have e2 := h 2 (XD_n hX (by omega))
  have e3 := h 3 (XD_n hX (by omega))
  have e4 := h 4 (XD_n hX (by omega))
  have ep := XR_pins hX h
  by_cases h3 : z 3 = 0
  · by_cases hp : mPins z 20 = 0
    · rw [tick_rest h3 hp, tick_rest (by omega) (by omega)]
      exact ⟨XR_u h 0 (by omega), XI_m hI (fun p hp => updI_n (by omega)) (fun s hs h1 => by rw [updI_n (by omega)] at h1; exact h1) (fun h3' => by rw [updI_n (by decide)] at h3'; omega)⟩
    · rw [tick_look h3 hp hpb.1, tick_look (by omega) (by omega) (by omega)]
      have hcw := ZC_0 hc (z 0 + 1)
      exact ⟨XR_look hX hcw (fun s hs h1 => by rw [updI_n (by omega)] at h1; exact hI.1 s hs h1) (XR_u h 0 (by omega)), XI_look hcw (fun i hi => updI_n (by omega)) hI⟩
  · by_cases h4 : 0 < z 4 - 1
    · rw [tick_go h3 h4, tick_go (by omega) (by omega)]
      refine ⟨XR_u (XR_u h 0 (by omega)) 4 (by omega), XI_m hI (fun p hp => u_n (by omega) (by omega)) (fun s hs h1 => by rw [u_n (by omega) (by omega)] at h1; exact h1) (fun h3' => ?_)⟩
      rw [u_n (by decide) (by decide)] at h3' ⊢
      exact hI.2.1 h3'
    · rw [tick_end h3 h4, tick_end (z := z') (by omega) (by omega)]
      have hRu : XR X (updI (updI z 0 (z 0 + 1)) 4 (z 4 - 1)) (updI (updI z' 0 (z' 0 + 1)) 4 (z' 4 - 1)) := XR_u (XR_u h 0 (by omega)) 4 (by omega)
      have hu3 : updI (updI z 0 (z 0 + 1)) 4 (z 4 - 1) 3 = z 3 := u_n (by decide) (by decide)
      have hu1 : updI (updI z 0 (z 0 + 1)) 4 (z 4 - 1) 1 = z 1 := u_n (by decide) (by decide)
      have hu2 : updI (updI z 0 (z 0 + 1)) 4 (z 4 - 1) 2 = z 2 := u_n (by decide) (by decide)
      have hcu := ZC_u hc (z 0 + 1) (z 4 - 1)
      have hui : ∀ i, 5 ≤ i → updI (updI z 0 (z 0 + 1)) 4 (z 4 - 1) i = z i := fun i hi => u_n (by omega) (by omega)
      generalize updI (updI z 0 (z 0 + 1)) 4 (z 4 - 1) = u at hRu hu3 hu1 hu2 hcu hui ⊢
      generalize updI (updI z' 0 (z' 0 + 1)) 4 (z' 4 - 1) = u' at hRu ⊢
      have f3 := hRu 3 (XD_n hX (by omega))
      have f1 := hRu 1 (XD_n hX (by omega))
      have f2 := hRu 2 (XD_n hX (by omega))
      obtain ⟨d1, d2, d3, d4, d5, d6, d7⟩ := hd
      have hc1 := hc.1
      have hc2 := hc.2.1
      have hIu : XI X u := XI_m hI (fun p hp => hui _ (by omega)) (fun s hs h1 => by rw [hui _ (by omega)] at h1; exact h1) (fun h => by rw [hu1]; exact hI.2.1 (by omega))
      rcases (show z 3 = 1 ∨ z 3 = 2 ∨ z 3 = 3 ∨ z 3 = 4 ∨ z 3 = 5 by omega) with g | g | g | g | g
      · rw [end1 (z := u) (by omega), end1 (z := u') (by omega), f1, f2]
        have hcw : ZC (updI u 1 (u 1 + (if u 2 = 1 then 1 else -1))) := ZC_p hcu (by have := d6 g; split <;> omega) (by have := d6 g; split <;> omega)
        exact ⟨XR_look hX hcw (fun s hs h1 => by rw [updI_n (by omega)] at h1; exact hIu.1 s hs h1) (XR_u hRu 1 rfl), XI_look hcw (fun i hi => updI_n (by omega)) hIu⟩
      · rw [end2 (z := u) (by omega), end2 (z := u') (by omega), f2]
        have hcw : ZC (updI u 2 (1 - u 2)) := ZC_t hcu (by omega)
        exact ⟨XR_look hX hcw (fun s hs h1 => by rw [updI_n (by omega)] at h1; exact hIu.1 s hs h1) (XR_u hRu 2 rfl), XI_look hcw (fun i hi => updI_n (by omega)) hIu⟩
      · rw [end3 (z := u) (by omega), end3 (z := u') (by omega)]
        have hn : ¬ X (20 + (u 1).toNat) := hIu.2.1 (by omega)
        have hr : 0 ≤ u (20 + (u 1).toNat) := by rw [hu1, hui _ (by omega)]; exact d5 (by omega)
        refine ⟨XR_play hX hcu hr hn (fun r hr => hIu.2.2 _ (by omega) hn r hr) hRu, XI_m hIu (fun p hp => play_same hcu (by omega)) (fun s hs h1 => by rw [play_same hcu (by omega)] at h1; exact h1) (fun _ => ?_)⟩
        rw [play_same hcu (by omega)]
        exact hn
      · rw [end4 (z := u) (by omega), end4 (z := u') (by omega)]
        refine ⟨XR_does hRu _ rfl, XI_m hIu (fun p hp => mDoes_n (by omega) (by omega)) (fun s hs h1 => by rw [mDoes_n (by omega) (by omega)] at h1; exact h1) (fun _ => ?_)⟩
        rw [mDoes_n (by omega) (by omega)]
        exact hIu.2.1 (by omega)
      · rw [end5 (z := u) (by omega), end5 (z := u') (by omega)]
        have hg := goOn_e u
        refine ⟨XR_goOn hX hRu, XI_m hIu (fun p hp => mGoOn_n (by omega) (by omega)) (fun s hs h1 => by rw [mGoOn_n (by omega) (by omega)] at h1; exact h1) (fun h3' => by omega)⟩
theorem ft_rel {X : Nat → Prop} (hX : XD X) : ∀ (F : Nat) (z z' : Nat → Int) (n t q : Nat), ZA z → z 0 + F ≤ 2000000000 → XI X z → XR X z z' → ft F z' n t q = ft F z n t q
  | 0, _, _, _, _, _, _, _, _, _ => rfl
  | F + 1, z, z', n, t, q, hA, h0, hI, h => by
    have e3 := h 3 (XD_n hX (by omega))
    have e5 := h 5 (XD_n hX (by omega))
    have ep := XR_pins hX h
    have hT := XR_tick hX hA hI h
    have ht5 := hT.1 5 (XD_n hX (by omega))
    have ht0 := (tick_05 hA.2.1 hA.2.2.1).1
    by_cases c : 64 ≤ n ∨ 2000 ≤ q ∨ (z 3 = 0 ∧ mPins z 20 = 0)
    · rw [ft_x c, ft_x (by omega)]
    · have ih := fun n t q => ft_rel hX F (mTick z) (mTick z') n t q (ZA_tick hA (by omega)) (by omega) hT.2 hT.1
      by_cases c2 : mTick z 5 ≤ z 5
      · rw [ft_n c c2, ft_n (by omega) (by omega), ih]
      · rw [ft_s c c2, ft_s (by omega) (by omega), ih, XR_song hX hT.1]
theorem mFt_rel {X : Nat → Prop} (hX : XD X) {z z' : Nat → Int} (hA : ZA z) (h0 : z 0 ≤ 1000000) (hI : XI X z) (h : XR X z z') : mFt z' = mFt z := ft_rel hX 130065 z z' 0 0 0 hA (by omega) hI h
/-- between two places at which nothing is asked a change makes no difference -/
theorem mDn_swp {z : Nat → Int} (hA : ZA z) (h0 : z 0 ≤ 1000000) {p q : Nat} (hp : p < 10) (hq : q < 10) (h1 : ¬ (z 1 = (p : Int) ∧ 3 ≤ z 3)) (h2 : ¬ (z 1 = (q : Int) ∧ 3 ≤ z 3))
    (a1 : ¬ (z (30 + 2 * p) = 1 ∨ z (30 + (2 * p + 1)) = 1)) (a2 : ¬ (z (30 + 2 * q) = 1 ∨ z (30 + (2 * q + 1)) = 1)) : mDn (swp z p q) = mDn z := by
  unfold mDn
  rw [mFt_rel (X := fun i => i = 20 + p ∨ i = 20 + q) (fun i hi => by omega) hA h0 ⟨fun s hs hs1 hx => ?_, fun h3 hx => ?_, fun p' hp' hx r hr => ⟨by omega, by omega⟩⟩ (fun i hi => swp_n (by omega) (by omega))]
  · have hn1 : ¬ s = 2 * p := fun e => a1 (Or.inl (by rw [← e]; exact hs1))
    have hn2 : ¬ s = 2 * p + 1 := fun e => a1 (Or.inr (by rw [← e]; exact hs1))
    have hn3 : ¬ s = 2 * q := fun e => a2 (Or.inl (by rw [← e]; exact hs1))
    have hn4 : ¬ s = 2 * q + 1 := fun e => a2 (Or.inr (by rw [← e]; exact hs1))
    omega
  · have := hA.2.1.1
    omega
/-- what the money and a new record leave as it is -/
def KX2 (m : Int) (i : Nat) : Prop := (7 ≤ i ∧ i ≤ 14) ∨ i = 16 ∨ (90 + 2 * m ≤ (i : Int) ∧ i < 122)
theorem KX2_D {m : Int} (hm : 0 ≤ m) : XD (KX2 m) := fun i hi => by unfold KX2 at hi; omega
theorem KX2_I {z : Nat → Int} (hc : ZC z) : XI (KX2 (z 16)) z := by
  refine ⟨fun s hs _ hx => ?_, fun _ hx => ?_, fun p hp _ r hr => ?_⟩
  · have := hc.2.2.2.1; unfold KX2 at hx; omega
  · have := hc.2.2.2.1; have := hc.1; unfold KX2 at hx; omega
  · have := hc.2.2.2.2.1 p hp
    exact ⟨fun hx => by unfold KX2 at hx; omega, fun hx => by unfold KX2 at hx; omega⟩
theorem mFt_keep {z z' : Nat → Int} (hA : ZA z) (h0 : z 0 ≤ 1000000) (h : XR (KX2 (z 16)) z z') : mFt z' = mFt z := mFt_rel (KX2_D hA.2.1.2.2.2.1.1) hA h0 (KX2_I hA.2.1) h
theorem swp_keep {X : Nat → Prop} {z z' : Nat → Int} (h : XR X z z') {p q : Nat} (hp : ¬ X (20 + p)) (hq : ¬ X (20 + q)) : XR X (swp z p q) (swp z' p q) := XR_u (XR_u h _ (h _ hq)) _ (h _ hp)
theorem btS_keep {z z' : Nat → Int} (hA : ZA z) (h0 : z 0 ≤ 1000000) (h : XR (KX2 (z 16)) z z') {p q : Nat} (hpq : p < q) (hq : q < 10) (s : Int × Int × Int) : btS z' p q s = btS z p q s := by
  have hX := KX2_D hA.2.1.2.2.2.1.1
  unfold btS
  rw [h 1 (XD_n hX (by omega)), h 3 (XD_n hX (by omega))]
  by_cases c1 : z 1 = (p : Int) ∧ 3 ≤ z 3
  · rw [if_pos c1, if_pos c1]
  · rw [if_neg c1, if_neg c1]
    by_cases c2 : z 1 = (q : Int) ∧ 3 ≤ z 3
    · rw [if_pos c2, if_pos c2]
    · rw [if_neg c2, if_neg c2]
      have hS := ZA_swp hA hpq hq c1 c2
      have e16 : swp z p q 16 = z 16 := swp_n (by omega) (by omega)
      have e00 : swp z p q 0 = z 0 := swp_n (by omega) (by omega)
      have hx : ∀ p, p < 10 → ¬ KX2 (z 16) (20 + p) := fun p hp hx => by unfold KX2 at hx; have := hA.2.1.2.2.2.1; omega
      have e : mFt (swp z' p q) = mFt (swp z p q) := mFt_keep hS (by omega) (by rw [e16]; exact swp_keep h (hx p (by omega)) (hx q hq))
      unfold mDn
      rw [e]
theorem btF_keep {z z' : Nat → Int} (hA : ZA z) (h0 : z 0 ≤ 1000000) (h : XR (KX2 (z 16)) z z') {p : Nat} : ∀ (r q : Nat) (s : Int × Int × Int), p < q → q + r ≤ 10 → btF z' p r q s = btF z p r q s
  | 0, _, _, _, _ => rfl
  | r + 1, q, s, h1, h2 => by
    show btF z' p r (q + 1) (btS z' p q s) = btF z p r (q + 1) (btS z p q s)
    rw [btS_keep hA h0 h h1 (by omega), btF_keep hA h0 h r (q + 1) _ (by omega) (by omega)]
theorem btG_keep {z z' : Nat → Int} (hA : ZA z) (h0 : z 0 ≤ 1000000) (h : XR (KX2 (z 16)) z z') : ∀ (r p : Nat) (s : Int × Int × Int), p + r ≤ 10 → btG z' r p s = btG z r p s
  | 0, _, _, _ => rfl
  | r + 1, p, s, h1 => by
    show btG z' r (p + 1) (btF z' p (9 - p) (p + 1) s) = btG z r (p + 1) (btF z p (9 - p) (p + 1) s)
    rw [btF_keep hA h0 h (9 - p) (p + 1) s (by omega) (by omega), btG_keep hA h0 h r (p + 1) _ (by omega)]
theorem mBt_keep {z z' : Nat → Int} (hA : ZA z) (h0 : z 0 ≤ 1000000) (h : XR (KX2 (z 16)) z z') : mBt z' = mBt z := by
  have e := mFt_keep hA h0 h
  unfold mBt
  rw [btG_keep hA h0 h 10 0 _ (by omega)]
  unfold mDn
  rw [e]
theorem btS_le {z : Nat → Int} {p q : Nat} {s : Int × Int × Int} {m : Int} (h : s.1 ≤ m) : (btS z p q s).1 ≤ m := by
  unfold btS
  (repeat' split) <;> first | exact h | (show mDn (swp z p q) ≤ m; omega)
