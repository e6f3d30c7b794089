/-! ===== what every call keeps ===== -/
theorem goOn_same {z : Nat → Int} {i : Nat} (h : ¬ i = 3) (h4 : ¬ i = 4) : mGoOn z i = z i := mGoOn_n h h4
theorem look_same {z : Nat → Int} (hc : ZC z) {i : Nat} (h : (7 ≤ i ∧ i < 30) ∨ 50 ≤ i ∨ i = 1 ∨ i = 2) : mLook z i = z i := by
  have hs := mSong_b hc.1.1 hc.1.2
  unfold mLook
  split
  · split
    · rw [mDoes_n (by omega) (by omega), mOut_n (by omega)]
    · rw [mGoOn_n (by omega) (by omega), updI_n (by omega), mOut_n (by omega)]
  · rw [mGoOn_n (by omega) (by omega), updI_n (by omega), mOut_n (by omega)]
theorem play_same {z : Nat → Int} (hc : ZC z) {i : Nat} (h : (6 ≤ i ∧ i < 70) ∨ (90 ≤ i ∧ i < 122) ∨ i = 1 ∨ i = 2 ∨ i = 0) : mPlay z i = z i := by
  have hs := mSong_b hc.1.1 hc.1.2
  unfold mPlay
  rw [mDoes_n (by omega) (by omega), updI_n (by omega), updI_n (by omega), updI_n (by omega)]
theorem tick_same {z : Nat → Int} (hc : ZC z) (hd : ZD z) {i : Nat} (h : (7 ≤ i ∧ i < 30) ∨ (50 ≤ i ∧ i < 70) ∨ (90 ≤ i ∧ i < 122)) : mTick z i = z i := by
  have h1 := hc.1
  have h2 := hc.2.1
  obtain ⟨d1, d2, d3, d4, d5, d6, d7⟩ := hd
  have c0 := ZC_n (j := 0) (v := z 0 + 1) hc (by omega)
  have c4 := ZC_n (j := 4) (v := z 4 - 1) c0 (by omega)
  have e0 : updI z 0 (z 0 + 1) i = z i := updI_n (by omega)
  have e4 : updI (updI z 0 (z 0 + 1)) 4 (z 4 - 1) i = z i := (updI_n (by omega)).trans e0
  unfold mTick
  split
  · split
    · exact e0
    · rw [look_same c0 (by omega)]; exact e0
  · split
    · exact e4
    · split
      · rw [look_same (ZC_p c4 (by split <;> omega) (by split <;> omega)) (by omega), updI_n (by omega)]; exact e4
      · split
        · rw [look_same (ZC_t c4 (by omega)) (by omega), updI_n (by omega)]; exact e4
        · split
          · rw [play_same c4 (by omega)]; exact e4
          · split
            · rw [mDoes_n (by omega) (by omega)]; exact e4
            · rw [mGoOn_n (by omega) (by omega)]; exact e4
theorem ticks_same {z : Nat → Int} (h : ZA z) : ∀ n : Nat, z 0 + n ≤ 2000000000 → ∀ i, ((7 ≤ i ∧ i < 30) ∨ (50 ≤ i ∧ i < 70) ∨ (90 ≤ i ∧ i < 122)) → mTicks z n i = z i
  | 0, _, _, _ => rfl
  | n + 1, hn, i, hi => by
    have ih := ZA_ticks h n (by omega)
    show mTick (mTicks z n) i = z i
    rw [tick_same ih.1.2.1 ih.1.2.2.1 hi]
    exact ticks_same h n (by omega) i hi
/-- money -/
def MN (c : Int) (z : Nat → Int) : Prop := (0 ≤ z 7 ∧ z 7 ≤ 4000 * c) ∧ (0 ≤ z 8 ∧ z 8 ≤ c) ∧ (0 ≤ z 9 ∧ z 9 ≤ 99 * c) ∧ (0 ≤ z 10 ∧ z 10 ≤ 99 * c) ∧ (1 ≤ z 11 ∧ z 11 ≤ 99) ∧ (1 ≤ z 12 ∧ z 12 ≤ 999) ∧ (1 ≤ z 13 ∧ z 13 ≤ 20) ∧ (z 14 = 0 ∨ z 14 = 1)
def GA (c : Int) (z : Nat → Int) : Prop := ZA z ∧ z 0 ≤ 1000000 ∧ MN c z
theorem MN_eq {c : Int} {z z' : Nat → Int} (h : MN c z) (e : ∀ i, 7 ≤ i → i ≤ 14 → z' i = z i) : MN c z' := by
  unfold MN
  rw [e 7 (by omega) (by omega), e 8 (by omega) (by omega), e 9 (by omega) (by omega), e 10 (by omega) (by omega), e 11 (by omega) (by omega), e 12 (by omega) (by omega), e 13 (by omega) (by omega), e 14 (by omega) (by omega)]
  exact h
theorem MN_up {c d : Int} {z : Nat → Int} (h : MN c z) (hcd : c ≤ d) : MN d z := by
  obtain ⟨h1, h2, h3, h4, h5, h6, h7, h8⟩ := h
  exact ⟨by omega, by omega, by omega, by omega, h5, h6, h7, h8⟩
theorem GA_up {c d : Int} {z : Nat → Int} (h : GA c z) (hcd : c ≤ d) : GA d z := ⟨h.1, h.2.1, MN_up h.2.2 hcd⟩
theorem ZD_eq {z z' : Nat → Int} (h : ZD z) (e : ∀ i, 1 ≤ i → i ≤ 4 → z' i = z i) (er : 3 ≤ z 3 → 0 ≤ z' (20 + (z 1).toNat)) : ZD z' := by
  obtain ⟨d1, d2, d3, d4, d5, d6, d7⟩ := h
  unfold ZD
  rw [e 1 (by omega) (by omega), e 2 (by omega) (by omega), e 3 (by omega) (by omega), e 4 (by omega) (by omega)]
  exact ⟨d1, d2, d3, d4, er, d6, d7⟩
/-- z changed in places that neither the carriage nor the rack know -/
theorem ZA_m {z : Nat → Int} {j : Nat} {v : Int} (h : ZA z) (hj : 7 ≤ j ∧ j ≤ 14) (hv : inR v) : ZA (updI z j v) := by
  obtain ⟨hR, hc, hd, h5⟩ := h
  have e : ∀ i, ¬ i = j → updI z j v i = z i := fun i hi => updI_n hi
  refine ⟨inR_upd hR hv, ZC_n hc (by omega), ZD_eq hd (fun i h1 h2 => e i (by omega)) (fun h3 => by rw [e _ (by omega)]; exact hd.2.2.2.2.1 h3), ?_⟩
  rw [e 5 (by omega), e 0 (by omega), e 6 (by omega)]
  exact h5
theorem mDue_b {z : Nat → Int} {v : Int} (h9 : 0 ≤ z 9) (h11 : 1 ≤ z 11 ∧ z 11 ≤ 99) (h12 : 1 ≤ z 12 ∧ z 12 ≤ 999) (h13 : 1 ≤ z 13 ∧ z 13 ≤ 20) (hv : 1 ≤ v ∧ v ≤ 99) : 0 ≤ mDue z v ∧ mDue z v ≤ 4000 := by
  have e9 : mPaid z v 9 = z 9 + v := mPaid_9 z v
  have e11 : mPaid z v 11 = z 11 := mPaid_n (by decide) (by decide)
  have e12 : mPaid z v 12 = z 12 := mPaid_n (by decide) (by decide)
  have e13 : mPaid z v 13 = z 13 := mPaid_n (by decide) (by decide)
  unfold mDue mOwes
  rw [e9, e11, e12, e13]
  generalize z 9 = S at *
  generalize z 11 = p at *
  generalize z 12 = q at *
  generalize z 13 = k at *
  have a1 := Int.emod_nonneg S (show q ≠ 0 by omega)
  have a2 := Int.emod_lt_of_pos S (show 0 < q by omega)
  have a3 := Int.emod_nonneg (S + v) (show q ≠ 0 by omega)
  have a4 := Int.emod_lt_of_pos (S + v) (show 0 < q by omega)
  have b1 := Int.mul_ediv_add_emod S q
  have b2 := Int.mul_ediv_add_emod (S + v) q
  have c1 : 0 ≤ (S + v) % q / p := Int.ediv_nonneg a3 (by omega)
  have c2 : (S + v) % q / p ≤ (S + v) % q := Int.ediv_le_self _ a3
  have c3 : 0 ≤ S % q / p := Int.ediv_nonneg a1 (by omega)
  have m1 : S / q ≤ (S + v) / q := Int.ediv_le_ediv (by omega) (by omega)
  have m2 : (S + v) / q ≤ S / q + v := by
    apply Int.ediv_le_of_le_mul (by omega)
    have : (S / q + v) * q = q * (S / q) + v * q := by rw [Int.add_mul, Int.mul_comm (S / q)]
    have hvq : v + (q - 1) ≤ v * q := by
      have h1 : (v - 1) * (q - 1) ≥ 0 := Int.mul_nonneg (by omega) (by omega)
      have h2 : (v - 1) * (q - 1) = v * q - v - q + 1 := by
        rw [Int.sub_mul, Int.mul_sub, Int.one_mul, Int.mul_one]; omega
      omega
    omega
  generalize S / q = x at *
  generalize (S + v) / q = y at *
  have m3 : k * y - k * x = k * (y - x) := by rw [Int.mul_sub]
  have m4 : k * (y - x) ≤ 20 * (y - x) := Int.mul_le_mul_of_nonneg_right h13.2 (by omega)
  split <;> omega
theorem GA_coin {c : Int} {z : Nat → Int} {v : Int} (h : GA c z) (hc : c ≤ 40000) : GA (c + 1) (sCoin z v) := by
  obtain ⟨hA, h0, hm⟩ := h
  unfold sCoin
  split
  · rename_i hv
    obtain ⟨m7, m8, m9, m10, m11, m12, m13, m14⟩ := id hm
    have hd := mDue_b m9.1 m11 m12 m13 hv
    have hA1 : ZA (mPaid z v) := ZA_m (ZA_m hA (by decide) (by omega)) (by decide) (by omega)
    refine ⟨ZA_m hA1 (by decide) (by omega), by rw [updI_n (by decide), mPaid_n (by decide) (by decide)]; exact h0, ?_⟩
    unfold MN
    rw [updI_e, updI_n (by decide), updI_n (by decide), updI_n (by decide), updI_n (by decide), updI_n (by decide), updI_n (by decide), updI_n (by decide), mPaid_9, mPaid_n (i := 8) (by decide) (by decide), mPaid_n (i := 11) (by decide) (by decide), mPaid_n (i := 12) (by decide) (by decide), mPaid_n (i := 13) (by decide) (by decide), mPaid_n (i := 14) (by decide) (by decide), show mPaid z v 10 = z 10 + v from updI_e _ _ _]
    exact ⟨by omega, by omega, by omega, by omega, m11, m12, m13, m14⟩
  · exact ⟨hA, h0, MN_up hm (by omega)⟩
theorem GA_pri {c : Int} {z : Nat → Int} {p q m : Int} (h : GA c z) : GA c (sPri z p q m) := by
  obtain ⟨hA, h0, hm⟩ := h
  unfold sPri
  split
  · rename_i hv
    obtain ⟨m7, m8, m9, m10, m11, m12, m13, m14⟩ := id hm
    refine ⟨ZA_m (ZA_m (ZA_m (ZA_m hA (by decide) (by omega)) (by decide) (by omega)) (by decide) (by omega)) (by decide) (by decide), by rw [updI_n (by decide), updI_n (by decide), updI_n (by decide), updI_n (by decide)]; exact h0, ?_⟩
    simp only [MN, updI]
    simp only [show (7 : Nat) ≠ 9 by decide, show (7 : Nat) ≠ 13 by decide, show (7 : Nat) ≠ 12 by decide, show (7 : Nat) ≠ 11 by decide, show (8 : Nat) ≠ 9 by decide, show (8 : Nat) ≠ 13 by decide, show (8 : Nat) ≠ 12 by decide, show (8 : Nat) ≠ 11 by decide, show (10 : Nat) ≠ 9 by decide, show (10 : Nat) ≠ 13 by decide, show (10 : Nat) ≠ 12 by decide, show (10 : Nat) ≠ 11 by decide, show (11 : Nat) ≠ 9 by decide, show (11 : Nat) ≠ 13 by decide, show (11 : Nat) ≠ 12 by decide, show (12 : Nat) ≠ 9 by decide, show (12 : Nat) ≠ 13 by decide, show (13 : Nat) ≠ 9 by decide, show (14 : Nat) ≠ 9 by decide, show (14 : Nat) ≠ 13 by decide, show (14 : Nat) ≠ 12 by decide, show (14 : Nat) ≠ 11 by decide, if_true, if_false]
    exact ⟨m7, m8, by omega, m10, by omega, by omega, by omega, m14⟩
  · exact ⟨hA, h0, hm⟩
theorem GA_set {c : Int} {z : Nat → Int} {k v : Int} (h : GA c z) : GA c (sSet z k v) := by
  obtain ⟨hA, h0, hm⟩ := h
  unfold sSet
  split
  · rename_i hv
    refine ⟨ZA_m hA (by decide) (by omega), by rw [updI_n (by decide)]; exact h0, ?_⟩
    obtain ⟨m7, m8, m9, m10, m11, m12, m13, m14⟩ := id hm
    unfold MN
    rw [updI_e, updI_n (by decide), updI_n (by decide), updI_n (by decide), updI_n (by decide), updI_n (by decide), updI_n (by decide), updI_n (by decide)]
    exact ⟨m7, m8, m9, m10, m11, m12, m13, by omega⟩
  · split
    · rename_i hv
      obtain ⟨hR, hc, hd, h5⟩ := hA
      have e : ∀ i, ¬ i = 15 → updI z 15 v i = z i := fun i hi => updI_n hi
      obtain ⟨g1, g2, g3, g4, g5, g6, g7, g8, g9, g10, g11, g12, g13, g14⟩ := hc
      refine ⟨⟨inR_upd hR (by omega), ⟨by rw [e 1 (by omega)]; exact g1, by rw [e 2 (by omega)]; exact g2, by rw [updI_e]; omega, by rw [e 16 (by omega)]; exact g4, fun p hp => by rw [e (20 + p) (by omega), e 16 (by omega)]; exact g5 p hp, fun p q hpq hq he => ?_, fun s hs => by rw [e _ (by omega)]; exact g7 s hs, fun s hs => by rw [e _ (by omega)]; exact g8 s hs, fun s hs he => ?_, fun s hs he => ?_, fun s hs => by rw [e _ (by omega)]; exact g11 s hs, fun s hs => by rw [e _ (by omega)]; exact g12 s hs, fun r hr => ?_, fun s hs => by rw [e _ (by omega)]; exact g14 s hs⟩, ZD_eq hd (fun i h1 h2 => e i (by omega)) (fun h3 => by rw [e _ (by omega)]; exact hd.2.2.2.2.1 h3), by rw [e 5 (by omega), e 0 (by omega), e 6 (by omega)]; exact h5⟩, by rw [e 0 (by omega)]; exact h0, MN_eq hm (fun i h1 h2 => e i (by omega))⟩
      · rw [e (20 + p) (by omega), e (20 + q) (by omega)] at he
        rw [e (20 + p) (by omega)]
        exact g6 p q hpq hq he
      · rw [e _ (by omega)] at he ⊢; exact g9 s hs he
      · rw [e _ (by omega)] at he ⊢; exact g10 s hs he
      · rw [e 16 (by omega)] at hr; rw [e _ (by omega)]; exact g13 r hr
    · exact ⟨hA, h0, hm⟩
/-- pins and how they are changed, as told -/
theorem ZA_pin {z z' : Nat → Int} (h : ZA z) (e : ∀ i, ¬ (30 ≤ i ∧ i < 70) → z' i = z i) (hp : P01 z') (h8 : ∀ s, s < 20 → 0 ≤ z' (50 + s) ∧ z' (50 + s) ≤ 2) (h9 : ∀ s, s < 20 → z' (50 + s) = 1 → z' (30 + s) = 1) (h10 : ∀ s, s < 20 → z' (50 + s) = 2 → z' (30 + s) = 0) (hR' : ∀ i, inR (z' i)) : ZA z' := by
  obtain ⟨hR, hc, hd, h5⟩ := h
  obtain ⟨g1, g2, g3, g4, g5, g6, -, -, -, -, g11, g12, g13, g14⟩ := hc
  refine ⟨hR', ⟨by rw [e 1 (by omega)]; exact g1, by rw [e 2 (by omega)]; exact g2, by rw [e 15 (by omega)]; exact g3, by rw [e 16 (by omega)]; exact g4, fun p hp => by rw [e (20 + p) (by omega), e 16 (by omega)]; exact g5 p hp, fun p q hpq hq he => ?_, hp, h8, h9, h10, fun s hs => by rw [e _ (by omega)]; exact g11 s hs, fun s hs => by rw [e _ (by omega)]; exact g12 s hs, fun r hr => ?_, fun s hs => by rw [e _ (by omega)]; exact g14 s hs⟩, ZD_eq hd (fun i h1 h2 => e i (by omega)) (fun h3 => by rw [e _ (by omega)]; exact hd.2.2.2.2.1 h3), by rw [e 5 (by omega), e 0 (by omega), e 6 (by omega)]; exact h5⟩
  · rw [e (20 + p) (by omega), e (20 + q) (by omega)] at he
    rw [e (20 + p) (by omega)]
    exact g6 p q hpq hq he
  · rw [e 16 (by omega)] at hr; rw [e _ (by omega)]; exact g13 r hr
theorem GA_stk {c : Int} {z : Nat → Int} {s k : Int} (h : GA c z) : GA c (sStk z s k) := by
  obtain ⟨hA, h0, hm⟩ := h
  unfold sStk
  split
  · rename_i hv
    obtain ⟨hR, hc, hd, h5⟩ := id hA
    have hpn := hc.2.2.2.2.2.2.1
    obtain ⟨-, -, -, -, -, -, g7, g8, g9, g10, -⟩ := id hc
    generalize hw : (if k = 1 then (1 : Int) else if k = 2 then 0 else z (30 + s.toNat)) = w
    have hw1 : w = 0 ∨ w = 1 := by
      rw [← hw]
      have := hpn s.toNat (by omega)
      (repeat' split) <;> omega
    have hwk1 : k = 1 → w = 1 := fun hk => by rw [← hw, if_pos hk]
    have hwk2 : k = 2 → w = 0 := fun hk => by rw [← hw, if_neg (by omega), if_pos hk]
    have e : ∀ i, ¬ (30 ≤ i ∧ i < 70) → updI (updI z (50 + s.toNat) k) (30 + s.toNat) w i = z i := fun i hi => (updI_n (by omega)).trans (updI_n (by omega))
    have ep : ∀ t, ¬ t = s.toNat → t < 20 → updI (updI z (50 + s.toNat) k) (30 + s.toNat) w (30 + t) = z (30 + t) := fun t ht hl => (updI_n (by omega)).trans (updI_n (by omega))
    have eh : ∀ t, ¬ t = s.toNat → updI (updI z (50 + s.toNat) k) (30 + s.toNat) w (50 + t) = z (50 + t) := fun t ht => (updI_n (by omega)).trans (updI_n (by omega))
    have ep' : updI (updI z (50 + s.toNat) k) (30 + s.toNat) w (30 + s.toNat) = w := updI_e _ _ _
    have eh' : updI (updI z (50 + s.toNat) k) (30 + s.toNat) w (50 + s.toNat) = k := (updI_n (by omega)).trans (updI_e _ _ _)
    refine ⟨ZA_pin hA e (fun t ht => ?_) (fun t ht => ?_) (fun t ht he => ?_) (fun t ht he => ?_) (inR_upd (inR_upd hR (by omega)) (by omega)), by rw [e 0 (by omega)]; exact h0, MN_eq hm (fun i h1 h2 => e i (by omega))⟩
    · by_cases q : t = s.toNat
      · subst q; rw [ep']; exact hw1
      · rw [ep t q ht]; exact g7 t ht
    · by_cases q : t = s.toNat
      · subst q; rw [eh']; omega
      · rw [eh t q]; exact g8 t ht
    · by_cases q : t = s.toNat
      · subst q; rw [eh'] at he; rw [ep']; exact hwk1 he
      · rw [eh t q] at he; rw [ep t q ht]; exact g9 t ht he
    · by_cases q : t = s.toNat
      · subst q; rw [eh'] at he; rw [ep']; exact hwk2 he
      · rw [eh t q] at he; rw [ep t q ht]; exact g10 t ht he
  · exact ⟨hA, h0, hm⟩
theorem ZA_ask {z : Nat → Int} (h : ZA z) (s : Nat) (hs : s < 20) (v : Int) (hv : v = 0 ∨ v = 1) (h0 : z (50 + s) = 0 ∨ v = z (30 + s)) : ZA (updI z (30 + s) v) := by
  obtain ⟨hR, hc, hd, h5⟩ := id h
  obtain ⟨-, -, -, -, -, -, g7, g8, g9, g10, -⟩ := id hc
  have e : ∀ i, ¬ i = 30 + s → updI z (30 + s) v i = z i := fun i hi => updI_n hi
  refine ZA_pin h (fun i hi => e i (by omega)) (P01_u g7 hv) (fun t ht => by rw [e _ (by omega)]; exact g8 t ht) (fun t ht he => ?_) (fun t ht he => ?_) (inR_upd hR (by omega))
  · rw [e _ (by omega)] at he
    by_cases q : t = s
    · subst q
      rw [updI_e]
      have := g9 t ht he
      omega
    · rw [e _ (by omega)]; exact g9 t ht he
  · rw [e _ (by omega)] at he
    by_cases q : t = s
    · subst q
      rw [updI_e]
      have := g10 t ht he
      omega
    · rw [e _ (by omega)]; exact g10 t ht he
theorem GA_key {c : Int} {z : Nat → Int} {s : Int} (h : GA c z) (hc : c ≤ 40000) (hc0 : 0 ≤ c) : GA (c + 1) (sKey z s) := by
  have hup := GA_up h (show c ≤ c + 1 by omega)
  obtain ⟨hA, h0, hm⟩ := id h
  obtain ⟨m7, m8, m9, m10, m11, m12, m13, m14⟩ := id hm
  have key : ∀ (v x : Int), (v = 0 ∨ v = 1) → (0 ≤ s ∧ s ≤ 19) → (z (50 + s.toNat) = 0 ∨ v = z (30 + s.toNat)) → (x = 0 ∨ x = 1) → ¬ z 7 = 0 → GA (c + 1) (updI (updI (updI z (30 + s.toNat) v) 8 (z 8 + x)) 7 (z 7 - 1)) := by
    intro v x hv hs hz hx h7
    have a1 := ZA_ask hA s.toNat (by omega) v hv hz
    refine ⟨ZA_m (ZA_m a1 (by decide) (by omega)) (by decide) (by omega), by rw [updI_n (by decide), updI_n (by decide), updI_n (by omega)]; exact h0, ?_⟩
    unfold MN
    rw [updI_e, updI_n (j := 7) (q := 8) (by decide), updI_e, updI_n (j := 7) (q := 9) (by decide), updI_n (j := 8) (q := 9) (by decide), updI_n (q := 9) (by omega), updI_n (j := 7) (q := 10) (by decide), updI_n (j := 8) (q := 10) (by decide), updI_n (q := 10) (by omega), updI_n (j := 7) (q := 11) (by decide), updI_n (j := 8) (q := 11) (by decide), updI_n (q := 11) (by omega), updI_n (j := 7) (q := 12) (by decide), updI_n (j := 8) (q := 12) (by decide), updI_n (q := 12) (by omega), updI_n (j := 7) (q := 13) (by decide), updI_n (j := 8) (q := 13) (by decide), updI_n (q := 13) (by omega), updI_n (j := 7) (q := 14) (by decide), updI_n (j := 8) (q := 14) (by decide), updI_n (q := 14) (by omega)]
    exact ⟨by omega, by omega, by omega, by omega, m11, m12, m13, m14⟩
  unfold sKey
  split
  · split
    · exact hup
    · split
      · exact key 1 0 (by omega) (by assumption) (by omega) (by omega) (by assumption)
      · split
        · exact hup
        · exact key _ 1 (hA.2.1.2.2.2.2.2.2.1 s.toNat (by omega)) (by assumption) (Or.inr rfl) (by omega) (by assumption)
  · exact hup
theorem GA_tks {c : Int} {z : Nat → Int} {n : Int} (h : GA c z) : GA c (sTks z n) := by
  obtain ⟨hA, h0, hm⟩ := h
  unfold sTks
  split
  · have := ZA_ticks hA n.toNat (by omega)
    exact ⟨this.1, by omega, MN_eq hm (fun i h1 h2 => ticks_same hA n.toNat (by omega) i (by omega))⟩
  · exact ⟨hA, h0, hm⟩
theorem GA_chg {c : Int} {z : Nat → Int} {p r : Int} (h : GA c z) : GA c (sChg z p r) := by
  obtain ⟨hA, h0, hm⟩ := h
  unfold sChg
  split
  · rename_i hv
    obtain ⟨hR, hc, hd, h5⟩ := id hA
    obtain ⟨g1, g2, g3, g4, g5, g6, g7, g8, g9, g10, g11, g12, g13, g14⟩ := id hc
    generalize hw : (if 0 ≤ r then r else (-4 : Int)) = w
    have hw1 : w = -4 ∨ (0 ≤ w ∧ w < z 16 ∧ w = r ∧ 0 ≤ r) := by
      rw [← hw]
      split <;> omega
    have e : ∀ i, ¬ i = 20 + p.toNat → updI z (20 + p.toNat) w i = z i := fun i hi => updI_n hi
    have pl : ∀ n q : Nat, q < n → z (20 + q) = r → 0 ≤ mPlaceOf z r n := by
      intro n
      induction n with
      | zero => intro q hq; omega
      | succ n ih =>
        intro q hq he
        unfold mPlaceOf
        split
        · omega
        · by_cases hqn : q = n
          · subst hqn; contradiction
          · exact ih q (by omega) he
    have pq : ∀ n : Nat, 0 ≤ mPlaceOf z r n → z (20 + (mPlaceOf z r n).toNat) = r := by
      intro n
      induction n with
      | zero => intro hq; simp [mPlaceOf] at hq
      | succ n ih =>
        unfold mPlaceOf
        split
        · intro _; simpa using by assumption
        · exact ih
    -- no other place holds w
    have hno : ∀ q, q < 10 → ¬ q = p.toNat → z (20 + q) = w → w = -4 := by
      intro q hq hne he
      rcases hw1 with h1 | ⟨h1, h2, h3, h4⟩
      · exact h1
      · exfalso
        rw [h3] at he
        have b1 := pl 10 q hq he
        have b2 := pq 10 b1
        have b3 := mPlaceOf_b z r 10
        have b4 : mPlaceOf z r 10 = p := by omega
        rw [b4] at b2
        rcases Nat.lt_or_gt_of_ne hne with hlt | hlt
        · have := g6 q p.toNat hlt (by omega) (by rw [he, b2]); omega
        · have := g6 p.toNat q hlt hq (by rw [he, b2]); omega
    refine ⟨⟨inR_upd hR (by omega), ⟨by rw [e 1 (by omega)]; exact g1, by rw [e 2 (by omega)]; exact g2, by rw [e 15 (by omega)]; exact g3, by rw [e 16 (by omega)]; exact g4, fun q hq => ?_, fun q t hqt ht he => ?_, fun s hs => by rw [e _ (by omega)]; exact g7 s hs, fun s hs => by rw [e _ (by omega)]; exact g8 s hs, fun s hs he => ?_, fun s hs he => ?_, fun s hs => by rw [e _ (by omega)]; exact g11 s hs, fun s hs => by rw [e _ (by omega)]; exact g12 s hs, fun r hr => ?_, fun s hs => by rw [e _ (by omega)]; exact g14 s hs⟩, ZD_eq hd (fun i h1 h2 => e i (by omega)) (fun h3 => by rw [e _ (by omega)]; exact hd.2.2.2.2.1 h3), by rw [e 5 (by omega), e 0 (by omega), e 6 (by omega)]; exact h5⟩, by rw [e 0 (by omega)]; exact h0, MN_eq hm (fun i h1 h2 => e i (by omega))⟩
    · rw [e 16 (by omega)]
      by_cases hqp : q = p.toNat
      · subst hqp; rw [updI_e]; omega
      · rw [e _ (by omega)]; exact g5 q hq
    · by_cases hqp : q = p.toNat
      · subst hqp
        rw [updI_e] at he ⊢
        rw [e _ (by omega)] at he
        exact hno t ht (by omega) he.symm
      · by_cases htp : t = p.toNat
        · subst htp
          rw [updI_e, e _ (by omega)] at he
          rw [e _ (by omega), he]
          exact hno q (by omega) hqp he
        · rw [e _ (by omega), e _ (by omega)] at he
          rw [e _ (by omega)]
          exact g6 q t hqt ht he
    · rw [e _ (by omega)] at he ⊢; exact g9 s hs he
    · rw [e _ (by omega)] at he ⊢; exact g10 s hs he
    · rw [e 16 (by omega)] at hr; rw [e _ (by omega)]; exact g13 r hr
  · exact ⟨hA, h0, hm⟩
theorem GA_rec {c : Int} {z : Nat → Int} {u v : Int} (h : GA c z) : GA c (sRec z u v) := by
  obtain ⟨hA, h0, hm⟩ := h
  unfold sRec
  split
  · rename_i hv
    obtain ⟨hR, hc, hd, h5⟩ := id hA
    obtain ⟨g1, g2, g3, g4, g5, g6, g7, g8, g9, g10, g11, g12, g13, g14⟩ := id hc
    generalize hz' : updI (updI (updI z (90 + (2 * z 16).toNat) u) (90 + (2 * z 16).toNat + 1) v) 16 (z 16 + 1) = z'
    have e : ∀ i, ¬ i = 16 → ¬ i = 90 + (2 * z 16).toNat → ¬ i = 90 + (2 * z 16).toNat + 1 → z' i = z i := fun i h1 h2 h3 => by rw [← hz', updI_n h1, updI_n h3, updI_n h2]
    have e16 : z' 16 = z 16 + 1 := by rw [← hz', updI_e]
    have eu : z' (90 + (2 * z 16).toNat) = u := by rw [← hz', updI_n (by omega), updI_n (by omega), updI_e]
    have ev : z' (90 + (2 * z 16).toNat + 1) = v := by rw [← hz', updI_n (by omega), updI_e]
    have hR' : ∀ i, inR (z' i) := by rw [← hz']; exact inR_upd (inR_upd (inR_upd hR (by omega)) (by omega)) (by omega)
    refine ⟨⟨hR', ⟨by rw [e 1 (by omega) (by omega) (by omega)]; exact g1, by rw [e 2 (by omega) (by omega) (by omega)]; exact g2, by rw [e 15 (by omega) (by omega) (by omega)]; exact g3, by rw [e16]; omega, fun p hp => ?_, fun p q hpq hq he => ?_, fun s hs => by rw [e _ (by omega) (by omega) (by omega)]; exact g7 s hs, fun s hs => by rw [e _ (by omega) (by omega) (by omega)]; exact g8 s hs, fun s hs he => ?_, fun s hs he => ?_, fun s hs => by rw [e _ (by omega) (by omega) (by omega)]; exact g11 s hs, fun r hr => ?_, fun r hr => ?_, fun s hs => by rw [e _ (by omega) (by omega) (by omega)]; exact g14 s hs⟩, ZD_eq hd (fun i h1 h2 => e i (by omega) (by omega) (by omega)) (fun h3 => by rw [e _ (by omega) (by omega) (by omega)]; exact hd.2.2.2.2.1 h3), by rw [e 5 (by omega) (by omega) (by omega), e 0 (by omega) (by omega) (by omega), e 6 (by omega) (by omega) (by omega)]; exact h5⟩, by rw [e 0 (by omega) (by omega) (by omega)]; exact h0, MN_eq hm (fun i h1 h2 => e i (by omega) (by omega) (by omega))⟩
    · rw [e (20 + p) (by omega) (by omega) (by omega), e16]
      have := g5 p hp
      omega
    · rw [e (20 + p) (by omega) (by omega) (by omega), e (20 + q) (by omega) (by omega) (by omega)] at he
      rw [e (20 + p) (by omega) (by omega) (by omega)]
      exact g6 p q hpq hq he
    · rw [e _ (by omega) (by omega) (by omega)] at he ⊢; exact g9 s hs he
    · rw [e _ (by omega) (by omega) (by omega)] at he ⊢; exact g10 s hs he
    · by_cases q1 : r = (2 * z 16).toNat
      · subst q1; rw [eu]; omega
      · by_cases q2 : r = (2 * z 16).toNat + 1
        · subst q2; rw [show 90 + ((2 * z 16).toNat + 1) = 90 + (2 * z 16).toNat + 1 by omega, ev]; omega
        · rw [e _ (by omega) (by omega) (by omega)]; exact g12 r hr
    · rw [e16] at hr
      by_cases q1 : r = (2 * z 16).toNat
      · subst q1; rw [eu]; omega
      · by_cases q2 : r = (2 * z 16).toNat + 1
        · subst q2; rw [show 90 + ((2 * z 16).toNat + 1) = 90 + (2 * z 16).toNat + 1 by omega, ev]; omega
        · rw [e _ (by omega) (by omega) (by omega)]; exact g13 r (by omega)
  · exact ⟨hA, h0, hm⟩
