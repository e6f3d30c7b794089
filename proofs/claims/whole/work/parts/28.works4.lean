def fPl (z : Nat → Int) (r : Int) : Nat → Nat → Int
  | 0, _ => -4
  | n + 1, i => if z (20 + i) = r then (i : Int) else fPl z r n (i + 1)
def wE (z : Nat → Int) : Nat → Int
  | 0 => 0
  | n + 1 => if z (20 + n) = -4 then wE z n + 1 else wE z n
theorem wE_m {z : Nat → Int} (hc : ZC z) : ∀ n, n ≤ 10 → wE z n = mEmpty z n
  | 0, _ => rfl
  | n + 1, hn => by
    have h5 := hc.2.2.2.2.1 n (by omega)
    simp only [wE, mEmpty]
    rw [wE_m hc n (by omega)]
    (repeat' split) <;> omega
theorem fPl_m {z : Nat → Int} (hc : ZC z) (r : Int) : fPl z r 10 0 = (if 0 ≤ r then mPlaceOf z r 10 else -4) ∨ r = -4 := by
  by_cases h4 : r = -4
  · exact Or.inr h4
  left
  -- a place that holds r is the only one
  have key : ∀ n i : Nat, i + n = 10 → (∀ t, t < i → ¬ z (20 + t) = r) → fPl z r n i = (if 0 ≤ r then mPlaceOf z r 10 else -4) := by
    intro n
    induction n with
    | zero =>
      intro i hi hn
      have e : ∀ m, m ≤ 10 → mPlaceOf z r m = -4 := by
        intro m
        induction m with
        | zero => intro _; rfl
        | succ m ih => intro hm; unfold mPlaceOf; rw [if_neg (hn m (by omega))]; exact ih (by omega)
      rw [e 10 (by omega)]
      show (-4 : Int) = _
      split <;> rfl
    | succ n ih =>
      intro i hi hn
      unfold fPl
      by_cases c : z (20 + i) = r
      · rw [if_pos c]
        have hr0 : 0 ≤ r := by have := hc.2.2.2.2.1 i (by omega); omega
        rw [if_pos hr0]
        have e : ∀ m, i < m → m ≤ 10 → mPlaceOf z r m = (i : Int) := by
          intro m
          induction m with
          | zero => intro h; omega
          | succ m ihm =>
            intro h1 h2
            unfold mPlaceOf
            by_cases q : z (20 + m) = r
            · rw [if_pos q]
              by_cases q2 : i = m
              · rw [q2]
              · have := hc.2.2.2.2.2.1 i m (by omega) (by omega) (by rw [c, q]); omega
            · rw [if_neg q]
              have hlt : i < m := by
                rcases Nat.lt_or_ge i m with h | h
                · exact h
                · exfalso
                  have e : i = m := by omega
                  rw [e] at c
                  exact q c
              exact ihm hlt (by omega)
        exact (e 10 (by omega) (by omega)).symm
      · rw [if_neg c]
        refine ih (i + 1) (by omega) (fun t ht => ?_)
        by_cases q : t = i
        · rw [q]; exact c
        · exact hn t (by omega)
  exact key 10 0 rfl (fun t ht => by omega)
theorem fPl_b (z : Nat → Int) (r : Int) : ∀ n i : Nat, i + n ≤ 10 → fPl z r n i = -4 ∨ (0 ≤ fPl z r n i ∧ fPl z r n i ≤ 9)
  | 0, _, _ => Or.inl rfl
  | n + 1, i, h => by
    unfold fPl
    split
    · omega
    · exact fPl_b z r n (i + 1) (by omega)
set_option maxRecDepth 100000 in
set_option maxHeartbeats 4000000 in
theorem lk_placeOf {P : AW} {a : Nat} (hP : P.length = a) (z : Nat → Int) (R : AW) (hR : ∀ i, inR (z i)) (r : Int) (hir : inR r) {Q : Int → AW → Prop} : ∀ (n i : Nat), i + n = 10 → Q (fPl z r n i) (P ++ wk a z R) → EX I_X4_placeOf 0 0 none (ZM 0 0 (fun r w' => ∃ x : Int, r = some (.int (iI x)) ∧ Q x w')) 2 [some (.ref (a + 0)), some (.int (iI r)), some (.int (iI ((i : Nat) : Int)))] [] (P ++ wk a z R) 0 0 := by
  intro n
  induction n with
  | zero =>
    intro i hi hq
    have hs' : i = 10 := by omega
    subst hs'
    refine x_iload_n dX4_placeOf_2 rfl ?_
    refine x_bipush dX4_placeOf_3 ?_
    refine x_icmp_ge 26 dX4_placeOf_5 (fun h5 => ?_) (fun h5 => by exfalso; omega)
    refine x_bipush dX4_placeOf_26 ?_
    exact x_iret dX4_placeOf_28 (hq)
  | succ n ih =>
    intro i hi hq
    refine x_iload_n dX4_placeOf_2 rfl ?_
    refine x_bipush dX4_placeOf_3 ?_
    refine x_icmp_ge 26 dX4_placeOf_5 (fun h5 => by exfalso; omega) (fun h5 => ?_)
    refine x_aload_n dX4_placeOf_8 rfl ?_
    refine x_getfield 0 dX4_placeOf_9 fg_X4_22 hP rfl rfl ?_
    refine x_iload_n dX4_placeOf_12 rfl ?_
    refine x_iaload 3 (i) dX4_placeOf_13 hP rfl ?_
    refine x_iload_n dX4_placeOf_14 rfl ?_
    refine x_icmp_ne 20 dX4_placeOf_15 (fun h15 => ?_) (fun h15 => ?_) (ha := hR _) (hb := hir)
    · refine x_inc2 dX4_placeOf_20 ?_
      refine x_goto 2 dX4_placeOf_23 ?_
      have e1 : fPl z r (n + 1) i = fPl z r n (i + 1) := if_neg h15
      rw [e1] at hq
      exact ih (i + 1) (by omega) hq
    · refine x_iload_n dX4_placeOf_18 rfl ?_
      exact x_iret dX4_placeOf_19 (by rw [show fPl z r (n + 1) i = (i : Int) from if_pos h15] at hq; exact hq)
set_option maxRecDepth 100000 in
set_option maxHeartbeats 4000000 in
theorem k_placeOf {P : AW} {a : Nat} (hP : P.length = a) (z : Nat → Int) (R : AW) (hR : ∀ i, inR (z i)) (r : Int) (hir : inR r) : CTi I_X4_placeOf 0 0 [.ref (a + 0), .int (iI r)] (P ++ wk a z R) (fun x w' => x = fPl z r 10 0 ∧ w' = P ++ wk a z R) := by
  refine CT_of 1 rfl (Nat.le_of_ble_eq_true rfl) ?_
  show EX I_X4_placeOf 0 0 none _ 0 [some (.ref (a + 0)), some (.int (iI r)), none] [] _ 0 0
  refine x_iconst dX4_placeOf_0 ?_
  refine x_ist2 dX4_placeOf_1 ?_
  exact lk_placeOf hP z R hR r hir 10 0 rfl ⟨rfl, rfl⟩
set_option maxRecDepth 100000 in
set_option maxHeartbeats 4000000 in
theorem lk_empty {P : AW} {a : Nat} (hP : P.length = a) (z : Nat → Int) (R : AW) (hR : ∀ i, inR (z i)) {Z : Zt} (hx : EX I_X4_emptyPlaces 0 0 none Z 30 [some (.ref (a + 0)), some (.int (iI (wE z 10))), some (.int (iI ((10 : Nat) : Int)))] [] (P ++ wk a z R) 0 0) : ∀ (r s : Nat), s + r = 10 → EX I_X4_emptyPlaces 0 0 none Z 4 [some (.ref (a + 0)), some (.int (iI (wE z s))), some (.int (iI ((s : Nat) : Int)))] [] (P ++ wk a z R) 0 0 := by
  intro r
  induction r with
  | zero =>
    intro s hs
    have hs' : s = 10 := by omega
    subst hs'
    refine x_iload_n dX4_emptyPlaces_4 rfl ?_
    refine x_bipush dX4_emptyPlaces_5 ?_
    refine x_icmp_ge 30 dX4_emptyPlaces_7 (fun h7 => ?_) (fun h7 => by exfalso; omega)
    exact hx
  | succ r ih =>
    intro s hs
    refine x_iload_n dX4_emptyPlaces_4 rfl ?_
    refine x_bipush dX4_emptyPlaces_5 ?_
    refine x_icmp_ge 30 dX4_emptyPlaces_7 (fun h7 => by exfalso; omega) (fun h7 => ?_)
    refine x_aload_n dX4_emptyPlaces_10 rfl ?_
    refine x_getfield 0 dX4_emptyPlaces_11 fg_X4_22 hP rfl rfl ?_
    refine x_iload_n dX4_emptyPlaces_14 rfl ?_
    refine x_iaload 3 (s) dX4_emptyPlaces_15 hP rfl ?_
    refine x_bipush dX4_emptyPlaces_16 ?_
    refine x_icmp_ne 24 dX4_emptyPlaces_18 (fun h18 => ?_) (fun h18 => ?_) (ha := hR _)
    · refine x_inc2 dX4_emptyPlaces_24 ?_
      refine x_goto 4 dX4_emptyPlaces_27 ?_
      have hq : wE z (s + 1) = wE z s := if_neg h18
      have := ih (s + 1) (by omega)
      rw [hq] at this
      exact this
    · refine x_inc1 dX4_emptyPlaces_21 ?_
      refine x_inc2 dX4_emptyPlaces_24 ?_
      refine x_goto 4 dX4_emptyPlaces_27 ?_
      have hq : wE z (s + 1) = wE z s + 1 := if_pos h18
      have := ih (s + 1) (by omega)
      rw [hq] at this
      exact this
set_option maxRecDepth 100000 in
set_option maxHeartbeats 4000000 in
theorem k_empty {P : AW} {a : Nat} (hP : P.length = a) (z : Nat → Int) (R : AW) (hR : ∀ i, inR (z i)) : CTi I_X4_emptyPlaces 0 0 [.ref (a + 0)] (P ++ wk a z R) (fun x w' => x = wE z 10 ∧ w' = P ++ wk a z R) := by
  refine CT_of 2 rfl (Nat.le_of_ble_eq_true rfl) ?_
  show EX I_X4_emptyPlaces 0 0 none _ 0 [some (.ref (a + 0)), none, none] [] _ 0 0
  refine x_iconst dX4_emptyPlaces_0 ?_
  refine x_ist1 dX4_emptyPlaces_1 ?_
  refine x_iconst dX4_emptyPlaces_2 ?_
  refine x_ist2 dX4_emptyPlaces_3 ?_
  refine lk_empty hP z R hR ?_ 10 0 rfl
  refine x_iload_n dX4_emptyPlaces_30 rfl ?_
  exact x_iret dX4_emptyPlaces_31 ⟨rfl, rfl⟩
set_option maxRecDepth 100000 in
set_option maxHeartbeats 4000000 in
theorem k_swap {P : AW} {a : Nat} (hP : P.length = a) (z : Nat → Int) (R : AW) (p q : Nat) (hp : p < 10) (hq : q < 10) : CTv I_X4_swap 0 0 [.ref (a + 0), .int (iI (p : Int)), .int (iI (q : Int))] (P ++ wk a z R) (fun w' => w' = P ++ wk a (swp z p q) R) := by
  refine CT_of 1 rfl (Nat.le_of_ble_eq_true rfl) ?_
  show EX I_X4_swap 0 0 none _ 0 [some (.ref (a + 0)), some (.int (iI (p : Int))), some (.int (iI (q : Int))), none] [] _ 0 0
  refine x_aload_n dX4_swap_0 rfl ?_
  refine x_getfield 0 dX4_swap_1 fg_X4_22 hP rfl rfl ?_
  refine x_iload_n dX4_swap_4 rfl ?_
  refine x_iaload 3 (p) dX4_swap_5 hP rfl ?_
  refine x_ist3 dX4_swap_6 ?_
  refine x_aload_n dX4_swap_7 rfl ?_
  refine x_getfield 0 dX4_swap_8 fg_X4_22 hP rfl rfl ?_
  refine x_iload_n dX4_swap_11 rfl ?_
  refine x_aload_n dX4_swap_12 rfl ?_
  refine x_getfield 0 dX4_swap_13 fg_X4_22 hP rfl rfl ?_
  refine x_iload_n dX4_swap_16 rfl ?_
  refine x_iaload 3 (q) dX4_swap_17 hP rfl ?_
  refine x_iastore 3 (p) dX4_swap_18 hP rfl ?_
  refine x_aload_n dX4_swap_19 rfl ?_
  refine x_getfield 0 dX4_swap_20 fg_X4_22 hP rfl rfl ?_
  refine x_iload_n dX4_swap_23 rfl ?_
  refine x_iload_n dX4_swap_24 rfl ?_
  refine x_iastore 3 (q) dX4_swap_25 hP rfl ?_
  refine x_wk hP (swp z p q) (fun j hj => by unfold swp; (simp (disch := omega) only [mDoes, mOut, updI_n, updI_e])) (fun j hj => by unfold swp; (simp (disch := omega) only [mDoes, mOut, updI_n, updI_e])) (fun j hj => by unfold swp; unfold updI; by_cases q1 : j = q <;> by_cases q2 : j = p <;> simp [q1, q2] <;> (intro q3; omega)) (fun j hj => by unfold swp; (simp (disch := omega) only [mDoes, mOut, updI_n, updI_e])) (by unfold swp; (simp (disch := omega) only [mDoes, mOut, updI_n, updI_e])) (pF_x (fun t ht => by unfold swp; (simp (disch := omega) only [mDoes, mOut, updI_n, updI_e]))) (iF_x (fun t ht => by unfold swp; (simp (disch := omega) only [mDoes, mOut, updI_n, updI_e]))) (oF_x (fun t ht => by unfold swp; (simp (disch := omega) only [mDoes, mOut, updI_n, updI_e]))) (by unfold swp; (simp (disch := omega) only [mDoes, mOut, updI_n, updI_e])) (by unfold swp; (simp (disch := omega) only [mDoes, mOut, updI_n, updI_e])) (by unfold swp; (simp (disch := omega) only [mDoes, mOut, updI_n, updI_e])) (by unfold swp; (simp (disch := omega) only [mDoes, mOut, updI_n, updI_e])) (by unfold swp; (simp (disch := omega) only [mDoes, mOut, updI_n, updI_e])) (by unfold swp; (simp (disch := omega) only [mDoes, mOut, updI_n, updI_e])) (by unfold swp; (simp (disch := omega) only [mDoes, mOut, updI_n, updI_e])) (by unfold swp; (simp (disch := omega) only [mDoes, mOut, updI_n, updI_e])) ?_
  exact x_vret dX4_swap_26 rfl
theorem rec_t (z : Nat → Int) (u v : Int) (m j : Nat) (h : ¬ 90 + j = 16) : updI (updI (fun j => z (90 + j)) m u) (m + 1) v j = updI (updI (updI z (90 + m) u) (90 + m + 1) v) 16 (z 16 + 1) (90 + j) := by
  rw [updI_n h]
  unfold updI
  by_cases q1 : j = m + 1
  · rw [if_pos q1, if_pos (show 90 + j = 90 + m + 1 by omega)]
  · rw [if_neg q1, if_neg (show ¬ 90 + j = 90 + m + 1 by omega)]
    by_cases q2 : j = m
    · rw [if_pos q2, if_pos (show 90 + j = 90 + m by omega)]
    · rw [if_neg q2, if_neg (show ¬ 90 + j = 90 + m by omega)]
set_option maxRecDepth 100000 in
set_option maxHeartbeats 4000000 in
theorem k_addRecord {P : AW} {a : Nat} (hP : P.length = a) (z : Nat → Int) (R : AW) (u v : Int) (hm : 0 ≤ z 16 ∧ z 16 ≤ 15) : CTi I_X4_addRecord 0 0 [.ref (a + 0), .int (iI u), .int (iI v)] (P ++ wk a z R) (fun x w' => x = z 16 ∧ w' = P ++ wk a (updI (updI (updI z (90 + (2 * z 16).toNat) u) (90 + (2 * z 16).toNat + 1) v) 16 (z 16 + 1)) R) := by
  refine CT_of 1 rfl (Nat.le_of_ble_eq_true rfl) ?_
  show EX I_X4_addRecord 0 0 none _ 0 [some (.ref (a + 0)), some (.int (iI u)), some (.int (iI v)), none] [] _ 0 0
  refine x_aload_n dX4_addRecord_0 rfl ?_
  refine x_getfield 0 dX4_addRecord_1 fg_X4_9 hP rfl rfl ?_
  refine x_ist3 dX4_addRecord_4 ?_
  refine x_aload_n dX4_addRecord_5 rfl ?_
  refine x_getfield 0 dX4_addRecord_6 fg_X4_15 hP rfl rfl ?_
  refine x_iconst dX4_addRecord_9 ?_
  refine x_iload_n dX4_addRecord_10 rfl ?_
  refine x_imul dX4_addRecord_11 ?_
  refine x_iload_n dX4_addRecord_12 rfl ?_
  refine x_iastore 1 ((2 * z 16).toNat) dX4_addRecord_13 hP rfl ?_
  refine x_aload_n dX4_addRecord_14 rfl ?_
  refine x_getfield 0 dX4_addRecord_15 fg_X4_15 hP rfl rfl ?_
  refine x_iconst dX4_addRecord_18 ?_
  refine x_iload_n dX4_addRecord_19 rfl ?_
  refine x_imul dX4_addRecord_20 ?_
  refine x_iconst dX4_addRecord_21 ?_
  refine x_iadd dX4_addRecord_22 ?_
  refine x_iload_n dX4_addRecord_23 rfl ?_
  refine x_iastore 1 ((2 * z 16).toNat + 1) dX4_addRecord_24 hP rfl ?_
  refine x_aload_n dX4_addRecord_25 rfl ?_
  refine x_dup dX4_addRecord_26 ?_
  refine x_getfield 0 dX4_addRecord_27 fg_X4_9 hP rfl rfl ?_
  refine x_iconst dX4_addRecord_30 ?_
  refine x_iadd dX4_addRecord_31 ?_
  refine x_putfield 0 dX4_addRecord_32 fl_X4_9 hP rfl (fun _ _ => ⟨rfl, rfl⟩) ?_
  refine x_wk hP (updI (updI (updI z (90 + (2 * z 16).toNat) u) (90 + (2 * z 16).toNat + 1) v) 16 (z 16 + 1)) (fun j hj => rec_t z u v (2 * z 16).toNat j (by omega)) (fun j hj => by (simp (disch := omega) only [mDoes, mOut, updI_n, updI_e])) (fun j hj => by (simp (disch := omega) only [mDoes, mOut, updI_n, updI_e])) (fun j hj => by (simp (disch := omega) only [mDoes, mOut, updI_n, updI_e])) (by (simp (disch := omega) only [mDoes, mOut, updI_n, updI_e])) (pF_x (fun t ht => by (simp (disch := omega) only [mDoes, mOut, updI_n, updI_e]))) (iF_x (fun t ht => by (simp (disch := omega) only [mDoes, mOut, updI_n, updI_e]))) (oF_x (fun t ht => by (simp (disch := omega) only [mDoes, mOut, updI_n, updI_e]))) (by (simp (disch := omega) only [mDoes, mOut, updI_n, updI_e])) (by (simp (disch := omega) only [mDoes, mOut, updI_n, updI_e])) (by (simp (disch := omega) only [mDoes, mOut, updI_n, updI_e])) (by (simp (disch := omega) only [mDoes, mOut, updI_n, updI_e])) (by (simp (disch := omega) only [mDoes, mOut, updI_n, updI_e])) (by (simp (disch := omega) only [mDoes, mOut, updI_n, updI_e])) (by (simp (disch := omega) only [mDoes, mOut, updI_n, updI_e])) (by (simp (disch := omega) only [mDoes, mOut, updI_n, updI_e])) ?_
  refine x_iload_n dX4_addRecord_35 rfl ?_
  exact x_iret dX4_addRecord_36 (⟨rfl, rfl⟩)
set_option maxRecDepth 100000 in
set_option maxHeartbeats 4000000 in
theorem k_isAsked {P : AW} {a : Nat} (hP : P.length = a) (z : Nat → Int) (R : AW) (p : Nat) (hp : p < 10) : CTi I_X4_isAsked 0 0 [.ref (a + 0), .int (iI (p : Int))] (P ++ wk a z R) (fun x w' => x = (if z (30 + 2 * p) = 1 ∨ z (30 + (2 * p + 1)) = 1 then 1 else 0) ∧ w' = P ++ wk a z R) := by
  refine CT_of 0 rfl (Nat.le_of_ble_eq_true rfl) ?_
  show EX I_X4_isAsked 0 0 none _ 0 [some (.ref (a + 0)), some (.int (iI (p : Int)))] [] _ 0 0
  refine x_aload_n dX4_isAsked_0 rfl ?_
  refine x_iconst dX4_isAsked_1 ?_
  refine x_iload_n dX4_isAsked_2 rfl ?_
  refine x_imul dX4_isAsked_3 ?_
  refine x_calliV dX4_isAsked_4 mk_X4_isIn ml_X4_68 ((by have h := k_isIn hP z R (2 * p) (by omega); rw [show ((2 * p : Nat) : Int) = 2 * (p : Int) by omega] at h; exact h)) ((wg_app hP 0).trans rfl) rfl (fun x4 w4 h4 => ?_)
  obtain ⟨hb4, rfl⟩ := h4
  by_cases c4 : z (30 + 2 * p) = 1
  · rw [if_pos c4] at hb4
    subst hb4
    refine x_if_ne 22 dX4_isAsked_7 (fun h7 => ?_) (fun h7 => absurd h7 (by decide))
    refine x_iconst dX4_isAsked_22 ?_
    refine x_goto 27 dX4_isAsked_23 ?_
    exact x_zret dX4_isAsked_27 (by omega) (⟨by (repeat' split) <;> omega, rfl⟩)
  · rw [if_neg c4] at hb4
    subst hb4
    refine x_if_ne 22 dX4_isAsked_7 (fun h7 => absurd h7 (by decide)) (fun h7 => ?_)
    refine x_aload_n dX4_isAsked_10 rfl ?_
    refine x_iconst dX4_isAsked_11 ?_
    refine x_iload_n dX4_isAsked_12 rfl ?_
    refine x_imul dX4_isAsked_13 ?_
    refine x_iconst dX4_isAsked_14 ?_
    refine x_iadd dX4_isAsked_15 ?_
    refine x_calliV dX4_isAsked_16 mk_X4_isIn ml_X4_68 ((by have h := k_isIn hP z R (2 * p + 1) (by omega); rw [show ((2 * p + 1 : Nat) : Int) = 2 * (p : Int) + 1 by omega] at h; exact h)) ((wg_app hP 0).trans rfl) rfl (fun x16 w16 h16 => ?_)
    obtain ⟨hb16, rfl⟩ := h16
    by_cases c16 : z (30 + (2 * p + 1)) = 1
    · rw [if_pos c16] at hb16
      subst hb16
      refine x_if_eq 26 dX4_isAsked_19 (fun h19 => absurd h19 (by decide)) (fun h19 => ?_)
      refine x_iconst dX4_isAsked_22 ?_
      refine x_goto 27 dX4_isAsked_23 ?_
      exact x_zret dX4_isAsked_27 (by omega) (⟨by (repeat' split) <;> omega, rfl⟩)
    · rw [if_neg c16] at hb16
      subst hb16
      refine x_if_eq 26 dX4_isAsked_19 (fun h19 => ?_) (fun h19 => absurd h19 (by decide))
      refine x_iconst dX4_isAsked_26 ?_
      exact x_zret dX4_isAsked_27 (by omega) (⟨by (repeat' split) <;> omega, rfl⟩)
theorem zs_p (z : Nat → Int) (s : Nat) (k w : Int) (t : Nat) (hs : s < 20) (ht : t < 20) : updI (updI z (50 + s) k) (30 + s) w (30 + t) = if t = s then w else z (30 + t) := by
  unfold updI
  by_cases q : t = s
  · rw [if_pos (by omega), if_pos q]
  · rw [if_neg (by omega), if_neg (by omega), if_neg q]
theorem zs_h (z : Nat → Int) (s : Nat) (k w : Int) (t : Nat) (hs : s < 20) : updI (updI z (50 + s) k) (30 + s) w (50 + t) = if t = s then k else z (50 + t) := by
  unfold updI
  by_cases q : t = s
  · rw [if_neg (by omega), if_pos (by omega), if_pos q]
  · rw [if_neg (by omega), if_neg (by omega), if_neg q]
theorem zs_pF {z : Nat → Int} {s : Nat} {k w : Int} {g : Nat → Bool} (hs : s < 20) (h1 : g s = decide (w = 1)) (h2 : ∀ t, ¬ t = s → g t = pF z t) : mB g = mB (pF (updI (updI z (50 + s) k) (30 + s) w)) := by
  apply mB_x
  intro t ht
  simp only [pF, zs_p z s k w t hs ht]
  by_cases q : t = s
  · rw [q, h1, if_pos rfl]
  · rw [h2 t q, if_neg q]; rfl
theorem zs_iF {z : Nat → Int} {s : Nat} {k w : Int} {g : Nat → Bool} (hs : s < 20) (h1 : g s = decide (k = 1)) (h2 : ∀ t, ¬ t = s → g t = iF z t) : mB g = mB (iF (updI (updI z (50 + s) k) (30 + s) w)) := by
  apply mB_x
  intro t ht
  simp only [iF, zs_h z s k w t hs]
  by_cases q : t = s
  · rw [q, h1, if_pos rfl]
  · rw [h2 t q, if_neg q]; rfl
theorem zs_oF {z : Nat → Int} {s : Nat} {k w : Int} {g : Nat → Bool} (hs : s < 20) (h1 : g s = decide (k = 2)) (h2 : ∀ t, ¬ t = s → g t = oF z t) : mB g = mB (oF (updI (updI z (50 + s) k) (30 + s) w)) := by
  apply mB_x
  intro t ht
  simp only [oF, zs_h z s k w t hs]
  by_cases q : t = s
  · rw [q, h1, if_pos rfl]
  · rw [h2 t q, if_neg q]; rfl
set_option maxRecDepth 100000 in
set_option maxHeartbeats 4000000 in
theorem k_makePin {P : AW} {a : Nat} (hP : P.length = a) (z : Nat → Int) (R : AW) (s : Nat) (hs : s < 20) (k : Int) (hk : 0 ≤ k ∧ k ≤ 2) : CTv I_X4_makePin 0 0 [.ref (a + 0), .int (iI (s : Int)), .int (iI k)] (P ++ wk a z R) (fun w' => w' = P ++ wk a (updI (updI z (50 + s) k) (30 + s) (if k = 1 then 1 else if k = 2 then 0 else z (30 + s))) R) := by
  refine CT_of 1 rfl (Nat.le_of_ble_eq_true rfl) ?_
  show EX I_X4_makePin 0 0 none _ 0 [some (.ref (a + 0)), some (.int (iI (s : Int))), some (.int (iI k)), none] [] _ 0 0
  refine x_iconst dX4_makePin_0 ?_
  refine x_iload_n dX4_makePin_1 rfl ?_
  refine x_ishl dX4_makePin_2 (show _ = iI (bt1 _) from shl_i _ _) ?_
  refine x_ist3 dX4_makePin_3 ?_
  refine x_aload_n dX4_makePin_4 rfl ?_
  refine x_dup dX4_makePin_5 ?_
  refine x_getfield 0 dX4_makePin_6 fg_X4_31 hP rfl rfl ?_
  refine x_iload_n dX4_makePin_9 rfl ?_
  refine x_iconst dX4_makePin_10 ?_
  refine x_ixor dX4_makePin_11 (xor_i _ _) ?_
  refine x_iand dX4_makePin_12 (mB_clr (iF z) s hs) ?_
  refine x_putfield 0 dX4_makePin_13 fl_X4_31 hP rfl (fun _ _ => ⟨rfl, rfl⟩) ?_
  refine x_aload_n dX4_makePin_16 rfl ?_
  refine x_dup dX4_makePin_17 ?_
  refine x_getfield 0 dX4_makePin_18 fg_X4_34 hP rfl rfl ?_
  refine x_iload_n dX4_makePin_21 rfl ?_
  refine x_iconst dX4_makePin_22 ?_
  refine x_ixor dX4_makePin_23 (xor_i _ _) ?_
  refine x_iand dX4_makePin_24 (mB_clr (oF z) s hs) ?_
  refine x_putfield 0 dX4_makePin_25 fl_X4_34 hP rfl (fun _ _ => ⟨rfl, rfl⟩) ?_
  refine x_iload_n dX4_makePin_28 rfl ?_
  refine x_iconst dX4_makePin_29 ?_
  refine x_icmp_ne 56 dX4_makePin_30 (fun h30 => ?_) (fun h30 => ?_)
  · refine x_iload_n dX4_makePin_56 rfl ?_
    refine x_iconst dX4_makePin_57 ?_
    refine x_icmp_ne 83 dX4_makePin_58 (fun h58 => ?_) (fun h58 => ?_)
    · refine x_wk hP (updI (updI z (50 + s) k) (30 + s) (z (30 + s))) (fun j hj => by (simp (disch := omega) only [mDoes, mOut, updI_n, updI_e])) (fun j hj => by (simp (disch := omega) only [mDoes, mOut, updI_n, updI_e])) (fun j hj => by (simp (disch := omega) only [mDoes, mOut, updI_n, updI_e])) (fun j hj => by (simp (disch := omega) only [mDoes, mOut, updI_n, updI_e])) (by (simp (disch := omega) only [mDoes, mOut, updI_n, updI_e])) (zs_pF hs (by rfl) (fun t q => rfl)) (zs_iF hs (by simp; omega) (fun t q => by simp [q])) (zs_oF hs (by simp; omega) (fun t q => by simp [q])) (by (simp (disch := omega) only [mDoes, mOut, updI_n, updI_e])) (by (simp (disch := omega) only [mDoes, mOut, updI_n, updI_e])) (by (simp (disch := omega) only [mDoes, mOut, updI_n, updI_e])) (by (simp (disch := omega) only [mDoes, mOut, updI_n, updI_e])) (by (simp (disch := omega) only [mDoes, mOut, updI_n, updI_e])) (by (simp (disch := omega) only [mDoes, mOut, updI_n, updI_e])) (by (simp (disch := omega) only [mDoes, mOut, updI_n, updI_e])) (by (simp (disch := omega) only [mDoes, mOut, updI_n, updI_e])) ?_
      exact x_vret dX4_makePin_83 (by rw [show (if k = 1 then (1 : Int) else if k = 2 then 0 else z (30 + s)) = z (30 + s) from (if_neg (by omega)).trans (if_neg (by omega))])
    · refine x_aload_n dX4_makePin_61 rfl ?_
      refine x_dup dX4_makePin_62 ?_
      refine x_getfield 0 dX4_makePin_63 fg_X4_34 hP rfl rfl ?_
      refine x_iload_n dX4_makePin_66 rfl ?_
      refine x_ior dX4_makePin_67 (mB_or _ s hs) ?_
      refine x_putfield 0 dX4_makePin_68 fl_X4_34 hP rfl (fun _ _ => ⟨rfl, rfl⟩) ?_
      refine x_aload_n dX4_makePin_71 rfl ?_
      refine x_dup dX4_makePin_72 ?_
      refine x_getfield 0 dX4_makePin_73 fg_X4_28 hP rfl rfl ?_
      refine x_iload_n dX4_makePin_76 rfl ?_
      refine x_iconst dX4_makePin_77 ?_
      refine x_ixor dX4_makePin_78 (xor_i _ _) ?_
      refine x_iand dX4_makePin_79 (mB_clr (pF z) s hs) ?_
      refine x_putfield 0 dX4_makePin_80 fl_X4_28 hP rfl (fun _ _ => ⟨rfl, rfl⟩) ?_
      refine x_wk hP (updI (updI z (50 + s) k) (30 + s) (0)) (fun j hj => by (simp (disch := omega) only [mDoes, mOut, updI_n, updI_e])) (fun j hj => by (simp (disch := omega) only [mDoes, mOut, updI_n, updI_e])) (fun j hj => by (simp (disch := omega) only [mDoes, mOut, updI_n, updI_e])) (fun j hj => by (simp (disch := omega) only [mDoes, mOut, updI_n, updI_e])) (by (simp (disch := omega) only [mDoes, mOut, updI_n, updI_e])) (zs_pF hs (by simp) (fun t q => by simp [q])) (zs_iF hs (by simp; omega) (fun t q => by simp [q])) (zs_oF hs (by simp; omega) (fun t q => by simp [q])) (by (simp (disch := omega) only [mDoes, mOut, updI_n, updI_e])) (by (simp (disch := omega) only [mDoes, mOut, updI_n, updI_e])) (by (simp (disch := omega) only [mDoes, mOut, updI_n, updI_e])) (by (simp (disch := omega) only [mDoes, mOut, updI_n, updI_e])) (by (simp (disch := omega) only [mDoes, mOut, updI_n, updI_e])) (by (simp (disch := omega) only [mDoes, mOut, updI_n, updI_e])) (by (simp (disch := omega) only [mDoes, mOut, updI_n, updI_e])) (by (simp (disch := omega) only [mDoes, mOut, updI_n, updI_e])) ?_
      exact x_vret dX4_makePin_83 (by rw [show (if k = 1 then (1 : Int) else if k = 2 then 0 else z (30 + s)) = 0 from (if_neg (by omega)).trans (if_pos (by omega))])
  · refine x_aload_n dX4_makePin_33 rfl ?_
    refine x_dup dX4_makePin_34 ?_
    refine x_getfield 0 dX4_makePin_35 fg_X4_31 hP rfl rfl ?_
    refine x_iload_n dX4_makePin_38 rfl ?_
    refine x_ior dX4_makePin_39 (mB_or _ s hs) ?_
    refine x_putfield 0 dX4_makePin_40 fl_X4_31 hP rfl (fun _ _ => ⟨rfl, rfl⟩) ?_
    refine x_aload_n dX4_makePin_43 rfl ?_
    refine x_dup dX4_makePin_44 ?_
    refine x_getfield 0 dX4_makePin_45 fg_X4_28 hP rfl rfl ?_
    refine x_iload_n dX4_makePin_48 rfl ?_
    refine x_ior dX4_makePin_49 (mB_or (pF z) s hs) ?_
    refine x_putfield 0 dX4_makePin_50 fl_X4_28 hP rfl (fun _ _ => ⟨rfl, rfl⟩) ?_
    refine x_goto 83 dX4_makePin_53 ?_
    refine x_wk hP (updI (updI z (50 + s) k) (30 + s) (1)) (fun j hj => by (simp (disch := omega) only [mDoes, mOut, updI_n, updI_e])) (fun j hj => by (simp (disch := omega) only [mDoes, mOut, updI_n, updI_e])) (fun j hj => by (simp (disch := omega) only [mDoes, mOut, updI_n, updI_e])) (fun j hj => by (simp (disch := omega) only [mDoes, mOut, updI_n, updI_e])) (by (simp (disch := omega) only [mDoes, mOut, updI_n, updI_e])) (zs_pF hs (by simp) (fun t q => by simp [q])) (zs_iF hs (by simp; omega) (fun t q => by simp [q])) (zs_oF hs (by simp; omega) (fun t q => by simp [q])) (by (simp (disch := omega) only [mDoes, mOut, updI_n, updI_e])) (by (simp (disch := omega) only [mDoes, mOut, updI_n, updI_e])) (by (simp (disch := omega) only [mDoes, mOut, updI_n, updI_e])) (by (simp (disch := omega) only [mDoes, mOut, updI_n, updI_e])) (by (simp (disch := omega) only [mDoes, mOut, updI_n, updI_e])) (by (simp (disch := omega) only [mDoes, mOut, updI_n, updI_e])) (by (simp (disch := omega) only [mDoes, mOut, updI_n, updI_e])) (by (simp (disch := omega) only [mDoes, mOut, updI_n, updI_e])) ?_
    exact x_vret dX4_makePin_83 (by rw [show (if k = 1 then (1 : Int) else if k = 2 then 0 else z (30 + s)) = 1 from if_pos (by omega)])
