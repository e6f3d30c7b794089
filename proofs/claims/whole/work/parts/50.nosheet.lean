/-! ===== the class: the box: no such sheet; the joins ===== -/
set_option maxRecDepth 100000 in
set_option maxHeartbeats 4000000 in
theorem n_drop (w : AW) (r : Nat) (Rq : Int → AW → Prop) (s : Int) (his : inR s) (hs : ¬ (0 ≤ s ∧ s ≤ 3))  (hq : Rq (-1) w) : CTi I_X5_drop 0 0 [.ref r, .int (iI s)] w Rq := by
  refine CT_of 0 rfl (Nat.le_of_ble_eq_true rfl) ?_
  show EX I_X5_drop 0 0 none _ 0 [some (.ref r), some (.int (iI s))] [] _ 0 0
  refine x_iload_n dX5_drop_0 rfl ?_
  refine x_iconst dX5_drop_1 ?_
  refine x_iconst dX5_drop_2 ?_
  refine x_calliS dX5_drop_3 mk_X5_within ml_X5_54 (k_within _ s 0 3 his (by decide) (by decide)) rfl (fun x3 w3 h3 => ?_)
  obtain ⟨hb3, rfl⟩ := h3
  rw [if_neg (hs)] at hb3
  subst hb3
  refine x_if_ne 11 dX5_drop_6 (fun h6 => absurd h6 (by decide)) (fun h6 => ?_)
  refine x_iconst dX5_drop_9 ?_
  exact x_iret dX5_drop_10 (hq)
set_option maxRecDepth 100000 in
set_option maxHeartbeats 4000000 in
theorem n_sheet (w : AW) (r : Nat) (Rq : Int → AW → Prop) (s : Int) (his : inR s) (hs : ¬ (0 ≤ s ∧ s ≤ 3)) (l m : Int) (hil : inR l) (him : inR m)  (hq : Rq (-1) w) : CTi I_X5_sheet 0 0 [.ref r, .int (iI s), .int (iI l), .int (iI m)] w Rq := by
  refine CT_of 0 rfl (Nat.le_of_ble_eq_true rfl) ?_
  show EX I_X5_sheet 0 0 none _ 0 [some (.ref r), some (.int (iI s)), some (.int (iI l)), some (.int (iI m))] [] _ 0 0
  refine x_iload_n dX5_sheet_0 rfl ?_
  refine x_iload_n dX5_sheet_1 rfl ?_
  refine x_calliS dX5_sheet_2 mk_X5_isSheetOfLane ml_X5_209 (k_isSL _ s l his hil) rfl (fun x2 w2 h2 => ?_)
  obtain ⟨hb2, rfl⟩ := h2
  rw [if_neg (by omega)] at hb2
  subst hb2
  refine x_if_eq 14 dX5_sheet_5 (fun h5 => ?_) (fun h5 => absurd h5 (by decide))
  refine x_iconst dX5_sheet_14 ?_
  exact x_iret dX5_sheet_15 (hq)
set_option maxRecDepth 100000 in
set_option maxHeartbeats 4000000 in
theorem n_item (w : AW) (r : Nat) (Rq : Int → AW → Prop) (s : Int) (his : inR s) (hs : ¬ (0 ≤ s ∧ s ≤ 3)) (l i v : Int) (hil : inR l) (hii : inR i) (hiv : inR v)  (hq : Rq (-1) w) : CTi I_X5_item 0 0 [.ref r, .int (iI s), .int (iI l), .int (iI i), .int (iI v)] w Rq := by
  refine CT_of 1 rfl (Nat.le_of_ble_eq_true rfl) ?_
  show EX I_X5_item 0 0 none _ 0 [some (.ref r), some (.int (iI s)), some (.int (iI l)), some (.int (iI i)), some (.int (iI v)), none] [] _ 0 0
  refine x_iload_n dX5_item_0 rfl ?_
  refine x_iload_n dX5_item_1 rfl ?_
  refine x_calliS dX5_item_2 mk_X5_isSheetOfLane ml_X5_209 (k_isSL _ s l his hil) rfl (fun x2 w2 h2 => ?_)
  obtain ⟨hb2, rfl⟩ := h2
  rw [if_neg (by omega)] at hb2
  subst hb2
  refine x_if_ne 10 dX5_item_5 (fun h5 => absurd h5 (by decide)) (fun h5 => ?_)
  refine x_iconst dX5_item_8 ?_
  exact x_iret dX5_item_9 (hq)
set_option maxRecDepth 100000 in
set_option maxHeartbeats 4000000 in
theorem n_wire (w : AW) (r : Nat) (Rq : Int → AW → Prop) (s : Int) (his : inR s) (hs : ¬ (0 ≤ s ∧ s ≤ 3)) (l f m g : Int) (hil : inR l) (hif : inR f) (him : inR m) (hig : inR g)  (hq : Rq (-1) w) : CTi I_X5_wireRefusal 0 0 [.ref r, .int (iI s), .int (iI l), .int (iI f), .int (iI m), .int (iI g)] w Rq := by
  refine CT_of 1 rfl (Nat.le_of_ble_eq_true rfl) ?_
  show EX I_X5_wireRefusal 0 0 none _ 0 [some (.ref r), some (.int (iI s)), some (.int (iI l)), some (.int (iI f)), some (.int (iI m)), some (.int (iI g)), none] [] _ 0 0
  refine x_iload_n dX5_wireRefusal_0 rfl ?_
  refine x_iload_n dX5_wireRefusal_1 rfl ?_
  refine x_calliS dX5_wireRefusal_2 mk_X5_isSheetOfLane ml_X5_209 (k_isSL _ s l his hil) rfl (fun x2 w2 h2 => ?_)
  obtain ⟨hb2, rfl⟩ := h2
  rw [if_neg (by omega)] at hb2
  subst hb2
  refine x_if_eq 31 dX5_wireRefusal_5 (fun h5 => ?_) (fun h5 => absurd h5 (by decide))
  refine x_iconst dX5_wireRefusal_31 ?_
  exact x_iret dX5_wireRefusal_32 (hq)
set_option maxRecDepth 100000 in
set_option maxHeartbeats 4000000 in
theorem n_heard (w : AW) (r : Nat) (Rq : Int → AW → Prop) (s : Int) (his : inR s) (hs : ¬ (0 ≤ s ∧ s ≤ 3)) (l f m g : Int) (hil : inR l) (hif : inR f) (him : inR m) (hig : inR g) (fs : List Value) (hrc : wg w r = some (.inr (5, fs))) (hq : Rq (-1) w) : CTi I_X5_heard 0 0 [.ref r, .int (iI s), .int (iI l), .int (iI f), .int (iI m), .int (iI g)] w Rq := by
  refine CT_of 2 rfl (Nat.le_of_ble_eq_true rfl) ?_
  show EX I_X5_heard 0 0 none _ 0 [some (.ref r), some (.int (iI s)), some (.int (iI l)), some (.int (iI f)), some (.int (iI m)), some (.int (iI g)), none, none] [] _ 0 0
  refine x_aload_n dX5_heard_0 rfl ?_
  refine x_iload_n dX5_heard_1 rfl ?_
  refine x_iload_n dX5_heard_2 rfl ?_
  refine x_iload_n dX5_heard_3 rfl ?_
  refine x_iload dX5_heard_4 rfl ?_
  refine x_iload dX5_heard_6 rfl ?_
  refine x_calliV dX5_heard_8 mk_X5_wireRefusal ml_X5_195 (n_wire w r (fun x w' => x = -1 ∧ w' = w) s his hs l f m g hil hif him hig ⟨rfl, rfl⟩) hrc rfl (fun x8 w8 h8 => ?_)
  obtain ⟨rfl, rfl⟩ := h8
  · refine x_ist6 dX5_heard_11 ?_
    refine x_iload dX5_heard_13 rfl ?_
    refine x_if_eq 21 dX5_heard_15 (fun h15 => absurd h15 (by decide)) (fun h15 => ?_)
    refine x_iload dX5_heard_18 rfl ?_
    exact x_iret dX5_heard_20 (hq)
set_option maxRecDepth 100000 in
set_option maxHeartbeats 4000000 in
theorem n_mayBe (w : AW) (r : Nat) (Rq : Int → AW → Prop) (s : Int) (his : inR s) (hs : ¬ (0 ≤ s ∧ s ≤ 3)) (l f m g : Int) (hil : inR l) (hif : inR f) (him : inR m) (hig : inR g) (fs : List Value) (hrc : wg w r = some (.inr (5, fs))) (hq : Rq (-1) w) : CTi I_X5_mayBe 0 0 [.ref r, .int (iI s), .int (iI l), .int (iI f), .int (iI m), .int (iI g)] w Rq := by
  refine CT_of 5 rfl (Nat.le_of_ble_eq_true rfl) ?_
  show EX I_X5_mayBe 0 0 none _ 0 [some (.ref r), some (.int (iI s)), some (.int (iI l)), some (.int (iI f)), some (.int (iI m)), some (.int (iI g)), none, none, none, none, none] [] _ 0 0
  refine x_aload_n dX5_mayBe_0 rfl ?_
  refine x_iload_n dX5_mayBe_1 rfl ?_
  refine x_iload_n dX5_mayBe_2 rfl ?_
  refine x_iload_n dX5_mayBe_3 rfl ?_
  refine x_iload dX5_mayBe_4 rfl ?_
  refine x_iload dX5_mayBe_6 rfl ?_
  refine x_calliV dX5_mayBe_8 mk_X5_wireRefusal ml_X5_195 (n_wire w r (fun x w' => x = -1 ∧ w' = w) s his hs l f m g hil hif him hig ⟨rfl, rfl⟩) hrc rfl (fun x8 w8 h8 => ?_)
  obtain ⟨rfl, rfl⟩ := h8
  · refine x_ist6 dX5_mayBe_11 ?_
    refine x_iload dX5_mayBe_13 rfl ?_
    refine x_if_eq 21 dX5_mayBe_15 (fun h15 => absurd h15 (by decide)) (fun h15 => ?_)
    refine x_iload dX5_mayBe_18 rfl ?_
    exact x_iret dX5_mayBe_20 (hq)
set_option maxRecDepth 100000 in
set_option maxHeartbeats 4000000 in
theorem b_drop {P : AW} {a : Nat} (hP : P.length = a) (ik : Int) (z y t so st : Nat → Int) (td sk le ot sn pk : Int) (d1 d2 d3 d4 : AC) (ln rs it : Nat → Int) (R : AW) (hSh : SH ln rs it) (hC : CI z td sk so st le ot sn pk) (s : Int) (his : inR s) : CTi I_X5_drop 0 0 [.ref (a + 0), .int (iI s)] (P ++ bx a ik z y t so st td sk le ot sn pk (d1 :: d2 :: d3 :: d4 :: shF a (ln) (rs) (it) R)) (fun x w' => x = rDrop ln rs s ∧ BI P a ik z y (d1 :: d2 :: d3 :: d4 :: shF a (sDrop ln s) (rs) (it) R) w') := by
  by_cases hs : 0 ≤ s ∧ s ≤ 3
  · rcases (show s = 0 ∨ s = 1 ∨ s = 2 ∨ s = 3 by omega) with rfl | rfl | rfl | rfl
    · exact b_drop0 hP ik z y t so st td sk le ot sn pk d1 d2 d3 d4 ln rs it R hSh hC  
    · exact b_drop1 hP ik z y t so st td sk le ot sn pk d1 d2 d3 d4 ln rs it R hSh hC  
    · exact b_drop2 hP ik z y t so st td sk le ot sn pk d1 d2 d3 d4 ln rs it R hSh hC  
    · exact b_drop3 hP ik z y t so st td sk le ot sn pk d1 d2 d3 d4 ln rs it R hSh hC  
  · exact n_drop _ (a + 0) _ s his hs   ⟨(if_neg hs).symm, by rw [show sDrop ln s = ln from if_neg (fun h => hs h.1)]; exact ⟨t, so, st, td, sk, le, ot, sn, pk, rfl, hC⟩⟩
set_option maxRecDepth 100000 in
set_option maxHeartbeats 4000000 in
theorem b_sheet {P : AW} {a : Nat} (hP : P.length = a) (ik : Int) (z y t so st : Nat → Int) (td sk le ot sn pk : Int) (d1 d2 d3 d4 : AC) (ln rs it : Nat → Int) (R : AW) (hSh : SH ln rs it) (hC : CI z td sk so st le ot sn pk) (s : Int) (his : inR s) (l m : Int) (hil : inR l) (him : inR m) : CTi I_X5_sheet 0 0 [.ref (a + 0), .int (iI s), .int (iI l), .int (iI m)] (P ++ bx a ik z y t so st td sk le ot sn pk (d1 :: d2 :: d3 :: d4 :: shF a (ln) (rs) (it) R)) (fun x w' => x = rSh s l m ∧ (if 0 ≤ s ∧ s ≤ 3 ∧ 0 ≤ l ∧ l ≤ 2 ∧ 0 ≤ m ∧ m ≤ 24 then BI P a ik z y (d1 :: d2 :: d3 :: d4 :: shF a (updI ln s.toNat l) (updI rs s.toNat m) (zit it (24 * s).toNat 24) R) w' else BI P a ik z y (d1 :: d2 :: d3 :: d4 :: shF a (ln) (rs) (it) R) w')) := by
  by_cases hs : 0 ≤ s ∧ s ≤ 3
  · rcases (show s = 0 ∨ s = 1 ∨ s = 2 ∨ s = 3 by omega) with rfl | rfl | rfl | rfl
    · exact b_sheet0 hP ik z y t so st td sk le ot sn pk d1 d2 d3 d4 ln rs it R hSh hC l m hil him
    · exact b_sheet1 hP ik z y t so st td sk le ot sn pk d1 d2 d3 d4 ln rs it R hSh hC l m hil him
    · exact b_sheet2 hP ik z y t so st td sk le ot sn pk d1 d2 d3 d4 ln rs it R hSh hC l m hil him
    · exact b_sheet3 hP ik z y t so st td sk le ot sn pk d1 d2 d3 d4 ln rs it R hSh hC l m hil him
  · exact n_sheet _ (a + 0) _ s his hs l m hil him ⟨(if_neg (fun h => hs ⟨h.1, h.2.1⟩)).symm, by rw [if_neg (fun h => hs ⟨h.1, h.2.1⟩)]; exact ⟨t, so, st, td, sk, le, ot, sn, pk, rfl, hC⟩⟩
set_option maxRecDepth 100000 in
set_option maxHeartbeats 4000000 in
theorem b_item {P : AW} {a : Nat} (hP : P.length = a) (ik : Int) (z y t so st : Nat → Int) (td sk le ot sn pk : Int) (d1 d2 d3 d4 : AC) (ln rs it : Nat → Int) (R : AW) (hSh : SH ln rs it) (hC : CI z td sk so st le ot sn pk) (s : Int) (his : inR s) (l i v : Int) (hil : inR l) (hii : inR i) (hiv : inR v) : CTi I_X5_item 0 0 [.ref (a + 0), .int (iI s), .int (iI l), .int (iI i), .int (iI v)] (P ++ bx a ik z y t so st td sk le ot sn pk (d1 :: d2 :: d3 :: d4 :: shF a (ln) (rs) (it) R)) (fun x w' => x = rItem ln rs s l i ∧ BI P a ik z y (d1 :: d2 :: d3 :: d4 :: shF a (ln) (rs) (sItem ln rs it s l i v) R) w') := by
  by_cases hs : 0 ≤ s ∧ s ≤ 3
  · rcases (show s = 0 ∨ s = 1 ∨ s = 2 ∨ s = 3 by omega) with rfl | rfl | rfl | rfl
    · exact b_item0 hP ik z y t so st td sk le ot sn pk d1 d2 d3 d4 ln rs it R hSh hC l i v hil hii hiv
    · exact b_item1 hP ik z y t so st td sk le ot sn pk d1 d2 d3 d4 ln rs it R hSh hC l i v hil hii hiv
    · exact b_item2 hP ik z y t so st td sk le ot sn pk d1 d2 d3 d4 ln rs it R hSh hC l i v hil hii hiv
    · exact b_item3 hP ik z y t so st td sk le ot sn pk d1 d2 d3 d4 ln rs it R hSh hC l i v hil hii hiv
  · exact n_item _ (a + 0) _ s his hs l i v hil hii hiv ⟨(if_neg (fun h => hs ⟨h.1, h.2.1⟩)).symm, by rw [show sItem ln rs it s l i v = it from if_neg (fun h => hs ⟨h.1.1, h.1.2.1⟩)]; exact ⟨t, so, st, td, sk, le, ot, sn, pk, rfl, hC⟩⟩
set_option maxRecDepth 100000 in
set_option maxHeartbeats 4000000 in
theorem b_heard {P : AW} {a : Nat} (hP : P.length = a) (ik : Int) (z y t so st : Nat → Int) (td sk le ot sn pk : Int) (d1 d2 d3 d4 : AC) (ln rs it : Nat → Int) (R : AW) (hSh : SH ln rs it) (hC : CI z td sk so st le ot sn pk) (s : Int) (his : inR s) (l f m g : Int) (hil : inR l) (hif : inR f) (him : inR m) (hig : inR g) : CTi I_X5_heard 0 0 [.ref (a + 0), .int (iI s), .int (iI l), .int (iI f), .int (iI m), .int (iI g)] (P ++ bx a ik z y t so st td sk le ot sn pk (d1 :: d2 :: d3 :: d4 :: shF a (ln) (rs) (it) R)) (fun x w' => x = rHeard ln rs it s l f m g ∧ BI P a ik z y (d1 :: d2 :: d3 :: d4 :: shF a (ln) (rs) (it) R) w') := by
  by_cases hs : 0 ≤ s ∧ s ≤ 3
  · rcases (show s = 0 ∨ s = 1 ∨ s = 2 ∨ s = 3 by omega) with rfl | rfl | rfl | rfl
    · exact b_heard0 hP ik z y t so st td sk le ot sn pk d1 d2 d3 d4 ln rs it R hSh hC l f m g hil hif him hig
    · exact b_heard1 hP ik z y t so st td sk le ot sn pk d1 d2 d3 d4 ln rs it R hSh hC l f m g hil hif him hig
    · exact b_heard2 hP ik z y t so st td sk le ot sn pk d1 d2 d3 d4 ln rs it R hSh hC l f m g hil hif him hig
    · exact b_heard3 hP ik z y t so st td sk le ot sn pk d1 d2 d3 d4 ln rs it R hSh hC l f m g hil hif him hig
  · exact n_heard _ (a + 0) _ s his hs l f m g hil hif him hig _ ((wg_app hP 0).trans rfl) ⟨by unfold rHeard; rw [show rHear ln rs it s l f m g = -1 from if_neg (fun h => hs ⟨h.1, h.2.1⟩), if_pos (by decide)], ⟨t, so, st, td, sk, le, ot, sn, pk, rfl, hC⟩⟩
set_option maxRecDepth 100000 in
set_option maxHeartbeats 4000000 in
theorem b_mayBe {P : AW} {a : Nat} (hP : P.length = a) (ik : Int) (z y t so st : Nat → Int) (td sk le ot sn pk : Int) (d1 d2 d3 d4 : AC) (ln rs it : Nat → Int) (R : AW) (hSh : SH ln rs it) (hC : CI z td sk so st le ot sn pk) (s : Int) (his : inR s) (l f m g : Int) (hil : inR l) (hif : inR f) (him : inR m) (hig : inR g) : CTi I_X5_mayBe 0 0 [.ref (a + 0), .int (iI s), .int (iI l), .int (iI f), .int (iI m), .int (iI g)] (P ++ bx a ik z y t so st td sk le ot sn pk (d1 :: d2 :: d3 :: d4 :: shF a (ln) (rs) (it) R)) (fun x w' => x = rMay ln rs it s l f m g ∧ BI P a ik z y (d1 :: d2 :: d3 :: d4 :: shF a (ln) (rs) (it) R) w') := by
  by_cases hs : 0 ≤ s ∧ s ≤ 3
  · rcases (show s = 0 ∨ s = 1 ∨ s = 2 ∨ s = 3 by omega) with rfl | rfl | rfl | rfl
    · exact b_mayBe0 hP ik z y t so st td sk le ot sn pk d1 d2 d3 d4 ln rs it R hSh hC l f m g hil hif him hig
    · exact b_mayBe1 hP ik z y t so st td sk le ot sn pk d1 d2 d3 d4 ln rs it R hSh hC l f m g hil hif him hig
    · exact b_mayBe2 hP ik z y t so st td sk le ot sn pk d1 d2 d3 d4 ln rs it R hSh hC l f m g hil hif him hig
    · exact b_mayBe3 hP ik z y t so st td sk le ot sn pk d1 d2 d3 d4 ln rs it R hSh hC l f m g hil hif him hig
  · exact n_mayBe _ (a + 0) _ s his hs l f m g hil hif him hig _ ((wg_app hP 0).trans rfl) ⟨by unfold rMay; rw [show rHear ln rs it s l f m g = -1 from if_neg (fun h => hs ⟨h.1, h.2.1⟩), if_pos (by decide)], ⟨t, so, st, td, sk, le, ot, sn, pk, rfl, hC⟩⟩
