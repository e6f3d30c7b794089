/-! ===== the class: the box ===== -/
abbrev oB (a : Nat) (ik : Int) : AC := .inr (5, [.ref (a + 1), .ref (a + 6), .ref (a + 7), .ref (a + 12), .int (iI ik), .ref (a + 13), .ref (a + 21), .ref (a + 25)])
abbrev bx (a : Nat) (ik : Int) (z y t so st : Nat → Int) (td sk le ot sn pk : Int) (R : AW) : AW := ow a (oB a ik) (tk z) (tk y) z y t so st td sk le ot sn pk R
def CI (z : Nat → Int) (td sk : Int) (so st : Nat → Int) (le ot sn pk : Int) : Prop := (sk = 0 ∨ (sk = 1 ∧ CK z td so st)) ∧ (pk = 0 ∨ (pk = 1 ∧ CP z le ot sn))
def BI (P : AW) (a : Nat) (ik : Int) (z y : Nat → Int) (R : AW) (w : AW) : Prop := ∃ (t so st : Nat → Int) (td sk le ot sn pk : Int), w = P ++ bx a ik z y t so st td sk le ot sn pk R ∧ CI z td sk so st le ot sn pk
theorem CI_0 (z : Nat → Int) (td : Int) (so st : Nat → Int) (le ot sn : Int) : CI z td 0 so st le ot sn 0 := ⟨Or.inl rfl, Or.inl rfl⟩
theorem CI_keep {z z' : Nat → Int} {td sk : Int} {so st : Nat → Int} {le ot sn pk : Int} (hA : ZA z) (h0 : z 0 ≤ 1000000) (h : XR (KX2 (z 16)) z z') (hC : CI z td sk so st le ot sn pk) : CI z' td sk so st le ot sn pk := by
  have e1 := mFt_keep hA h0 h
  have e2 := mBt_keep hA h0 h
  unfold CI CK CP at hC ⊢
  rw [e1, e2]
  exact hC
theorem tk_x {z z' : Nat → Int} (h : ∀ i, 7 ≤ i → i ≤ 14 → z' i = z i) : tk z = tk z' := by
  show oT _ _ _ _ _ _ _ _ = oT _ _ _ _ _ _ _ _
  rw [h 11 (by decide) (by decide), h 12 (by decide) (by decide), h 13 (by decide) (by decide), h 9 (by decide) (by decide), h 7 (by decide) (by decide), h 8 (by decide) (by decide), h 10 (by decide) (by decide), h 14 (by decide) (by decide)]
theorem wk_x {z z' : Nat → Int} (h : ∀ i, ¬ (7 ≤ i ∧ i ≤ 14) → z' i = z i) (a : Nat) (R : AW) : wk a z R = wk a z' R := by
  show oW _ _ _ _ _ _ _ _ _ _ _ _ _ :: _ = oW _ _ _ _ _ _ _ _ _ _ _ _ _ :: _
  rw [h 16 (by decide), h 15 (by decide), h 0 (by decide), h 1 (by decide), h 2 (by decide), h 3 (by decide), h 4 (by decide), h 5 (by decide), h 6 (by decide), pF_x (z := z) (z' := z') (fun t ht => h _ (by omega)), iF_x (z := z) (z' := z') (fun t ht => h _ (by omega)), oF_x (z := z) (z' := z') (fun t ht => h _ (by omega)),
    show (fun j => z' (90 + j)) = (fun j => z (90 + j)) from funext (fun j => h _ (by omega)), show (fun j => z' (122 + j)) = (fun j => z (122 + j)) from funext (fun j => h _ (by omega)), show (fun j => z' (20 + j)) = (fun j => z (20 + j)) from funext (fun j => h _ (by omega)), show (fun j => z' (70 + j)) = (fun j => z (70 + j)) from funext (fun j => h _ (by omega))]
theorem BI_w {P : AW} {a : Nat} {ik : Int} {z z' y t so st : Nat → Int} {td sk le ot sn pk : Int} {R : AW} (hm : ∀ i, 7 ≤ i → i ≤ 14 → z' i = z i) (hC : CI z' td sk so st le ot sn pk) : BI P a ik z' y R (P ++ ow a (oB a ik) (tk z) (tk y) z' y t so st td sk le ot sn pk R) :=
  ⟨t, so, st, td, sk, le, ot, sn, pk, by rw [tk_x hm], hC⟩
theorem BI_m {P : AW} {a : Nat} {ik : Int} {z z' y t so st : Nat → Int} {td sk le ot sn pk : Int} {R : AW} (hw : ∀ i, ¬ (7 ≤ i ∧ i ≤ 14) → z' i = z i) (hC : CI z' td sk so st le ot sn pk) : BI P a ik z' y R (P ++ ow a (oB a ik) (tk z') (tk y) z y t so st td sk le ot sn pk R) :=
  ⟨t, so, st, td, sk, le, ot, sn, pk, by show P ++ (oB a ik :: wk (a + 1) z _) = P ++ (oB a ik :: wk (a + 1) z' _); rw [wk_x hw], hC⟩
theorem XR_mon {z z' : Nat → Int} (m : Int) (hw : ∀ i, ¬ (7 ≤ i ∧ i ≤ 14) → z' i = z i) : XR (KX2 m) z z' := fun i hi => hw i (fun h => hi (Or.inl h))
theorem x_wk1 {mi : MI} {mc ms : Nat} {SC : Option (Nat × (Nat → Int32))} {Z : Zt} {pc : Nat} {ls : List (Option Value)} {st : List Value} {k n : Nat} {P : AW} {a : Nat} {c0 : AC} {R : AW} (hP : P.length = a) (z : Nat → Int) {x16 xp xi xo x15 x0 x1 x2 x3 x4 x5 x6 : Int} {f1 f2 f3 f4 : Nat → Int} (e1 : ∀ j, j < 32 → f1 j = z (90 + j)) (e2 : ∀ j, j < 32 → f2 j = z (122 + j)) (e3 : ∀ j, j < 10 → f3 j = z (20 + j)) (e4 : ∀ j, j < 20 → f4 j = z (70 + j))
    (h16 : x16 = z 16) (hp : xp = mB (pF z)) (hi : xi = mB (iF z)) (ho : xo = mB (oF z)) (h15 : x15 = z 15) (h0 : x0 = z 0) (h1 : x1 = z 1) (h2 : x2 = z 2) (h3 : x3 = z 3) (h4 : x4 = z 4) (h5 : x5 = z 5) (h6 : x6 = z 6)
    (kk : EX mi mc ms SC Z pc ls st (P ++ (c0 :: wk (a + 1) z R)) k n) : EX mi mc ms SC Z pc ls st (P ++ (c0 :: oW (a + 1) x16 xp xi xo x15 x0 x1 x2 x3 x4 x5 x6 :: aI 0 32 f1 :: aI 0 32 f2 :: aI 0 10 f3 :: aI 0 20 f4 :: R)) k n := by
  refine x_eqw (List.append_assoc P [c0] _).symm ?_
  refine x_wk (len1 hP c0) z e1 e2 e3 e4 h16 hp hi ho h15 h0 h1 h2 h3 h4 h5 h6 ?_
  exact x_eqw (List.append_assoc P [c0] _) kk
set_option maxRecDepth 100000 in
set_option maxHeartbeats 4000000 in
theorem v_placeOf {P : AW} {a : Nat} (hP : P.length = a) (c0 c6 c12 : AC) (z y t so st : Nat → Int) (td sk le ot sn pk : Int) (R : AW) (hR : ∀ i, inR (z i)) (r : Int) (hir : inR r) : CTi I_X4_placeOf 0 0 [.ref (a + 1), .int (iI r)] (P ++ ow a c0 c6 c12 z y t so st td sk le ot sn pk R) (fun x w' => x = fPl z r 10 0 ∧ w' = P ++ ow a c0 c6 c12 z y t so st td sk le ot sn pk R) := by
  have h := k_placeOf (len1 hP c0) z (c6 :: wk (a + 7) y (c12 :: oO a td sk le ot sn pk :: wk (a + 14) t (aI 0 64 so :: aI 0 64 st :: R))) hR r hir
  simp only [List.append_assoc] at h
  exact h
set_option maxRecDepth 100000 in
set_option maxHeartbeats 4000000 in
theorem v_isOut {P : AW} {a : Nat} (hP : P.length = a) (c0 c6 c12 : AC) (z y t so st : Nat → Int) (td sk le ot sn pk : Int) (R : AW) (hR : ∀ i, inR (z i)) (p : Int) (hip : inR p) : CTi I_X4_isOut 0 0 [.ref (a + 1), .int (iI p)] (P ++ ow a c0 c6 c12 z y t so st td sk le ot sn pk R) (fun x w' => x = (if z 1 = p ∧ 3 ≤ z 3 then 1 else 0) ∧ w' = P ++ ow a c0 c6 c12 z y t so st td sk le ot sn pk R) := by
  have h := k_isOut (len1 hP c0) z (c6 :: wk (a + 7) y (c12 :: oO a td sk le ot sn pk :: wk (a + 14) t (aI 0 64 so :: aI 0 64 st :: R))) hR p hip
  simp only [List.append_assoc] at h
  exact h
set_option maxRecDepth 100000 in
set_option maxHeartbeats 4000000 in
theorem v_addRecord {P : AW} {a : Nat} (hP : P.length = a) (c0 c6 c12 : AC) (z y t so st : Nat → Int) (td sk le ot sn pk : Int) (R : AW) (u v : Int) (hm : 0 ≤ z 16 ∧ z 16 ≤ 15) : CTi I_X4_addRecord 0 0 [.ref (a + 1), .int (iI u), .int (iI v)] (P ++ ow a c0 c6 c12 z y t so st td sk le ot sn pk R) (fun x w' => x = z 16 ∧ w' = P ++ ow a c0 c6 c12 (updI (updI (updI z (90 + (2 * z 16).toNat) u) (90 + (2 * z 16).toNat + 1) v) 16 (z 16 + 1)) y t so st td sk le ot sn pk R) := by
  have h := k_addRecord (len1 hP c0) z (c6 :: wk (a + 7) y (c12 :: oO a td sk le ot sn pk :: wk (a + 14) t (aI 0 64 so :: aI 0 64 st :: R))) u v hm
  simp only [List.append_assoc] at h
  exact h
set_option maxRecDepth 100000 in
set_option maxHeartbeats 4000000 in
theorem v_isIn {P : AW} {a : Nat} (hP : P.length = a) (c0 c6 c12 : AC) (z y t so st : Nat → Int) (td sk le ot sn pk : Int) (R : AW) (s : Nat) (hs : s < 20) : CTi I_X4_isIn 0 0 [.ref (a + 1), .int (iI (s : Int))] (P ++ ow a c0 c6 c12 z y t so st td sk le ot sn pk R) (fun x w' => x = (if z (30 + s) = 1 then 1 else 0) ∧ w' = P ++ ow a c0 c6 c12 z y t so st td sk le ot sn pk R) := by
  have h := k_isIn (len1 hP c0) z (c6 :: wk (a + 7) y (c12 :: oO a td sk le ot sn pk :: wk (a + 14) t (aI 0 64 so :: aI 0 64 st :: R))) s hs
  simp only [List.append_assoc] at h
  exact h
set_option maxRecDepth 100000 in
set_option maxHeartbeats 4000000 in
theorem v_howIs {P : AW} {a : Nat} (hP : P.length = a) (c0 c6 c12 : AC) (z y t so st : Nat → Int) (td sk le ot sn pk : Int) (R : AW) (s : Nat) (hs : s < 20) (hh : 0 ≤ z (50 + s) ∧ z (50 + s) ≤ 2) : CTi I_X4_howIs 0 0 [.ref (a + 1), .int (iI (s : Int))] (P ++ ow a c0 c6 c12 z y t so st td sk le ot sn pk R) (fun x w' => x = z (50 + s) ∧ w' = P ++ ow a c0 c6 c12 z y t so st td sk le ot sn pk R) := by
  have h := k_howIs (len1 hP c0) z (c6 :: wk (a + 7) y (c12 :: oO a td sk le ot sn pk :: wk (a + 14) t (aI 0 64 so :: aI 0 64 st :: R))) s hs hh
  simp only [List.append_assoc] at h
  exact h
set_option maxRecDepth 100000 in
set_option maxHeartbeats 4000000 in
theorem v_makePin {P : AW} {a : Nat} (hP : P.length = a) (c0 c6 c12 : AC) (z y t so st : Nat → Int) (td sk le ot sn pk : Int) (R : AW) (s : Nat) (hs : s < 20) (k : Int) (hk : 0 ≤ k ∧ k ≤ 2) : CTv I_X4_makePin 0 0 [.ref (a + 1), .int (iI (s : Int)), .int (iI k)] (P ++ ow a c0 c6 c12 z y t so st td sk le ot sn pk R) (fun w' => w' = P ++ ow a c0 c6 c12 (updI (updI z (50 + s) k) (30 + s) (if k = 1 then 1 else if k = 2 then 0 else z (30 + s))) y t so st td sk le ot sn pk R) := by
  have h := k_makePin (len1 hP c0) z (c6 :: wk (a + 7) y (c12 :: oO a td sk le ot sn pk :: wk (a + 14) t (aI 0 64 so :: aI 0 64 st :: R))) s hs k hk
  simp only [List.append_assoc] at h
  exact h
set_option maxRecDepth 100000 in
set_option maxHeartbeats 4000000 in
theorem v_pass {P : AW} {a : Nat} (hP : P.length = a) (c0 c6 c12 : AC) (z y t so st : Nat → Int) (td sk le ot sn pk : Int) (R : AW) (hA : ZA z) (m : Int) (hm : 1 ≤ m ∧ m ≤ 2000) (h0 : z 0 + m ≤ 2000000000) : CTi I_X4_pass 0 0 [.ref (a + 1), .int (iI m)] (P ++ ow a c0 c6 c12 z y t so st td sk le ot sn pk R) (fun x w' => x = ((gP z m : Nat) : Int) ∧ w' = P ++ ow a c0 c6 c12 (mTicks z (gP z m)) y t so st td sk le ot sn pk R) := by
  have h := k_pass (len1 hP c0) z (c6 :: wk (a + 7) y (c12 :: oO a td sk le ot sn pk :: wk (a + 14) t (aI 0 64 so :: aI 0 64 st :: R))) hA m hm h0
  simp only [List.append_assoc] at h
  exact h
set_option maxRecDepth 100000 in
set_option maxHeartbeats 4000000 in
theorem v_empty {P : AW} {a : Nat} (hP : P.length = a) (c0 c6 c12 : AC) (z y t so st : Nat → Int) (td sk le ot sn pk : Int) (R : AW) (hR : ∀ i, inR (z i)) : CTi I_X4_emptyPlaces 0 0 [.ref (a + 1)] (P ++ ow a c0 c6 c12 z y t so st td sk le ot sn pk R) (fun x w' => x = wE z 10 ∧ w' = P ++ ow a c0 c6 c12 z y t so st td sk le ot sn pk R) := by
  have h := k_empty (len1 hP c0) z (c6 :: wk (a + 7) y (c12 :: oO a td sk le ot sn pk :: wk (a + 14) t (aI 0 64 so :: aI 0 64 st :: R))) hR
  simp only [List.append_assoc] at h
  exact h
theorem len6 {P : AW} {a : Nat} (hP : P.length = a) (c0 : AC) (z : Nat → Int) : (P ++ (c0 :: wk (a + 1) z [])).length = a + 6 := by rw [List.length_append, hP]; rfl
set_option maxRecDepth 100000 in
set_option maxHeartbeats 4000000 in
theorem v_take {P : AW} {a : Nat} (hP : P.length = a) (c0 c12 : AC) (x : Nat → Int) (z y t so st : Nat → Int) (td sk le ot sn pk : Int) (R : AW) (v : Int) (hv : 1 ≤ v ∧ v ≤ 99) (o9 : 0 ≤ x 9 ∧ x 9 ≤ 80000000) (o11 : 1 ≤ x 11 ∧ x 11 ≤ 99) (o12 : 1 ≤ x 12 ∧ x 12 ≤ 999) (o13 : 1 ≤ x 13 ∧ x 13 ≤ 20) : CTv I_X3_take 0 0 [.ref (a + 6), .int (iI v)] (P ++ ow a c0 (tk x) c12 z y t so st td sk le ot sn pk R) (fun w' => w' = P ++ ow a c0 (tk (updI (mPaid x v) 7 (x 7 + mDue x v))) c12 z y t so st td sk le ot sn pk R) := by
  have h := k_take (len6 hP c0 z) x (wk (a + 7) y (c12 :: oO a td sk le ot sn pk :: wk (a + 14) t (aI 0 64 so :: aI 0 64 st :: R))) v hv o9 o11 o12 o13
  simp only [List.append_assoc] at h
  exact h
set_option maxRecDepth 100000 in
set_option maxHeartbeats 4000000 in
theorem v_newPrices {P : AW} {a : Nat} (hP : P.length = a) (c0 c12 : AC) (x : Nat → Int) (z y t so st : Nat → Int) (td sk le ot sn pk : Int) (R : AW) (p q m : Int) : CTv I_X3_newPrices 0 0 [.ref (a + 6), .int (iI p), .int (iI q), .int (iI m)] (P ++ ow a c0 (tk x) c12 z y t so st td sk le ot sn pk R) (fun w' => w' = P ++ ow a c0 (tk (updI (updI (updI (updI x 11 p) 12 q) 13 m) 9 0)) c12 z y t so st td sk le ot sn pk R) := by
  have h := k_newPrices (len6 hP c0 z) x (wk (a + 7) y (c12 :: oO a td sk le ot sn pk :: wk (a + 14) t (aI 0 64 so :: aI 0 64 st :: R))) p q m
  simp only [List.append_assoc] at h
  exact h
