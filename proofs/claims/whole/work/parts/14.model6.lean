/-! ===== what would be ===== -/
def cpyI (f g : Nat → Int) (s : Nat) : Nat → Int := fun j => if j < s then f j else g j
theorem cpyI_s (f g : Nat → Int) (s : Nat) : updI (cpyI f g s) s (f s) = cpyI f g (s + 1) := by
  funext j
  simp only [updI, cpyI]
  by_cases h : j = s
  · subst h; simp
  · by_cases h2 : j < s
    · rw [if_neg h, if_pos h2, if_pos (by omega)]
    · rw [if_neg h, if_neg h2, if_neg (by omega)]
theorem cpyI_0 (f g : Nat → Int) : cpyI f g 0 = g := by funext j; simp [cpyI]
def wr (f : Nat → Int) (n : Nat) : List Int → (Nat → Int)
  | [] => f
  | x :: l => wr (updI f n x) (n + 1) l
theorem wr_lt : ∀ (l : List Int) (f : Nat → Int) (n i : Nat), i < n → wr f n l i = f i
  | [], _, _, _, _ => rfl
  | x :: l, f, n, i, h => by
    simp only [wr]
    rw [wr_lt l _ (n + 1) i (by omega), updI_n (by omega)]
theorem wr_get : ∀ (l : List Int) (f : Nat → Int) (n i : Nat) (x : Int), l[i]? = some x → wr f n l (n + i) = x
  | [], _, _, _, _, h => by simp at h
  | y :: l, f, n, 0, x, h => by
    simp only [List.getElem?_cons_zero, Option.some.injEq] at h
    subst h
    show wr (updI f n y) (n + 1) l n = y
    rw [wr_lt l _ (n + 1) n (by omega), updI_e]
  | y :: l, f, n, i + 1, x, h => by
    simp only [List.getElem?_cons_succ] at h
    simp only [wr]
    rw [show n + (i + 1) = n + 1 + i by omega]
    exact wr_get l _ (n + 1) i x h
/-- songs with the tick at which each begins, and how many ticks it took -/
def ft : Nat → (Nat → Int) → Nat → Nat → Nat → List (Int × Int) × Nat
  | 0, _, _, t, _ => ([], t)
  | F + 1, z, n, t, q =>
    if 64 ≤ n ∨ 2000 ≤ q ∨ (z 3 = 0 ∧ mPins z 20 = 0) then ([], t)
    else if mTick z 5 ≤ z 5 then ft F (mTick z) n (t + 1) (q + 1)
    else ((mSong (mTick z), ((t + 1 : Nat) : Int)) :: (ft F (mTick z) (n + 1) (t + 1) 0).1, (ft F (mTick z) (n + 1) (t + 1) 0).2)
def mFt (z : Nat → Int) : List (Int × Int) × Nat := ft 130065 z 0 0 0
theorem ft_x {F : Nat} {z : Nat → Int} {n t q : Nat} (h : 64 ≤ n ∨ 2000 ≤ q ∨ (z 3 = 0 ∧ mPins z 20 = 0)) : ft (F + 1) z n t q = ([], t) := if_pos h
theorem ft_n {F : Nat} {z : Nat → Int} {n t q : Nat} (h : ¬ (64 ≤ n ∨ 2000 ≤ q ∨ (z 3 = 0 ∧ mPins z 20 = 0))) (h2 : mTick z 5 ≤ z 5) : ft (F + 1) z n t q = ft F (mTick z) n (t + 1) (q + 1) := (if_neg h).trans (if_pos h2)
theorem ft_s {F : Nat} {z : Nat → Int} {n t q : Nat} (h : ¬ (64 ≤ n ∨ 2000 ≤ q ∨ (z 3 = 0 ∧ mPins z 20 = 0))) (h2 : ¬ mTick z 5 ≤ z 5) : ft (F + 1) z n t q = ((mSong (mTick z), ((t + 1 : Nat) : Int)) :: (ft F (mTick z) (n + 1) (t + 1) 0).1, (ft F (mTick z) (n + 1) (t + 1) 0).2) := (if_neg h).trans (if_neg h2)
theorem ft_len : ∀ (F : Nat) (z : Nat → Int) (n t q : Nat), n ≤ 64 → n + (ft F z n t q).1.length ≤ 64
  | 0, _, n, _, _, h => by simp [ft]; exact h
  | F + 1, z, n, t, q, h => by
    by_cases c : 64 ≤ n ∨ 2000 ≤ q ∨ (z 3 = 0 ∧ mPins z 20 = 0)
    · rw [ft_x c]; simpa using h
    · by_cases c2 : mTick z 5 ≤ z 5
      · rw [ft_n c c2]; exact ft_len F _ n _ _ h
      · rw [ft_s c c2]
        have := ft_len F (mTick z) (n + 1) (t + 1) 0 (by omega)
        simp only [List.length_cons]
        omega
theorem ft_t : ∀ (F : Nat) (z : Nat → Int) (n t q : Nat), (ft F z n t q).2 ≤ t + F
  | 0, _, n, _, _ => by simp [ft]
  | F + 1, z, n, t, q => by
    by_cases c : 64 ≤ n ∨ 2000 ≤ q ∨ (z 3 = 0 ∧ mPins z 20 = 0)
    · rw [ft_x c]; simp
    · by_cases c2 : mTick z 5 ≤ z 5
      · rw [ft_n c c2]; have := ft_t F (mTick z) n (t + 1) (q + 1); omega
      · rw [ft_s c c2]; have := ft_t F (mTick z) (n + 1) (t + 1) 0; simp only; omega
abbrev mf (a : Nat) (fr : List Value) (z sp : Nat → Int) (n : Nat) (sa ba : Nat → Int) (dn : Int) (R : AW) : AW := .inr (6, .ref (a + 1) :: .ref (a + 2) :: .int (iI (n : Int)) :: .ref (a + 3) :: .ref (a + 4) :: .int (iI dn) :: fr) :: aI 0 154 z :: aI 0 154 sp :: aI 0 64 sa :: aI 0 64 ba :: R
set_option maxRecDepth 100000 in
set_option maxHeartbeats 4000000 in
theorem l_keep2 {P : AW} {a : Nat} (hP : P.length = a) (fr : List Value) (z g : Nat → Int) (R : AW) {Z : Zt} (hx : EX I_X6_keep 0 0 none Z 24 [some (.ref (a + 0)), some (.ref (a + 2)), some (.int (iI ((154 : Nat) : Int)))] [] (P ++ (.inr (6, .ref (a + 1) :: fr) :: aI 0 154 (z) :: aI 0 154 (z) :: R)) 0 0) : ∀ (r s : Nat), s + r = 154 → EX I_X6_keep 0 0 none Z 2 [some (.ref (a + 0)), some (.ref (a + 2)), some (.int (iI ((s : Nat) : Int)))] [] (P ++ (.inr (6, .ref (a + 1) :: fr) :: aI 0 154 (z) :: aI 0 154 (cpyI z g s) :: R)) 0 0 := by
  intro r
  induction r with
  | zero =>
    intro s hs
    have hs' : s = 154 := by omega
    subst hs'
    refine x_iload_n dX6_keep_2 rfl ?_
    refine x_sipush dX6_keep_3 ?_
    refine x_icmp_ge 24 dX6_keep_6 (fun h6 => ?_) (fun h6 => by exfalso; omega)
    refine x_ext 2 hP rfl (g := z) (fun j hj => if_pos hj) ?_
    exact hx
  | succ r ih =>
    intro s hs
    refine x_iload_n dX6_keep_2 rfl ?_
    refine x_sipush dX6_keep_3 ?_
    refine x_icmp_ge 24 dX6_keep_6 (fun h6 => by exfalso; omega) (fun h6 => ?_)
    refine x_aload_n dX6_keep_9 rfl ?_
    refine x_iload_n dX6_keep_10 rfl ?_
    refine x_aload_n dX6_keep_11 rfl ?_
    refine x_getfield 0 dX6_keep_12 fg_X6_7 hP rfl rfl ?_
    refine x_iload_n dX6_keep_15 rfl ?_
    refine x_iaload 1 (s) dX6_keep_16 hP rfl ?_
    refine x_iastore 2 (s) dX6_keep_17 hP rfl ?_
    refine x_eqw (w' := P ++ (.inr (6, .ref (a + 1) :: fr) :: aI 0 154 (z) :: aI 0 154 (cpyI z g (s + 1)) :: R)) (by rw [← cpyI_s]; rfl) ?_
    refine x_inc2 dX6_keep_18 ?_
    refine x_goto 2 dX6_keep_21 ?_
    exact ih (s + 1) (by omega)
set_option maxRecDepth 100000 in
set_option maxHeartbeats 4000000 in
theorem c_keep2 {P : AW} {a : Nat} (hP : P.length = a) (fr : List Value) (z g : Nat → Int) (R : AW) : CTv I_X6_keep 0 0 [.ref (a + 0), .ref (a + 2)] (P ++ (.inr (6, .ref (a + 1) :: fr) :: aI 0 154 (z) :: aI 0 154 (g) :: R)) (fun w' => w' = P ++ (.inr (6, .ref (a + 1) :: fr) :: aI 0 154 (z) :: aI 0 154 (z) :: R)) := by
  refine CT_of 1 rfl (Nat.le_of_ble_eq_true rfl) ?_
  show EX I_X6_keep 0 0 none _ 0 [some (.ref (a + 0)), some (.ref (a + 2)), none] [] _ 0 0
  refine x_iconst dX6_keep_0 ?_
  refine x_ist2 dX6_keep_1 ?_
  refine x_eqw (w' := P ++ (.inr (6, .ref (a + 1) :: fr) :: aI 0 154 (z) :: aI 0 154 (cpyI z g 0) :: R)) (by rw [cpyI_0]) (l_keep2 hP fr z g  R ?_ 154 0 rfl)
  exact x_vret dX6_keep_24 (rfl)
set_option maxRecDepth 100000 in
set_option maxHeartbeats 4000000 in
theorem l_bring2 {P : AW} {a : Nat} (hP : P.length = a) (fr : List Value) (z g : Nat → Int) (R : AW) {Z : Zt} (hx : EX I_X6_bring 0 0 none Z 24 [some (.ref (a + 0)), some (.ref (a + 2)), some (.int (iI ((154 : Nat) : Int)))] [] (P ++ (.inr (6, .ref (a + 1) :: fr) :: aI 0 154 (g) :: aI 0 154 (g) :: R)) 0 0) : ∀ (r s : Nat), s + r = 154 → EX I_X6_bring 0 0 none Z 2 [some (.ref (a + 0)), some (.ref (a + 2)), some (.int (iI ((s : Nat) : Int)))] [] (P ++ (.inr (6, .ref (a + 1) :: fr) :: aI 0 154 (cpyI g z s) :: aI 0 154 (g) :: R)) 0 0 := by
  intro r
  induction r with
  | zero =>
    intro s hs
    have hs' : s = 154 := by omega
    subst hs'
    refine x_iload_n dX6_bring_2 rfl ?_
    refine x_sipush dX6_bring_3 ?_
    refine x_icmp_ge 24 dX6_bring_6 (fun h6 => ?_) (fun h6 => by exfalso; omega)
    refine x_ext 1 hP rfl (g := g) (fun j hj => if_pos hj) ?_
    exact hx
  | succ r ih =>
    intro s hs
    refine x_iload_n dX6_bring_2 rfl ?_
    refine x_sipush dX6_bring_3 ?_
    refine x_icmp_ge 24 dX6_bring_6 (fun h6 => by exfalso; omega) (fun h6 => ?_)
    refine x_aload_n dX6_bring_9 rfl ?_
    refine x_getfield 0 dX6_bring_10 fg_X6_7 hP rfl rfl ?_
    refine x_iload_n dX6_bring_13 rfl ?_
    refine x_aload_n dX6_bring_14 rfl ?_
    refine x_iload_n dX6_bring_15 rfl ?_
    refine x_iaload 2 (s) dX6_bring_16 hP rfl ?_
    refine x_iastore 1 (s) dX6_bring_17 hP rfl ?_
    refine x_eqw (w' := P ++ (.inr (6, .ref (a + 1) :: fr) :: aI 0 154 (cpyI g z (s + 1)) :: aI 0 154 (g) :: R)) (by rw [← cpyI_s]; rfl) ?_
    refine x_inc2 dX6_bring_18 ?_
    refine x_goto 2 dX6_bring_21 ?_
    exact ih (s + 1) (by omega)
set_option maxRecDepth 100000 in
set_option maxHeartbeats 4000000 in
theorem c_bring2 {P : AW} {a : Nat} (hP : P.length = a) (fr : List Value) (z g : Nat → Int) (R : AW) : CTv I_X6_bring 0 0 [.ref (a + 0), .ref (a + 2)] (P ++ (.inr (6, .ref (a + 1) :: fr) :: aI 0 154 (z) :: aI 0 154 (g) :: R)) (fun w' => w' = P ++ (.inr (6, .ref (a + 1) :: fr) :: aI 0 154 (g) :: aI 0 154 (g) :: R)) := by
  refine CT_of 1 rfl (Nat.le_of_ble_eq_true rfl) ?_
  show EX I_X6_bring 0 0 none _ 0 [some (.ref (a + 0)), some (.ref (a + 2)), none] [] _ 0 0
  refine x_iconst dX6_bring_0 ?_
  refine x_ist2 dX6_bring_1 ?_
  refine x_eqw (w' := P ++ (.inr (6, .ref (a + 1) :: fr) :: aI 0 154 (cpyI g z 0) :: aI 0 154 (g) :: R)) (by rw [cpyI_0]) (l_bring2 hP fr z g  R ?_ 154 0 rfl)
  exact x_vret dX6_bring_24 (rfl)
set_option maxRecDepth 100000 in
set_option maxHeartbeats 4000000 in
theorem l_keep8 {P : AW} {a : Nat} (hP : P.length = a) (fr : List Value) (z g : Nat → Int) (c2 c3 c4 c5 c6 c7 : AC) (R : AW) {Z : Zt} (hx : EX I_X6_keep 0 0 none Z 24 [some (.ref (a + 0)), some (.ref (a + 8)), some (.int (iI ((154 : Nat) : Int)))] [] (P ++ (.inr (6, .ref (a + 1) :: fr) :: aI 0 154 (z) :: c2 :: c3 :: c4 :: c5 :: c6 :: c7 :: aI 0 154 (z) :: R)) 0 0) : ∀ (r s : Nat), s + r = 154 → EX I_X6_keep 0 0 none Z 2 [some (.ref (a + 0)), some (.ref (a + 8)), some (.int (iI ((s : Nat) : Int)))] [] (P ++ (.inr (6, .ref (a + 1) :: fr) :: aI 0 154 (z) :: c2 :: c3 :: c4 :: c5 :: c6 :: c7 :: aI 0 154 (cpyI z g s) :: R)) 0 0 := by
  intro r
  induction r with
  | zero =>
    intro s hs
    have hs' : s = 154 := by omega
    subst hs'
    refine x_iload_n dX6_keep_2 rfl ?_
    refine x_sipush dX6_keep_3 ?_
    refine x_icmp_ge 24 dX6_keep_6 (fun h6 => ?_) (fun h6 => by exfalso; omega)
    refine x_ext 8 hP rfl (g := z) (fun j hj => if_pos hj) ?_
    exact hx
  | succ r ih =>
    intro s hs
    refine x_iload_n dX6_keep_2 rfl ?_
    refine x_sipush dX6_keep_3 ?_
    refine x_icmp_ge 24 dX6_keep_6 (fun h6 => by exfalso; omega) (fun h6 => ?_)
    refine x_aload_n dX6_keep_9 rfl ?_
    refine x_iload_n dX6_keep_10 rfl ?_
    refine x_aload_n dX6_keep_11 rfl ?_
    refine x_getfield 0 dX6_keep_12 fg_X6_7 hP rfl rfl ?_
    refine x_iload_n dX6_keep_15 rfl ?_
    refine x_iaload 1 (s) dX6_keep_16 hP rfl ?_
    refine x_iastore 8 (s) dX6_keep_17 hP rfl ?_
    refine x_eqw (w' := P ++ (.inr (6, .ref (a + 1) :: fr) :: aI 0 154 (z) :: c2 :: c3 :: c4 :: c5 :: c6 :: c7 :: aI 0 154 (cpyI z g (s + 1)) :: R)) (by rw [← cpyI_s]; rfl) ?_
    refine x_inc2 dX6_keep_18 ?_
    refine x_goto 2 dX6_keep_21 ?_
    exact ih (s + 1) (by omega)
set_option maxRecDepth 100000 in
set_option maxHeartbeats 4000000 in
theorem c_keep8 {P : AW} {a : Nat} (hP : P.length = a) (fr : List Value) (z g : Nat → Int) (c2 c3 c4 c5 c6 c7 : AC) (R : AW) : CTv I_X6_keep 0 0 [.ref (a + 0), .ref (a + 8)] (P ++ (.inr (6, .ref (a + 1) :: fr) :: aI 0 154 (z) :: c2 :: c3 :: c4 :: c5 :: c6 :: c7 :: aI 0 154 (g) :: R)) (fun w' => w' = P ++ (.inr (6, .ref (a + 1) :: fr) :: aI 0 154 (z) :: c2 :: c3 :: c4 :: c5 :: c6 :: c7 :: aI 0 154 (z) :: R)) := by
  refine CT_of 1 rfl (Nat.le_of_ble_eq_true rfl) ?_
  show EX I_X6_keep 0 0 none _ 0 [some (.ref (a + 0)), some (.ref (a + 8)), none] [] _ 0 0
  refine x_iconst dX6_keep_0 ?_
  refine x_ist2 dX6_keep_1 ?_
  refine x_eqw (w' := P ++ (.inr (6, .ref (a + 1) :: fr) :: aI 0 154 (z) :: c2 :: c3 :: c4 :: c5 :: c6 :: c7 :: aI 0 154 (cpyI z g 0) :: R)) (by rw [cpyI_0]) (l_keep8 hP fr z g c2 c3 c4 c5 c6 c7 R ?_ 154 0 rfl)
  exact x_vret dX6_keep_24 (rfl)
set_option maxRecDepth 100000 in
set_option maxHeartbeats 4000000 in
theorem l_bring8 {P : AW} {a : Nat} (hP : P.length = a) (fr : List Value) (z g : Nat → Int) (c2 c3 c4 c5 c6 c7 : AC) (R : AW) {Z : Zt} (hx : EX I_X6_bring 0 0 none Z 24 [some (.ref (a + 0)), some (.ref (a + 8)), some (.int (iI ((154 : Nat) : Int)))] [] (P ++ (.inr (6, .ref (a + 1) :: fr) :: aI 0 154 (g) :: c2 :: c3 :: c4 :: c5 :: c6 :: c7 :: aI 0 154 (g) :: R)) 0 0) : ∀ (r s : Nat), s + r = 154 → EX I_X6_bring 0 0 none Z 2 [some (.ref (a + 0)), some (.ref (a + 8)), some (.int (iI ((s : Nat) : Int)))] [] (P ++ (.inr (6, .ref (a + 1) :: fr) :: aI 0 154 (cpyI g z s) :: c2 :: c3 :: c4 :: c5 :: c6 :: c7 :: aI 0 154 (g) :: R)) 0 0 := by
  intro r
  induction r with
  | zero =>
    intro s hs
    have hs' : s = 154 := by omega
    subst hs'
    refine x_iload_n dX6_bring_2 rfl ?_
    refine x_sipush dX6_bring_3 ?_
    refine x_icmp_ge 24 dX6_bring_6 (fun h6 => ?_) (fun h6 => by exfalso; omega)
    refine x_ext 1 hP rfl (g := g) (fun j hj => if_pos hj) ?_
    exact hx
  | succ r ih =>
    intro s hs
    refine x_iload_n dX6_bring_2 rfl ?_
    refine x_sipush dX6_bring_3 ?_
    refine x_icmp_ge 24 dX6_bring_6 (fun h6 => by exfalso; omega) (fun h6 => ?_)
    refine x_aload_n dX6_bring_9 rfl ?_
    refine x_getfield 0 dX6_bring_10 fg_X6_7 hP rfl rfl ?_
    refine x_iload_n dX6_bring_13 rfl ?_
    refine x_aload_n dX6_bring_14 rfl ?_
    refine x_iload_n dX6_bring_15 rfl ?_
    refine x_iaload 8 (s) dX6_bring_16 hP rfl ?_
    refine x_iastore 1 (s) dX6_bring_17 hP rfl ?_
    refine x_eqw (w' := P ++ (.inr (6, .ref (a + 1) :: fr) :: aI 0 154 (cpyI g z (s + 1)) :: c2 :: c3 :: c4 :: c5 :: c6 :: c7 :: aI 0 154 (g) :: R)) (by rw [← cpyI_s]; rfl) ?_
    refine x_inc2 dX6_bring_18 ?_
    refine x_goto 2 dX6_bring_21 ?_
    exact ih (s + 1) (by omega)
set_option maxRecDepth 100000 in
set_option maxHeartbeats 4000000 in
theorem c_bring8 {P : AW} {a : Nat} (hP : P.length = a) (fr : List Value) (z g : Nat → Int) (c2 c3 c4 c5 c6 c7 : AC) (R : AW) : CTv I_X6_bring 0 0 [.ref (a + 0), .ref (a + 8)] (P ++ (.inr (6, .ref (a + 1) :: fr) :: aI 0 154 (z) :: c2 :: c3 :: c4 :: c5 :: c6 :: c7 :: aI 0 154 (g) :: R)) (fun w' => w' = P ++ (.inr (6, .ref (a + 1) :: fr) :: aI 0 154 (g) :: c2 :: c3 :: c4 :: c5 :: c6 :: c7 :: aI 0 154 (g) :: R)) := by
  refine CT_of 1 rfl (Nat.le_of_ble_eq_true rfl) ?_
  show EX I_X6_bring 0 0 none _ 0 [some (.ref (a + 0)), some (.ref (a + 8)), none] [] _ 0 0
  refine x_iconst dX6_bring_0 ?_
  refine x_ist2 dX6_bring_1 ?_
  refine x_eqw (w' := P ++ (.inr (6, .ref (a + 1) :: fr) :: aI 0 154 (cpyI g z 0) :: c2 :: c3 :: c4 :: c5 :: c6 :: c7 :: aI 0 154 (g) :: R)) (by rw [cpyI_0]) (l_bring8 hP fr z g c2 c3 c4 c5 c6 c7 R ?_ 154 0 rfl)
  exact x_vret dX6_bring_24 (rfl)
set_option maxRecDepth 100000 in
set_option maxHeartbeats 4000000 in
theorem l_ft {P : AW} {a : Nat} (hP : P.length = a) (fr : List Value) (sp : Nat → Int) (dn : Int) (R : AW) {Z : Zt} : ∀ (F : Nat) (z : Nat → Int) (n t q : Nat) (sa ba : Nat → Int) (l3 : Option Value), ZA z → z 0 + F ≤ 2000000000 → n ≤ 64 → q ≤ 2000 → (64 - n) * 2001 + (2000 - q) < F → t + F ≤ 2000000000 →
    (∀ (z' : Nat → Int) (q' : Int) (l3' : Option Value), EX I_X6_foretell 0 0 none Z 114 [some (.ref (a + 0)), some (.int (iI ((ft F z n t q).2 : Int))), some (.int (iI q')), l3'] [] (P ++ mf a fr z' sp (n + (ft F z n t q).1.length) (wr sa n ((ft F z n t q).1.map Prod.fst)) (wr ba n ((ft F z n t q).1.map Prod.snd)) dn R) 0 0) →
    EX I_X6_foretell 0 0 none Z 17 [some (.ref (a + 0)), some (.int (iI (t : Int))), some (.int (iI (q : Int))), l3] [] (P ++ mf a fr z sp n sa ba dn R) 0 0 := by
  intro F
  induction F with
  | zero => intro z n t q sa ba l3 hA h0 hn hq hF; exact absurd hF (by omega)
  | succ F ih =>
    intro z n t q sa ba l3 hA h0 hn hq hF ht hx
    have hpR := mPins_R hA.2.1.2.2.2.2.2.2.1
    have hA2 := ZA_tick hA (by omega)
    have h05 := tick_05 hA.2.1 hA.2.2.1
    refine x_aload_n dX6_foretell_17 rfl ?_
    refine x_getfield 0 dX6_foretell_18 fg_X6_113 hP rfl rfl ?_
    refine x_bipush dX6_foretell_21 ?_
    refine x_icmp_ge 114 dX6_foretell_23 (fun h23 => ?_) (fun h23 => ?_)
    · have e1 := ft_x (F := F) (z := z) (n := n) (t := t) (q := q) (by omega)
      rw [e1] at hx
      exact hx z _ _
    · refine x_iload_n dX6_foretell_26 rfl ?_
      refine x_sipush dX6_foretell_27 ?_
      refine x_icmp_ge 114 dX6_foretell_30 (fun h30 => ?_) (fun h30 => ?_)
      · have e1 := ft_x (F := F) (z := z) (n := n) (t := t) (q := q) (by omega)
        rw [e1] at hx
        exact hx z _ _
      · refine x_aload_n dX6_foretell_33 rfl ?_
        refine x_getfield 0 dX6_foretell_34 fg_X6_7 hP rfl rfl ?_
        refine x_iconst dX6_foretell_37 ?_
        refine x_iaload 1 (3) dX6_foretell_38 hP rfl ?_
        refine x_if_ne 49 dX6_foretell_39 (fun h39 => ?_) (fun h39 => ?_) (ha := hA.1 _)
        · refine x_aload_n dX6_foretell_49 rfl ?_
          refine x_getfield 0 dX6_foretell_50 fg_X6_7 hP rfl rfl ?_
          refine x_iconst dX6_foretell_53 ?_
          refine x_iaload 1 (5) dX6_foretell_54 hP rfl ?_
          refine x_ist3 dX6_foretell_55 ?_
          refine x_aload_n dX6_foretell_56 rfl ?_
          refine x_callvV dX6_foretell_57 mk_X6_tick ml_X6_104 (c_tick hP _ z _ hA.1 hA.2.1 hA.2.2.1 (ZA_B hA (by omega))) ((wg_app hP 0).trans rfl) rfl (fun w57 h57 => ?_)
          subst h57
          refine x_inc1 dX6_foretell_60 ?_
          refine x_inc2 dX6_foretell_63 ?_
          refine x_aload_n dX6_foretell_66 rfl ?_
          refine x_getfield 0 dX6_foretell_67 fg_X6_7 hP rfl rfl ?_
          refine x_iconst dX6_foretell_70 ?_
          refine x_iaload 1 (5) dX6_foretell_71 hP rfl ?_
          refine x_iload_n dX6_foretell_72 rfl ?_
          refine x_icmp_le 111 dX6_foretell_73 (fun h73 => ?_) (fun h73 => ?_) (ha := hA2.1 _) (hb := hA.1 _)
          · refine x_goto 17 dX6_foretell_111 ?_
            have e1 := ft_n (F := F) (z := z) (n := n) (t := t) (q := q) (by omega) h73
            rw [e1] at hx
            exact ih (mTick z) n (t + 1) (q + 1) sa ba _ hA2 (by omega) (by omega) (by omega) (by omega) (by omega) hx
          · refine x_aload_n dX6_foretell_76 rfl ?_
            refine x_getfield 0 dX6_foretell_77 fg_X6_16 hP rfl rfl ?_
            refine x_aload_n dX6_foretell_80 rfl ?_
            refine x_getfield 0 dX6_foretell_81 fg_X6_113 hP rfl rfl ?_
            refine x_aload_n dX6_foretell_84 rfl ?_
            refine x_calliV dX6_foretell_85 mk_X6_songHere ml_X6_89 (c_songHere hP _ (mTick z) _ hA2.1) ((wg_app hP 0).trans rfl) rfl (fun x85 w85 h85 => ?_)
            obtain ⟨rfl, rfl⟩ := h85
            refine x_iastore 3 (n) dX6_foretell_88 hP rfl ?_
            refine x_aload_n dX6_foretell_89 rfl ?_
            refine x_getfield 0 dX6_foretell_90 fg_X6_19 hP rfl rfl ?_
            refine x_aload_n dX6_foretell_93 rfl ?_
            refine x_getfield 0 dX6_foretell_94 fg_X6_113 hP rfl rfl ?_
            refine x_iload_n dX6_foretell_97 rfl ?_
            refine x_iastore 4 (n) dX6_foretell_98 hP rfl ?_
            refine x_aload_n dX6_foretell_99 rfl ?_
            refine x_dup dX6_foretell_100 ?_
            refine x_getfield 0 dX6_foretell_101 fg_X6_113 hP rfl rfl ?_
            refine x_iconst dX6_foretell_104 ?_
            refine x_iadd dX6_foretell_105 ?_
            refine x_putfield 0 dX6_foretell_106 fl_X6_113 hP rfl (fun _ _ => ⟨rfl, rfl⟩) ?_
            refine x_iconst dX6_foretell_109 ?_
            refine x_ist2 dX6_foretell_110 ?_
            refine x_goto 17 dX6_foretell_111 ?_
            have e1 := ft_s (F := F) (z := z) (n := n) (t := t) (q := q) (by omega) h73
            rw [e1] at hx
            simp only [List.length_cons, List.map_cons, wr] at hx
            rw [show n + ((ft F (mTick z) (n + 1) (t + 1) 0).1.length + 1) = n + 1 + (ft F (mTick z) (n + 1) (t + 1) 0).1.length by omega] at hx
            exact ih (mTick z) (n + 1) (t + 1) 0 _ _ _ hA2 (by omega) (by omega) (by omega) (by omega) (by omega) hx
        · refine x_aload_n dX6_foretell_42 rfl ?_
          refine x_calliV dX6_foretell_43 mk_X6_pinsIn ml_X6_82 (c_pinsIn hP _ z _) ((wg_app hP 0).trans rfl) rfl (fun x43 w43 h43 => ?_)
          obtain ⟨rfl, rfl⟩ := h43
          refine x_if_eq 114 dX6_foretell_46 (fun h46 => ?_) (fun h46 => ?_) (ha := hpR)
          · have e1 := ft_x (F := F) (z := z) (n := n) (t := t) (q := q) (by omega)
            rw [e1] at hx
            exact hx z _ _
          · refine x_aload_n dX6_foretell_49 rfl ?_
            refine x_getfield 0 dX6_foretell_50 fg_X6_7 hP rfl rfl ?_
            refine x_iconst dX6_foretell_53 ?_
            refine x_iaload 1 (5) dX6_foretell_54 hP rfl ?_
            refine x_ist3 dX6_foretell_55 ?_
            refine x_aload_n dX6_foretell_56 rfl ?_
            refine x_callvV dX6_foretell_57 mk_X6_tick ml_X6_104 (c_tick hP _ z _ hA.1 hA.2.1 hA.2.2.1 (ZA_B hA (by omega))) ((wg_app hP 0).trans rfl) rfl (fun w57 h57 => ?_)
            subst h57
            refine x_inc1 dX6_foretell_60 ?_
            refine x_inc2 dX6_foretell_63 ?_
            refine x_aload_n dX6_foretell_66 rfl ?_
            refine x_getfield 0 dX6_foretell_67 fg_X6_7 hP rfl rfl ?_
            refine x_iconst dX6_foretell_70 ?_
            refine x_iaload 1 (5) dX6_foretell_71 hP rfl ?_
            refine x_iload_n dX6_foretell_72 rfl ?_
            refine x_icmp_le 111 dX6_foretell_73 (fun h73 => ?_) (fun h73 => ?_) (ha := hA2.1 _) (hb := hA.1 _)
            · refine x_goto 17 dX6_foretell_111 ?_
              have e1 := ft_n (F := F) (z := z) (n := n) (t := t) (q := q) (by omega) h73
              rw [e1] at hx
              exact ih (mTick z) n (t + 1) (q + 1) sa ba _ hA2 (by omega) (by omega) (by omega) (by omega) (by omega) hx
            · refine x_aload_n dX6_foretell_76 rfl ?_
              refine x_getfield 0 dX6_foretell_77 fg_X6_16 hP rfl rfl ?_
              refine x_aload_n dX6_foretell_80 rfl ?_
              refine x_getfield 0 dX6_foretell_81 fg_X6_113 hP rfl rfl ?_
              refine x_aload_n dX6_foretell_84 rfl ?_
              refine x_calliV dX6_foretell_85 mk_X6_songHere ml_X6_89 (c_songHere hP _ (mTick z) _ hA2.1) ((wg_app hP 0).trans rfl) rfl (fun x85 w85 h85 => ?_)
              obtain ⟨rfl, rfl⟩ := h85
              refine x_iastore 3 (n) dX6_foretell_88 hP rfl ?_
              refine x_aload_n dX6_foretell_89 rfl ?_
              refine x_getfield 0 dX6_foretell_90 fg_X6_19 hP rfl rfl ?_
              refine x_aload_n dX6_foretell_93 rfl ?_
              refine x_getfield 0 dX6_foretell_94 fg_X6_113 hP rfl rfl ?_
              refine x_iload_n dX6_foretell_97 rfl ?_
              refine x_iastore 4 (n) dX6_foretell_98 hP rfl ?_
              refine x_aload_n dX6_foretell_99 rfl ?_
              refine x_dup dX6_foretell_100 ?_
              refine x_getfield 0 dX6_foretell_101 fg_X6_113 hP rfl rfl ?_
              refine x_iconst dX6_foretell_104 ?_
              refine x_iadd dX6_foretell_105 ?_
              refine x_putfield 0 dX6_foretell_106 fl_X6_113 hP rfl (fun _ _ => ⟨rfl, rfl⟩) ?_
              refine x_iconst dX6_foretell_109 ?_
              refine x_ist2 dX6_foretell_110 ?_
              refine x_goto 17 dX6_foretell_111 ?_
              have e1 := ft_s (F := F) (z := z) (n := n) (t := t) (q := q) (by omega) h73
              rw [e1] at hx
              simp only [List.length_cons, List.map_cons, wr] at hx
              rw [show n + ((ft F (mTick z) (n + 1) (t + 1) 0).1.length + 1) = n + 1 + (ft F (mTick z) (n + 1) (t + 1) 0).1.length by omega] at hx
              exact ih (mTick z) (n + 1) (t + 1) 0 _ _ _ hA2 (by omega) (by omega) (by omega) (by omega) (by omega) hx
set_option maxRecDepth 100000 in
set_option maxHeartbeats 4000000 in
theorem c_foretell {P : AW} {a : Nat} (hP : P.length = a) (fr : List Value) (z sp : Nat → Int) (n0 : Nat) (sa ba : Nat → Int) (dn : Int) (R : AW) (hA : ZA z) (hz0 : z 0 ≤ 1000000) : CTv I_X6_foretell 0 0 [.ref (a + 0)] (P ++ mf a fr z sp n0 sa ba dn R) (fun w' => w' = P ++ mf a fr z z (mFt z).1.length (wr sa 0 ((mFt z).1.map Prod.fst)) (wr ba 0 ((mFt z).1.map Prod.snd)) ((mFt z).2 : Int) R) := by
  refine CT_of 3 rfl (Nat.le_of_ble_eq_true rfl) ?_
  show EX I_X6_foretell 0 0 none _ 0 [some (.ref (a + 0)), none, none, none] [] _ 0 0
  refine x_aload_n dX6_foretell_0 rfl ?_
  refine x_aload_n dX6_foretell_1 rfl ?_
  refine x_getfield 0 dX6_foretell_2 fg_X6_13 hP rfl rfl ?_
  refine x_callvV dX6_foretell_5 mk_X6_keep ml_X6_109 (c_keep2 hP _ z sp _) ((wg_app hP 0).trans rfl) rfl (fun w5 h5 => ?_)
  subst h5
  refine x_aload_n dX6_foretell_8 rfl ?_
  refine x_iconst dX6_foretell_9 ?_
  refine x_putfield 0 dX6_foretell_10 fl_X6_113 hP rfl (fun _ _ => ⟨rfl, rfl⟩) ?_
  refine x_iconst dX6_foretell_13 ?_
  refine x_ist1 dX6_foretell_14 ?_
  refine x_iconst dX6_foretell_15 ?_
  refine x_ist2 dX6_foretell_16 ?_
  refine l_ft hP fr z dn R 130065 z 0 0 0 sa ba none hA (by omega) (by omega) (by omega) (by omega) (by omega) (fun z' q' l3' => ?_)
  refine x_aload_n dX6_foretell_114 rfl ?_
  refine x_iload_n dX6_foretell_115 rfl ?_
  refine x_putfield 0 dX6_foretell_116 fl_X6_117 hP rfl (fun _ _ => ⟨rfl, rfl⟩) ?_
  refine x_aload_n dX6_foretell_119 rfl ?_
  refine x_aload_n dX6_foretell_120 rfl ?_
  refine x_getfield 0 dX6_foretell_121 fg_X6_13 hP rfl rfl ?_
  refine x_callvV dX6_foretell_124 mk_X6_bring ml_X6_120 (c_bring2 hP _ z' z _) ((wg_app hP 0).trans rfl) rfl (fun w124 h124 => ?_)
  subst h124
  exact x_vret dX6_foretell_127 (by rw [Nat.zero_add]; rfl)
