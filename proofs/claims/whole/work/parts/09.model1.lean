theorem x_top {mi : MI} {mc ms : Nat} {SC : Option (Nat × (Nat → Int32))} {Z : Zt} {pc : Nat} {ls : List (Option Value)} {st : List Value} {w : AW} {k n : Nat} {x y : Int} (h : x = y) (kk : EX mi mc ms SC Z pc ls (.int (iI y) :: st) w k n) : EX mi mc ms SC Z pc ls (.int (iI x) :: st) w k n := h ▸ kk
theorem bfit {x : Int} (h : x = 0 ∨ x = 1) {S b : Nat} : narrow .boolean (cv S b (.int (iI x))) = cv S b (.int (iI x)) ∧ fits .boolean (cv S b (.int (iI x))) = true := by
  rcases h with rfl | rfl <;> exact ⟨rfl, rfl⟩
theorem cmpI_R (a b : Int) : inR (cmpI a b) := by unfold cmpI; (repeat' split) <;> decide
theorem cmpI_lt {a b : Int} : cmpI a b < 0 ↔ a < b := by unfold cmpI; (repeat' split) <;> omega
theorem cmpI_gt {a b : Int} : 0 < cmpI a b ↔ b < a := by unfold cmpI; (repeat' split) <;> omega
theorem inR_upd {z : Nat → Int} {j : Nat} {v : Int} (h : ∀ i, inR (z i)) (hv : inR v) : ∀ i, inR (updI z j v i) := by
  intro i
  unfold updI
  split
  · exact hv
  · exact h i
/-! ===== the reference: its methods over z ===== -/
abbrev mz (a : Nat) (fr : List Value) (z : Nat → Int) (R : AW) : AW := .inr (6, .ref (a + 1) :: fr) :: aI 0 154 z :: R
abbrev b2i (c : Prop) [Decidable c] : Int := if c then 1 else 0
def mSong (z : Nat → Int) : Int := 2 * z 1 + (if z 2 = 1 then 0 else 1)
def mDoes (z : Nat → Int) (x t : Int) : Nat → Int := updI (updI z 3 x) 4 t
def mPins (z : Nat → Int) : Nat → Int
  | 0 => 0
  | n + 1 => mPins z n + z (30 + n)
def mGoOn (z : Nat → Int) : Nat → Int := if mPins z 20 = 0 then mDoes z 0 0 else if (z 2 = 1 ∧ z 1 = 9) ∨ (¬ z 2 = 1 ∧ z 1 = 0) then mDoes z 2 2 else mDoes z 1 3
def mOut (z : Nat → Int) (s : Nat) : Nat → Int := updI z (30 + s) (if z (50 + s) = 0 then 0 else z (30 + s))
def mLook (z : Nat → Int) : Nat → Int :=
  if z (30 + (mSong z).toNat) = 1 then (if 0 ≤ z (20 + (z 1).toNat) then mDoes (mOut z (mSong z).toNat) 3 4 else mGoOn (updI (mOut z (mSong z).toNat) 6 (z 6 + 1)))
  else mGoOn (updI (mOut z (mSong z).toNat) 6 (z 6 + 0))
def mSide (z : Nat → Int) : Nat := (2 * z (20 + (z 1).toNat) + mSong z % 2).toNat
def mWear (z : Nat → Int) : Int := if 99 ≤ z (122 + mSide z) then 99 else z (122 + mSide z) + 1
def mPlay (z : Nat → Int) : Nat → Int := mDoes (updI (updI (updI z (70 + (mSong z).toNat) ((z (70 + (mSong z).toNat) + 1) % 100)) (122 + mSide z) (mWear z)) 5 (z 5 + 1)) 4 (if mWear z ≤ z 15 then z (90 + mSide z) else 2 * z (90 + mSide z))
def mTick (z : Nat → Int) : Nat → Int :=
  if z 3 = 0 then (if mPins (updI z 0 (z 0 + 1)) 20 ≤ 0 then updI z 0 (z 0 + 1) else mLook (updI z 0 (z 0 + 1)))
  else if 0 < z 4 - 1 then updI (updI z 0 (z 0 + 1)) 4 (z 4 - 1)
  else if z 3 = 1 then mLook (updI (updI (updI z 0 (z 0 + 1)) 4 (z 4 - 1)) 1 (z 1 + (if z 2 = 1 then 1 else -1)))
  else if z 3 = 2 then mLook (updI (updI (updI z 0 (z 0 + 1)) 4 (z 4 - 1)) 2 (1 - z 2))
  else if z 3 = 3 then mPlay (updI (updI z 0 (z 0 + 1)) 4 (z 4 - 1))
  else if z 3 = 4 then mDoes (updI (updI z 0 (z 0 + 1)) 4 (z 4 - 1)) 5 4
  else mGoOn (updI (updI z 0 (z 0 + 1)) 4 (z 4 - 1))
set_option maxRecDepth 100000 in
set_option maxHeartbeats 4000000 in
theorem c_in (w : AW) (v lo hi : Int) (h1 : inR v) (h2 : inR lo) (h3 : inR hi) : CTi I_X6_in 0 0 [.long (lI v), .long (lI lo), .long (lI hi)] (w) (fun x w' => x = (if lo ≤ v ∧ v ≤ hi then 1 else 0) ∧ w' = w) := by
  refine CT_of 0 rfl (Nat.le_of_ble_eq_true rfl) ?_
  show EX I_X6_in 0 0 none _ 0 [some (.long (lI v)), none, some (.long (lI lo)), none, some (.long (lI hi)), none] [] _ 0 0
  refine x_lload_n dX6_in_0 rfl ?_
  refine x_lload_n dX6_in_1 rfl ?_
  refine x_lcmp dX6_in_2 ?_
  refine x_if_lt 17 dX6_in_3 (fun h3 => ?_) (fun h3 => ?_) (ha := cmpI_R _ _)
  · refine x_iconst dX6_in_17 ?_
    exact x_zret dX6_in_18 (by omega) (by rw [cmpI_lt] at *; (try rw [cmpI_gt] at *); exact ⟨by (repeat' split) <;> omega, rfl⟩)
  · refine x_lload_n dX6_in_6 rfl ?_
    refine x_lload dX6_in_7 rfl ?_
    refine x_lcmp dX6_in_9 ?_
    refine x_if_gt 17 dX6_in_10 (fun h10 => ?_) (fun h10 => ?_) (ha := cmpI_R _ _)
    · refine x_iconst dX6_in_17 ?_
      exact x_zret dX6_in_18 (by omega) (by rw [cmpI_lt] at *; (try rw [cmpI_gt] at *); exact ⟨by (repeat' split) <;> omega, rfl⟩)
    · refine x_iconst dX6_in_13 ?_
      refine x_goto 18 dX6_in_14 ?_
      exact x_zret dX6_in_18 (by omega) (by rw [cmpI_lt] at *; (try rw [cmpI_gt] at *); exact ⟨by (repeat' split) <;> omega, rfl⟩)
set_option maxRecDepth 100000 in
set_option maxHeartbeats 4000000 in
theorem c_isPlace (w : AW) (p : Int) (hx : inR p) : CTi I_X6_isPlace 0 0 [.int (iI p)] (w) (fun x w' => x = (if 0 ≤ p ∧ p ≤ 9 then 1 else 0) ∧ w' = w) := by
  refine CT_of 0 rfl (Nat.le_of_ble_eq_true rfl) ?_
  show EX I_X6_isPlace 0 0 none _ 0 [some (.int (iI p))] [] _ 0 0
  refine x_iload_n dX6_isPlace_0 rfl ?_
  refine x_i2l dX6_isPlace_1 ?_
  refine x_lconst dX6_isPlace_2 ?_
  refine x_ldc2 dX6_isPlace_3 kl_X6_47 ?_
  refine x_calliS dX6_isPlace_6 mk_X6_in ml_X6_43 (c_in w p 0 9 hx (by decide) (by decide)) rfl (fun x6 w6 h6 => ?_)
  obtain ⟨rfl, rfl⟩ := h6
  exact x_zret dX6_isPlace_9 (by split <;> omega) (⟨rfl, rfl⟩) 
set_option maxRecDepth 100000 in
set_option maxHeartbeats 4000000 in
theorem c_isSong (w : AW) (s : Int) (hx : inR s) : CTi I_X6_isSong 0 0 [.int (iI s)] (w) (fun x w' => x = (if 0 ≤ s ∧ s ≤ 19 then 1 else 0) ∧ w' = w) := by
  refine CT_of 0 rfl (Nat.le_of_ble_eq_true rfl) ?_
  show EX I_X6_isSong 0 0 none _ 0 [some (.int (iI s))] [] _ 0 0
  refine x_iload_n dX6_isSong_0 rfl ?_
  refine x_i2l dX6_isSong_1 ?_
  refine x_lconst dX6_isSong_2 ?_
  refine x_ldc2 dX6_isSong_3 kl_X6_49 ?_
  refine x_calliS dX6_isSong_6 mk_X6_in ml_X6_43 (c_in w s 0 19 hx (by decide) (by decide)) rfl (fun x6 w6 h6 => ?_)
  obtain ⟨rfl, rfl⟩ := h6
  exact x_zret dX6_isSong_9 (by split <;> omega) (⟨rfl, rfl⟩) 
set_option maxRecDepth 100000 in
set_option maxHeartbeats 4000000 in
theorem c_isRecord {P : AW} {a : Nat} (hP : P.length = a) (fr : List Value) (z : Nat → Int) (R : AW) (r : Int) (hx : inR r) (hm : 0 ≤ z 16 ∧ z 16 ≤ 16) : CTi I_X6_isRecord 0 0 [.ref (a + 0), .int (iI r)] (P ++ mz a fr z R) (fun x w' => x = (if 0 ≤ r ∧ r ≤ z 16 - 1 then 1 else 0) ∧ w' = P ++ mz a fr z R) := by
  refine CT_of 0 rfl (Nat.le_of_ble_eq_true rfl) ?_
  show EX I_X6_isRecord 0 0 none _ 0 [some (.ref (a + 0)), some (.int (iI r))] [] _ 0 0
  refine x_iload_n dX6_isRecord_0 rfl ?_
  refine x_i2l dX6_isRecord_1 ?_
  refine x_lconst dX6_isRecord_2 ?_
  refine x_aload_n dX6_isRecord_3 rfl ?_
  refine x_getfield 0 dX6_isRecord_4 fg_X6_7 hP rfl rfl ?_
  refine x_bipush dX6_isRecord_7 ?_
  refine x_iaload 1 (16) dX6_isRecord_9 hP rfl ?_
  refine x_iconst dX6_isRecord_10 ?_
  refine x_isub dX6_isRecord_11 ?_
  refine x_i2l dX6_isRecord_12 ?_
  refine x_calliS dX6_isRecord_13 mk_X6_in ml_X6_43 (c_in (P ++ mz a fr z R) r 0 (z 16 - 1) hx (by decide) (by omega)) rfl (fun x13 w13 h13 => ?_)
  obtain ⟨rfl, rfl⟩ := h13
  exact x_zret dX6_isRecord_16 (by split <;> omega) (⟨rfl, rfl⟩)
set_option maxRecDepth 100000 in
set_option maxHeartbeats 4000000 in
theorem c_isOut {P : AW} {a : Nat} (hP : P.length = a) (fr : List Value) (z : Nat → Int) (R : AW) (hR : ∀ i, inR (z i)) (p : Int) (hx : inR p) : CTi I_X6_isOut 0 0 [.ref (a + 0), .int (iI p)] (P ++ mz a fr z R) (fun x w' => x = (if z 1 = p ∧ 3 ≤ z 3 then 1 else 0) ∧ w' = P ++ mz a fr z R) := by
  refine CT_of 0 rfl (Nat.le_of_ble_eq_true rfl) ?_
  show EX I_X6_isOut 0 0 none _ 0 [some (.ref (a + 0)), some (.int (iI p))] [] _ 0 0
  refine x_aload_n dX6_isOut_0 rfl ?_
  refine x_getfield 0 dX6_isOut_1 fg_X6_7 hP rfl rfl ?_
  refine x_iconst dX6_isOut_4 ?_
  refine x_iaload 1 (1) dX6_isOut_5 hP rfl ?_
  refine x_iload_n dX6_isOut_6 rfl ?_
  refine x_icmp_ne 24 dX6_isOut_7 (fun h7 => ?_) (fun h7 => ?_) (ha := hR _)
  · refine x_iconst dX6_isOut_24 ?_
    exact x_zret dX6_isOut_25 (by omega) (⟨by (repeat' split) <;> omega, rfl⟩)
  · refine x_aload_n dX6_isOut_10 rfl ?_
    refine x_getfield 0 dX6_isOut_11 fg_X6_7 hP rfl rfl ?_
    refine x_iconst dX6_isOut_14 ?_
    refine x_iaload 1 (3) dX6_isOut_15 hP rfl ?_
    refine x_iconst dX6_isOut_16 ?_
    refine x_icmp_lt 24 dX6_isOut_17 (fun h17 => ?_) (fun h17 => ?_) (ha := hR _)
    · refine x_iconst dX6_isOut_24 ?_
      exact x_zret dX6_isOut_25 (by omega) (⟨by (repeat' split) <;> omega, rfl⟩)
    · refine x_iconst dX6_isOut_20 ?_
      refine x_goto 25 dX6_isOut_21 ?_
      exact x_zret dX6_isOut_25 (by omega) (⟨by (repeat' split) <;> omega, rfl⟩)
set_option maxRecDepth 100000 in
set_option maxHeartbeats 4000000 in
theorem c_songHere {P : AW} {a : Nat} (hP : P.length = a) (fr : List Value) (z : Nat → Int) (R : AW) (hR : ∀ i, inR (z i)) : CTi I_X6_songHere 0 0 [.ref (a + 0)] (P ++ mz a fr z R) (fun x w' => x = mSong z ∧ w' = P ++ mz a fr z R) := by
  refine CT_of 0 rfl (Nat.le_of_ble_eq_true rfl) ?_
  show EX I_X6_songHere 0 0 none _ 0 [some (.ref (a + 0))] [] _ 0 0
  refine x_iconst dX6_songHere_0 ?_
  refine x_aload_n dX6_songHere_1 rfl ?_
  refine x_getfield 0 dX6_songHere_2 fg_X6_7 hP rfl rfl ?_
  refine x_iconst dX6_songHere_5 ?_
  refine x_iaload 1 (1) dX6_songHere_6 hP rfl ?_
  refine x_imul dX6_songHere_7 ?_
  refine x_aload_n dX6_songHere_8 rfl ?_
  refine x_getfield 0 dX6_songHere_9 fg_X6_7 hP rfl rfl ?_
  refine x_iconst dX6_songHere_12 ?_
  refine x_iaload 1 (2) dX6_songHere_13 hP rfl ?_
  refine x_iconst dX6_songHere_14 ?_
  refine x_icmp_ne 22 dX6_songHere_15 (fun h15 => ?_) (fun h15 => ?_) (ha := hR _)
  · refine x_iconst dX6_songHere_22 ?_
    refine x_iadd dX6_songHere_23 ?_
    exact x_iret dX6_songHere_24 (⟨by unfold mSong; split <;> first | rfl | (exfalso; omega), rfl⟩)
  · refine x_iconst dX6_songHere_18 ?_
    refine x_goto 23 dX6_songHere_19 ?_
    refine x_iadd dX6_songHere_23 ?_
    exact x_iret dX6_songHere_24 (⟨by unfold mSong; split <;> first | rfl | (exfalso; omega), rfl⟩)
set_option maxRecDepth 100000 in
set_option maxHeartbeats 4000000 in
theorem c_does {P : AW} {a : Nat} (hP : P.length = a) (fr : List Value) (z : Nat → Int) (R : AW) (x t : Int) : CTv I_X6_does 0 0 [.ref (a + 0), .int (iI x), .int (iI t)] (P ++ mz a fr z R) (fun w' => w' = P ++ mz a fr (mDoes z x t) R) := by
  refine CT_of 0 rfl (Nat.le_of_ble_eq_true rfl) ?_
  show EX I_X6_does 0 0 none _ 0 [some (.ref (a + 0)), some (.int (iI x)), some (.int (iI t))] [] _ 0 0
  refine x_aload_n dX6_does_0 rfl ?_
  refine x_getfield 0 dX6_does_1 fg_X6_7 hP rfl rfl ?_
  refine x_iconst dX6_does_4 ?_
  refine x_iload_n dX6_does_5 rfl ?_
  refine x_iastore 1 (3) dX6_does_6 hP rfl ?_
  refine x_aload_n dX6_does_7 rfl ?_
  refine x_getfield 0 dX6_does_8 fg_X6_7 hP rfl rfl ?_
  refine x_iconst dX6_does_11 ?_
  refine x_iload_n dX6_does_12 rfl ?_
  refine x_iastore 1 (4) dX6_does_13 hP rfl ?_
  exact x_vret dX6_does_14 (rfl)
set_option maxRecDepth 100000 in
set_option maxHeartbeats 4000000 in
theorem l_pinsIn {P : AW} {a : Nat} (hP : P.length = a) (fr : List Value) (z : Nat → Int) (R : AW) {Z : Zt} (hx : EX I_X6_pinsIn 0 0 none Z 28 [some (.ref (a + 0)), some (.int (iI (mPins z 20))), some (.int (iI ((20 : Nat) : Int)))] [] (P ++ mz a fr z R) 0 0) : ∀ (r s : Nat), s + r = 20 → EX I_X6_pinsIn 0 0 none Z 4 [some (.ref (a + 0)), some (.int (iI (mPins z s))), some (.int (iI ((s : Nat) : Int)))] [] (P ++ mz a fr z R) 0 0 := by
  intro r
  induction r with
  | zero =>
    intro s hs 
    have hs' : s = 20 := by omega
    subst hs'
    refine x_iload_n dX6_pinsIn_4 rfl ?_
    refine x_bipush dX6_pinsIn_5 ?_
    refine x_icmp_ge 28 dX6_pinsIn_7 (fun h7 => ?_) (fun h7 => by exfalso; omega)
    exact hx
  | succ r ih =>
    intro s hs 
    refine x_iload_n dX6_pinsIn_4 rfl ?_
    refine x_bipush dX6_pinsIn_5 ?_
    refine x_icmp_ge 28 dX6_pinsIn_7 (fun h7 => by exfalso; omega) (fun h7 => ?_)
    refine x_iload_n dX6_pinsIn_10 rfl ?_
    refine x_aload_n dX6_pinsIn_11 rfl ?_
    refine x_getfield 0 dX6_pinsIn_12 fg_X6_7 hP rfl rfl ?_
    refine x_bipush dX6_pinsIn_15 ?_
    refine x_iload_n dX6_pinsIn_17 rfl ?_
    refine x_iadd dX6_pinsIn_18 ?_
    refine x_iaload 1 (30 + s) dX6_pinsIn_19 hP rfl ?_
    refine x_iadd dX6_pinsIn_20 ?_
    refine x_ist1 dX6_pinsIn_21 ?_
    refine x_inc2 dX6_pinsIn_22 ?_
    refine x_goto 4 dX6_pinsIn_25 ?_
    exact ih (s + 1) (by omega)
set_option maxRecDepth 100000 in
set_option maxHeartbeats 4000000 in
theorem c_pinsIn {P : AW} {a : Nat} (hP : P.length = a) (fr : List Value) (z : Nat → Int) (R : AW) : CTi I_X6_pinsIn 0 0 [.ref (a + 0)] (P ++ mz a fr z R) (fun x w' => x = mPins z 20 ∧ w' = P ++ mz a fr z R) := by
  refine CT_of 2 rfl (Nat.le_of_ble_eq_true rfl) ?_
  show EX I_X6_pinsIn 0 0 none _ 0 [some (.ref (a + 0)), none, none] [] _ 0 0
  refine x_iconst dX6_pinsIn_0 ?_
  refine x_ist1 dX6_pinsIn_1 ?_
  refine x_iconst dX6_pinsIn_2 ?_
  refine x_ist2 dX6_pinsIn_3 ?_
  refine l_pinsIn hP fr z R ?_ 20 0 rfl
  refine x_iload_n dX6_pinsIn_28 rfl ?_
  exact x_iret dX6_pinsIn_29 (⟨rfl, rfl⟩)
set_option maxRecDepth 100000 in
set_option maxHeartbeats 4000000 in
theorem c_goOn {P : AW} {a : Nat} (hP : P.length = a) (fr : List Value) (z : Nat → Int) (R : AW) (hR : ∀ i, inR (z i)) (hp : inR (mPins z 20)) : CTv I_X6_goOn 0 0 [.ref (a + 0)] (P ++ mz a fr z R) (fun w' => w' = P ++ mz a fr (mGoOn z) R) := by
  refine CT_of 0 rfl (Nat.le_of_ble_eq_true rfl) ?_
  show EX I_X6_goOn 0 0 none _ 0 [some (.ref (a + 0))] [] _ 0 0
  refine x_aload_n dX6_goOn_0 rfl ?_
  refine x_calliV dX6_goOn_1 mk_X6_pinsIn ml_X6_82 (c_pinsIn hP fr z R) ((wg_app hP 0).trans rfl) rfl (fun x1 w1 h1 => ?_)
  obtain ⟨rfl, rfl⟩ := h1
  refine x_if_ne 16 dX6_goOn_4 (fun h4 => ?_) (fun h4 => ?_) (ha := hp)
  · refine x_aload_n dX6_goOn_16 rfl ?_
    refine x_getfield 0 dX6_goOn_17 fg_X6_7 hP rfl rfl ?_
    refine x_iconst dX6_goOn_20 ?_
    refine x_iaload 1 (2) dX6_goOn_21 hP rfl ?_
    refine x_iconst dX6_goOn_22 ?_
    refine x_icmp_ne 40 dX6_goOn_23 (fun h23 => ?_) (fun h23 => ?_) (ha := hR _)
    · refine x_aload_n dX6_goOn_40 rfl ?_
      refine x_getfield 0 dX6_goOn_41 fg_X6_7 hP rfl rfl ?_
      refine x_iconst dX6_goOn_44 ?_
      refine x_iaload 1 (1) dX6_goOn_45 hP rfl ?_
      refine x_if_ne 58 dX6_goOn_46 (fun h46 => ?_) (fun h46 => ?_) (ha := hR _)
      · refine x_aload_n dX6_goOn_58 rfl ?_
        refine x_iconst dX6_goOn_59 ?_
        refine x_iconst dX6_goOn_60 ?_
        refine x_callvV dX6_goOn_61 mk_X6_does ml_X6_85 (c_does hP fr _ R 1 3) ((wg_app hP 0).trans rfl) rfl (fun w61 h61 => ?_)
        subst h61
        exact x_vret dX6_goOn_64 (by unfold mGoOn; (repeat' split) <;> first | rfl | (exfalso; omega))
      · refine x_aload_n dX6_goOn_49 rfl ?_
        refine x_iconst dX6_goOn_50 ?_
        refine x_iconst dX6_goOn_51 ?_
        refine x_callvV dX6_goOn_52 mk_X6_does ml_X6_85 (c_does hP fr _ R 2 2) ((wg_app hP 0).trans rfl) rfl (fun w52 h52 => ?_)
        subst h52
        refine x_goto 64 dX6_goOn_55 ?_
        exact x_vret dX6_goOn_64 (by unfold mGoOn; (repeat' split) <;> first | rfl | (exfalso; omega))
    · refine x_aload_n dX6_goOn_26 rfl ?_
      refine x_getfield 0 dX6_goOn_27 fg_X6_7 hP rfl rfl ?_
      refine x_iconst dX6_goOn_30 ?_
      refine x_iaload 1 (1) dX6_goOn_31 hP rfl ?_
      refine x_bipush dX6_goOn_32 ?_
      refine x_icmp_ne 58 dX6_goOn_34 (fun h34 => ?_) (fun h34 => ?_) (ha := hR _)
      · refine x_aload_n dX6_goOn_58 rfl ?_
        refine x_iconst dX6_goOn_59 ?_
        refine x_iconst dX6_goOn_60 ?_
        refine x_callvV dX6_goOn_61 mk_X6_does ml_X6_85 (c_does hP fr _ R 1 3) ((wg_app hP 0).trans rfl) rfl (fun w61 h61 => ?_)
        subst h61
        exact x_vret dX6_goOn_64 (by unfold mGoOn; (repeat' split) <;> first | rfl | (exfalso; omega))
      · refine x_goto 49 dX6_goOn_37 ?_
        refine x_aload_n dX6_goOn_49 rfl ?_
        refine x_iconst dX6_goOn_50 ?_
        refine x_iconst dX6_goOn_51 ?_
        refine x_callvV dX6_goOn_52 mk_X6_does ml_X6_85 (c_does hP fr _ R 2 2) ((wg_app hP 0).trans rfl) rfl (fun w52 h52 => ?_)
        subst h52
        refine x_goto 64 dX6_goOn_55 ?_
        exact x_vret dX6_goOn_64 (by unfold mGoOn; (repeat' split) <;> first | rfl | (exfalso; omega))
  · refine x_aload_n dX6_goOn_7 rfl ?_
    refine x_iconst dX6_goOn_8 ?_
    refine x_iconst dX6_goOn_9 ?_
    refine x_callvV dX6_goOn_10 mk_X6_does ml_X6_85 (c_does hP fr _ R 0 0) ((wg_app hP 0).trans rfl) rfl (fun w10 h10 => ?_)
    subst h10
    refine x_goto 64 dX6_goOn_13 ?_
    exact x_vret dX6_goOn_64 (by unfold mGoOn; (repeat' split) <;> first | rfl | (exfalso; omega))
