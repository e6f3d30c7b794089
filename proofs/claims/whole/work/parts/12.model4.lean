/-! ===== the reference's calls over z: the answer r.., the state s.. ===== -/
def mPlaceOf (z : Nat → Int) (r : Int) : Nat → Int
  | 0 => -4
  | n + 1 => if z (20 + n) = r then (n : Int) else mPlaceOf z r n
def mEmpty (z : Nat → Int) : Nat → Int
  | 0 => 0
  | n + 1 => mEmpty z n + (if 0 ≤ z (20 + n) then 0 else 1)
def oRec (a b : Int) : Prop := 1 ≤ a ∧ a ≤ 60 ∧ 1 ≤ b ∧ b ≤ 60
def rRec (z : Nat → Int) (x y : Int) : Int := if 1 ≤ x ∧ x ≤ 60 ∧ 1 ≤ y ∧ y ≤ 60 then (if z 16 = 16 then -3 else z 16) else -1
def sRec (z : Nat → Int) (x y : Int) : Nat → Int := if (1 ≤ x ∧ x ≤ 60 ∧ 1 ≤ y ∧ y ≤ 60) ∧ ¬ z 16 = 16 then updI (updI (updI z (90 + (2 * z 16).toNat) x) (90 + (2 * z 16).toNat + 1) y) 16 (z 16 + 1) else z
def rChg (z : Nat → Int) (p r : Int) : Int := if 0 ≤ p ∧ p ≤ 9 ∧ (r = -1 ∨ (0 ≤ r ∧ r ≤ z 16 - 1)) then (if (z 1 = p ∧ 3 ≤ z 3) ∨ (0 ≤ r ∧ 0 ≤ mPlaceOf z r 10 ∧ ¬ mPlaceOf z r 10 = p) then -2 else z (20 + p.toNat)) else -1
def sChg (z : Nat → Int) (p r : Int) : Nat → Int := if (0 ≤ p ∧ p ≤ 9 ∧ (r = -1 ∨ (0 ≤ r ∧ r ≤ z 16 - 1))) ∧ ¬ ((z 1 = p ∧ 3 ≤ z 3) ∨ (0 ≤ r ∧ 0 ≤ mPlaceOf z r 10 ∧ ¬ mPlaceOf z r 10 = p)) then updI z (20 + p.toNat) (if 0 ≤ r then r else -4) else z
def rTold (z : Nat → Int) (r h : Int) : Int := if 0 ≤ r ∧ r ≤ z 16 - 1 then (if h = 0 then z (90 + (2 * r).toNat) else if h = 1 then z (90 + (2 * r).toNat + 1) else if h = 2 then z (122 + (2 * r).toNat) else if h = 3 then z (122 + (2 * r).toNat + 1) else if h = 4 then mPlaceOf z r 10 else -1) else -1
def rSong (z : Nat → Int) (s h : Int) : Int := if 0 ≤ s ∧ s ≤ 19 then (if h = 0 then z (30 + s.toNat) else if h = 1 then z (50 + s.toNat) else if h = 2 then z (70 + s.toNat) else if h = 3 then z (20 + (s / 2).toNat) else -1) else -1
def rStk (z : Nat → Int) (s h : Int) : Int := if 0 ≤ s ∧ s ≤ 19 ∧ 0 ≤ h ∧ h ≤ 2 then z (50 + s.toNat) else -1
def sStk (z : Nat → Int) (s h : Int) : Nat → Int := if 0 ≤ s ∧ s ≤ 19 ∧ 0 ≤ h ∧ h ≤ 2 then updI (updI z (50 + s.toNat) h) (30 + s.toNat) (if h = 1 then 1 else if h = 2 then 0 else z (30 + s.toNat)) else z
def oPri (p q m : Int) : Prop := 1 ≤ p ∧ p ≤ 99 ∧ p ≤ q ∧ q ≤ 999 ∧ 1 ≤ m ∧ m ≤ 20
def rPri (p q m : Int) : Int := if 1 ≤ p ∧ p ≤ 99 ∧ p ≤ q ∧ q ≤ 999 ∧ 1 ≤ m ∧ m ≤ 20 then 1 else -1
def sPri (z : Nat → Int) (p q m : Int) : Nat → Int := if 1 ≤ p ∧ p ≤ 99 ∧ p ≤ q ∧ q ≤ 999 ∧ 1 ≤ m ∧ m ≤ 20 then updI (updI (updI (updI z 11 p) 12 q) 13 m) 9 0 else z
def mOwes (z : Nat → Int) : Int := z 13 * (z 9 / z 12) + z 9 % z 12 / z 11
def mPaid (z : Nat → Int) (v : Int) : Nat → Int := updI (updI z 9 (z 9 + v)) 10 (z 10 + v)
def mDue (z : Nat → Int) (v : Int) : Int := if mOwes (mPaid z v) ≤ mOwes z then 0 else mOwes (mPaid z v) - mOwes z
def rCoin (z : Nat → Int) (v : Int) : Int := if 1 ≤ v ∧ v ≤ 99 then z 7 + mDue z v else -1
def sCoin (z : Nat → Int) (v : Int) : Nat → Int := if 1 ≤ v ∧ v ≤ 99 then updI (mPaid z v) 7 (z 7 + mDue z v) else z
def rSet (z : Nat → Int) (h v : Int) : Int := if h = 0 ∧ 0 ≤ v ∧ v ≤ 1 then z 14 else if h = 1 ∧ 1 ≤ v ∧ v ≤ 99 then z 15 else -1
def sSet (z : Nat → Int) (h v : Int) : Nat → Int := if h = 0 ∧ 0 ≤ v ∧ v ≤ 1 then updI z 14 v else if h = 1 ∧ 1 ≤ v ∧ v ≤ 99 then updI z 15 v else z
def rKey (z : Nat → Int) (s : Int) : Int := if 0 ≤ s ∧ s ≤ 19 then (if z 7 = 0 then -2 else if z (30 + s.toNat) = 0 ∧ z (50 + s.toNat) = 0 then z 7 - 1 else if z 14 = 1 then -2 else z 7 - 1) else -1
def sKey (z : Nat → Int) (s : Int) : Nat → Int := if 0 ≤ s ∧ s ≤ 19 then (if z 7 = 0 then z else if z (30 + s.toNat) = 0 ∧ z (50 + s.toNat) = 0 then updI (updI (updI z (30 + s.toNat) 1) 8 (z 8 + 0)) 7 (z 7 - 1) else if z 14 = 1 then z else updI (updI (updI z (30 + s.toNat) (z (30 + s.toNat))) 8 (z 8 + 1)) 7 (z 7 - 1)) else z
def mTicks (z : Nat → Int) : Nat → (Nat → Int)
  | 0 => z
  | n + 1 => mTick (mTicks z n)
def rTks (z : Nat → Int) (n : Int) : Int := if 1 ≤ n ∧ n ≤ 2000 then (if z 0 + n ≤ 1000000 then mTicks z n.toNat 0 else -3) else -1
def sTks (z : Nat → Int) (n : Int) : Nat → Int := if (1 ≤ n ∧ n ≤ 2000) ∧ z 0 + n ≤ 1000000 then mTicks z n.toNat else z
def rCar (z : Nat → Int) (h : Int) : Int := if 0 ≤ h ∧ h ≤ 3 then z (1 + h.toNat) else -1
def rCnt (z : Nat → Int) (h : Int) : Int := if h = 0 then z 16 else if h = 1 then mPins z 20 else if h = 2 then z 7 else if h = 3 then z 8 else if h = 4 then z 10 else if h = 5 then z 5 else if h = 6 then z 6 else if h = 7 then z 0 else if h = 8 then mEmpty z 10 else -1
set_option maxRecDepth 100000 in
set_option maxHeartbeats 4000000 in
theorem c_record {P : AW} {a : Nat} (hP : P.length = a) (fr : List Value) (z : Nat → Int) (R : AW) (hR : ∀ i, inR (z i)) (u v : Int) (hiu : inR u) (hiv : inR v) (hm : 0 ≤ z 16 ∧ z 16 ≤ 16) : CTi I_X6_record 0 0 [.ref (a + 0), .int (iI u), .int (iI v)] (P ++ mz a fr z R) (fun x w' => x = rRec z u v ∧ w' = P ++ mz a fr (sRec z u v) R) := by
  refine CT_of 0 rfl (Nat.le_of_ble_eq_true rfl) ?_
  show EX I_X6_record 0 0 none _ 0 [some (.ref (a + 0)), some (.int (iI u)), some (.int (iI v))] [] _ 0 0
  refine x_iload_n dX6_record_0 rfl ?_
  refine x_i2l dX6_record_1 ?_
  refine x_lconst dX6_record_2 ?_
  refine x_ldc2 dX6_record_3 kl_X6_51 ?_
  refine x_calliS dX6_record_6 mk_X6_in ml_X6_43 (c_in _ u 1 60 hiu (by decide) (by decide)) rfl (fun x6 w6 h6 => ?_)
  obtain ⟨hb6, rfl⟩ := h6
  by_cases c6 : 1 ≤ u ∧ u ≤ 60
  · rw [if_pos c6] at hb6
    subst hb6
    refine x_if_eq 24 dX6_record_9 (fun h9 => absurd h9 (by decide)) (fun h9 => ?_)
    refine x_iload_n dX6_record_12 rfl ?_
    refine x_i2l dX6_record_13 ?_
    refine x_lconst dX6_record_14 ?_
    refine x_ldc2 dX6_record_15 kl_X6_51 ?_
    refine x_calliS dX6_record_18 mk_X6_in ml_X6_43 (c_in _ v 1 60 hiv (by decide) (by decide)) rfl (fun x18 w18 h18 => ?_)
    obtain ⟨hb18, rfl⟩ := h18
    by_cases c18 : 1 ≤ v ∧ v ≤ 60
    · rw [if_pos c18] at hb18
      subst hb18
      refine x_if_ne 26 dX6_record_21 (fun h21 => ?_) (fun h21 => absurd h21 (by decide))
      refine x_aload_n dX6_record_26 rfl ?_
      refine x_getfield 0 dX6_record_27 fg_X6_7 hP rfl rfl ?_
      refine x_bipush dX6_record_30 ?_
      refine x_iaload 1 (16) dX6_record_32 hP rfl ?_
      refine x_bipush dX6_record_33 ?_
      refine x_icmp_ne 41 dX6_record_35 (fun h35 => ?_) (fun h35 => ?_) (ha := hR _)
      · refine x_aload_n dX6_record_41 rfl ?_
        refine x_getfield 0 dX6_record_42 fg_X6_7 hP rfl rfl ?_
        refine x_bipush dX6_record_45 ?_
        refine x_iconst dX6_record_47 ?_
        refine x_aload_n dX6_record_48 rfl ?_
        refine x_getfield 0 dX6_record_49 fg_X6_7 hP rfl rfl ?_
        refine x_bipush dX6_record_52 ?_
        refine x_iaload 1 (16) dX6_record_54 hP rfl ?_
        refine x_imul dX6_record_55 ?_
        refine x_iadd dX6_record_56 ?_
        refine x_iload_n dX6_record_57 rfl ?_
        refine x_iastore 1 (90 + (2 * z 16).toNat) dX6_record_58 hP rfl ?_
        refine x_aload_n dX6_record_59 rfl ?_
        refine x_getfield 0 dX6_record_60 fg_X6_7 hP rfl rfl ?_
        refine x_bipush dX6_record_63 ?_
        refine x_iconst dX6_record_65 ?_
        refine x_aload_n dX6_record_66 rfl ?_
        refine x_getfield 0 dX6_record_67 fg_X6_7 hP rfl rfl ?_
        refine x_bipush dX6_record_70 ?_
        refine x_iaload 1 (16) dX6_record_72 hP rfl ?_
        refine x_top (updI_n (by omega)) ?_
        refine x_imul dX6_record_73 ?_
        refine x_iadd dX6_record_74 ?_
        refine x_iconst dX6_record_75 ?_
        refine x_iadd dX6_record_76 ?_
        refine x_iload_n dX6_record_77 rfl ?_
        refine x_iastore 1 (90 + (2 * z 16).toNat + 1) dX6_record_78 hP rfl ?_
        refine x_aload_n dX6_record_79 rfl ?_
        refine x_getfield 0 dX6_record_80 fg_X6_7 hP rfl rfl ?_
        refine x_bipush dX6_record_83 ?_
        refine x_dup2 dX6_record_85 ?_
        refine x_iaload 1 (16) dX6_record_86 hP rfl ?_
        refine x_top ((updI_n (by omega)).trans (updI_n (by omega))) ?_
        refine x_iconst dX6_record_87 ?_
        refine x_iadd dX6_record_88 ?_
        refine x_iastore 1 (16) dX6_record_89 hP rfl ?_
        refine x_aload_n dX6_record_90 rfl ?_
        refine x_getfield 0 dX6_record_91 fg_X6_7 hP rfl rfl ?_
        refine x_bipush dX6_record_94 ?_
        refine x_iaload 1 (16) dX6_record_96 hP rfl ?_
        refine x_top (updI_e _ _ _) ?_
        refine x_iconst dX6_record_97 ?_
        refine x_isub dX6_record_98 ?_
        exact x_iret dX6_record_99 (⟨by unfold rRec; (repeat' split) <;> first | rfl | omega | (exfalso; omega), by unfold sRec; (repeat' split) <;> first | rfl | (exfalso; omega)⟩)
      · refine x_bipush dX6_record_38 ?_
        exact x_iret dX6_record_40 (⟨by unfold rRec; (repeat' split) <;> first | rfl | omega | (exfalso; omega), by unfold sRec; (repeat' split) <;> first | rfl | (exfalso; omega)⟩)
    · rw [if_neg c18] at hb18
      subst hb18
      refine x_if_ne 26 dX6_record_21 (fun h21 => absurd h21 (by decide)) (fun h21 => ?_)
      refine x_iconst dX6_record_24 ?_
      exact x_iret dX6_record_25 (⟨by unfold rRec; (repeat' split) <;> first | rfl | omega | (exfalso; omega), by unfold sRec; (repeat' split) <;> first | rfl | (exfalso; omega)⟩)
  · rw [if_neg c6] at hb6
    subst hb6
    refine x_if_eq 24 dX6_record_9 (fun h9 => ?_) (fun h9 => absurd h9 (by decide))
    refine x_iconst dX6_record_24 ?_
    exact x_iret dX6_record_25 (⟨by unfold rRec; (repeat' split) <;> first | rfl | omega | (exfalso; omega), by unfold sRec; (repeat' split) <;> first | rfl | (exfalso; omega)⟩)
set_option maxRecDepth 100000 in
set_option maxHeartbeats 4000000 in
theorem l_placeOf {P : AW} {a : Nat} (hP : P.length = a) (fr : List Value) (z : Nat → Int) (R : AW) (hR : ∀ i, inR (z i)) (r : Int) (hir : inR r) {Z : Zt} (hx : EX I_X6_placeOf 0 0 none Z 36 [some (.ref (a + 0)), some (.int (iI r)), some (.int (iI (mPlaceOf z r 10))), some (.int (iI ((10 : Nat) : Int)))] [] (P ++ mz a fr z R) 0 0) : ∀ (n s : Nat), s + n = 10 → EX I_X6_placeOf 0 0 none Z 5 [some (.ref (a + 0)), some (.int (iI r)), some (.int (iI (mPlaceOf z r s))), some (.int (iI ((s : Nat) : Int)))] [] (P ++ mz a fr z R) 0 0 := by
  intro n
  induction n with
  | zero =>
    intro s hs
    have hs' : s = 10 := by omega
    subst hs'
    refine x_iload_n dX6_placeOf_5 rfl ?_
    refine x_bipush dX6_placeOf_6 ?_
    refine x_icmp_ge 36 dX6_placeOf_8 (fun h8 => ?_) (fun h8 => by exfalso; omega)
    exact hx
  | succ n ih =>
    intro s hs
    refine x_iload_n dX6_placeOf_5 rfl ?_
    refine x_bipush dX6_placeOf_6 ?_
    refine x_icmp_ge 36 dX6_placeOf_8 (fun h8 => by exfalso; omega) (fun h8 => ?_)
    refine x_aload_n dX6_placeOf_11 rfl ?_
    refine x_getfield 0 dX6_placeOf_12 fg_X6_7 hP rfl rfl ?_
    refine x_bipush dX6_placeOf_15 ?_
    refine x_iload_n dX6_placeOf_17 rfl ?_
    refine x_iadd dX6_placeOf_18 ?_
    refine x_iaload 1 (20 + s) dX6_placeOf_19 hP rfl ?_
    refine x_iload_n dX6_placeOf_20 rfl ?_
    refine x_icmp_ne 28 dX6_placeOf_21 (fun h21 => ?_) (fun h21 => ?_) (ha := hR _)
    · refine x_iload_n dX6_placeOf_28 rfl ?_
      refine x_ist2 dX6_placeOf_29 ?_
      refine x_inc3 dX6_placeOf_30 ?_
      refine x_goto 5 dX6_placeOf_33 ?_
      have hq : mPlaceOf z r (s + 1) = mPlaceOf z r s := if_neg h21
      have := ih (s + 1) (by omega)
      rw [hq] at this
      exact this
    · refine x_iload_n dX6_placeOf_24 rfl ?_
      refine x_goto 29 dX6_placeOf_25 ?_
      refine x_ist2 dX6_placeOf_29 ?_
      refine x_inc3 dX6_placeOf_30 ?_
      refine x_goto 5 dX6_placeOf_33 ?_
      have hq : mPlaceOf z r (s + 1) = (s : Int) := if_pos h21
      have := ih (s + 1) (by omega)
      rw [hq] at this
      exact this
set_option maxRecDepth 100000 in
set_option maxHeartbeats 4000000 in
theorem c_placeOf {P : AW} {a : Nat} (hP : P.length = a) (fr : List Value) (z : Nat → Int) (R : AW) (hR : ∀ i, inR (z i)) (r : Int) (hir : inR r) : CTi I_X6_placeOf 0 0 [.ref (a + 0), .int (iI r)] (P ++ mz a fr z R) (fun x w' => x = mPlaceOf z r 10 ∧ w' = P ++ mz a fr z R) := by
  refine CT_of 2 rfl (Nat.le_of_ble_eq_true rfl) ?_
  show EX I_X6_placeOf 0 0 none _ 0 [some (.ref (a + 0)), some (.int (iI r)), none, none] [] _ 0 0
  refine x_bipush dX6_placeOf_0 ?_
  refine x_ist2 dX6_placeOf_2 ?_
  refine x_iconst dX6_placeOf_3 ?_
  refine x_ist3 dX6_placeOf_4 ?_
  refine l_placeOf hP fr z R hR r hir ?_ 10 0 rfl
  refine x_iload_n dX6_placeOf_36 rfl ?_
  exact x_iret dX6_placeOf_37 (⟨rfl, rfl⟩)
theorem mPlaceOf_b (z : Nat → Int) (r : Int) : ∀ n, mPlaceOf z r n = -4 ∨ (0 ≤ mPlaceOf z r n ∧ mPlaceOf z r n < n)
  | 0 => Or.inl rfl
  | n + 1 => by
    have h := mPlaceOf_b z r n
    unfold mPlaceOf
    split <;> omega
theorem mEmpty_b (z : Nat → Int) : ∀ n : Nat, 0 ≤ mEmpty z n ∧ mEmpty z n ≤ n
  | 0 => by simp [mEmpty]
  | n + 1 => by
    have h := mEmpty_b z n
    unfold mEmpty
    split <;> omega
set_option maxRecDepth 100000 in
set_option maxHeartbeats 4000000 in
theorem c_change {P : AW} {a : Nat} (hP : P.length = a) (fr : List Value) (z : Nat → Int) (R : AW) (hR : ∀ i, inR (z i)) (p r : Int) (hip : inR p) (hir : inR r) (hm : 0 ≤ z 16 ∧ z 16 ≤ 16) : CTi I_X6_change 0 0 [.ref (a + 0), .int (iI p), .int (iI r)] (P ++ mz a fr z R) (fun x w' => x = rChg z p r ∧ w' = P ++ mz a fr (sChg z p r) R) := by
  have hpo := mPlaceOf_b z r 10
  refine CT_of 2 rfl (Nat.le_of_ble_eq_true rfl) ?_
  show EX I_X6_change 0 0 none _ 0 [some (.ref (a + 0)), some (.int (iI p)), some (.int (iI r)), none, none] [] _ 0 0
  refine x_iload_n dX6_change_0 rfl ?_
  refine x_calliS dX6_change_1 mk_X6_isPlace ml_X6_53 (c_isPlace _ p hip) rfl (fun x1 w1 h1 => ?_)
  obtain ⟨hb1, rfl⟩ := h1
  by_cases c1 : 0 ≤ p ∧ p ≤ 9
  · rw [if_pos c1] at hb1
    subst hb1
    refine x_if_eq 20 dX6_change_4 (fun h4 => absurd h4 (by decide)) (fun h4 => ?_)
    refine x_iload_n dX6_change_7 rfl ?_
    refine x_iconst dX6_change_8 ?_
    refine x_icmp_eq 22 dX6_change_9 (fun h9 => ?_) (fun h9 => ?_)
    · refine x_iload_n dX6_change_22 rfl ?_
      refine x_if_ge 31 dX6_change_23 (fun h23 => ?_) (fun h23 => ?_)
      · refine x_aload_n dX6_change_31 rfl ?_
        refine x_iload_n dX6_change_32 rfl ?_
        refine x_calliV dX6_change_33 mk_X6_placeOf ml_X6_60 (c_placeOf hP fr z R hR r hir) ((wg_app hP 0).trans rfl) rfl (fun x33 w33 h33 => ?_)
        obtain ⟨rfl, rfl⟩ := h33
        refine x_ist3 dX6_change_36 ?_
        refine x_aload_n dX6_change_37 rfl ?_
        refine x_iload_n dX6_change_38 rfl ?_
        refine x_calliV dX6_change_39 mk_X6_isOut ml_X6_64 (c_isOut hP fr z R hR p hip) ((wg_app hP 0).trans rfl) rfl (fun x39 w39 h39 => ?_)
        obtain ⟨hb39, rfl⟩ := h39
        by_cases c39 : z 1 = p ∧ 3 ≤ z 3
        · rw [if_pos c39] at hb39
          subst hb39
          refine x_if_ne 54 dX6_change_42 (fun h42 => ?_) (fun h42 => absurd h42 (by decide))
          refine x_bipush dX6_change_54 ?_
          exact x_iret dX6_change_56 (⟨by unfold rChg; (repeat' split) <;> first | rfl | omega | (exfalso; omega), by unfold sChg; (repeat' split) <;> first | rfl | (exfalso; omega)⟩)
        · rw [if_neg c39] at hb39
          subst hb39
          refine x_if_ne 54 dX6_change_42 (fun h42 => absurd h42 (by decide)) (fun h42 => ?_)
          refine x_iload_n dX6_change_45 rfl ?_
          refine x_if_lt 57 dX6_change_46 (fun h46 => ?_) (fun h46 => ?_)
          · refine x_aload_n dX6_change_57 rfl ?_
            refine x_getfield 0 dX6_change_58 fg_X6_7 hP rfl rfl ?_
            refine x_bipush dX6_change_61 ?_
            refine x_iload_n dX6_change_63 rfl ?_
            refine x_iadd dX6_change_64 ?_
            refine x_iaload 1 (20 + p.toNat) dX6_change_65 hP rfl ?_
            refine x_ist4 dX6_change_66 ?_
            refine x_aload_n dX6_change_68 rfl ?_
            refine x_getfield 0 dX6_change_69 fg_X6_7 hP rfl rfl ?_
            refine x_bipush dX6_change_72 ?_
            refine x_iload_n dX6_change_74 rfl ?_
            refine x_iadd dX6_change_75 ?_
            refine x_iload_n dX6_change_76 rfl ?_
            refine x_if_ge 85 dX6_change_77 (fun h77 => ?_) (fun h77 => ?_)
            · refine x_iload_n dX6_change_85 rfl ?_
              refine x_iastore 1 (20 + p.toNat) dX6_change_86 hP rfl ?_
              refine x_iload dX6_change_87 rfl ?_
              exact x_iret dX6_change_89 (⟨by unfold rChg; (repeat' split) <;> first | rfl | omega | (exfalso; omega), by unfold sChg; (repeat' split) <;> first | rfl | (exfalso; omega)⟩)
            · refine x_bipush dX6_change_80 ?_
              refine x_goto 86 dX6_change_82 ?_
              refine x_iastore 1 (20 + p.toNat) dX6_change_86 hP rfl ?_
              refine x_iload dX6_change_87 rfl ?_
              exact x_iret dX6_change_89 (⟨by unfold rChg; (repeat' split) <;> first | rfl | omega | (exfalso; omega), by unfold sChg; (repeat' split) <;> first | rfl | (exfalso; omega)⟩)
          · refine x_iload_n dX6_change_49 rfl ?_
            refine x_iload_n dX6_change_50 rfl ?_
            refine x_icmp_eq 57 dX6_change_51 (fun h51 => ?_) (fun h51 => ?_)
            · refine x_aload_n dX6_change_57 rfl ?_
              refine x_getfield 0 dX6_change_58 fg_X6_7 hP rfl rfl ?_
              refine x_bipush dX6_change_61 ?_
              refine x_iload_n dX6_change_63 rfl ?_
              refine x_iadd dX6_change_64 ?_
              refine x_iaload 1 (20 + p.toNat) dX6_change_65 hP rfl ?_
              refine x_ist4 dX6_change_66 ?_
              refine x_aload_n dX6_change_68 rfl ?_
              refine x_getfield 0 dX6_change_69 fg_X6_7 hP rfl rfl ?_
              refine x_bipush dX6_change_72 ?_
              refine x_iload_n dX6_change_74 rfl ?_
              refine x_iadd dX6_change_75 ?_
              refine x_iload_n dX6_change_76 rfl ?_
              refine x_if_ge 85 dX6_change_77 (fun h77 => ?_) (fun h77 => ?_)
              · refine x_iload_n dX6_change_85 rfl ?_
                refine x_iastore 1 (20 + p.toNat) dX6_change_86 hP rfl ?_
                refine x_iload dX6_change_87 rfl ?_
                exact x_iret dX6_change_89 (⟨by unfold rChg; (repeat' split) <;> first | rfl | omega | (exfalso; omega), by unfold sChg; (repeat' split) <;> first | rfl | (exfalso; omega)⟩)
              · refine x_bipush dX6_change_80 ?_
                refine x_goto 86 dX6_change_82 ?_
                refine x_iastore 1 (20 + p.toNat) dX6_change_86 hP rfl ?_
                refine x_iload dX6_change_87 rfl ?_
                exact x_iret dX6_change_89 (⟨by unfold rChg; (repeat' split) <;> first | rfl | omega | (exfalso; omega), by unfold sChg; (repeat' split) <;> first | rfl | (exfalso; omega)⟩)
            · refine x_bipush dX6_change_54 ?_
              exact x_iret dX6_change_56 (⟨by unfold rChg; (repeat' split) <;> first | rfl | omega | (exfalso; omega), by unfold sChg; (repeat' split) <;> first | rfl | (exfalso; omega)⟩)
      · refine x_bipush dX6_change_26 ?_
        refine x_goto 36 dX6_change_28 ?_
        refine x_ist3 dX6_change_36 ?_
        refine x_aload_n dX6_change_37 rfl ?_
        refine x_iload_n dX6_change_38 rfl ?_
        refine x_calliV dX6_change_39 mk_X6_isOut ml_X6_64 (c_isOut hP fr z R hR p hip) ((wg_app hP 0).trans rfl) rfl (fun x39 w39 h39 => ?_)
        obtain ⟨hb39, rfl⟩ := h39
        by_cases c39 : z 1 = p ∧ 3 ≤ z 3
        · rw [if_pos c39] at hb39
          subst hb39
          refine x_if_ne 54 dX6_change_42 (fun h42 => ?_) (fun h42 => absurd h42 (by decide))
          refine x_bipush dX6_change_54 ?_
          exact x_iret dX6_change_56 (⟨by unfold rChg; (repeat' split) <;> first | rfl | omega | (exfalso; omega), by unfold sChg; (repeat' split) <;> first | rfl | (exfalso; omega)⟩)
        · rw [if_neg c39] at hb39
          subst hb39
          refine x_if_ne 54 dX6_change_42 (fun h42 => absurd h42 (by decide)) (fun h42 => ?_)
          refine x_iload_n dX6_change_45 rfl ?_
          refine x_if_lt 57 dX6_change_46 (fun h46 => ?_) (fun h46 => absurd h46 (by decide))
          refine x_aload_n dX6_change_57 rfl ?_
          refine x_getfield 0 dX6_change_58 fg_X6_7 hP rfl rfl ?_
          refine x_bipush dX6_change_61 ?_
          refine x_iload_n dX6_change_63 rfl ?_
          refine x_iadd dX6_change_64 ?_
          refine x_iaload 1 (20 + p.toNat) dX6_change_65 hP rfl ?_
          refine x_ist4 dX6_change_66 ?_
          refine x_aload_n dX6_change_68 rfl ?_
          refine x_getfield 0 dX6_change_69 fg_X6_7 hP rfl rfl ?_
          refine x_bipush dX6_change_72 ?_
          refine x_iload_n dX6_change_74 rfl ?_
          refine x_iadd dX6_change_75 ?_
          refine x_iload_n dX6_change_76 rfl ?_
          refine x_if_ge 85 dX6_change_77 (fun h77 => ?_) (fun h77 => ?_)
          · refine x_iload_n dX6_change_85 rfl ?_
            refine x_iastore 1 (20 + p.toNat) dX6_change_86 hP rfl ?_
            refine x_iload dX6_change_87 rfl ?_
            exact x_iret dX6_change_89 (⟨by unfold rChg; (repeat' split) <;> first | rfl | omega | (exfalso; omega), by unfold sChg; (repeat' split) <;> first | rfl | (exfalso; omega)⟩)
          · refine x_bipush dX6_change_80 ?_
            refine x_goto 86 dX6_change_82 ?_
            refine x_iastore 1 (20 + p.toNat) dX6_change_86 hP rfl ?_
            refine x_iload dX6_change_87 rfl ?_
            exact x_iret dX6_change_89 (⟨by unfold rChg; (repeat' split) <;> first | rfl | omega | (exfalso; omega), by unfold sChg; (repeat' split) <;> first | rfl | (exfalso; omega)⟩)
    · refine x_aload_n dX6_change_12 rfl ?_
      refine x_iload_n dX6_change_13 rfl ?_
      refine x_calliV dX6_change_14 mk_X6_isRecord ml_X6_57 (c_isRecord hP fr z R r hir hm) ((wg_app hP 0).trans rfl) rfl (fun x14 w14 h14 => ?_)
      obtain ⟨hb14, rfl⟩ := h14
      by_cases c14 : 0 ≤ r ∧ r ≤ z 16 - 1
      · rw [if_pos c14] at hb14
        subst hb14
        refine x_if_ne 22 dX6_change_17 (fun h17 => ?_) (fun h17 => absurd h17 (by decide))
        refine x_iload_n dX6_change_22 rfl ?_
        refine x_if_ge 31 dX6_change_23 (fun h23 => ?_) (fun h23 => ?_)
        · refine x_aload_n dX6_change_31 rfl ?_
          refine x_iload_n dX6_change_32 rfl ?_
          refine x_calliV dX6_change_33 mk_X6_placeOf ml_X6_60 (c_placeOf hP fr z R hR r hir) ((wg_app hP 0).trans rfl) rfl (fun x33 w33 h33 => ?_)
          obtain ⟨rfl, rfl⟩ := h33
          refine x_ist3 dX6_change_36 ?_
          refine x_aload_n dX6_change_37 rfl ?_
          refine x_iload_n dX6_change_38 rfl ?_
          refine x_calliV dX6_change_39 mk_X6_isOut ml_X6_64 (c_isOut hP fr z R hR p hip) ((wg_app hP 0).trans rfl) rfl (fun x39 w39 h39 => ?_)
          obtain ⟨hb39, rfl⟩ := h39
          by_cases c39 : z 1 = p ∧ 3 ≤ z 3
          · rw [if_pos c39] at hb39
            subst hb39
            refine x_if_ne 54 dX6_change_42 (fun h42 => ?_) (fun h42 => absurd h42 (by decide))
            refine x_bipush dX6_change_54 ?_
            exact x_iret dX6_change_56 (⟨by unfold rChg; (repeat' split) <;> first | rfl | omega | (exfalso; omega), by unfold sChg; (repeat' split) <;> first | rfl | (exfalso; omega)⟩)
          · rw [if_neg c39] at hb39
            subst hb39
            refine x_if_ne 54 dX6_change_42 (fun h42 => absurd h42 (by decide)) (fun h42 => ?_)
            refine x_iload_n dX6_change_45 rfl ?_
            refine x_if_lt 57 dX6_change_46 (fun h46 => ?_) (fun h46 => ?_)
            · refine x_aload_n dX6_change_57 rfl ?_
              refine x_getfield 0 dX6_change_58 fg_X6_7 hP rfl rfl ?_
              refine x_bipush dX6_change_61 ?_
              refine x_iload_n dX6_change_63 rfl ?_
              refine x_iadd dX6_change_64 ?_
              refine x_iaload 1 (20 + p.toNat) dX6_change_65 hP rfl ?_
              refine x_ist4 dX6_change_66 ?_
              refine x_aload_n dX6_change_68 rfl ?_
              refine x_getfield 0 dX6_change_69 fg_X6_7 hP rfl rfl ?_
              refine x_bipush dX6_change_72 ?_
              refine x_iload_n dX6_change_74 rfl ?_
              refine x_iadd dX6_change_75 ?_
              refine x_iload_n dX6_change_76 rfl ?_
              refine x_if_ge 85 dX6_change_77 (fun h77 => ?_) (fun h77 => ?_)
              · refine x_iload_n dX6_change_85 rfl ?_
                refine x_iastore 1 (20 + p.toNat) dX6_change_86 hP rfl ?_
                refine x_iload dX6_change_87 rfl ?_
                exact x_iret dX6_change_89 (⟨by unfold rChg; (repeat' split) <;> first | rfl | omega | (exfalso; omega), by unfold sChg; (repeat' split) <;> first | rfl | (exfalso; omega)⟩)
              · refine x_bipush dX6_change_80 ?_
                refine x_goto 86 dX6_change_82 ?_
                refine x_iastore 1 (20 + p.toNat) dX6_change_86 hP rfl ?_
                refine x_iload dX6_change_87 rfl ?_
                exact x_iret dX6_change_89 (⟨by unfold rChg; (repeat' split) <;> first | rfl | omega | (exfalso; omega), by unfold sChg; (repeat' split) <;> first | rfl | (exfalso; omega)⟩)
            · refine x_iload_n dX6_change_49 rfl ?_
              refine x_iload_n dX6_change_50 rfl ?_
              refine x_icmp_eq 57 dX6_change_51 (fun h51 => ?_) (fun h51 => ?_)
              · refine x_aload_n dX6_change_57 rfl ?_
                refine x_getfield 0 dX6_change_58 fg_X6_7 hP rfl rfl ?_
                refine x_bipush dX6_change_61 ?_
                refine x_iload_n dX6_change_63 rfl ?_
                refine x_iadd dX6_change_64 ?_
                refine x_iaload 1 (20 + p.toNat) dX6_change_65 hP rfl ?_
                refine x_ist4 dX6_change_66 ?_
                refine x_aload_n dX6_change_68 rfl ?_
                refine x_getfield 0 dX6_change_69 fg_X6_7 hP rfl rfl ?_
                refine x_bipush dX6_change_72 ?_
                refine x_iload_n dX6_change_74 rfl ?_
                refine x_iadd dX6_change_75 ?_
                refine x_iload_n dX6_change_76 rfl ?_
                refine x_if_ge 85 dX6_change_77 (fun h77 => ?_) (fun h77 => ?_)
                · refine x_iload_n dX6_change_85 rfl ?_
                  refine x_iastore 1 (20 + p.toNat) dX6_change_86 hP rfl ?_
                  refine x_iload dX6_change_87 rfl ?_
                  exact x_iret dX6_change_89 (⟨by unfold rChg; (repeat' split) <;> first | rfl | omega | (exfalso; omega), by unfold sChg; (repeat' split) <;> first | rfl | (exfalso; omega)⟩)
                · refine x_bipush dX6_change_80 ?_
                  refine x_goto 86 dX6_change_82 ?_
                  refine x_iastore 1 (20 + p.toNat) dX6_change_86 hP rfl ?_
                  refine x_iload dX6_change_87 rfl ?_
                  exact x_iret dX6_change_89 (⟨by unfold rChg; (repeat' split) <;> first | rfl | omega | (exfalso; omega), by unfold sChg; (repeat' split) <;> first | rfl | (exfalso; omega)⟩)
              · refine x_bipush dX6_change_54 ?_
                exact x_iret dX6_change_56 (⟨by unfold rChg; (repeat' split) <;> first | rfl | omega | (exfalso; omega), by unfold sChg; (repeat' split) <;> first | rfl | (exfalso; omega)⟩)
        · refine x_bipush dX6_change_26 ?_
          refine x_goto 36 dX6_change_28 ?_
          refine x_ist3 dX6_change_36 ?_
          refine x_aload_n dX6_change_37 rfl ?_
          refine x_iload_n dX6_change_38 rfl ?_
          refine x_calliV dX6_change_39 mk_X6_isOut ml_X6_64 (c_isOut hP fr z R hR p hip) ((wg_app hP 0).trans rfl) rfl (fun x39 w39 h39 => ?_)
          obtain ⟨hb39, rfl⟩ := h39
          by_cases c39 : z 1 = p ∧ 3 ≤ z 3
          · rw [if_pos c39] at hb39
            subst hb39
            refine x_if_ne 54 dX6_change_42 (fun h42 => ?_) (fun h42 => absurd h42 (by decide))
            refine x_bipush dX6_change_54 ?_
            exact x_iret dX6_change_56 (⟨by unfold rChg; (repeat' split) <;> first | rfl | omega | (exfalso; omega), by unfold sChg; (repeat' split) <;> first | rfl | (exfalso; omega)⟩)
          · rw [if_neg c39] at hb39
            subst hb39
            refine x_if_ne 54 dX6_change_42 (fun h42 => absurd h42 (by decide)) (fun h42 => ?_)
            refine x_iload_n dX6_change_45 rfl ?_
            refine x_if_lt 57 dX6_change_46 (fun h46 => ?_) (fun h46 => absurd h46 (by decide))
            refine x_aload_n dX6_change_57 rfl ?_
            refine x_getfield 0 dX6_change_58 fg_X6_7 hP rfl rfl ?_
            refine x_bipush dX6_change_61 ?_
            refine x_iload_n dX6_change_63 rfl ?_
            refine x_iadd dX6_change_64 ?_
            refine x_iaload 1 (20 + p.toNat) dX6_change_65 hP rfl ?_
            refine x_ist4 dX6_change_66 ?_
            refine x_aload_n dX6_change_68 rfl ?_
            refine x_getfield 0 dX6_change_69 fg_X6_7 hP rfl rfl ?_
            refine x_bipush dX6_change_72 ?_
            refine x_iload_n dX6_change_74 rfl ?_
            refine x_iadd dX6_change_75 ?_
            refine x_iload_n dX6_change_76 rfl ?_
            refine x_if_ge 85 dX6_change_77 (fun h77 => ?_) (fun h77 => ?_)
            · refine x_iload_n dX6_change_85 rfl ?_
              refine x_iastore 1 (20 + p.toNat) dX6_change_86 hP rfl ?_
              refine x_iload dX6_change_87 rfl ?_
              exact x_iret dX6_change_89 (⟨by unfold rChg; (repeat' split) <;> first | rfl | omega | (exfalso; omega), by unfold sChg; (repeat' split) <;> first | rfl | (exfalso; omega)⟩)
            · refine x_bipush dX6_change_80 ?_
              refine x_goto 86 dX6_change_82 ?_
              refine x_iastore 1 (20 + p.toNat) dX6_change_86 hP rfl ?_
              refine x_iload dX6_change_87 rfl ?_
              exact x_iret dX6_change_89 (⟨by unfold rChg; (repeat' split) <;> first | rfl | omega | (exfalso; omega), by unfold sChg; (repeat' split) <;> first | rfl | (exfalso; omega)⟩)
      · rw [if_neg c14] at hb14
        subst hb14
        refine x_if_ne 22 dX6_change_17 (fun h17 => absurd h17 (by decide)) (fun h17 => ?_)
        refine x_iconst dX6_change_20 ?_
        exact x_iret dX6_change_21 (⟨by unfold rChg; (repeat' split) <;> first | rfl | omega | (exfalso; omega), by unfold sChg; (repeat' split) <;> first | rfl | (exfalso; omega)⟩)
  · rw [if_neg c1] at hb1
    subst hb1
    refine x_if_eq 20 dX6_change_4 (fun h4 => ?_) (fun h4 => absurd h4 (by decide))
    refine x_iconst dX6_change_20 ?_
    exact x_iret dX6_change_21 (⟨by unfold rChg; (repeat' split) <;> first | rfl | omega | (exfalso; omega), by unfold sChg; (repeat' split) <;> first | rfl | (exfalso; omega)⟩)
set_option maxRecDepth 100000 in
set_option maxHeartbeats 4000000 in
theorem c_told {P : AW} {a : Nat} (hP : P.length = a) (fr : List Value) (z : Nat → Int) (R : AW) (hR : ∀ i, inR (z i)) (r h : Int) (hir : inR r) (hih : inR h) (hm : 0 ≤ z 16 ∧ z 16 ≤ 16) : CTi I_X6_told 0 0 [.ref (a + 0), .int (iI r), .int (iI h)] (P ++ mz a fr z R) (fun x w' => x = rTold z r h ∧ w' = P ++ mz a fr (z) R) := by
  refine CT_of 0 rfl (Nat.le_of_ble_eq_true rfl) ?_
  show EX I_X6_told 0 0 none _ 0 [some (.ref (a + 0)), some (.int (iI r)), some (.int (iI h))] [] _ 0 0
  refine x_aload_n dX6_told_0 rfl ?_
  refine x_iload_n dX6_told_1 rfl ?_
  refine x_calliV dX6_told_2 mk_X6_isRecord ml_X6_57 (c_isRecord hP fr z R r hir hm) ((wg_app hP 0).trans rfl) rfl (fun x2 w2 h2 => ?_)
  obtain ⟨hb2, rfl⟩ := h2
  by_cases c2 : 0 ≤ r ∧ r ≤ z 16 - 1
  · rw [if_pos c2] at hb2
    subst hb2
    refine x_if_ne 10 dX6_told_5 (fun h5 => ?_) (fun h5 => absurd h5 (by decide))
    refine x_iload_n dX6_told_10 rfl ?_
    rcases (show h = 0 ∨ h = 1 ∨ h = 2 ∨ h = 3 ∨ h = 4 ∨ (h < 0 ∨ 4 < h) by omega) with h11 | h11 | h11 | h11 | h11 | h11
    · refine x_tsIn 0 44 dX6_told_11 (by omega) ?_
      refine x_aload_n dX6_told_44 rfl ?_
      refine x_getfield 0 dX6_told_45 fg_X6_7 hP rfl rfl ?_
      refine x_bipush dX6_told_48 ?_
      refine x_iconst dX6_told_50 ?_
      refine x_iload_n dX6_told_51 rfl ?_
      refine x_imul dX6_told_52 ?_
      refine x_iadd dX6_told_53 ?_
      refine x_iload_n dX6_told_54 rfl ?_
      refine x_iadd dX6_told_55 ?_
      refine x_iaload 1 (90 + (2 * r).toNat) dX6_told_56 hP rfl ?_
      exact x_iret dX6_told_57 (⟨by unfold rTold; (repeat' split) <;> first | rfl | omega | (exfalso; omega), rfl⟩)
    · refine x_tsIn 1 44 dX6_told_11 (by omega) ?_
      refine x_aload_n dX6_told_44 rfl ?_
      refine x_getfield 0 dX6_told_45 fg_X6_7 hP rfl rfl ?_
      refine x_bipush dX6_told_48 ?_
      refine x_iconst dX6_told_50 ?_
      refine x_iload_n dX6_told_51 rfl ?_
      refine x_imul dX6_told_52 ?_
      refine x_iadd dX6_told_53 ?_
      refine x_iload_n dX6_told_54 rfl ?_
      refine x_iadd dX6_told_55 ?_
      refine x_iaload 1 (90 + (2 * r).toNat + 1) dX6_told_56 hP rfl ?_
      exact x_iret dX6_told_57 (⟨by unfold rTold; (repeat' split) <;> first | rfl | omega | (exfalso; omega), rfl⟩)
    · refine x_tsIn 2 58 dX6_told_11 (by omega) ?_
      refine x_aload_n dX6_told_58 rfl ?_
      refine x_getfield 0 dX6_told_59 fg_X6_7 hP rfl rfl ?_
      refine x_bipush dX6_told_62 ?_
      refine x_iconst dX6_told_64 ?_
      refine x_iload_n dX6_told_65 rfl ?_
      refine x_imul dX6_told_66 ?_
      refine x_iadd dX6_told_67 ?_
      refine x_iload_n dX6_told_68 rfl ?_
      refine x_iadd dX6_told_69 ?_
      refine x_iconst dX6_told_70 ?_
      refine x_isub dX6_told_71 ?_
      refine x_iaload 1 (122 + (2 * r).toNat) dX6_told_72 hP rfl ?_
      exact x_iret dX6_told_73 (⟨by unfold rTold; (repeat' split) <;> first | rfl | omega | (exfalso; omega), rfl⟩)
    · refine x_tsIn 3 58 dX6_told_11 (by omega) ?_
      refine x_aload_n dX6_told_58 rfl ?_
      refine x_getfield 0 dX6_told_59 fg_X6_7 hP rfl rfl ?_
      refine x_bipush dX6_told_62 ?_
      refine x_iconst dX6_told_64 ?_
      refine x_iload_n dX6_told_65 rfl ?_
      refine x_imul dX6_told_66 ?_
      refine x_iadd dX6_told_67 ?_
      refine x_iload_n dX6_told_68 rfl ?_
      refine x_iadd dX6_told_69 ?_
      refine x_iconst dX6_told_70 ?_
      refine x_isub dX6_told_71 ?_
      refine x_iaload 1 (122 + (2 * r).toNat + 1) dX6_told_72 hP rfl ?_
      exact x_iret dX6_told_73 (⟨by unfold rTold; (repeat' split) <;> first | rfl | omega | (exfalso; omega), rfl⟩)
    · refine x_tsIn 4 74 dX6_told_11 (by omega) ?_
      refine x_aload_n dX6_told_74 rfl ?_
      refine x_iload_n dX6_told_75 rfl ?_
      refine x_calliV dX6_told_76 mk_X6_placeOf ml_X6_60 (c_placeOf hP fr z R hR r hir) ((wg_app hP 0).trans rfl) rfl (fun x76 w76 h76 => ?_)
      obtain ⟨rfl, rfl⟩ := h76
      exact x_iret dX6_told_79 (⟨by unfold rTold; (repeat' split) <;> first | rfl | omega | (exfalso; omega), rfl⟩)
    · refine x_tsOut 80 dX6_told_11 h11 ?_
      refine x_iconst dX6_told_80 ?_
      exact x_iret dX6_told_81 (⟨by unfold rTold; (repeat' split) <;> first | rfl | omega | (exfalso; omega), rfl⟩)
  · rw [if_neg c2] at hb2
    subst hb2
    refine x_if_ne 10 dX6_told_5 (fun h5 => absurd h5 (by decide)) (fun h5 => ?_)
    refine x_iconst dX6_told_8 ?_
    exact x_iret dX6_told_9 (⟨by unfold rTold; (repeat' split) <;> first | rfl | omega | (exfalso; omega), rfl⟩)
set_option maxRecDepth 100000 in
set_option maxHeartbeats 4000000 in
theorem c_song {P : AW} {a : Nat} (hP : P.length = a) (fr : List Value) (z : Nat → Int) (R : AW) (hR : ∀ i, inR (z i)) (s h : Int) (his : inR s) (hih : inR h)  : CTi I_X6_song 0 0 [.ref (a + 0), .int (iI s), .int (iI h)] (P ++ mz a fr z R) (fun x w' => x = rSong z s h ∧ w' = P ++ mz a fr (z) R) := by
  refine CT_of 0 rfl (Nat.le_of_ble_eq_true rfl) ?_
  show EX I_X6_song 0 0 none _ 0 [some (.ref (a + 0)), some (.int (iI s)), some (.int (iI h))] [] _ 0 0
  refine x_iload_n dX6_song_0 rfl ?_
  refine x_calliS dX6_song_1 mk_X6_isSong ml_X6_67 (c_isSong _ s his) rfl (fun x1 w1 h1 => ?_)
  obtain ⟨hb1, rfl⟩ := h1
  by_cases c1 : 0 ≤ s ∧ s ≤ 19
  · rw [if_pos c1] at hb1
    subst hb1
    refine x_if_ne 9 dX6_song_4 (fun h4 => ?_) (fun h4 => absurd h4 (by decide))
    refine x_iload_n dX6_song_9 rfl ?_
    rcases (show h = 0 ∨ h = 1 ∨ h = 2 ∨ h = 3 ∨ (h < 0 ∨ 3 < h) by omega) with h10 | h10 | h10 | h10 | h10
    · refine x_tsIn 0 40 dX6_song_10 (by omega) ?_
      refine x_aload_n dX6_song_40 rfl ?_
      refine x_getfield 0 dX6_song_41 fg_X6_7 hP rfl rfl ?_
      refine x_bipush dX6_song_44 ?_
      refine x_iload_n dX6_song_46 rfl ?_
      refine x_iadd dX6_song_47 ?_
      refine x_iaload 1 (30 + s.toNat) dX6_song_48 hP rfl ?_
      exact x_iret dX6_song_49 (⟨by unfold rSong; (repeat' split) <;> first | rfl | omega | (exfalso; omega), rfl⟩)
    · refine x_tsIn 1 50 dX6_song_10 (by omega) ?_
      refine x_aload_n dX6_song_50 rfl ?_
      refine x_getfield 0 dX6_song_51 fg_X6_7 hP rfl rfl ?_
      refine x_bipush dX6_song_54 ?_
      refine x_iload_n dX6_song_56 rfl ?_
      refine x_iadd dX6_song_57 ?_
      refine x_iaload 1 (50 + s.toNat) dX6_song_58 hP rfl ?_
      exact x_iret dX6_song_59 (⟨by unfold rSong; (repeat' split) <;> first | rfl | omega | (exfalso; omega), rfl⟩)
    · refine x_tsIn 2 60 dX6_song_10 (by omega) ?_
      refine x_aload_n dX6_song_60 rfl ?_
      refine x_getfield 0 dX6_song_61 fg_X6_7 hP rfl rfl ?_
      refine x_bipush dX6_song_64 ?_
      refine x_iload_n dX6_song_66 rfl ?_
      refine x_iadd dX6_song_67 ?_
      refine x_iaload 1 (70 + s.toNat) dX6_song_68 hP rfl ?_
      exact x_iret dX6_song_69 (⟨by unfold rSong; (repeat' split) <;> first | rfl | omega | (exfalso; omega), rfl⟩)
    · refine x_tsIn 3 70 dX6_song_10 (by omega) ?_
      refine x_aload_n dX6_song_70 rfl ?_
      refine x_getfield 0 dX6_song_71 fg_X6_7 hP rfl rfl ?_
      refine x_bipush dX6_song_74 ?_
      refine x_iload_n dX6_song_76 rfl ?_
      refine x_iconst dX6_song_77 ?_
      refine x_idiv dX6_song_78 ?_
      refine x_iadd dX6_song_79 ?_
      refine x_iaload 1 (20 + (s / 2).toNat) dX6_song_80 hP rfl ?_
      exact x_iret dX6_song_81 (⟨by unfold rSong; (repeat' split) <;> first | rfl | omega | (exfalso; omega), rfl⟩)
    · refine x_tsOut 82 dX6_song_10 h10 ?_
      refine x_iconst dX6_song_82 ?_
      exact x_iret dX6_song_83 (⟨by unfold rSong; (repeat' split) <;> first | rfl | omega | (exfalso; omega), rfl⟩)
  · rw [if_neg c1] at hb1
    subst hb1
    refine x_if_ne 9 dX6_song_4 (fun h4 => absurd h4 (by decide)) (fun h4 => ?_)
    refine x_iconst dX6_song_7 ?_
    exact x_iret dX6_song_8 (⟨by unfold rSong; (repeat' split) <;> first | rfl | omega | (exfalso; omega), rfl⟩)
set_option maxRecDepth 100000 in
set_option maxHeartbeats 4000000 in
theorem c_stick {P : AW} {a : Nat} (hP : P.length = a) (fr : List Value) (z : Nat → Int) (R : AW) (hR : ∀ i, inR (z i)) (s h : Int) (his : inR s) (hih : inR h)  : CTi I_X6_stick 0 0 [.ref (a + 0), .int (iI s), .int (iI h)] (P ++ mz a fr z R) (fun x w' => x = rStk z s h ∧ w' = P ++ mz a fr (sStk z s h) R) := by
  refine CT_of 1 rfl (Nat.le_of_ble_eq_true rfl) ?_
  show EX I_X6_stick 0 0 none _ 0 [some (.ref (a + 0)), some (.int (iI s)), some (.int (iI h)), none] [] _ 0 0
  refine x_iload_n dX6_stick_0 rfl ?_
  refine x_calliS dX6_stick_1 mk_X6_isSong ml_X6_67 (c_isSong _ s his) rfl (fun x1 w1 h1 => ?_)
  obtain ⟨hb1, rfl⟩ := h1
  by_cases c1 : 0 ≤ s ∧ s ≤ 19
  · rw [if_pos c1] at hb1
    subst hb1
    refine x_if_eq 19 dX6_stick_4 (fun h4 => absurd h4 (by decide)) (fun h4 => ?_)
    refine x_iload_n dX6_stick_7 rfl ?_
    refine x_i2l dX6_stick_8 ?_
    refine x_lconst dX6_stick_9 ?_
    refine x_ldc2 dX6_stick_10 kl_X6_70 ?_
    refine x_calliS dX6_stick_13 mk_X6_in ml_X6_43 (c_in _ h 0 2 hih (by decide) (by decide)) rfl (fun x13 w13 h13 => ?_)
    obtain ⟨hb13, rfl⟩ := h13
    by_cases c13 : 0 ≤ h ∧ h ≤ 2
    · rw [if_pos c13] at hb13
      subst hb13
      refine x_if_ne 21 dX6_stick_16 (fun h16 => ?_) (fun h16 => absurd h16 (by decide))
      refine x_aload_n dX6_stick_21 rfl ?_
      refine x_getfield 0 dX6_stick_22 fg_X6_7 hP rfl rfl ?_
      refine x_bipush dX6_stick_25 ?_
      refine x_iload_n dX6_stick_27 rfl ?_
      refine x_iadd dX6_stick_28 ?_
      refine x_iaload 1 (50 + s.toNat) dX6_stick_29 hP rfl ?_
      refine x_ist3 dX6_stick_30 ?_
      refine x_aload_n dX6_stick_31 rfl ?_
      refine x_getfield 0 dX6_stick_32 fg_X6_7 hP rfl rfl ?_
      refine x_bipush dX6_stick_35 ?_
      refine x_iload_n dX6_stick_37 rfl ?_
      refine x_iadd dX6_stick_38 ?_
      refine x_iload_n dX6_stick_39 rfl ?_
      refine x_iastore 1 (50 + s.toNat) dX6_stick_40 hP rfl ?_
      refine x_aload_n dX6_stick_41 rfl ?_
      refine x_getfield 0 dX6_stick_42 fg_X6_7 hP rfl rfl ?_
      refine x_bipush dX6_stick_45 ?_
      refine x_iload_n dX6_stick_47 rfl ?_
      refine x_iadd dX6_stick_48 ?_
      refine x_iload_n dX6_stick_49 rfl ?_
      refine x_iconst dX6_stick_50 ?_
      refine x_icmp_ne 58 dX6_stick_51 (fun h51 => ?_) (fun h51 => ?_)
      · refine x_iload_n dX6_stick_58 rfl ?_
        refine x_iconst dX6_stick_59 ?_
        refine x_icmp_ne 67 dX6_stick_60 (fun h60 => ?_) (fun h60 => ?_)
        · refine x_aload_n dX6_stick_67 rfl ?_
          refine x_getfield 0 dX6_stick_68 fg_X6_7 hP rfl rfl ?_
          refine x_bipush dX6_stick_71 ?_
          refine x_iload_n dX6_stick_73 rfl ?_
          refine x_iadd dX6_stick_74 ?_
          refine x_iaload 1 (30 + s.toNat) dX6_stick_75 hP rfl ?_
          refine x_top (updI_n (by omega)) ?_
          refine x_iastore 1 (30 + s.toNat) dX6_stick_76 hP rfl ?_
          refine x_iload_n dX6_stick_77 rfl ?_
          exact x_iret dX6_stick_78 (⟨by unfold rStk; (repeat' split) <;> first | rfl | omega | (exfalso; omega), by unfold sStk; (repeat' split) <;> first | rfl | (exfalso; omega)⟩)
        · refine x_iconst dX6_stick_63 ?_
          refine x_goto 76 dX6_stick_64 ?_
          refine x_iastore 1 (30 + s.toNat) dX6_stick_76 hP rfl ?_
          refine x_iload_n dX6_stick_77 rfl ?_
          exact x_iret dX6_stick_78 (⟨by unfold rStk; (repeat' split) <;> first | rfl | omega | (exfalso; omega), by unfold sStk; (repeat' split) <;> first | rfl | (exfalso; omega)⟩)
      · refine x_iconst dX6_stick_54 ?_
        refine x_goto 76 dX6_stick_55 ?_
        refine x_iastore 1 (30 + s.toNat) dX6_stick_76 hP rfl ?_
        refine x_iload_n dX6_stick_77 rfl ?_
        exact x_iret dX6_stick_78 (⟨by unfold rStk; (repeat' split) <;> first | rfl | omega | (exfalso; omega), by unfold sStk; (repeat' split) <;> first | rfl | (exfalso; omega)⟩)
    · rw [if_neg c13] at hb13
      subst hb13
      refine x_if_ne 21 dX6_stick_16 (fun h16 => absurd h16 (by decide)) (fun h16 => ?_)
      refine x_iconst dX6_stick_19 ?_
      exact x_iret dX6_stick_20 (⟨by unfold rStk; (repeat' split) <;> first | rfl | omega | (exfalso; omega), by unfold sStk; (repeat' split) <;> first | rfl | (exfalso; omega)⟩)
  · rw [if_neg c1] at hb1
    subst hb1
    refine x_if_eq 19 dX6_stick_4 (fun h4 => ?_) (fun h4 => absurd h4 (by decide))
    refine x_iconst dX6_stick_19 ?_
    exact x_iret dX6_stick_20 (⟨by unfold rStk; (repeat' split) <;> first | rfl | omega | (exfalso; omega), by unfold sStk; (repeat' split) <;> first | rfl | (exfalso; omega)⟩)
set_option maxRecDepth 100000 in
set_option maxHeartbeats 4000000 in
theorem c_prices {P : AW} {a : Nat} (hP : P.length = a) (fr : List Value) (z : Nat → Int) (R : AW) (hR : ∀ i, inR (z i)) (p q m : Int) (hip : inR p) (hiq : inR q) (him : inR m)  : CTi I_X6_prices 0 0 [.ref (a + 0), .int (iI p), .int (iI q), .int (iI m)] (P ++ mz a fr z R) (fun x w' => x = rPri p q m ∧ w' = P ++ mz a fr (sPri z p q m) R) := by
  refine CT_of 0 rfl (Nat.le_of_ble_eq_true rfl) ?_
  show EX I_X6_prices 0 0 none _ 0 [some (.ref (a + 0)), some (.int (iI p)), some (.int (iI q)), some (.int (iI m))] [] _ 0 0
  refine x_iload_n dX6_prices_0 rfl ?_
  refine x_i2l dX6_prices_1 ?_
  refine x_lconst dX6_prices_2 ?_
  refine x_ldc2 dX6_prices_3 kl_X6_72 ?_
  refine x_calliS dX6_prices_6 mk_X6_in ml_X6_43 (c_in _ p 1 99 hip (by decide) (by decide)) rfl (fun x6 w6 h6 => ?_)
  obtain ⟨hb6, rfl⟩ := h6
  by_cases c6 : 1 ≤ p ∧ p ≤ 99
  · rw [if_pos c6] at hb6
    subst hb6
    refine x_if_eq 37 dX6_prices_9 (fun h9 => absurd h9 (by decide)) (fun h9 => ?_)
    refine x_iload_n dX6_prices_12 rfl ?_
    refine x_i2l dX6_prices_13 ?_
    refine x_iload_n dX6_prices_14 rfl ?_
    refine x_i2l dX6_prices_15 ?_
    refine x_ldc2 dX6_prices_16 kl_X6_74 ?_
    refine x_calliS dX6_prices_19 mk_X6_in ml_X6_43 (c_in _ q p 999 hiq hip (by decide)) rfl (fun x19 w19 h19 => ?_)
    obtain ⟨hb19, rfl⟩ := h19
    by_cases c19 : p ≤ q ∧ q ≤ 999
    · rw [if_pos c19] at hb19
      subst hb19
      refine x_if_eq 37 dX6_prices_22 (fun h22 => absurd h22 (by decide)) (fun h22 => ?_)
      refine x_iload_n dX6_prices_25 rfl ?_
      refine x_i2l dX6_prices_26 ?_
      refine x_lconst dX6_prices_27 ?_
      refine x_ldc2 dX6_prices_28 kl_X6_76 ?_
      refine x_calliS dX6_prices_31 mk_X6_in ml_X6_43 (c_in _ m 1 20 him (by decide) (by decide)) rfl (fun x31 w31 h31 => ?_)
      obtain ⟨hb31, rfl⟩ := h31
      by_cases c31 : 1 ≤ m ∧ m ≤ 20
      · rw [if_pos c31] at hb31
        subst hb31
        refine x_if_ne 39 dX6_prices_34 (fun h34 => ?_) (fun h34 => absurd h34 (by decide))
        refine x_aload_n dX6_prices_39 rfl ?_
        refine x_getfield 0 dX6_prices_40 fg_X6_7 hP rfl rfl ?_
        refine x_bipush dX6_prices_43 ?_
        refine x_iload_n dX6_prices_45 rfl ?_
        refine x_iastore 1 (11) dX6_prices_46 hP rfl ?_
        refine x_aload_n dX6_prices_47 rfl ?_
        refine x_getfield 0 dX6_prices_48 fg_X6_7 hP rfl rfl ?_
        refine x_bipush dX6_prices_51 ?_
        refine x_iload_n dX6_prices_53 rfl ?_
        refine x_iastore 1 (12) dX6_prices_54 hP rfl ?_
        refine x_aload_n dX6_prices_55 rfl ?_
        refine x_getfield 0 dX6_prices_56 fg_X6_7 hP rfl rfl ?_
        refine x_bipush dX6_prices_59 ?_
        refine x_iload_n dX6_prices_61 rfl ?_
        refine x_iastore 1 (13) dX6_prices_62 hP rfl ?_
        refine x_aload_n dX6_prices_63 rfl ?_
        refine x_getfield 0 dX6_prices_64 fg_X6_7 hP rfl rfl ?_
        refine x_bipush dX6_prices_67 ?_
        refine x_iconst dX6_prices_69 ?_
        refine x_iastore 1 (9) dX6_prices_70 hP rfl ?_
        refine x_iconst dX6_prices_71 ?_
        exact x_iret dX6_prices_72 (⟨by unfold rPri; (repeat' split) <;> first | rfl | omega | (exfalso; omega), by unfold sPri; (repeat' split) <;> first | rfl | (exfalso; omega)⟩)
      · rw [if_neg c31] at hb31
        subst hb31
        refine x_if_ne 39 dX6_prices_34 (fun h34 => absurd h34 (by decide)) (fun h34 => ?_)
        refine x_iconst dX6_prices_37 ?_
        exact x_iret dX6_prices_38 (⟨by unfold rPri; (repeat' split) <;> first | rfl | omega | (exfalso; omega), by unfold sPri; (repeat' split) <;> first | rfl | (exfalso; omega)⟩)
    · rw [if_neg c19] at hb19
      subst hb19
      refine x_if_eq 37 dX6_prices_22 (fun h22 => ?_) (fun h22 => absurd h22 (by decide))
      refine x_iconst dX6_prices_37 ?_
      exact x_iret dX6_prices_38 (⟨by unfold rPri; (repeat' split) <;> first | rfl | omega | (exfalso; omega), by unfold sPri; (repeat' split) <;> first | rfl | (exfalso; omega)⟩)
  · rw [if_neg c6] at hb6
    subst hb6
    refine x_if_eq 37 dX6_prices_9 (fun h9 => ?_) (fun h9 => absurd h9 (by decide))
    refine x_iconst dX6_prices_37 ?_
    exact x_iret dX6_prices_38 (⟨by unfold rPri; (repeat' split) <;> first | rfl | omega | (exfalso; omega), by unfold sPri; (repeat' split) <;> first | rfl | (exfalso; omega)⟩)
set_option maxRecDepth 100000 in
set_option maxHeartbeats 4000000 in
theorem c_owes {P : AW} {a : Nat} (hP : P.length = a) (fr : List Value) (z : Nat → Int) (R : AW) (hR : ∀ i, inR (z i)) (o9 : 0 ≤ z 9 ∧ z 9 ≤ 90000000) (o11 : 1 ≤ z 11 ∧ z 11 ≤ 99) (o12 : 1 ≤ z 12 ∧ z 12 ≤ 999) (o13 : 1 ≤ z 13 ∧ z 13 ≤ 20) : CTi I_X6_owes 0 0 [.ref (a + 0)] (P ++ mz a fr z R) (fun x w' => x = mOwes z ∧ w' = P ++ mz a fr z R) := by
  have q1 : 0 ≤ z 9 % z 12 := Int.emod_nonneg _ (by omega)
  have q2 : z 9 % z 12 < z 12 := Int.emod_lt_of_pos _ (by omega)
  refine CT_of 0 rfl (Nat.le_of_ble_eq_true rfl) ?_
  show EX I_X6_owes 0 0 none _ 0 [some (.ref (a + 0))] [] _ 0 0
  refine x_aload_n dX6_owes_0 rfl ?_
  refine x_getfield 0 dX6_owes_1 fg_X6_7 hP rfl rfl ?_
  refine x_bipush dX6_owes_4 ?_
  refine x_iaload 1 (13) dX6_owes_6 hP rfl ?_
  refine x_aload_n dX6_owes_7 rfl ?_
  refine x_getfield 0 dX6_owes_8 fg_X6_7 hP rfl rfl ?_
  refine x_bipush dX6_owes_11 ?_
  refine x_iaload 1 (9) dX6_owes_13 hP rfl ?_
  refine x_aload_n dX6_owes_14 rfl ?_
  refine x_getfield 0 dX6_owes_15 fg_X6_7 hP rfl rfl ?_
  refine x_bipush dX6_owes_18 ?_
  refine x_iaload 1 (12) dX6_owes_20 hP rfl ?_
  refine x_idiv dX6_owes_21 ?_
  refine x_imul dX6_owes_22 ?_
  refine x_aload_n dX6_owes_23 rfl ?_
  refine x_getfield 0 dX6_owes_24 fg_X6_7 hP rfl rfl ?_
  refine x_bipush dX6_owes_27 ?_
  refine x_iaload 1 (9) dX6_owes_29 hP rfl ?_
  refine x_aload_n dX6_owes_30 rfl ?_
  refine x_getfield 0 dX6_owes_31 fg_X6_7 hP rfl rfl ?_
  refine x_bipush dX6_owes_34 ?_
  refine x_iaload 1 (12) dX6_owes_36 hP rfl ?_
  refine x_irem dX6_owes_37 ?_
  refine x_aload_n dX6_owes_38 rfl ?_
  refine x_getfield 0 dX6_owes_39 fg_X6_7 hP rfl rfl ?_
  refine x_bipush dX6_owes_42 ?_
  refine x_iaload 1 (11) dX6_owes_44 hP rfl ?_
  refine x_idiv dX6_owes_45 ?_
  refine x_iadd dX6_owes_46 ?_
  exact x_iret dX6_owes_47 (⟨rfl, rfl⟩)
theorem mOwes_b {z : Nat → Int} (h9 : 0 ≤ z 9 ∧ z 9 ≤ 90000000) (h11 : 1 ≤ z 11 ∧ z 11 ≤ 99) (h12 : 1 ≤ z 12 ∧ z 12 ≤ 999) (h13 : 1 ≤ z 13 ∧ z 13 ≤ 20) : 0 ≤ mOwes z ∧ mOwes z ≤ 1900000000 := by
  have q1 : 0 ≤ z 9 % z 12 := Int.emod_nonneg _ (by omega)
  have q2 : z 9 % z 12 < z 12 := Int.emod_lt_of_pos _ (by omega)
  have q3 : 0 ≤ z 9 / z 12 := Int.ediv_nonneg h9.1 (by omega)
  have q4 : z 9 / z 12 ≤ z 9 := Int.ediv_le_self _ h9.1
  have q5 : 0 ≤ z 9 % z 12 / z 11 := Int.ediv_nonneg q1 (by omega)
  have q6 : z 9 % z 12 / z 11 ≤ z 9 % z 12 := Int.ediv_le_self _ q1
  have q7 : z 13 * (z 9 / z 12) ≤ 20 * (z 9 / z 12) := Int.mul_le_mul_of_nonneg_right h13.2 q3
  have q8 : 0 ≤ z 13 * (z 9 / z 12) := Int.mul_nonneg (by omega) q3
  unfold mOwes
  omega
theorem mPaid_n {z : Nat → Int} {v : Int} {i : Nat} (h9 : ¬ i = 9) (h10 : ¬ i = 10) : mPaid z v i = z i := (updI_n h10).trans (updI_n h9)
theorem mPaid_9 (z : Nat → Int) (v : Int) : mPaid z v 9 = z 9 + v := (updI_n (by decide)).trans (updI_e _ _ _)
set_option maxRecDepth 100000 in
set_option maxHeartbeats 4000000 in
theorem c_coin {P : AW} {a : Nat} (hP : P.length = a) (fr : List Value) (z : Nat → Int) (R : AW) (hR : ∀ i, inR (z i)) (v : Int) (hiv : inR v) (o9 : 0 ≤ z 9 ∧ z 9 ≤ 80000000) (o11 : 1 ≤ z 11 ∧ z 11 ≤ 99) (o12 : 1 ≤ z 12 ∧ z 12 ≤ 999) (o13 : 1 ≤ z 13 ∧ z 13 ≤ 20) (o7 : 0 ≤ z 7 ∧ z 7 ≤ 200000000) (o10 : 0 ≤ z 10 ∧ z 10 ≤ 2000000000) (hdu : 1 ≤ v ∧ v ≤ 99 → mDue z v ≤ 1900000000) : CTi I_X6_coin 0 0 [.ref (a + 0), .int (iI v)] (P ++ mz a fr z R) (fun x w' => x = rCoin z v ∧ w' = P ++ mz a fr (sCoin z v) R) := by
  refine CT_of 1 rfl (Nat.le_of_ble_eq_true rfl) ?_
  show EX I_X6_coin 0 0 none _ 0 [some (.ref (a + 0)), some (.int (iI v)), none] [] _ 0 0
  refine x_iload_n dX6_coin_0 rfl ?_
  refine x_i2l dX6_coin_1 ?_
  refine x_lconst dX6_coin_2 ?_
  refine x_ldc2 dX6_coin_3 kl_X6_72 ?_
  refine x_calliS dX6_coin_6 mk_X6_in ml_X6_43 (c_in _ v 1 99 hiv (by decide) (by decide)) rfl (fun x6 w6 h6 => ?_)
  obtain ⟨hb6, rfl⟩ := h6
  by_cases c6 : 1 ≤ v ∧ v ≤ 99
  · rw [if_pos c6] at hb6
    subst hb6
    refine x_if_ne 14 dX6_coin_9 (fun h9 => ?_) (fun h9 => absurd h9 (by decide))
    have hdu := hdu c6
    refine x_aload_n dX6_coin_14 rfl ?_
    refine x_calliV dX6_coin_15 mk_X6_owes ml_X6_78 (c_owes hP fr z R hR ⟨by omega, by omega⟩ o11 o12 o13) ((wg_app hP 0).trans rfl) rfl (fun x15 w15 h15 => ?_)
    obtain ⟨rfl, rfl⟩ := h15
    refine x_ist2 dX6_coin_18 ?_
    refine x_aload_n dX6_coin_19 rfl ?_
    refine x_getfield 0 dX6_coin_20 fg_X6_7 hP rfl rfl ?_
    refine x_bipush dX6_coin_23 ?_
    refine x_dup2 dX6_coin_25 ?_
    refine x_iaload 1 (9) dX6_coin_26 hP rfl ?_
    refine x_iload_n dX6_coin_27 rfl ?_
    refine x_iadd dX6_coin_28 ?_
    refine x_iastore 1 (9) dX6_coin_29 hP rfl ?_
    refine x_aload_n dX6_coin_30 rfl ?_
    refine x_getfield 0 dX6_coin_31 fg_X6_7 hP rfl rfl ?_
    refine x_bipush dX6_coin_34 ?_
    refine x_dup2 dX6_coin_36 ?_
    refine x_iaload 1 (10) dX6_coin_37 hP rfl ?_
    refine x_top (updI_n (by omega)) ?_
    refine x_iload_n dX6_coin_38 rfl ?_
    refine x_iadd dX6_coin_39 ?_
    refine x_iastore 1 (10) dX6_coin_40 hP rfl ?_
    refine x_aload_n dX6_coin_41 rfl ?_
    refine x_getfield 0 dX6_coin_42 fg_X6_7 hP rfl rfl ?_
    refine x_bipush dX6_coin_45 ?_
    refine x_dup2 dX6_coin_47 ?_
    refine x_iaload 1 (7) dX6_coin_48 hP rfl ?_
    refine x_top ((updI_n (by omega)).trans (updI_n (by omega))) ?_
    have hp9 : 0 ≤ mPaid z v 9 ∧ mPaid z v 9 ≤ 90000000 := by rw [mPaid_9]; omega
    have hp11 : 1 ≤ mPaid z v 11 ∧ mPaid z v 11 ≤ 99 := by rw [mPaid_n (by decide) (by decide)]; exact o11
    have hp12 : 1 ≤ mPaid z v 12 ∧ mPaid z v 12 ≤ 999 := by rw [mPaid_n (by decide) (by decide)]; exact o12
    have hp13 : 1 ≤ mPaid z v 13 ∧ mPaid z v 13 ≤ 20 := by rw [mPaid_n (by decide) (by decide)]; exact o13
    have ho1 := mOwes_b hp9 hp11 hp12 hp13
    have ho0 := mOwes_b ⟨o9.1, by omega⟩ o11 o12 o13
    refine x_aload_n dX6_coin_49 rfl ?_
    refine x_calliV dX6_coin_50 mk_X6_owes ml_X6_78 (c_owes hP fr (mPaid z v) R (inR_upd (inR_upd hR (by omega)) (by omega)) hp9 hp11 hp12 hp13) ((wg_app hP 0).trans rfl) rfl (fun x50 w50 h50 => ?_)
    obtain ⟨rfl, rfl⟩ := h50
    refine x_iload_n dX6_coin_53 rfl ?_
    refine x_icmp_le 66 dX6_coin_54 (fun h54 => ?_) (fun h54 => ?_)
    · refine x_iconst dX6_coin_66 ?_
      refine x_iadd dX6_coin_67 ?_
      refine x_iastore 1 (7) dX6_coin_68 hP rfl ?_
      refine x_aload_n dX6_coin_69 rfl ?_
      refine x_getfield 0 dX6_coin_70 fg_X6_7 hP rfl rfl ?_
      refine x_bipush dX6_coin_73 ?_
      refine x_iaload 1 (7) dX6_coin_75 hP rfl ?_
      refine x_top (updI_e _ _ _) ?_
      exact x_iret dX6_coin_76 (⟨by unfold rCoin mDue; (repeat' split) <;> first | rfl | omega | (exfalso; omega), by unfold sCoin mDue; (repeat' split) <;> first | rfl | (exfalso; omega)⟩)
    · refine x_aload_n dX6_coin_57 rfl ?_
      refine x_calliV dX6_coin_58 mk_X6_owes ml_X6_78 (c_owes hP fr (mPaid z v) R (inR_upd (inR_upd hR (by omega)) (by omega)) hp9 hp11 hp12 hp13) ((wg_app hP 0).trans rfl) rfl (fun x58 w58 h58 => ?_)
      obtain ⟨rfl, rfl⟩ := h58
      refine x_iload_n dX6_coin_61 rfl ?_
      refine x_isub dX6_coin_62 ?_
      refine x_goto 67 dX6_coin_63 ?_
      refine x_iadd dX6_coin_67 ?_
      refine x_iastore 1 (7) dX6_coin_68 hP rfl ?_
      refine x_aload_n dX6_coin_69 rfl ?_
      refine x_getfield 0 dX6_coin_70 fg_X6_7 hP rfl rfl ?_
      refine x_bipush dX6_coin_73 ?_
      refine x_iaload 1 (7) dX6_coin_75 hP rfl ?_
      refine x_top (updI_e _ _ _) ?_
      exact x_iret dX6_coin_76 (⟨by unfold rCoin mDue; (repeat' split) <;> first | rfl | omega | (exfalso; omega), by unfold sCoin mDue; (repeat' split) <;> first | rfl | (exfalso; omega)⟩)
  · rw [if_neg c6] at hb6
    subst hb6
    refine x_if_ne 14 dX6_coin_9 (fun h9 => absurd h9 (by decide)) (fun h9 => ?_)
    refine x_iconst dX6_coin_12 ?_
    exact x_iret dX6_coin_13 (⟨by unfold rCoin mDue; (repeat' split) <;> first | rfl | omega | (exfalso; omega), by unfold sCoin mDue; (repeat' split) <;> first | rfl | (exfalso; omega)⟩)
set_option maxRecDepth 100000 in
set_option maxHeartbeats 4000000 in
theorem c_set {P : AW} {a : Nat} (hP : P.length = a) (fr : List Value) (z : Nat → Int) (R : AW) (hR : ∀ i, inR (z i)) (h v : Int) (hih : inR h) (hiv : inR v)  : CTi I_X6_set 0 0 [.ref (a + 0), .int (iI h), .int (iI v)] (P ++ mz a fr z R) (fun x w' => x = rSet z h v ∧ w' = P ++ mz a fr (sSet z h v) R) := by
  refine CT_of 1 rfl (Nat.le_of_ble_eq_true rfl) ?_
  show EX I_X6_set 0 0 none _ 0 [some (.ref (a + 0)), some (.int (iI h)), some (.int (iI v)), none] [] _ 0 0
  refine x_iload_n dX6_set_0 rfl ?_
  refine x_if_ne 17 dX6_set_1 (fun h1 => ?_) (fun h1 => ?_)
  · refine x_iload_n dX6_set_17 rfl ?_
    refine x_iconst dX6_set_18 ?_
    refine x_icmp_ne 34 dX6_set_19 (fun h19 => ?_) (fun h19 => ?_)
    · refine x_iconst dX6_set_34 ?_
      exact x_iret dX6_set_35 (⟨by unfold rSet; (repeat' split) <;> first | rfl | omega | (exfalso; omega), by unfold sSet; (repeat' split) <;> first | rfl | (exfalso; omega)⟩)
    · refine x_iload_n dX6_set_22 rfl ?_
      refine x_i2l dX6_set_23 ?_
      refine x_lconst dX6_set_24 ?_
      refine x_ldc2 dX6_set_25 kl_X6_72 ?_
      refine x_calliS dX6_set_28 mk_X6_in ml_X6_43 (c_in _ v 1 99 hiv (by decide) (by decide)) rfl (fun x28 w28 h28 => ?_)
      obtain ⟨hb28, rfl⟩ := h28
      by_cases c28 : 1 ≤ v ∧ v ≤ 99
      · rw [if_pos c28] at hb28
        subst hb28
        refine x_if_ne 36 dX6_set_31 (fun h31 => ?_) (fun h31 => absurd h31 (by decide))
        refine x_aload_n dX6_set_36 rfl ?_
        refine x_getfield 0 dX6_set_37 fg_X6_7 hP rfl rfl ?_
        refine x_bipush dX6_set_40 ?_
        refine x_iload_n dX6_set_42 rfl ?_
        refine x_iadd dX6_set_43 ?_
        refine x_iaload 1 (15) dX6_set_44 hP rfl ?_
        refine x_ist3 dX6_set_45 ?_
        refine x_aload_n dX6_set_46 rfl ?_
        refine x_getfield 0 dX6_set_47 fg_X6_7 hP rfl rfl ?_
        refine x_bipush dX6_set_50 ?_
        refine x_iload_n dX6_set_52 rfl ?_
        refine x_iadd dX6_set_53 ?_
        refine x_iload_n dX6_set_54 rfl ?_
        refine x_iastore 1 (15) dX6_set_55 hP rfl ?_
        refine x_iload_n dX6_set_56 rfl ?_
        exact x_iret dX6_set_57 (⟨by unfold rSet; (repeat' split) <;> first | rfl | omega | (exfalso; omega), by unfold sSet; (repeat' split) <;> first | rfl | (exfalso; omega)⟩)
      · rw [if_neg c28] at hb28
        subst hb28
        refine x_if_ne 36 dX6_set_31 (fun h31 => absurd h31 (by decide)) (fun h31 => ?_)
        refine x_iconst dX6_set_34 ?_
        exact x_iret dX6_set_35 (⟨by unfold rSet; (repeat' split) <;> first | rfl | omega | (exfalso; omega), by unfold sSet; (repeat' split) <;> first | rfl | (exfalso; omega)⟩)
  · refine x_iload_n dX6_set_4 rfl ?_
    refine x_i2l dX6_set_5 ?_
    refine x_lconst dX6_set_6 ?_
    refine x_lconst dX6_set_7 ?_
    refine x_calliS dX6_set_8 mk_X6_in ml_X6_43 (c_in _ v 0 1 hiv (by decide) (by decide)) rfl (fun x8 w8 h8 => ?_)
    obtain ⟨hb8, rfl⟩ := h8
    by_cases c8 : 0 ≤ v ∧ v ≤ 1
    · rw [if_pos c8] at hb8
      subst hb8
      refine x_if_ne 36 dX6_set_11 (fun h11 => ?_) (fun h11 => absurd h11 (by decide))
      refine x_aload_n dX6_set_36 rfl ?_
      refine x_getfield 0 dX6_set_37 fg_X6_7 hP rfl rfl ?_
      refine x_bipush dX6_set_40 ?_
      refine x_iload_n dX6_set_42 rfl ?_
      refine x_iadd dX6_set_43 ?_
      refine x_iaload 1 (14) dX6_set_44 hP rfl ?_
      refine x_ist3 dX6_set_45 ?_
      refine x_aload_n dX6_set_46 rfl ?_
      refine x_getfield 0 dX6_set_47 fg_X6_7 hP rfl rfl ?_
      refine x_bipush dX6_set_50 ?_
      refine x_iload_n dX6_set_52 rfl ?_
      refine x_iadd dX6_set_53 ?_
      refine x_iload_n dX6_set_54 rfl ?_
      refine x_iastore 1 (14) dX6_set_55 hP rfl ?_
      refine x_iload_n dX6_set_56 rfl ?_
      exact x_iret dX6_set_57 (⟨by unfold rSet; (repeat' split) <;> first | rfl | omega | (exfalso; omega), by unfold sSet; (repeat' split) <;> first | rfl | (exfalso; omega)⟩)
    · rw [if_neg c8] at hb8
      subst hb8
      refine x_if_ne 36 dX6_set_11 (fun h11 => absurd h11 (by decide)) (fun h11 => ?_)
      refine x_goto 34 dX6_set_14 ?_
      refine x_iconst dX6_set_34 ?_
      exact x_iret dX6_set_35 (⟨by unfold rSet; (repeat' split) <;> first | rfl | omega | (exfalso; omega), by unfold sSet; (repeat' split) <;> first | rfl | (exfalso; omega)⟩)
set_option maxRecDepth 100000 in
set_option maxHeartbeats 4000000 in
theorem c_key {P : AW} {a : Nat} (hP : P.length = a) (fr : List Value) (z : Nat → Int) (R : AW) (hR : ∀ i, inR (z i)) (s : Int) (his : inR s) (o7 : 0 ≤ z 7) (o8 : 0 ≤ z 8 ∧ z 8 ≤ 2000000000) : CTi I_X6_key 0 0 [.ref (a + 0), .int (iI s)] (P ++ mz a fr z R) (fun x w' => x = rKey z s ∧ w' = P ++ mz a fr (sKey z s) R) := by
  refine CT_of 1 rfl (Nat.le_of_ble_eq_true rfl) ?_
  show EX I_X6_key 0 0 none _ 0 [some (.ref (a + 0)), some (.int (iI s)), none] [] _ 0 0
  refine x_iload_n dX6_key_0 rfl ?_
  refine x_calliS dX6_key_1 mk_X6_isSong ml_X6_67 (c_isSong _ s his) rfl (fun x1 w1 h1 => ?_)
  obtain ⟨hb1, rfl⟩ := h1
  by_cases c1 : 0 ≤ s ∧ s ≤ 19
  · rw [if_pos c1] at hb1
    subst hb1
    refine x_if_ne 9 dX6_key_4 (fun h4 => ?_) (fun h4 => absurd h4 (by decide))
    refine x_aload_n dX6_key_9 rfl ?_
    refine x_getfield 0 dX6_key_10 fg_X6_7 hP rfl rfl ?_
    refine x_bipush dX6_key_13 ?_
    refine x_iaload 1 (7) dX6_key_15 hP rfl ?_
    refine x_if_ne 22 dX6_key_16 (fun h16 => ?_) (fun h16 => ?_) (ha := hR _)
    · refine x_aload_n dX6_key_22 rfl ?_
      refine x_getfield 0 dX6_key_23 fg_X6_7 hP rfl rfl ?_
      refine x_bipush dX6_key_26 ?_
      refine x_iload_n dX6_key_28 rfl ?_
      refine x_iadd dX6_key_29 ?_
      refine x_iaload 1 (30 + s.toNat) dX6_key_30 hP rfl ?_
      refine x_if_ne 50 dX6_key_31 (fun h31 => ?_) (fun h31 => ?_) (ha := hR _)
      · refine x_iconst dX6_key_50 ?_
        refine x_ist2 dX6_key_51 ?_
        refine x_iload_n dX6_key_52 rfl ?_
        refine x_if_ne 70 dX6_key_53 (fun h53 => absurd h53 (by decide)) (fun h53 => ?_)
        refine x_aload_n dX6_key_56 rfl ?_
        refine x_getfield 0 dX6_key_57 fg_X6_7 hP rfl rfl ?_
        refine x_bipush dX6_key_60 ?_
        refine x_iaload 1 (14) dX6_key_62 hP rfl ?_
        refine x_iconst dX6_key_63 ?_
        refine x_icmp_ne 70 dX6_key_64 (fun h64 => ?_) (fun h64 => ?_) (ha := hR _)
        · refine x_aload_n dX6_key_70 rfl ?_
          refine x_getfield 0 dX6_key_71 fg_X6_7 hP rfl rfl ?_
          refine x_bipush dX6_key_74 ?_
          refine x_iload_n dX6_key_76 rfl ?_
          refine x_iadd dX6_key_77 ?_
          refine x_iload_n dX6_key_78 rfl ?_
          refine x_if_eq 86 dX6_key_79 (fun h79 => ?_) (fun h79 => absurd h79 (by decide))
          refine x_aload_n dX6_key_86 rfl ?_
          refine x_getfield 0 dX6_key_87 fg_X6_7 hP rfl rfl ?_
          refine x_bipush dX6_key_90 ?_
          refine x_iload_n dX6_key_92 rfl ?_
          refine x_iadd dX6_key_93 ?_
          refine x_iaload 1 (30 + s.toNat) dX6_key_94 hP rfl ?_
          refine x_iastore 1 (30 + s.toNat) dX6_key_95 hP rfl ?_
          refine x_aload_n dX6_key_96 rfl ?_
          refine x_getfield 0 dX6_key_97 fg_X6_7 hP rfl rfl ?_
          refine x_bipush dX6_key_100 ?_
          refine x_dup2 dX6_key_102 ?_
          refine x_iaload 1 (8) dX6_key_103 hP rfl ?_
          refine x_top (updI_n (by omega)) ?_
          refine x_iload_n dX6_key_104 rfl ?_
          refine x_if_eq 112 dX6_key_105 (fun h105 => ?_) (fun h105 => absurd h105 (by decide))
          refine x_iconst dX6_key_112 ?_
          refine x_iadd dX6_key_113 ?_
          refine x_iastore 1 (8) dX6_key_114 hP rfl ?_
          refine x_aload_n dX6_key_115 rfl ?_
          refine x_getfield 0 dX6_key_116 fg_X6_7 hP rfl rfl ?_
          refine x_bipush dX6_key_119 ?_
          refine x_dup2 dX6_key_121 ?_
          refine x_iaload 1 (7) dX6_key_122 hP rfl ?_
          refine x_top ((updI_n (by omega)).trans (updI_n (by omega))) ?_
          refine x_iconst dX6_key_123 ?_
          refine x_isub dX6_key_124 ?_
          refine x_iastore 1 (7) dX6_key_125 hP rfl ?_
          refine x_aload_n dX6_key_126 rfl ?_
          refine x_getfield 0 dX6_key_127 fg_X6_7 hP rfl rfl ?_
          refine x_bipush dX6_key_130 ?_
          refine x_iaload 1 (7) dX6_key_132 hP rfl ?_
          refine x_top (updI_e _ _ _) ?_
          exact x_iret dX6_key_133 (⟨by unfold rKey; (repeat' split) <;> first | rfl | omega | (exfalso; omega), by unfold sKey; (repeat' split) <;> first | rfl | (exfalso; omega)⟩)
        · refine x_bipush dX6_key_67 ?_
          exact x_iret dX6_key_69 (⟨by unfold rKey; (repeat' split) <;> first | rfl | omega | (exfalso; omega), by unfold sKey; (repeat' split) <;> first | rfl | (exfalso; omega)⟩)
      · refine x_aload_n dX6_key_34 rfl ?_
        refine x_getfield 0 dX6_key_35 fg_X6_7 hP rfl rfl ?_
        refine x_bipush dX6_key_38 ?_
        refine x_iload_n dX6_key_40 rfl ?_
        refine x_iadd dX6_key_41 ?_
        refine x_iaload 1 (50 + s.toNat) dX6_key_42 hP rfl ?_
        refine x_if_ne 50 dX6_key_43 (fun h43 => ?_) (fun h43 => ?_) (ha := hR _)
        · refine x_iconst dX6_key_50 ?_
          refine x_ist2 dX6_key_51 ?_
          refine x_iload_n dX6_key_52 rfl ?_
          refine x_if_ne 70 dX6_key_53 (fun h53 => absurd h53 (by decide)) (fun h53 => ?_)
          refine x_aload_n dX6_key_56 rfl ?_
          refine x_getfield 0 dX6_key_57 fg_X6_7 hP rfl rfl ?_
          refine x_bipush dX6_key_60 ?_
          refine x_iaload 1 (14) dX6_key_62 hP rfl ?_
          refine x_iconst dX6_key_63 ?_
          refine x_icmp_ne 70 dX6_key_64 (fun h64 => ?_) (fun h64 => ?_) (ha := hR _)
          · refine x_aload_n dX6_key_70 rfl ?_
            refine x_getfield 0 dX6_key_71 fg_X6_7 hP rfl rfl ?_
            refine x_bipush dX6_key_74 ?_
            refine x_iload_n dX6_key_76 rfl ?_
            refine x_iadd dX6_key_77 ?_
            refine x_iload_n dX6_key_78 rfl ?_
            refine x_if_eq 86 dX6_key_79 (fun h79 => ?_) (fun h79 => absurd h79 (by decide))
            refine x_aload_n dX6_key_86 rfl ?_
            refine x_getfield 0 dX6_key_87 fg_X6_7 hP rfl rfl ?_
            refine x_bipush dX6_key_90 ?_
            refine x_iload_n dX6_key_92 rfl ?_
            refine x_iadd dX6_key_93 ?_
            refine x_iaload 1 (30 + s.toNat) dX6_key_94 hP rfl ?_
            refine x_iastore 1 (30 + s.toNat) dX6_key_95 hP rfl ?_
            refine x_aload_n dX6_key_96 rfl ?_
            refine x_getfield 0 dX6_key_97 fg_X6_7 hP rfl rfl ?_
            refine x_bipush dX6_key_100 ?_
            refine x_dup2 dX6_key_102 ?_
            refine x_iaload 1 (8) dX6_key_103 hP rfl ?_
            refine x_top (updI_n (by omega)) ?_
            refine x_iload_n dX6_key_104 rfl ?_
            refine x_if_eq 112 dX6_key_105 (fun h105 => ?_) (fun h105 => absurd h105 (by decide))
            refine x_iconst dX6_key_112 ?_
            refine x_iadd dX6_key_113 ?_
            refine x_iastore 1 (8) dX6_key_114 hP rfl ?_
            refine x_aload_n dX6_key_115 rfl ?_
            refine x_getfield 0 dX6_key_116 fg_X6_7 hP rfl rfl ?_
            refine x_bipush dX6_key_119 ?_
            refine x_dup2 dX6_key_121 ?_
            refine x_iaload 1 (7) dX6_key_122 hP rfl ?_
            refine x_top ((updI_n (by omega)).trans (updI_n (by omega))) ?_
            refine x_iconst dX6_key_123 ?_
            refine x_isub dX6_key_124 ?_
            refine x_iastore 1 (7) dX6_key_125 hP rfl ?_
            refine x_aload_n dX6_key_126 rfl ?_
            refine x_getfield 0 dX6_key_127 fg_X6_7 hP rfl rfl ?_
            refine x_bipush dX6_key_130 ?_
            refine x_iaload 1 (7) dX6_key_132 hP rfl ?_
            refine x_top (updI_e _ _ _) ?_
            exact x_iret dX6_key_133 (⟨by unfold rKey; (repeat' split) <;> first | rfl | omega | (exfalso; omega), by unfold sKey; (repeat' split) <;> first | rfl | (exfalso; omega)⟩)
          · refine x_bipush dX6_key_67 ?_
            exact x_iret dX6_key_69 (⟨by unfold rKey; (repeat' split) <;> first | rfl | omega | (exfalso; omega), by unfold sKey; (repeat' split) <;> first | rfl | (exfalso; omega)⟩)
        · refine x_iconst dX6_key_46 ?_
          refine x_goto 51 dX6_key_47 ?_
          refine x_ist2 dX6_key_51 ?_
          refine x_iload_n dX6_key_52 rfl ?_
          refine x_if_ne 70 dX6_key_53 (fun h53 => ?_) (fun h53 => absurd h53 (by decide))
          refine x_aload_n dX6_key_70 rfl ?_
          refine x_getfield 0 dX6_key_71 fg_X6_7 hP rfl rfl ?_
          refine x_bipush dX6_key_74 ?_
          refine x_iload_n dX6_key_76 rfl ?_
          refine x_iadd dX6_key_77 ?_
          refine x_iload_n dX6_key_78 rfl ?_
          refine x_if_eq 86 dX6_key_79 (fun h79 => absurd h79 (by decide)) (fun h79 => ?_)
          refine x_iconst dX6_key_82 ?_
          refine x_goto 95 dX6_key_83 ?_
          refine x_iastore 1 (30 + s.toNat) dX6_key_95 hP rfl ?_
          refine x_aload_n dX6_key_96 rfl ?_
          refine x_getfield 0 dX6_key_97 fg_X6_7 hP rfl rfl ?_
          refine x_bipush dX6_key_100 ?_
          refine x_dup2 dX6_key_102 ?_
          refine x_iaload 1 (8) dX6_key_103 hP rfl ?_
          refine x_top (updI_n (by omega)) ?_
          refine x_iload_n dX6_key_104 rfl ?_
          refine x_if_eq 112 dX6_key_105 (fun h105 => absurd h105 (by decide)) (fun h105 => ?_)
          refine x_iconst dX6_key_108 ?_
          refine x_goto 113 dX6_key_109 ?_
          refine x_iadd dX6_key_113 ?_
          refine x_iastore 1 (8) dX6_key_114 hP rfl ?_
          refine x_aload_n dX6_key_115 rfl ?_
          refine x_getfield 0 dX6_key_116 fg_X6_7 hP rfl rfl ?_
          refine x_bipush dX6_key_119 ?_
          refine x_dup2 dX6_key_121 ?_
          refine x_iaload 1 (7) dX6_key_122 hP rfl ?_
          refine x_top ((updI_n (by omega)).trans (updI_n (by omega))) ?_
          refine x_iconst dX6_key_123 ?_
          refine x_isub dX6_key_124 ?_
          refine x_iastore 1 (7) dX6_key_125 hP rfl ?_
          refine x_aload_n dX6_key_126 rfl ?_
          refine x_getfield 0 dX6_key_127 fg_X6_7 hP rfl rfl ?_
          refine x_bipush dX6_key_130 ?_
          refine x_iaload 1 (7) dX6_key_132 hP rfl ?_
          refine x_top (updI_e _ _ _) ?_
          exact x_iret dX6_key_133 (⟨by unfold rKey; (repeat' split) <;> first | rfl | omega | (exfalso; omega), by unfold sKey; (repeat' split) <;> first | rfl | (exfalso; omega)⟩)
    · refine x_bipush dX6_key_19 ?_
      exact x_iret dX6_key_21 (⟨by unfold rKey; (repeat' split) <;> first | rfl | omega | (exfalso; omega), by unfold sKey; (repeat' split) <;> first | rfl | (exfalso; omega)⟩)
  · rw [if_neg c1] at hb1
    subst hb1
    refine x_if_ne 9 dX6_key_4 (fun h4 => absurd h4 (by decide)) (fun h4 => ?_)
    refine x_iconst dX6_key_7 ?_
    exact x_iret dX6_key_8 (⟨by unfold rKey; (repeat' split) <;> first | rfl | omega | (exfalso; omega), by unfold sKey; (repeat' split) <;> first | rfl | (exfalso; omega)⟩)
set_option maxRecDepth 100000 in
set_option maxHeartbeats 4000000 in
theorem c_carriage {P : AW} {a : Nat} (hP : P.length = a) (fr : List Value) (z : Nat → Int) (R : AW) (hR : ∀ i, inR (z i)) (h : Int) (hih : inR h)  : CTi I_X6_carriage 0 0 [.ref (a + 0), .int (iI h)] (P ++ mz a fr z R) (fun x w' => x = rCar z h ∧ w' = P ++ mz a fr (z) R) := by
  refine CT_of 0 rfl (Nat.le_of_ble_eq_true rfl) ?_
  show EX I_X6_carriage 0 0 none _ 0 [some (.ref (a + 0)), some (.int (iI h))] [] _ 0 0
  refine x_iload_n dX6_carriage_0 rfl ?_
  refine x_i2l dX6_carriage_1 ?_
  refine x_lconst dX6_carriage_2 ?_
  refine x_ldc2 dX6_carriage_3 kl_X6_107 ?_
  refine x_calliS dX6_carriage_6 mk_X6_in ml_X6_43 (c_in _ h 0 3 hih (by decide) (by decide)) rfl (fun x6 w6 h6 => ?_)
  obtain ⟨hb6, rfl⟩ := h6
  by_cases c6 : 0 ≤ h ∧ h ≤ 3
  · rw [if_pos c6] at hb6
    subst hb6
    refine x_if_eq 23 dX6_carriage_9 (fun h9 => absurd h9 (by decide)) (fun h9 => ?_)
    refine x_aload_n dX6_carriage_12 rfl ?_
    refine x_getfield 0 dX6_carriage_13 fg_X6_7 hP rfl rfl ?_
    refine x_iconst dX6_carriage_16 ?_
    refine x_iload_n dX6_carriage_17 rfl ?_
    refine x_iadd dX6_carriage_18 ?_
    refine x_iaload 1 (1 + h.toNat) dX6_carriage_19 hP rfl ?_
    refine x_goto 24 dX6_carriage_20 ?_
    exact x_iret dX6_carriage_24 (⟨by unfold rCar; (repeat' split) <;> first | rfl | omega | (exfalso; omega), rfl⟩)
  · rw [if_neg c6] at hb6
    subst hb6
    refine x_if_eq 23 dX6_carriage_9 (fun h9 => ?_) (fun h9 => absurd h9 (by decide))
    refine x_iconst dX6_carriage_23 ?_
    exact x_iret dX6_carriage_24 (⟨by unfold rCar; (repeat' split) <;> first | rfl | omega | (exfalso; omega), rfl⟩)
