/-! ===== next, when, done, better ===== -/
theorem mFt_len (z : Nat → Int) : (mFt z).1.length ≤ 64 := by
  have := ft_len 130065 z 0 0 0 (by omega)
  unfold mFt
  omega
theorem mFt_t (z : Nat → Int) : (mFt z).2 ≤ 130065 := by
  have := ft_t 130065 z 0 0 0
  unfold mFt
  omega
def rNext (z : Nat → Int) (i : Int) : Int := if 0 ≤ i ∧ i ≤ 63 then (if ((mFt z).1.length : Int) ≤ i then -4 else ((mFt z).1.getD i.toNat (0, 0)).1) else -1
theorem wr_fst (l : List (Int × Int)) (f : Nat → Int) (i : Nat) (h : i < l.length) : wr f 0 (l.map Prod.fst) i = (l.getD i (0, 0)).1 := by
  have := wr_get (l.map Prod.fst) f 0 i (l.getD i (0, 0)).1 (by simp [List.getD, h])
  rw [Nat.zero_add] at this
  exact this
theorem wr_snd (l : List (Int × Int)) (f : Nat → Int) (i : Nat) (h : i < l.length) : wr f 0 (l.map Prod.snd) i = (l.getD i (0, 0)).2 := by
  have := wr_get (l.map Prod.snd) f 0 i (l.getD i (0, 0)).2 (by simp [List.getD, h])
  rw [Nat.zero_add] at this
  exact this
def fnd (s : Int) : List (Int × Int) → Int
  | [] => -4
  | q :: l => if q.1 = s then q.2 else fnd s l
def rWhen (z : Nat → Int) (s : Int) : Int := if 0 ≤ s ∧ s ≤ 19 then fnd s (mFt z).1 else -1
theorem drop_getD (l : List (Int × Int)) (i : Nat) (h : i < l.length) : l.drop i = l.getD i (0, 0) :: l.drop (i + 1) := by
  rw [List.drop_eq_getElem_cons h]
  simp [List.getD, h]
def mStk (z : Nat → Int) : Nat → Int
  | 0 => 0
  | n + 1 => if ¬ mStk z n = 0 ∨ z (50 + n) = 1 then 1 else 0
theorem mStk_b (z : Nat → Int) : ∀ n, mStk z n = 0 ∨ mStk z n = 1
  | 0 => Or.inl rfl
  | n + 1 => by unfold mStk; split <;> omega
def rDone (z : Nat → Int) : Int := if mStk z 20 = 0 then ((mFt z).2 : Int) else -2
/-- songs are songs -/
theorem ft_song : ∀ (F : Nat) (z : Nat → Int) (n t q : Nat), ZA z → z 0 + F ≤ 2000000000 → ∀ x ∈ (ft F z n t q).1, inR x.1
  | 0, _, _, _, _, _, _ => by simp [ft]
  | F + 1, z, n, t, q, hA, h0 => by
    have hA2 := ZA_tick hA (by omega)
    have h05 := tick_05 hA.2.1 hA.2.2.1
    by_cases c : 64 ≤ n ∨ 2000 ≤ q ∨ (z 3 = 0 ∧ mPins z 20 = 0)
    · rw [ft_x c]; simp
    · by_cases c2 : mTick z 5 ≤ z 5
      · rw [ft_n c c2]; exact ft_song F _ n _ _ hA2 (by omega)
      · rw [ft_s c c2]
        intro x hx
        rcases List.mem_cons.mp hx with rfl | hx
        · have := mSong_b hA2.2.1.1.1 hA2.2.1.1.2
          exact ⟨by simp only; omega, by simp only; omega⟩
        · exact ft_song F _ _ _ _ hA2 (by omega) x hx
theorem mFt_song {z : Nat → Int} (hA : ZA z) (h0 : z 0 ≤ 1000000) (i : Nat) (hi : i < (mFt z).1.length) : inR ((mFt z).1.getD i (0, 0)).1 := by
  refine ft_song 130065 z 0 0 0 hA (by omega) _ ?_
  show (mFt z).1.getD i (0, 0) ∈ (mFt z).1
  simp [List.getD, hi]
set_option maxRecDepth 100000 in
set_option maxHeartbeats 4000000 in
theorem c_next {P : AW} {a : Nat} (hP : P.length = a) (fr : List Value) (z sp : Nat → Int) (n0 : Nat) (sa ba : Nat → Int) (dn : Int) (R : AW) (hA : ZA z) (hz0 : z 0 ≤ 1000000) (i : Int) (hii : inR i) : CTi I_X6_next 0 0 [.ref (a + 0), .int (iI i)] (P ++ mf a fr z sp n0 sa ba dn R) (fun x w' => x = rNext z i ∧ (if 0 ≤ i ∧ i ≤ 63 then P ++ mf a fr z z (mFt z).1.length (wr sa 0 ((mFt z).1.map Prod.fst)) (wr ba 0 ((mFt z).1.map Prod.snd)) ((mFt z).2 : Int) R else P ++ mf a fr z sp n0 sa ba dn R) = w') := by
  have hlen := mFt_len z
  have hmt := mFt_t z
  refine CT_of 0 rfl (Nat.le_of_ble_eq_true rfl) ?_
  show EX I_X6_next 0 0 none _ 0 [some (.ref (a + 0)), some (.int (iI i))] [] _ 0 0
  refine x_iload_n dX6_next_0 rfl ?_
  refine x_i2l dX6_next_1 ?_
  refine x_lconst dX6_next_2 ?_
  refine x_ldc2 dX6_next_3 kl_X6_123 ?_
  refine x_calliS dX6_next_6 mk_X6_in ml_X6_43 (c_in _ i 0 63 hii (by decide) (by decide)) rfl (fun x6 w6 h6 => ?_)
  obtain ⟨hb6, rfl⟩ := h6
  by_cases c6 : 0 ≤ i ∧ i ≤ 63
  · rw [if_pos c6] at hb6
    subst hb6
    refine x_if_ne 14 dX6_next_9 (fun h9 => ?_) (fun h9 => absurd h9 (by decide))
    refine x_aload_n dX6_next_14 rfl ?_
    refine x_callvV dX6_next_15 mk_X6_foretell ml_X6_125 (c_foretell hP fr z sp n0 sa ba dn R hA hz0) ((wg_app hP 0).trans rfl) rfl (fun w15 h15 => ?_)
    subst h15
    refine x_iload_n dX6_next_18 rfl ?_
    refine x_aload_n dX6_next_19 rfl ?_
    refine x_getfield 0 dX6_next_20 fg_X6_113 hP rfl rfl ?_
    refine x_icmp_ge 35 dX6_next_23 (fun h23 => ?_) (fun h23 => ?_)
    · refine x_bipush dX6_next_35 ?_
      exact x_iret dX6_next_37 (⟨by unfold rNext; rw [if_pos (by omega), if_pos (by omega)], if_pos c6⟩)
    · refine x_aload_n dX6_next_26 rfl ?_
      refine x_getfield 0 dX6_next_27 fg_X6_16 hP rfl rfl ?_
      refine x_iload_n dX6_next_30 rfl ?_
      refine x_iaload 3 (i.toNat) dX6_next_31 hP rfl ?_
      refine x_goto 37 dX6_next_32 ?_
      exact x_iret dX6_next_37 (⟨by unfold rNext; rw [if_pos (by omega), if_neg (by omega)]; exact wr_fst _ _ _ (by omega), if_pos c6⟩)
  · rw [if_neg c6] at hb6
    subst hb6
    refine x_if_ne 14 dX6_next_9 (fun h9 => absurd h9 (by decide)) (fun h9 => ?_)
    refine x_iconst dX6_next_12 ?_
    exact x_iret dX6_next_13 (⟨by unfold rNext; rw [if_neg (by omega)], if_neg c6⟩)
set_option maxRecDepth 100000 in
set_option maxHeartbeats 4000000 in
theorem l_when {P : AW} {a : Nat} (hP : P.length = a) (fr : List Value) (z : Nat → Int) (sa ba : Nat → Int) (R : AW) (hA : ZA z) (hz0 : z 0 ≤ 1000000) (s : Int) (his : inR s) {Q : Int → AW → Prop} : ∀ (r i : Nat), i + r = (mFt z).1.length → Q (fnd s ((mFt z).1.drop i)) (P ++ mf a fr z z (mFt z).1.length (wr sa 0 ((mFt z).1.map Prod.fst)) (wr ba 0 ((mFt z).1.map Prod.snd)) ((mFt z).2 : Int) R) → EX I_X6_when 0 0 none (ZM 0 0 (fun r w' => ∃ x : Int, r = some (.int (iI x)) ∧ Q x w')) 15 [some (.ref (a + 0)), some (.int (iI s)), some (.int (iI ((i : Nat) : Int)))] [] (P ++ mf a fr z z (mFt z).1.length (wr sa 0 ((mFt z).1.map Prod.fst)) (wr ba 0 ((mFt z).1.map Prod.snd)) ((mFt z).2 : Int) R) 0 0 := by
  have hlen := mFt_len z
  intro r
  induction r with
  | zero =>
    intro i hs hq
    have hs' : i = (mFt z).1.length := by omega
    subst hs'
    refine x_iload_n dX6_when_15 rfl ?_
    refine x_aload_n dX6_when_16 rfl ?_
    refine x_getfield 0 dX6_when_17 fg_X6_113 hP rfl rfl ?_
    refine x_icmp_ge 46 dX6_when_20 (fun h20 => ?_) (fun h20 => by exfalso; omega)
    have e1 : fnd s ((mFt z).1.drop (mFt z).1.length) = -4 := by rw [List.drop_length]; rfl
    rw [e1] at hq
    refine x_bipush dX6_when_46 ?_
    exact x_iret dX6_when_48 hq
  | succ r ih =>
    intro i hs hq
    refine x_iload_n dX6_when_15 rfl ?_
    refine x_aload_n dX6_when_16 rfl ?_
    refine x_getfield 0 dX6_when_17 fg_X6_113 hP rfl rfl ?_
    refine x_icmp_ge 46 dX6_when_20 (fun h20 => by exfalso; omega) (fun h20 => ?_)
    refine x_aload_n dX6_when_23 rfl ?_
    refine x_getfield 0 dX6_when_24 fg_X6_16 hP rfl rfl ?_
    refine x_iload_n dX6_when_27 rfl ?_
    refine x_iaload 3 (i) dX6_when_28 hP rfl ?_
    have e1 := wr_fst (mFt z).1 sa i (by omega)
    refine x_top e1 ?_
    have hsg := mFt_song hA hz0 i (by omega)
    refine x_iload_n dX6_when_29 rfl ?_
    refine x_icmp_ne 40 dX6_when_30 (fun h30 => ?_) (fun h30 => ?_) (ha := hsg) (hb := his)
    · refine x_inc2 dX6_when_40 ?_
      refine x_goto 15 dX6_when_43 ?_
      have e2 : fnd s ((mFt z).1.drop i) = fnd s ((mFt z).1.drop (i + 1)) := by rw [drop_getD _ i (by omega)]; exact if_neg h30
      rw [e2] at hq
      exact ih (i + 1) (by omega) hq
    · refine x_aload_n dX6_when_33 rfl ?_
      refine x_getfield 0 dX6_when_34 fg_X6_19 hP rfl rfl ?_
      refine x_iload_n dX6_when_37 rfl ?_
      refine x_iaload 4 (i) dX6_when_38 hP rfl ?_
      exact x_iret dX6_when_39 (by rw [wr_snd (mFt z).1 ba i (by omega), ← show fnd s ((mFt z).1.drop i) = ((mFt z).1.getD i (0, 0)).2 from (by rw [drop_getD _ i (by omega)]; exact if_pos h30)]; exact hq)
set_option maxRecDepth 100000 in
set_option maxHeartbeats 4000000 in
theorem c_when {P : AW} {a : Nat} (hP : P.length = a) (fr : List Value) (z sp : Nat → Int) (n0 : Nat) (sa ba : Nat → Int) (dn : Int) (R : AW) (hA : ZA z) (hz0 : z 0 ≤ 1000000) (s : Int) (his : inR s) : CTi I_X6_when 0 0 [.ref (a + 0), .int (iI s)] (P ++ mf a fr z sp n0 sa ba dn R) (fun x w' => x = rWhen z s ∧ (if 0 ≤ s ∧ s ≤ 19 then P ++ mf a fr z z (mFt z).1.length (wr sa 0 ((mFt z).1.map Prod.fst)) (wr ba 0 ((mFt z).1.map Prod.snd)) ((mFt z).2 : Int) R else P ++ mf a fr z sp n0 sa ba dn R) = w') := by
  have hlen := mFt_len z
  have hmt := mFt_t z
  refine CT_of 1 rfl (Nat.le_of_ble_eq_true rfl) ?_
  show EX I_X6_when 0 0 none _ 0 [some (.ref (a + 0)), some (.int (iI s)), none] [] _ 0 0
  refine x_iload_n dX6_when_0 rfl ?_
  refine x_calliS dX6_when_1 mk_X6_isSong ml_X6_67 (c_isSong _ s his) rfl (fun x1 w1 h1 => ?_)
  obtain ⟨hb1, rfl⟩ := h1
  by_cases c1 : 0 ≤ s ∧ s ≤ 19
  · rw [if_pos c1] at hb1
    subst hb1
    refine x_if_ne 9 dX6_when_4 (fun h4 => ?_) (fun h4 => absurd h4 (by decide))
    refine x_aload_n dX6_when_9 rfl ?_
    refine x_callvV dX6_when_10 mk_X6_foretell ml_X6_125 (c_foretell hP fr z sp n0 sa ba dn R hA hz0) ((wg_app hP 0).trans rfl) rfl (fun w10 h10 => ?_)
    subst h10
    refine x_iconst dX6_when_13 ?_
    refine x_ist2 dX6_when_14 ?_
    exact l_when hP fr z sa ba R hA hz0 s his (mFt z).1.length 0 (by omega) ⟨by unfold rWhen; rw [if_pos c1]; rfl, if_pos c1⟩
  · rw [if_neg c1] at hb1
    subst hb1
    refine x_if_ne 9 dX6_when_4 (fun h4 => absurd h4 (by decide)) (fun h4 => ?_)
    refine x_iconst dX6_when_7 ?_
    exact x_iret dX6_when_8 (⟨by unfold rWhen; rw [if_neg c1], if_neg c1⟩)
set_option maxRecDepth 100000 in
set_option maxHeartbeats 4000000 in
theorem l_stk {P : AW} {a : Nat} (hP : P.length = a) (fr : List Value) (z : Nat → Int) (R : AW) (hR : ∀ i, inR (z i)) {Z : Zt} (hx : EX I_X6_isStuckIn 0 0 none Z 39 [some (.ref (a + 0)), some (.int (iI (mStk z 20))), some (.int (iI ((20 : Nat) : Int)))] [] (P ++ mz a fr z R) 0 0) : ∀ (r s : Nat), s + r = 20 → EX I_X6_isStuckIn 0 0 none Z 4 [some (.ref (a + 0)), some (.int (iI (mStk z s))), some (.int (iI ((s : Nat) : Int)))] [] (P ++ mz a fr z R) 0 0 := by
  intro r
  induction r with
  | zero =>
    intro s hs
    have hs' : s = 20 := by omega
    subst hs'
    refine x_iload_n dX6_isStuckIn_4 rfl ?_
    refine x_bipush dX6_isStuckIn_5 ?_
    refine x_icmp_ge 39 dX6_isStuckIn_7 (fun h7 => ?_) (fun h7 => by exfalso; omega)
    exact hx
  | succ r ih =>
    intro s hs
    have hb := mStk_b z s
    refine x_iload_n dX6_isStuckIn_4 rfl ?_
    refine x_bipush dX6_isStuckIn_5 ?_
    refine x_icmp_ge 39 dX6_isStuckIn_7 (fun h7 => by exfalso; omega) (fun h7 => ?_)
    refine x_iload_n dX6_isStuckIn_10 rfl ?_
    refine x_if_ne 27 dX6_isStuckIn_11 (fun h11 => ?_) (fun h11 => ?_)
    · refine x_iconst dX6_isStuckIn_27 ?_
      refine x_goto 32 dX6_isStuckIn_28 ?_
      refine x_ist1 dX6_isStuckIn_32 ?_
      refine x_inc2 dX6_isStuckIn_33 ?_
      refine x_goto 4 dX6_isStuckIn_36 ?_
      have hq : mStk z (s + 1) = 1 := by simp only [mStk]; (first | exact if_pos (by omega) | exact if_neg (by omega))
      have := ih (s + 1) (by omega)
      rw [hq] at this
      exact this
    · refine x_aload_n dX6_isStuckIn_14 rfl ?_
      refine x_getfield 0 dX6_isStuckIn_15 fg_X6_7 hP rfl rfl ?_
      refine x_bipush dX6_isStuckIn_18 ?_
      refine x_iload_n dX6_isStuckIn_20 rfl ?_
      refine x_iadd dX6_isStuckIn_21 ?_
      refine x_iaload 1 (50 + s) dX6_isStuckIn_22 hP rfl ?_
      refine x_iconst dX6_isStuckIn_23 ?_
      refine x_icmp_ne 31 dX6_isStuckIn_24 (fun h24 => ?_) (fun h24 => ?_) (ha := hR _)
      · refine x_iconst dX6_isStuckIn_31 ?_
        refine x_ist1 dX6_isStuckIn_32 ?_
        refine x_inc2 dX6_isStuckIn_33 ?_
        refine x_goto 4 dX6_isStuckIn_36 ?_
        have hq : mStk z (s + 1) = 0 := by simp only [mStk]; (first | exact if_pos (by omega) | exact if_neg (by omega))
        have := ih (s + 1) (by omega)
        rw [hq] at this
        exact this
      · refine x_iconst dX6_isStuckIn_27 ?_
        refine x_goto 32 dX6_isStuckIn_28 ?_
        refine x_ist1 dX6_isStuckIn_32 ?_
        refine x_inc2 dX6_isStuckIn_33 ?_
        refine x_goto 4 dX6_isStuckIn_36 ?_
        have hq : mStk z (s + 1) = 1 := by simp only [mStk]; (first | exact if_pos (by omega) | exact if_neg (by omega))
        have := ih (s + 1) (by omega)
        rw [hq] at this
        exact this
set_option maxRecDepth 100000 in
set_option maxHeartbeats 4000000 in
theorem c_isStuckIn {P : AW} {a : Nat} (hP : P.length = a) (fr : List Value) (z : Nat → Int) (R : AW) (hR : ∀ i, inR (z i)) : CTi I_X6_isStuckIn 0 0 [.ref (a + 0)] (P ++ mz a fr z R) (fun x w' => x = mStk z 20 ∧ w' = P ++ mz a fr z R) := by
  refine CT_of 2 rfl (Nat.le_of_ble_eq_true rfl) ?_
  show EX I_X6_isStuckIn 0 0 none _ 0 [some (.ref (a + 0)), none, none] [] _ 0 0
  refine x_iconst dX6_isStuckIn_0 ?_
  refine x_ist1 dX6_isStuckIn_1 ?_
  refine x_iconst dX6_isStuckIn_2 ?_
  refine x_ist2 dX6_isStuckIn_3 ?_
  refine l_stk hP fr z R hR ?_ 20 0 rfl
  refine x_iload_n dX6_isStuckIn_39 rfl ?_
  exact x_zret dX6_isStuckIn_40 (mStk_b z 20) ⟨rfl, rfl⟩
set_option maxRecDepth 100000 in
set_option maxHeartbeats 4000000 in
theorem c_done {P : AW} {a : Nat} (hP : P.length = a) (fr : List Value) (z sp : Nat → Int) (n0 : Nat) (sa ba : Nat → Int) (dn : Int) (R : AW) (hA : ZA z) (hz0 : z 0 ≤ 1000000) : CTi I_X6_done 0 0 [.ref (a + 0)] (P ++ mf a fr z sp n0 sa ba dn R) (fun x w' => x = rDone z ∧ (if mStk z 20 = 0 then P ++ mf a fr z z (mFt z).1.length (wr sa 0 ((mFt z).1.map Prod.fst)) (wr ba 0 ((mFt z).1.map Prod.snd)) ((mFt z).2 : Int) R else P ++ mf a fr z sp n0 sa ba dn R) = w') := by
  have hlen := mFt_len z
  have hmt := mFt_t z
  have hsb := mStk_b z 20
  refine CT_of 0 rfl (Nat.le_of_ble_eq_true rfl) ?_
  show EX I_X6_done 0 0 none _ 0 [some (.ref (a + 0))] [] _ 0 0
  refine x_aload_n dX6_done_0 rfl ?_
  refine x_calliV dX6_done_1 mk_X6_isStuckIn ml_X6_128 (c_isStuckIn hP _ z _ hA.1) ((wg_app hP 0).trans rfl) rfl (fun x1 w1 h1 => ?_)
  obtain ⟨rfl, rfl⟩ := h1
  refine x_if_eq 10 dX6_done_4 (fun h4 => ?_) (fun h4 => ?_)
  · refine x_aload_n dX6_done_10 rfl ?_
    refine x_callvV dX6_done_11 mk_X6_foretell ml_X6_125 (c_foretell hP fr z sp n0 sa ba dn R hA hz0) ((wg_app hP 0).trans rfl) rfl (fun w11 h11 => ?_)
    subst h11
    refine x_aload_n dX6_done_14 rfl ?_
    refine x_getfield 0 dX6_done_15 fg_X6_117 hP rfl rfl ?_
    exact x_iret dX6_done_18 (⟨by unfold rDone; rw [if_pos h4], if_pos h4⟩)
  · refine x_bipush dX6_done_7 ?_
    exact x_iret dX6_done_9 (⟨by unfold rDone; rw [if_neg h4], if_neg h4⟩)
