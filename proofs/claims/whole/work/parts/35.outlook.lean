set_option maxRecDepth 100000 in
set_option maxHeartbeats 4000000 in
theorem q_isDone {P : AW} {a : Nat} (hP : P.length = a) (c0 c6 c12 : AC) (z y t so st : Nat → Int) (td sk le ot sn pk : Int) (R : AW) (hR : ∀ i, inR (t i)) (hpn : P01 t) : CTi I_X4_isDone 0 0 [.ref (a + 14)] (P ++ ow a c0 c6 c12 z y t so st td sk le ot sn pk R) (fun x w' => x = (if t 3 = 0 ∧ mPins t 20 = 0 then 1 else 0) ∧ w' = P ++ ow a c0 c6 c12 z y t so st td sk le ot sn pk R) := by
  have h := k_isDone (len14 hP c0 c6 c12 z y td sk le ot sn pk) t (aI 0 64 so :: aI 0 64 st :: R) hR hpn
  simp only [List.append_assoc] at h
  exact h
set_option maxRecDepth 100000 in
set_option maxHeartbeats 4000000 in
theorem q_pass {P : AW} {a : Nat} (hP : P.length = a) (c0 c6 c12 : AC) (z y t so st : Nat → Int) (td sk le ot sn pk : Int) (R : AW) (hA : ZA t) (h0 : t 0 ≤ 1000000000) : CTi I_X4_pass 0 0 [.ref (a + 14), .int (iI 120)] (P ++ ow a c0 c6 c12 z y t so st td sk le ot sn pk R) (fun x w' => x = ((gP t 120 : Nat) : Int) ∧ w' = P ++ ow a c0 c6 c12 z y (stp t) so st td sk le ot sn pk R) := by
  have h := k_pass (len14 hP c0 c6 c12 z y td sk le ot sn pk) t (aI 0 64 so :: aI 0 64 st :: R) hA 120 (by decide) (by omega)
  simp only [List.append_assoc] at h
  exact h
set_option maxRecDepth 100000 in
set_option maxHeartbeats 4000000 in
theorem q_ownSong {P : AW} {a : Nat} (hP : P.length = a) (c0 c6 c12 : AC) (z y t so st : Nat → Int) (td sk le ot sn pk : Int) (R : AW) (h2 : t 2 = 0 ∨ t 2 = 1) : CTi I_X4_ownSong 0 0 [.ref (a + 14)] (P ++ ow a c0 c6 c12 z y t so st td sk le ot sn pk R) (fun x w' => x = mSong t ∧ w' = P ++ ow a c0 c6 c12 z y t so st td sk le ot sn pk R) := by
  have h := k_ownSong (len14 hP c0 c6 c12 z y td sk le ot sn pk) t (aI 0 64 so :: aI 0 64 st :: R) h2
  simp only [List.append_assoc] at h
  exact h
set_option maxRecDepth 100000 in
set_option maxHeartbeats 4000000 in
theorem q_swap {P : AW} {a : Nat} (hP : P.length = a) (c0 c6 c12 : AC) (z y t so st : Nat → Int) (td sk le ot sn pk : Int) (R : AW) (p q : Nat) (hp : p < 10) (hq : q < 10) : CTv I_X4_swap 0 0 [.ref (a + 14), .int (iI (p : Int)), .int (iI (q : Int))] (P ++ ow a c0 c6 c12 z y t so st td sk le ot sn pk R) (fun w' => w' = P ++ ow a c0 c6 c12 z y (swp t p q) so st td sk le ot sn pk R) := by
  have h := k_swap (len14 hP c0 c6 c12 z y td sk le ot sn pk) t (aI 0 64 so :: aI 0 64 st :: R) p q hp hq
  simp only [List.append_assoc] at h
  exact h
set_option maxRecDepth 100000 in
set_option maxHeartbeats 4000000 in
theorem k_mayHelp {P : AW} {a : Nat} (hP : P.length = a) (z : Nat → Int) (R : AW) (hR : ∀ i, inR (z i)) (p q : Nat) (hp : p < 10) (hq : q < 10) : CTi I_X0_mayHelp 0 0 [.ref (a + 0), .int (iI (p : Int)), .int (iI (q : Int))] (P ++ wk a z R) (fun x w' => x = (if ¬ (z 1 = (p : Int) ∧ 3 ≤ z 3) ∧ ¬ (z 1 = (q : Int) ∧ 3 ≤ z 3) ∧ ((z (30 + 2 * p) = 1 ∨ z (30 + (2 * p + 1)) = 1) ∨ (z (30 + 2 * q) = 1 ∨ z (30 + (2 * q + 1)) = 1)) then 1 else 0) ∧ w' = P ++ wk a z R) := by
  refine CT_of 0 rfl (Nat.le_of_ble_eq_true rfl) ?_
  show EX I_X0_mayHelp 0 0 none _ 0 [some (.ref (a + 0)), some (.int (iI (p : Int))), some (.int (iI (q : Int)))] [] _ 0 0
  refine x_aload_n dX0_mayHelp_0 rfl ?_
  refine x_iload_n dX0_mayHelp_1 rfl ?_
  refine x_calliV dX0_mayHelp_2 mk_X4_isOut ml_X0_79 (k_isOut hP z R hR (p : Int) (by omega)) ((wg_app hP 0).trans rfl) rfl (fun x2 w2 h2 => ?_)
  obtain ⟨hb2, rfl⟩ := h2
  by_cases c2 : (z 1 = (p : Int) ∧ 3 ≤ z 3)
  · rw [if_pos c2] at hb2
    subst hb2
    refine x_if_ne 36 dX0_mayHelp_5 (fun h5 => ?_) (fun h5 => absurd h5 (by decide))
    refine x_iconst dX0_mayHelp_36 ?_
    exact x_zret dX0_mayHelp_37 (by omega) (⟨(if_neg (fun h => h.1 c2)).symm, rfl⟩)
  · rw [if_neg c2] at hb2
    subst hb2
    refine x_if_ne 36 dX0_mayHelp_5 (fun h5 => absurd h5 (by decide)) (fun h5 => ?_)
    refine x_aload_n dX0_mayHelp_8 rfl ?_
    refine x_iload_n dX0_mayHelp_9 rfl ?_
    refine x_calliV dX0_mayHelp_10 mk_X4_isOut ml_X0_79 (k_isOut hP z R hR (q : Int) (by omega)) ((wg_app hP 0).trans rfl) rfl (fun x10 w10 h10 => ?_)
    obtain ⟨hb10, rfl⟩ := h10
    by_cases c10 : (z 1 = (q : Int) ∧ 3 ≤ z 3)
    · rw [if_pos c10] at hb10
      subst hb10
      refine x_if_ne 36 dX0_mayHelp_13 (fun h13 => ?_) (fun h13 => absurd h13 (by decide))
      refine x_iconst dX0_mayHelp_36 ?_
      exact x_zret dX0_mayHelp_37 (by omega) (⟨(if_neg (fun h => h.2.1 c10)).symm, rfl⟩)
    · rw [if_neg c10] at hb10
      subst hb10
      refine x_if_ne 36 dX0_mayHelp_13 (fun h13 => absurd h13 (by decide)) (fun h13 => ?_)
      refine x_aload_n dX0_mayHelp_16 rfl ?_
      refine x_iload_n dX0_mayHelp_17 rfl ?_
      refine x_calliV dX0_mayHelp_18 mk_X4_isAsked ml_X0_83 (k_isAsked hP z R p hp) ((wg_app hP 0).trans rfl) rfl (fun x18 w18 h18 => ?_)
      obtain ⟨hb18, rfl⟩ := h18
      by_cases c18 : (z (30 + 2 * p) = 1 ∨ z (30 + (2 * p + 1)) = 1)
      · rw [if_pos c18] at hb18
        subst hb18
        refine x_if_ne 32 dX0_mayHelp_21 (fun h21 => ?_) (fun h21 => absurd h21 (by decide))
        refine x_iconst dX0_mayHelp_32 ?_
        refine x_goto 37 dX0_mayHelp_33 ?_
        exact x_zret dX0_mayHelp_37 (by omega) (⟨(if_pos ⟨c2, c10, Or.inl c18⟩).symm, rfl⟩)
      · rw [if_neg c18] at hb18
        subst hb18
        refine x_if_ne 32 dX0_mayHelp_21 (fun h21 => absurd h21 (by decide)) (fun h21 => ?_)
        refine x_aload_n dX0_mayHelp_24 rfl ?_
        refine x_iload_n dX0_mayHelp_25 rfl ?_
        refine x_calliV dX0_mayHelp_26 mk_X4_isAsked ml_X0_83 (k_isAsked hP z R q hq) ((wg_app hP 0).trans rfl) rfl (fun x26 w26 h26 => ?_)
        obtain ⟨hb26, rfl⟩ := h26
        by_cases c26 : (z (30 + 2 * q) = 1 ∨ z (30 + (2 * q + 1)) = 1)
        · rw [if_pos c26] at hb26
          subst hb26
          refine x_if_eq 36 dX0_mayHelp_29 (fun h29 => absurd h29 (by decide)) (fun h29 => ?_)
          refine x_iconst dX0_mayHelp_32 ?_
          refine x_goto 37 dX0_mayHelp_33 ?_
          exact x_zret dX0_mayHelp_37 (by omega) (⟨(if_pos ⟨c2, c10, Or.inr c26⟩).symm, rfl⟩)
        · rw [if_neg c26] at hb26
          subst hb26
          refine x_if_eq 36 dX0_mayHelp_29 (fun h29 => ?_) (fun h29 => absurd h29 (by decide))
          refine x_iconst dX0_mayHelp_36 ?_
          exact x_zret dX0_mayHelp_37 (by omega) (⟨(if_neg (fun h => h.2.2.elim c18 c26)).symm, rfl⟩)
set_option maxRecDepth 100000 in
set_option maxHeartbeats 4000000 in
theorem q_mayHelp {P : AW} {a : Nat} (hP : P.length = a) (c0 c6 c12 : AC) (z y t so st : Nat → Int) (td sk le ot sn pk : Int) (R : AW) (hR : ∀ i, inR (z i)) (p q : Nat) (hp : p < 10) (hq : q < 10) : CTi I_X0_mayHelp 0 0 [.ref (a + 1), .int (iI (p : Int)), .int (iI (q : Int))] (P ++ ow a c0 c6 c12 z y t so st td sk le ot sn pk R) (fun x w' => x = (if ¬ (z 1 = (p : Int) ∧ 3 ≤ z 3) ∧ ¬ (z 1 = (q : Int) ∧ 3 ≤ z 3) ∧ ((z (30 + 2 * p) = 1 ∨ z (30 + (2 * p + 1)) = 1) ∨ (z (30 + 2 * q) = 1 ∨ z (30 + (2 * q + 1)) = 1)) then 1 else 0) ∧ w' = P ++ ow a c0 c6 c12 z y t so st td sk le ot sn pk R) := by
  have h := k_mayHelp (len1 hP c0) z (c6 :: wk (a + 7) y (c12 :: oO a td sk le ot sn pk :: wk (a + 14) t (aI 0 64 so :: aI 0 64 st :: R))) hR p q hp hq
  simp only [List.append_assoc] at h
  exact h
set_option maxRecDepth 100000 in
set_option maxHeartbeats 4000000 in
theorem k_forget {P : AW} {a : Nat} (hP : P.length = a) (c0 c6 c12 : AC) (z y t so st : Nat → Int) (td sk le ot sn pk : Int) (R : AW) : CTv I_X0_forget 0 0 [.ref (a + 13)] (P ++ ow a c0 c6 c12 z y t so st td sk le ot sn pk R) (fun w' => w' = P ++ ow a c0 c6 c12 z y t so st td (0) le ot sn (0) R) := by
  refine CT_of 0 rfl (Nat.le_of_ble_eq_true rfl) ?_
  show EX I_X0_forget 0 0 none _ 0 [some (.ref (a + 13))] [] _ 0 0
  refine x_aload_n dX0_forget_0 rfl ?_
  refine x_iconst dX0_forget_1 ?_
  refine x_putfield 13 dX0_forget_2 fl_X0_29 hP rfl (fun _ _ => bfit (by omega)) ?_
  refine x_aload_n dX0_forget_5 rfl ?_
  refine x_iconst dX0_forget_6 ?_
  refine x_putfield 13 dX0_forget_7 fl_X0_42 hP rfl (fun _ _ => bfit (by omega)) ?_
  exact x_vret dX0_forget_10 (rfl)
/-- the songs kept are those that would be -/
def CK (z : Nat → Int) (td : Int) (so st : Nat → Int) : Prop := td = ((mFt z).1.length : Int) ∧ ∀ i, i < (mFt z).1.length → so i = ((mFt z).1.getD i (0, 0)).1 ∧ st i = ((mFt z).1.getD i (0, 0)).2
set_option maxRecDepth 100000 in
set_option maxHeartbeats 4000000 in
theorem lk_fore {P : AW} {a : Nat} (hP : P.length = a) (c0 c6 c12 : AC) (z y : Nat → Int) (le ot sn pk : Int) (R : AW) (hz : 0 ≤ z 0 ∧ z 0 ≤ 1000000) {Q : AW → Prop} : ∀ (F : Nat) (t : Nat → Int) (n tm k i : Nat) (so st : Nat → Int) (l4 : Option Value), i + F = 1536 → ZA t → t 0 = z 0 + (tm : Int) → tm + 120 * F ≤ 200000 → n ≤ 64 → k ≤ 24 →
    (∀ t', Q (P ++ ow a c0 c6 c12 z y (t') (wr so n ((fs F t n tm k).map Prod.fst)) (wr st n ((fs F t n tm k).map Prod.snd)) (((n + (fs F t n tm k).length : Nat) : Int)) (1) le ot sn pk R)) → EX I_X0_foresee 0 0 none (ZM 0 0 (fun r w' => r = none ∧ Q w')) 30 [some (.ref (a + 13)), some (.ref (a + 1)), some (.int (iI ((k : Nat) : Int))), some (.int (iI ((i : Nat) : Int))), l4] [] (P ++ ow a c0 c6 c12 z y t so st ((n : Int)) (1) le ot sn pk R) 0 0 := by
  intro F
  induction F with
  | zero =>
    intro t n tm k i so st l4 hi hA h0 ht hn hk24 hq
    refine x_iload_n dX0_foresee_30 rfl ?_
    refine x_sipush dX0_foresee_31 ?_
    refine x_icmp_ge 155 dX0_foresee_34 (fun h34 => ?_) (fun h34 => by exfalso; omega)
    exact x_vret dX0_foresee_155 (hq t)
  | succ F ih =>
    intro t n tm k i so st l4 hi hA h0 ht hn hk24 hq
    have hg := gP_b hA.2.2.1
    have hZ : ZA (stp t) ∧ stp t 0 = t 0 + gP t 120 := ZA_ticks hA (gP t 120) (by omega)
    refine x_iload_n dX0_foresee_30 rfl ?_
    refine x_sipush dX0_foresee_31 ?_
    refine x_icmp_ge 155 dX0_foresee_34 (fun h34 => by exfalso; omega) (fun h34 => ?_)
    refine x_aload_n dX0_foresee_37 rfl ?_
    refine x_getfield 13 dX0_foresee_38 fg_X0_25 hP rfl rfl ?_
    refine x_bipush dX0_foresee_41 ?_
    refine x_icmp_ge 155 dX0_foresee_43 (fun h43 => ?_) (fun h43 => ?_)
    · exact x_vret dX0_foresee_155 (by have e1 := fs_x (F := F) (z := t) (n := n) (t := tm) (k := k) (by omega); rw [e1] at hq; exact hq _)
    · refine x_aload_n dX0_foresee_46 rfl ?_
      refine x_getfield 13 dX0_foresee_47 fg_X0_12 hP rfl rfl ?_
      refine x_calliV dX0_foresee_50 mk_X4_isDone ml_X0_49 (q_isDone hP c0 c6 c12 z y t so st ((n : Int)) (1) le ot sn pk R hA.1 hA.2.1.2.2.2.2.2.2.1) ((wg_app hP 14).trans rfl) rfl (fun x50 w50 h50 => ?_)
      obtain ⟨hb50, rfl⟩ := h50
      by_cases c50 : t 3 = 0 ∧ mPins t 20 = 0
      · rw [if_pos c50] at hb50
        subst hb50
        refine x_if_ne 62 dX0_foresee_53 (fun h53 => ?_) (fun h53 => absurd h53 (by decide))
        exact x_vret dX0_foresee_62 (by have e1 := fs_x (F := F) (z := t) (n := n) (t := tm) (k := k) (by omega); rw [e1] at hq; exact hq _)
      · rw [if_neg c50] at hb50
        subst hb50
        refine x_if_ne 62 dX0_foresee_53 (fun h53 => absurd h53 (by decide)) (fun h53 => ?_)
        refine x_iload_n dX0_foresee_56 rfl ?_
        refine x_bipush dX0_foresee_57 ?_
        refine x_icmp_lt 63 dX0_foresee_59 (fun h59 => ?_) (fun h59 => ?_)
        · refine x_aload_n dX0_foresee_63 rfl ?_
          refine x_getfield 13 dX0_foresee_64 fg_X0_12 hP rfl rfl ?_
          refine x_getfield 14 dX0_foresee_67 fg_X0_53 hP rfl rfl ?_
          refine x_ist4 dX0_foresee_70 ?_
          refine x_aload_n dX0_foresee_72 rfl ?_
          refine x_getfield 13 dX0_foresee_73 fg_X0_12 hP rfl rfl ?_
          refine x_bipush dX0_foresee_76 ?_
          refine x_calliV dX0_foresee_78 mk_X4_pass ml_X0_56 (q_pass hP c0 c6 c12 z y t so st ((n : Int)) (1) le ot sn pk R hA (by omega)) ((wg_app hP 14).trans rfl) rfl (fun x78 w78 h78 => ?_)
          obtain ⟨rfl, rfl⟩ := h78
          refine x_pop dX0_foresee_81 ?_
          refine x_aload_n dX0_foresee_82 rfl ?_
          refine x_getfield 13 dX0_foresee_83 fg_X0_12 hP rfl rfl ?_
          refine x_getfield 14 dX0_foresee_86 fg_X0_53 hP rfl rfl ?_
          refine x_iload dX0_foresee_89 rfl ?_
          refine x_icmp_ne 100 dX0_foresee_91 (fun h91 => ?_) (fun h91 => ?_) (ha := hZ.1.1 5) (hb := hA.1 5)
          · refine x_iconst dX0_foresee_100 ?_
            refine x_ist2 dX0_foresee_101 ?_
            refine x_aload_n dX0_foresee_102 rfl ?_
            refine x_getfield 13 dX0_foresee_103 fg_X0_18 hP rfl rfl ?_
            refine x_aload_n dX0_foresee_106 rfl ?_
            refine x_getfield 13 dX0_foresee_107 fg_X0_25 hP rfl rfl ?_
            refine x_aload_n dX0_foresee_110 rfl ?_
            refine x_getfield 13 dX0_foresee_111 fg_X0_12 hP rfl rfl ?_
            refine x_calliV dX0_foresee_114 mk_X4_ownSong ml_X0_60 (q_ownSong hP c0 c6 c12 z y (stp t) so st ((n : Int)) (1) le ot sn pk R hZ.1.2.1.2.1) ((wg_app hP 14).trans rfl) rfl (fun x114 w114 h114 => ?_)
            obtain ⟨rfl, rfl⟩ := h114
            refine x_iastore 19 (n) dX0_foresee_117 hP rfl ?_
            refine x_aload_n dX0_foresee_118 rfl ?_
            refine x_getfield 13 dX0_foresee_119 fg_X0_22 hP rfl rfl ?_
            refine x_aload_n dX0_foresee_122 rfl ?_
            refine x_getfield 13 dX0_foresee_123 fg_X0_25 hP rfl rfl ?_
            refine x_aload_n dX0_foresee_126 rfl ?_
            refine x_getfield 13 dX0_foresee_127 fg_X0_12 hP rfl rfl ?_
            refine x_getfield 14 dX0_foresee_130 fg_X0_64 hP rfl rfl ?_
            refine x_aload_n dX0_foresee_133 rfl ?_
            refine x_getfield 1 dX0_foresee_134 fg_X0_64 hP rfl rfl ?_
            refine x_isub dX0_foresee_137 ?_
            refine x_top (show _ = ((tm + gP t 120 : Nat) : Int) by omega) ?_
            refine x_iastore 20 (n) dX0_foresee_138 hP rfl ?_
            refine x_aload_n dX0_foresee_139 rfl ?_
            refine x_dup dX0_foresee_140 ?_
            refine x_getfield 13 dX0_foresee_141 fg_X0_25 hP rfl rfl ?_
            refine x_iconst dX0_foresee_144 ?_
            refine x_iadd dX0_foresee_145 ?_
            refine x_putfield 13 dX0_foresee_146 fl_X0_25 hP rfl (fun _ _ => ⟨rfl, rfl⟩) ?_
            refine x_inc3 dX0_foresee_149 ?_
            refine x_goto 30 dX0_foresee_152 ?_
            rw [fs_s (by omega) h91] at hq
            simp only [List.map_cons, wr, List.length_cons] at hq
            exact ih (stp t) (n + 1) (tm + gP t 120) 0 (i + 1) _ _ _ (by omega) hZ.1 (by omega) (by omega) (by omega) (by omega) (fun t' => by have := hq t'; rw [show n + ((fs F (stp t) (n + 1) (tm + gP t 120) 0).length + 1) = n + 1 + (fs F (stp t) (n + 1) (tm + gP t 120) 0).length by omega] at this; exact this)
          · refine x_inc2 dX0_foresee_94 ?_
            refine x_goto 149 dX0_foresee_97 ?_
            refine x_inc3 dX0_foresee_149 ?_
            refine x_goto 30 dX0_foresee_152 ?_
            rw [fs_q (by omega) h91] at hq
            exact ih (stp t) n (tm + gP t 120) (k + 1) (i + 1) so st _ (by omega) hZ.1 (by omega) (by omega) (by omega) (by omega) hq
        · exact x_vret dX0_foresee_62 (by have e1 := fs_x (F := F) (z := t) (n := n) (t := tm) (k := k) (by omega); rw [e1] at hq; exact hq _)
set_option maxRecDepth 100000 in
set_option maxHeartbeats 4000000 in
theorem k_foresee {P : AW} {a : Nat} (hP : P.length = a) (c0 c6 c12 : AC) (z y t so st : Nat → Int) (td sk le ot sn pk : Int) (R : AW) (hA : ZA z) (h0 : z 0 ≤ 1000000) (hk : sk = 0 ∨ (sk = 1 ∧ CK z td so st)) : CTv I_X0_foresee 0 0 [.ref (a + 13), .ref (a + 1)] (P ++ ow a c0 c6 c12 z y t so st td sk le ot sn pk R) (fun w' => ∃ (t so st : Nat → Int) (td : Int), w' = P ++ ow a c0 c6 c12 z y t so st td (1) le ot sn pk R ∧ CK z td so st) := by
  have hz5 := hA.2.2.2
  refine CT_of 3 rfl (Nat.le_of_ble_eq_true rfl) ?_
  show EX I_X0_foresee 0 0 none _ 0 [some (.ref (a + 13)), some (.ref (a + 1)), none, none, none] [] _ 0 0
  refine x_aload_n dX0_foresee_0 rfl ?_
  refine x_getfield 13 dX0_foresee_1 fg_X0_29 hP rfl rfl ?_
  refine x_if_eq 8 dX0_foresee_4 (fun h4 => ?_) (fun h4 => ?_) (ha := by omega)
  · refine x_aload_n dX0_foresee_8 rfl ?_
    refine x_iconst dX0_foresee_9 ?_
    refine x_putfield 13 dX0_foresee_10 fl_X0_29 hP rfl (fun _ _ => bfit (by omega)) ?_
    refine x_aload_n dX0_foresee_13 rfl ?_
    refine x_iconst dX0_foresee_14 ?_
    refine x_putfield 13 dX0_foresee_15 fl_X0_25 hP rfl (fun _ _ => ⟨rfl, rfl⟩) ?_
    refine x_aload_n dX0_foresee_18 rfl ?_
    refine x_getfield 13 dX0_foresee_19 fg_X0_12 hP rfl rfl ?_
    refine x_aload_n dX0_foresee_22 rfl ?_
    refine x_eqw (w' := P ++ ow a c0 c6 c12 z y t so st (0) (1) le ot sn pk R) rfl ?_
    refine x_callvV dX0_foresee_23 mk_X4_copyFrom ml_X0_45 (k_copyT hP c0 c6 c12 z y t so st (0) (1) le ot sn pk R hA.2.1.2.1) ((wg_app hP 14).trans rfl) rfl (fun w23 h23 => ?_)
    subst h23
    refine x_iconst dX0_foresee_26 ?_
    refine x_ist2 dX0_foresee_27 ?_
    refine x_iconst dX0_foresee_28 ?_
    refine x_ist3 dX0_foresee_29 ?_
    refine lk_fore hP c0 c6 c12 z y le ot sn pk R ⟨by omega, h0⟩ 1536 z 0 0 0 0 so st _ (by omega) hA (by omega) (by omega) (by omega) (by omega) (fun t' => ⟨t', _, _, _, rfl, ?_⟩)
    rw [fs_mFt hA h0]
    exact ⟨by rw [Nat.zero_add], fun i hi => ⟨wr_fst _ _ i hi, wr_snd _ _ i hi⟩⟩
  · exact x_vret dX0_foresee_7 (by rcases hk with h | h; { omega }; { exact ⟨t, so, st, td, by rw [h.1], h.2⟩ })
set_option maxRecDepth 100000 in
set_option maxHeartbeats 4000000 in
theorem lk_startOf {P : AW} {a : Nat} (hP : P.length = a) (c0 c6 c12 : AC) (z y t so st : Nat → Int) (td sk le ot sn pk : Int) (R : AW) (hA : ZA z) (h0 : z 0 ≤ 1000000) (htd : td = ((mFt z).1.length : Int)) (hck : ∀ i, i < (mFt z).1.length → so i = ((mFt z).1.getD i (0, 0)).1 ∧ st i = ((mFt z).1.getD i (0, 0)).2) (s : Int) (his : inR s) {Q : Int → AW → Prop} : ∀ (r i : Nat), i + r = (mFt z).1.length → Q (fnd s ((mFt z).1.drop i)) (P ++ ow a c0 c6 c12 z y t so st td sk le ot sn pk R) → EX I_X0_startOf 0 0 none (ZM 0 0 (fun r w' => ∃ x : Int, r = some (.int (iI x)) ∧ Q x w')) 2 [some (.ref (a + 13)), some (.int (iI s)), some (.int (iI ((i : Nat) : Int)))] [] (P ++ ow a c0 c6 c12 z y t so st td sk le ot sn pk R) 0 0 := by
  have hlen := mFt_len z
  intro r
  induction r with
  | zero =>
    intro i hs hq
    refine x_iload_n dX0_startOf_2 rfl ?_
    refine x_aload_n dX0_startOf_3 rfl ?_
    refine x_getfield 13 dX0_startOf_4 fg_X0_25 hP rfl rfl ?_
    refine x_icmp_ge 39 dX0_startOf_7 (fun h7 => ?_) (fun h7 => by exfalso; omega)
    have e1 : fnd s ((mFt z).1.drop i) = -4 := by rw [show i = (mFt z).1.length by omega, List.drop_length]; rfl
    rw [e1] at hq
    refine x_bipush dX0_startOf_39 ?_
    exact x_iret dX0_startOf_41 hq
  | succ r ih =>
    intro i hs hq
    refine x_iload_n dX0_startOf_2 rfl ?_
    refine x_aload_n dX0_startOf_3 rfl ?_
    refine x_getfield 13 dX0_startOf_4 fg_X0_25 hP rfl rfl ?_
    refine x_icmp_ge 39 dX0_startOf_7 (fun h7 => by exfalso; omega) (fun h7 => ?_)
    refine x_iload_n dX0_startOf_10 rfl ?_
    refine x_bipush dX0_startOf_11 ?_
    refine x_icmp_ge 39 dX0_startOf_13 (fun h13 => by exfalso; omega) (fun h13 => ?_)
    refine x_aload_n dX0_startOf_16 rfl ?_
    refine x_getfield 13 dX0_startOf_17 fg_X0_18 hP rfl rfl ?_
    refine x_iload_n dX0_startOf_20 rfl ?_
    refine x_iaload 19 (i) dX0_startOf_21 hP rfl ?_
    refine x_top (hck i (by omega)).1 ?_
    have hsg := mFt_song hA h0 i (by omega)
    refine x_iload_n dX0_startOf_22 rfl ?_
    refine x_icmp_ne 33 dX0_startOf_23 (fun h23 => ?_) (fun h23 => ?_) (ha := hsg) (hb := his)
    · refine x_inc2 dX0_startOf_33 ?_
      refine x_goto 2 dX0_startOf_36 ?_
      have e2 : fnd s ((mFt z).1.drop i) = fnd s ((mFt z).1.drop (i + 1)) := by rw [drop_getD _ i (by omega)]; exact if_neg h23
      rw [e2] at hq
      exact ih (i + 1) (by omega) hq
    · refine x_aload_n dX0_startOf_26 rfl ?_
      refine x_getfield 13 dX0_startOf_27 fg_X0_22 hP rfl rfl ?_
      refine x_iload_n dX0_startOf_30 rfl ?_
      refine x_iaload 20 (i) dX0_startOf_31 hP rfl ?_
      exact x_iret dX0_startOf_32 (by rw [(hck i (by omega)).2, ← show fnd s ((mFt z).1.drop i) = ((mFt z).1.getD i (0, 0)).2 from (by rw [drop_getD _ i (by omega)]; exact if_pos h23)]; exact hq)
set_option maxRecDepth 100000 in
set_option maxHeartbeats 4000000 in
theorem k_startOf {P : AW} {a : Nat} (hP : P.length = a) (c0 c6 c12 : AC) (z y t so st : Nat → Int) (td sk le ot sn pk : Int) (R : AW) (hA : ZA z) (h0 : z 0 ≤ 1000000) (hck : CK z td so st) (s : Int) (his : inR s) : CTi I_X0_startOf 0 0 [.ref (a + 13), .int (iI s)] (P ++ ow a c0 c6 c12 z y t so st td sk le ot sn pk R) (fun x w' => x = fnd s (mFt z).1 ∧ w' = P ++ ow a c0 c6 c12 z y t so st td sk le ot sn pk R) := by
  refine CT_of 1 rfl (Nat.le_of_ble_eq_true rfl) ?_
  show EX I_X0_startOf 0 0 none _ 0 [some (.ref (a + 13)), some (.int (iI s)), none] [] _ 0 0
  refine x_iconst dX0_startOf_0 ?_
  refine x_ist2 dX0_startOf_1 ?_
  exact lk_startOf hP c0 c6 c12 z y t so st td sk le ot sn pk R hA h0 hck.1 hck.2 s his (mFt z).1.length 0 (by omega) ⟨rfl, rfl⟩
