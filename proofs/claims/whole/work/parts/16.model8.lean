/-! ===== better ===== -/
def swp (z : Nat → Int) (p q : Nat) : Nat → Int := updI (updI z (20 + p) (z (20 + q))) (20 + q) (z (20 + p))
theorem swp_p {z : Nat → Int} {p q : Nat} (h : p < q) : swp z p q (20 + p) = z (20 + q) := (updI_n (by omega)).trans (updI_e _ _ _)
theorem swp_q (z : Nat → Int) (p q : Nat) : swp z p q (20 + q) = z (20 + p) := updI_e _ _ _
theorem swp_n {z : Nat → Int} {p q i : Nat} (h1 : ¬ i = 20 + p) (h2 : ¬ i = 20 + q) : swp z p q i = z i := (updI_n h2).trans (updI_n h1)
theorem swp_back {z : Nat → Int} {p q : Nat} (h : p < q) : updI (updI (swp z p q) (20 + q) (swp z p q (20 + p))) (20 + p) (z (20 + p)) = z := by
  funext i
  by_cases h1 : i = 20 + p
  · subst h1; exact updI_e _ _ _
  · rw [updI_n h1]
    by_cases h2 : i = 20 + q
    · subst h2; rw [updI_e]; exact swp_p h
    · rw [updI_n h2]; exact swp_n h1 h2
theorem ZA_swp {z : Nat → Int} {p q : Nat} (hA : ZA z) (h : p < q) (hq : q < 10) (h1 : ¬ (z 1 = (p : Int) ∧ 3 ≤ z 3)) (h2 : ¬ (z 1 = (q : Int) ∧ 3 ≤ z 3)) : ZA (swp z p q) := by
  obtain ⟨hR, hc, hd, h5⟩ := hA
  obtain ⟨g1, g2, g3, g4, g5, g6, g7, g8, g9, g10, g11, g12, g13, g14⟩ := hc
  obtain ⟨d1, d2, d3, d4, d5, d6, d7⟩ := hd
  have e : ∀ i, ¬ (20 ≤ i ∧ i < 30) → swp z p q i = z i := fun i hi => swp_n (by omega) (by omega)
  -- each place holds what some place held
  have f : ∀ i, i < 10 → ∃ j, j < 10 ∧ swp z p q (20 + i) = z (20 + j) ∧ (i = p → j = q) ∧ (i = q → j = p) ∧ (¬ i = p → ¬ i = q → j = i) := by
    intro i hi
    by_cases c1 : i = p
    · subst c1; exact ⟨q, hq, swp_p h, fun _ => rfl, fun k => absurd k (by omega), fun k => absurd rfl k⟩
    · by_cases c2 : i = q
      · subst c2; exact ⟨p, by omega, swp_q z p i, fun k => absurd k c1, fun _ => rfl, fun _ k => absurd rfl k⟩
      · exact ⟨i, hi, swp_n (by omega) (by omega), fun k => absurd k c1, fun k => absurd k c2, fun _ _ => rfl⟩
  refine ⟨inR_upd (inR_upd hR (hR _)) (hR _), ⟨by rw [e 1 (by omega)]; exact g1, by rw [e 2 (by omega)]; exact g2, by rw [e 15 (by omega)]; exact g3, by rw [e 16 (by omega)]; exact g4, fun i hi => ?_, fun i j hij hj he => ?_, fun s hs => by rw [e _ (by omega)]; exact g7 s hs, fun s hs => by rw [e _ (by omega)]; exact g8 s hs, fun s hs he => ?_, fun s hs he => ?_, fun s hs => by rw [e _ (by omega)]; exact g11 s hs, fun s hs => by rw [e _ (by omega)]; exact g12 s hs, fun r hr => ?_, fun s hs => by rw [e _ (by omega)]; exact g14 s hs⟩, ⟨by rw [e 3 (by omega)]; exact d1, by rw [e 4 (by omega)]; exact d2, by rw [e 3 (by omega), e 4 (by omega)]; exact d3, by rw [e 3 (by omega), e 4 (by omega)]; exact d4, ?_, by rw [e 3 (by omega), e 1 (by omega), e 2 (by omega)]; exact d6, by rw [e 3 (by omega), e 1 (by omega), e 2 (by omega)]; exact d7⟩, by rw [e 5 (by omega), e 0 (by omega), e 6 (by omega)]; exact h5⟩
  · obtain ⟨j, hj, ej, -⟩ := f i hi
    rw [ej, e 16 (by omega)]
    exact g5 j hj
  · obtain ⟨i', hi', ei, a1, a2, a3⟩ := f i (by omega)
    obtain ⟨j', hj', ej, b1, b2, b3⟩ := f j hj
    rw [ei, ej] at he
    rw [ei]
    have hne : ¬ i' = j' := by omega
    rcases Nat.lt_or_gt_of_ne hne with hlt | hlt
    · exact g6 i' j' hlt hj' he
    · rw [he]; exact g6 j' i' hlt hi' he.symm
  · rw [e _ (by omega)] at he ⊢; exact g9 s hs he
  · rw [e _ (by omega)] at he ⊢; exact g10 s hs he
  · rw [e 16 (by omega)] at hr; rw [e _ (by omega)]; exact g13 r hr
  · rw [e 3 (by omega), e 1 (by omega)]
    intro h3
    rw [swp_n (by omega) (by omega)]
    exact d5 h3
def mDn (z : Nat → Int) : Int := ((mFt z).2 : Int)
def btS (z : Nat → Int) (p q : Nat) (s : Int × Int × Int) : Int × Int × Int :=
  if z 1 = (p : Int) ∧ 3 ≤ z 3 then s else if z 1 = (q : Int) ∧ 3 ≤ z 3 then s else if s.1 ≤ mDn (swp z p q) then s else (mDn (swp z p q), (p : Int), (q : Int))
def btF (z : Nat → Int) (p : Nat) : Nat → Nat → Int × Int × Int → Int × Int × Int
  | 0, _, s => s
  | r + 1, q, s => btF z p r (q + 1) (btS z p q s)
def btG (z : Nat → Int) : Nat → Nat → Int × Int × Int → Int × Int × Int
  | 0, _, s => s
  | r + 1, p, s => btG z r (p + 1) (btF z p (9 - p) (p + 1) s)
def btOk (s : Int × Int × Int) : Prop := (0 ≤ s.1 ∧ s.1 ≤ 130065) ∧ (-4 ≤ s.2.1 ∧ s.2.1 ≤ 9) ∧ (-4 ≤ s.2.2 ∧ s.2.2 ≤ 9)
theorem mDn_b (z : Nat → Int) : 0 ≤ mDn z ∧ mDn z ≤ 130065 := by
  have := mFt_t z
  unfold mDn
  omega
theorem btS_ok {z : Nat → Int} {p q : Nat} {s : Int × Int × Int} (h : btOk s) (hp : p < 10) (hq : q < 10) : btOk (btS z p q s) := by
  have := mDn_b (swp z p q)
  unfold btS
  (repeat' split)
  · exact h
  · exact h
  · exact h
  · exact ⟨this, ⟨by simp only; omega, by simp only; omega⟩, ⟨by simp only; omega, by simp only; omega⟩⟩
theorem btF_ok {z : Nat → Int} {p : Nat} (hp : p < 10) : ∀ (r q : Nat) (s : Int × Int × Int), q + r ≤ 10 → btOk s → btOk (btF z p r q s)
  | 0, _, _, _, h => h
  | r + 1, q, s, hq, h => btF_ok hp r (q + 1) _ (by omega) (btS_ok h hp (by omega))
theorem btG_ok {z : Nat → Int} : ∀ (r p : Nat) (s : Int × Int × Int), p + r ≤ 10 → btOk s → btOk (btG z r p s)
  | 0, _, _, _, h => h
  | r + 1, p, s, hp, h => btG_ok r (p + 1) _ (by omega) (btF_ok (by omega) (9 - p) (p + 1) s (by omega) h)
def mBt (z : Nat → Int) : Int × Int × Int := btG z 10 0 (mDn z, -4, -4)
def rBet (z : Nat → Int) (h : Int) : Int := if 0 ≤ h ∧ h ≤ 2 then (if mStk z 20 = 0 then (if 0 ≤ (mBt z).2.1 then (if h = 0 then (mBt z).2.1 else if h = 1 then (mBt z).2.2 else (mBt z).1) else -4) else -2) else -1
set_option maxRecDepth 100000 in
set_option maxHeartbeats 4000000 in
theorem l_btI {P : AW} {a : Nat} (hP : P.length = a) (fr : List Value) (z : Nat → Int) (R : AW) (hA : ZA z) (hz0 : z 0 ≤ 1000000) (h : Int) (p : Nat) (hp : p < 10) {Z : Zt} : ∀ (r q : Nat) (s : Int × Int × Int) (sp : Nat → Int) (n0 : Nat) (sa ba : Nat → Int) (dn : Int) (l7 : Option Value), p < q ∧ q + r = 10 → btOk s →
    (∀ (sp : Nat → Int) (n0 : Nat) (sa ba : Nat → Int) (dn : Int) (l7 : Option Value), EX I_X6_better 0 0 none Z 187 [some (.ref (a + 0)), some (.int (iI h)), some (.int (iI (btF z p r q s).1)), some (.int (iI (btF z p r q s).2.1)), some (.int (iI (btF z p r q s).2.2)), some (.int (iI (p : Int))), some (.int (iI ((10 : Nat) : Int))), l7] [] (P ++ mf a fr z sp n0 sa ba dn R) 0 0) →
    EX I_X6_better 0 0 none Z 56 [some (.ref (a + 0)), some (.int (iI h)), some (.int (iI (s).1)), some (.int (iI (s).2.1)), some (.int (iI (s).2.2)), some (.int (iI (p : Int))), some (.int (iI (q : Int))), l7] [] (P ++ mf a fr z sp n0 sa ba dn R) 0 0 := by
  intro r
  induction r with
  | zero =>
    intro q s sp n0 sa ba dn l7 hq hs hx
    have hs' : q = 10 := by omega
    subst hs'
    refine x_iload dX6_better_56 rfl ?_
    refine x_bipush dX6_better_58 ?_
    refine x_icmp_ge 187 dX6_better_60 (fun h60 => ?_) (fun h60 => by exfalso; omega)
    exact hx sp n0 sa ba dn l7
  | succ r ih =>
    intro q s sp n0 sa ba dn l7 hq hs hx
    have hb0 := hs.1
    have hb1 := mDn_b (swp z p q)
    refine x_iload dX6_better_56 rfl ?_
    refine x_bipush dX6_better_58 ?_
    refine x_icmp_ge 187 dX6_better_60 (fun h60 => by exfalso; omega) (fun h60 => ?_)
    refine x_aload_n dX6_better_63 rfl ?_
    refine x_iload dX6_better_64 rfl ?_
    refine x_calliV dX6_better_66 mk_X6_isOut ml_X6_64 (c_isOut hP _ z _ hA.1 (p : Int) (by omega)) ((wg_app hP 0).trans rfl) rfl (fun x66 w66 h66 => ?_)
    obtain ⟨hb66, rfl⟩ := h66
    by_cases c66 : z 1 = (p : Int) ∧ 3 ≤ z 3
    · rw [if_pos c66] at hb66
      subst hb66
      refine x_if_ne 181 dX6_better_69 (fun h69 => ?_) (fun h69 => absurd h69 (by decide))
      refine x_inc6 dX6_better_181 ?_
      refine x_goto 56 dX6_better_184 ?_
      have e1 : btS z p q s = _ := if_pos c66
      have hk := btS_ok (z := z) hs (p := p) (q := q) (by omega) (by omega)
      rw [e1] at hk
      refine ih (q + 1) _ _ _ _ _ _ _ (by omega) hk (fun sp n0 sa ba dn l7 => ?_)
      have hx := hx sp n0 sa ba dn l7
      simp only [btF] at hx
      rw [e1] at hx
      exact hx
    · rw [if_neg c66] at hb66
      subst hb66
      refine x_if_ne 181 dX6_better_69 (fun h69 => absurd h69 (by decide)) (fun h69 => ?_)
      refine x_aload_n dX6_better_72 rfl ?_
      refine x_iload dX6_better_73 rfl ?_
      refine x_calliV dX6_better_75 mk_X6_isOut ml_X6_64 (c_isOut hP _ z _ hA.1 (q : Int) (by omega)) ((wg_app hP 0).trans rfl) rfl (fun x75 w75 h75 => ?_)
      obtain ⟨hb75, rfl⟩ := h75
      by_cases c75 : z 1 = (q : Int) ∧ 3 ≤ z 3
      · rw [if_pos c75] at hb75
        subst hb75
        refine x_if_ne 181 dX6_better_78 (fun h78 => ?_) (fun h78 => absurd h78 (by decide))
        refine x_inc6 dX6_better_181 ?_
        refine x_goto 56 dX6_better_184 ?_
        have e1 : btS z p q s = _ := (if_neg c66).trans (if_pos c75)
        have hk := btS_ok (z := z) hs (p := p) (q := q) (by omega) (by omega)
        rw [e1] at hk
        refine ih (q + 1) _ _ _ _ _ _ _ (by omega) hk (fun sp n0 sa ba dn l7 => ?_)
        have hx := hx sp n0 sa ba dn l7
        simp only [btF] at hx
        rw [e1] at hx
        exact hx
      · rw [if_neg c75] at hb75
        subst hb75
        refine x_if_ne 181 dX6_better_78 (fun h78 => absurd h78 (by decide)) (fun h78 => ?_)
        refine x_aload_n dX6_better_81 rfl ?_
        refine x_getfield 0 dX6_better_82 fg_X6_7 hP rfl rfl ?_
        refine x_bipush dX6_better_85 ?_
        refine x_iload dX6_better_87 rfl ?_
        refine x_iadd dX6_better_89 ?_
        refine x_iaload 1 (20 + p) dX6_better_90 hP rfl ?_
        refine x_ist7 dX6_better_91 ?_
        refine x_aload_n dX6_better_93 rfl ?_
        refine x_getfield 0 dX6_better_94 fg_X6_7 hP rfl rfl ?_
        refine x_bipush dX6_better_97 ?_
        refine x_iload dX6_better_99 rfl ?_
        refine x_iadd dX6_better_101 ?_
        refine x_aload_n dX6_better_102 rfl ?_
        refine x_getfield 0 dX6_better_103 fg_X6_7 hP rfl rfl ?_
        refine x_bipush dX6_better_106 ?_
        refine x_iload dX6_better_108 rfl ?_
        refine x_iadd dX6_better_110 ?_
        refine x_iaload 1 (20 + q) dX6_better_111 hP rfl ?_
        refine x_iastore 1 (20 + p) dX6_better_112 hP rfl ?_
        refine x_aload_n dX6_better_113 rfl ?_
        refine x_getfield 0 dX6_better_114 fg_X6_7 hP rfl rfl ?_
        refine x_bipush dX6_better_117 ?_
        refine x_iload dX6_better_119 rfl ?_
        refine x_iadd dX6_better_121 ?_
        refine x_iload dX6_better_122 rfl ?_
        refine x_iastore 1 (20 + q) dX6_better_124 hP rfl ?_
        refine x_aload_n dX6_better_125 rfl ?_
        refine x_callvV dX6_better_126 mk_X6_foretell ml_X6_125 (c_foretell hP fr (swp z p q) sp n0 sa ba dn R (ZA_swp hA (by omega) (by omega) c66 c75) (by rw [swp_n (by omega) (by omega)]; exact hz0)) ((wg_app hP 0).trans rfl) rfl (fun w126 h126 => ?_)
        subst h126
        refine x_aload_n dX6_better_129 rfl ?_
        refine x_getfield 0 dX6_better_130 fg_X6_7 hP rfl rfl ?_
        refine x_bipush dX6_better_133 ?_
        refine x_iload dX6_better_135 rfl ?_
        refine x_iadd dX6_better_137 ?_
        refine x_aload_n dX6_better_138 rfl ?_
        refine x_getfield 0 dX6_better_139 fg_X6_7 hP rfl rfl ?_
        refine x_bipush dX6_better_142 ?_
        refine x_iload dX6_better_144 rfl ?_
        refine x_iadd dX6_better_146 ?_
        refine x_iaload 1 (20 + p) dX6_better_147 hP rfl ?_
        refine x_iastore 1 (20 + q) dX6_better_148 hP rfl ?_
        refine x_aload_n dX6_better_149 rfl ?_
        refine x_getfield 0 dX6_better_150 fg_X6_7 hP rfl rfl ?_
        refine x_bipush dX6_better_153 ?_
        refine x_iload dX6_better_155 rfl ?_
        refine x_iadd dX6_better_157 ?_
        refine x_iload dX6_better_158 rfl ?_
        refine x_iastore 1 (20 + p) dX6_better_160 hP rfl ?_
        refine x_eqw (w' := P ++ mf a fr z (swp z p q) (mFt (swp z p q)).1.length (wr sa 0 ((mFt (swp z p q)).1.map Prod.fst)) (wr ba 0 ((mFt (swp z p q)).1.map Prod.snd)) (mDn (swp z p q)) R) (congrArg (fun f => P ++ mf a fr f (swp z p q) (mFt (swp z p q)).1.length (wr sa 0 ((mFt (swp z p q)).1.map Prod.fst)) (wr ba 0 ((mFt (swp z p q)).1.map Prod.snd)) (mDn (swp z p q)) R) (swp_back (by omega))) ?_
        refine x_aload_n dX6_better_161 rfl ?_
        refine x_getfield 0 dX6_better_162 fg_X6_117 hP rfl rfl ?_
        refine x_iload_n dX6_better_165 rfl ?_
        refine x_icmp_ge 181 dX6_better_166 (fun h166 => ?_) (fun h166 => ?_)
        · refine x_inc6 dX6_better_181 ?_
          refine x_goto 56 dX6_better_184 ?_
          have e1 : btS z p q s = _ := ((if_neg c66).trans (if_neg c75)).trans (if_pos h166)
          have hk := btS_ok (z := z) hs (p := p) (q := q) (by omega) (by omega)
          rw [e1] at hk
          refine ih (q + 1) _ _ _ _ _ _ _ (by omega) hk (fun sp n0 sa ba dn l7 => ?_)
          have hx := hx sp n0 sa ba dn l7
          simp only [btF] at hx
          rw [e1] at hx
          exact hx
        · refine x_aload_n dX6_better_169 rfl ?_
          refine x_getfield 0 dX6_better_170 fg_X6_117 hP rfl rfl ?_
          refine x_ist2 dX6_better_173 ?_
          refine x_iload dX6_better_174 rfl ?_
          refine x_ist3 dX6_better_176 ?_
          refine x_iload dX6_better_177 rfl ?_
          refine x_ist4 dX6_better_179 ?_
          refine x_inc6 dX6_better_181 ?_
          refine x_goto 56 dX6_better_184 ?_
          have e1 : btS z p q s = _ := ((if_neg c66).trans (if_neg c75)).trans (if_neg h166)
          have hk := btS_ok (z := z) hs (p := p) (q := q) (by omega) (by omega)
          rw [e1] at hk
          refine ih (q + 1) _ _ _ _ _ _ _ (by omega) hk (fun sp n0 sa ba dn l7 => ?_)
          have hx := hx sp n0 sa ba dn l7
          simp only [btF] at hx
          rw [e1] at hx
          exact hx
set_option maxRecDepth 100000 in
set_option maxHeartbeats 4000000 in
theorem l_btO {P : AW} {a : Nat} (hP : P.length = a) (fr : List Value) (z : Nat → Int) (R : AW) (hA : ZA z) (hz0 : z 0 ≤ 1000000) (h : Int) {Z : Zt} : ∀ (r p : Nat) (s : Int × Int × Int) (sp : Nat → Int) (n0 : Nat) (sa ba : Nat → Int) (dn : Int) (l6 l7 : Option Value), p + r = 10 → btOk s →
    (∀ (sp : Nat → Int) (n0 : Nat) (sa ba : Nat → Int) (dn : Int) (l6 l7 : Option Value), EX I_X6_better 0 0 none Z 193 [some (.ref (a + 0)), some (.int (iI h)), some (.int (iI (btG z r p s).1)), some (.int (iI (btG z r p s).2.1)), some (.int (iI (btG z r p s).2.2)), some (.int (iI ((10 : Nat) : Int))), l6, l7] [] (P ++ mf a fr z sp n0 sa ba dn R) 0 0) →
    EX I_X6_better 0 0 none Z 43 [some (.ref (a + 0)), some (.int (iI h)), some (.int (iI (s).1)), some (.int (iI (s).2.1)), some (.int (iI (s).2.2)), some (.int (iI (p : Int))), l6, l7] [] (P ++ mf a fr z sp n0 sa ba dn R) 0 0 := by
  intro r
  induction r with
  | zero =>
    intro p s sp n0 sa ba dn l6 l7 hq hs hx
    have hs' : p = 10 := by omega
    subst hs'
    refine x_iload dX6_better_43 rfl ?_
    refine x_bipush dX6_better_45 ?_
    refine x_icmp_ge 193 dX6_better_47 (fun h47 => ?_) (fun h47 => by exfalso; omega)
    exact hx sp n0 sa ba dn l6 l7
  | succ r ih =>
    intro p s sp n0 sa ba dn l6 l7 hq hs hx
    refine x_iload dX6_better_43 rfl ?_
    refine x_bipush dX6_better_45 ?_
    refine x_icmp_ge 193 dX6_better_47 (fun h47 => by exfalso; omega) (fun h47 => ?_)
    refine x_iload dX6_better_50 rfl ?_
    refine x_iconst dX6_better_52 ?_
    refine x_iadd dX6_better_53 ?_
    refine x_ist6 dX6_better_54 ?_
    refine l_btI hP fr z R hA hz0 h p (by omega) (9 - p) (p + 1) s sp n0 sa ba dn l7 (by omega) hs (fun sp n0 sa ba dn l7 => ?_)
    refine x_inc5 dX6_better_187 ?_
    refine x_goto 43 dX6_better_190 ?_
    exact ih (p + 1) _ _ _ _ _ _ _ _ (by omega) (btF_ok (by omega) (9 - p) (p + 1) s (by omega) hs) hx
theorem x_eqls {mi : MI} {mc ms : Nat} {SC : Option (Nat × (Nat → Int32))} {Z : Zt} {pc : Nat} {ls ls' : List (Option Value)} {st : List Value} {w : AW} {k n : Nat} (h : ls = ls') (kk : EX mi mc ms SC Z pc ls' st w k n) : EX mi mc ms SC Z pc ls st w k n := h ▸ kk
set_option maxRecDepth 100000 in
set_option maxHeartbeats 4000000 in
theorem c_better {P : AW} {a : Nat} (hP : P.length = a) (fr : List Value) (z sp : Nat → Int) (n0 : Nat) (sa ba : Nat → Int) (dn : Int) (R : AW) (hA : ZA z) (hz0 : z 0 ≤ 1000000) (h : Int) (hih : inR h) : CTi I_X6_better 0 0 [.ref (a + 0), .int (iI h)] (P ++ mf a fr z sp n0 sa ba dn R) (fun x w' => x = rBet z h ∧ ∃ (sp : Nat → Int) (n0 : Nat) (sa ba : Nat → Int) (dn : Int), w' = P ++ mf a fr z sp n0 sa ba dn R) := by
  have hsb := mStk_b z 20
  refine CT_of 6 rfl (Nat.le_of_ble_eq_true rfl) ?_
  show EX I_X6_better 0 0 none _ 0 [some (.ref (a + 0)), some (.int (iI h)), none, none, none, none, none, none] [] _ 0 0
  refine x_iload_n dX6_better_0 rfl ?_
  refine x_i2l dX6_better_1 ?_
  refine x_lconst dX6_better_2 ?_
  refine x_ldc2 dX6_better_3 kl_X6_70 ?_
  refine x_calliS dX6_better_6 mk_X6_in ml_X6_43 (c_in _ h 0 2 hih (by decide) (by decide)) rfl (fun x6 w6 h6 => ?_)
  obtain ⟨hb6, rfl⟩ := h6
  by_cases c6 : 0 ≤ h ∧ h ≤ 2
  · rw [if_pos c6] at hb6
    subst hb6
    refine x_if_ne 14 dX6_better_9 (fun h9 => ?_) (fun h9 => absurd h9 (by decide))
    refine x_aload_n dX6_better_14 rfl ?_
    refine x_calliV dX6_better_15 mk_X6_isStuckIn ml_X6_128 (c_isStuckIn hP _ z _ hA.1) ((wg_app hP 0).trans rfl) rfl (fun x15 w15 h15 => ?_)
    obtain ⟨rfl, rfl⟩ := h15
    refine x_if_eq 24 dX6_better_18 (fun h18 => ?_) (fun h18 => ?_)
    · refine x_aload_n dX6_better_24 rfl ?_
      refine x_callvV dX6_better_25 mk_X6_foretell ml_X6_125 (c_foretell hP fr z sp n0 sa ba dn R hA hz0) ((wg_app hP 0).trans rfl) rfl (fun w25 h25 => ?_)
      subst h25
      refine x_aload_n dX6_better_28 rfl ?_
      refine x_getfield 0 dX6_better_29 fg_X6_117 hP rfl rfl ?_
      refine x_ist2 dX6_better_32 ?_
      refine x_bipush dX6_better_33 ?_
      refine x_ist3 dX6_better_35 ?_
      refine x_bipush dX6_better_36 ?_
      refine x_ist4 dX6_better_38 ?_
      refine x_iconst dX6_better_40 ?_
      refine x_ist5 dX6_better_41 ?_
      have hk : btOk (mDn z, -4, -4) := ⟨mDn_b z, (show (-4 : Int) ≤ -4 ∧ (-4 : Int) ≤ 9 from by decide), (show (-4 : Int) ≤ -4 ∧ (-4 : Int) ≤ 9 from by decide)⟩
      refine l_btO hP fr z R hA hz0 h 10 0 (mDn z, -4, -4) _ _ _ _ _ _ _ (by omega) hk (fun sp n0 sa ba dn l6 l7 => ?_)
      have hk2 := btG_ok (z := z) 10 0 _ (by omega) hk
      refine x_eqls (show _ = [some (.ref (a + 0)), some (.int (iI h)), some (.int (iI (mBt z).1)), some (.int (iI (mBt z).2.1)), some (.int (iI (mBt z).2.2)), some (.int (iI ((10 : Nat) : Int))), l6, l7] from rfl) ?_
      have hk2 : btOk (mBt z) := hk2
      obtain ⟨k1, k2, k3⟩ := id hk2
      refine x_iload_n dX6_better_193 rfl ?_
      refine x_if_ge 202 dX6_better_194 (fun h194 => ?_) (fun h194 => ?_)
      · refine x_iload_n dX6_better_202 rfl ?_
        refine x_if_ne 210 dX6_better_203 (fun h203 => ?_) (fun h203 => ?_)
        · refine x_iload_n dX6_better_210 rfl ?_
          refine x_iconst dX6_better_211 ?_
          refine x_icmp_ne 220 dX6_better_212 (fun h212 => ?_) (fun h212 => ?_)
          · refine x_iload_n dX6_better_220 rfl ?_
            exact x_iret dX6_better_221 (⟨by unfold rBet; (repeat' split) <;> first | rfl | omega | (exfalso; omega), _, _, _, _, _, rfl⟩)
          · refine x_iload dX6_better_215 rfl ?_
            refine x_goto 221 dX6_better_217 ?_
            exact x_iret dX6_better_221 (⟨by unfold rBet; (repeat' split) <;> first | rfl | omega | (exfalso; omega), _, _, _, _, _, rfl⟩)
        · refine x_iload_n dX6_better_206 rfl ?_
          refine x_goto 221 dX6_better_207 ?_
          exact x_iret dX6_better_221 (⟨by unfold rBet; (repeat' split) <;> first | rfl | omega | (exfalso; omega), _, _, _, _, _, rfl⟩)
      · refine x_bipush dX6_better_197 ?_
        refine x_goto 221 dX6_better_199 ?_
        exact x_iret dX6_better_221 (⟨by unfold rBet; (repeat' split) <;> first | rfl | omega | (exfalso; omega), _, _, _, _, _, rfl⟩)
    · refine x_bipush dX6_better_21 ?_
      exact x_iret dX6_better_23 (⟨by unfold rBet; (repeat' split) <;> first | rfl | omega | (exfalso; omega), _, _, _, _, _, rfl⟩)
  · rw [if_neg c6] at hb6
    subst hb6
    refine x_if_ne 14 dX6_better_9 (fun h9 => absurd h9 (by decide)) (fun h9 => ?_)
    refine x_iconst dX6_better_12 ?_
    exact x_iret dX6_better_13 (⟨by unfold rBet; (repeat' split) <;> first | rfl | omega | (exfalso; omega), _, _, _, _, _, rfl⟩)
