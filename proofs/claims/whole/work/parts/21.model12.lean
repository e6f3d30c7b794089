/-! ===== the reference's evening ===== -/
theorem aP_b (tp : Nat → Int) {tl : Nat} (htl : tl ≤ 80) {i : Nat} (hi : i ≤ 81) : i ≤ aP0 tp tl i ∧ aP0 tp tl i ≤ 82 ∧ (i ≤ tl → aP0 tp tl i ≤ tl) := by
  have h1 := skp_b tp tl 80 i
  have h2 := skp_82 tp htl 80 i (by omega)
  unfold aP0
  omega
theorem aN_b (tp : Nat → Int) (tl i : Nat) : 0 ≤ aN tp tl i ∧ aN tp tl i ≤ 100000 := dvr_b tp tl 80 _ 0 (by decide) (by decide)
theorem aN_e {tp : Nat → Int} {tl i : Nat} (h : 1 ≤ aN tp tl i) : aP1 tp tl i < aE tp tl i := by
  have h1 := (dge_b tp tl 80 (aP1 tp tl i)).1
  rcases Nat.lt_or_ge (aP1 tp tl i) (aE tp tl i) with h2 | h2
  · exact h2
  · have h3 : dge tp tl 80 (aP1 tp tl i) = aP1 tp tl i := by unfold aE at h2; omega
    have h4 := dvr_0 tp tl 80 (aP1 tp tl i) 0 h3
    unfold aN at h
    omega
/-- behind an act the reading stands two signs on, or more, within the tape -/
theorem aQ_b {tp : Nat → Int} {tl : Nat} (htl : tl ≤ 80) (hT : ∀ i, i < tl → 32 ≤ tp i ∧ tp i ≤ 126) {i : Nat} (hi : i ≤ tl) (h : aOk tp tl i) : i + 2 ≤ aQ tp tl i ∧ aQ tp tl i ≤ tl := by
  have h0 := aP_b tp htl (i := i) (by omega)
  have hc := byt_b hT (aP0 tp tl i)
  have hd := byt_b hT (aP1 tp tl i)
  have h1 := skp_b tp tl 80 (aP0 tp tl i + 1)
  have hE := dge_b tp tl 80 (aP1 tp tl i)
  have hN := aN_e (tp := tp) (tl := tl) (i := i)
  have e1 : aP1 tp tl i = skp tp tl 80 (aP0 tp tl i + 1) := rfl
  have e2 : aC tp tl i = byt tp tl (aP0 tp tl i) := rfl
  have e3 : aD tp tl i = byt tp tl (aP1 tp tl i) - 49 := rfl
  have e4 : aE tp tl i = dge tp tl 80 (aP1 tp tl i) := rfl
  unfold aOk at h
  unfold aQ
  split
  · omega
  · have hlt : aP1 tp tl i < aE tp tl i := hN (by omega)
    omega
theorem aV_b {tp : Nat → Int} {tl : Nat} (hT : ∀ i, i < tl → 32 ≤ tp i ∧ tp i ≤ 126) {i : Nat} (h : aOk tp tl i) : 0 ≤ aV tp tl i ∧ aV tp tl i ≤ 999 := by
  have hc := byt_b hT (aP0 tp tl i)
  unfold aOk at h
  unfold aV
  split <;> omega
theorem aK_b (tp : Nat → Int) (tl i : Nat) : aK tp tl i = 0 ∨ aK tp tl i = 1 ∨ aK tp tl i = 2 := by
  unfold aK
  (repeat' split) <;> omega
set_option maxRecDepth 100000 in
set_option maxHeartbeats 4000000 in
theorem c_readAct {P : AW} {a : Nat} (hP : P.length = a) (z sp : Nat → Int) (n : Nat) (sa ba : Nat → Int) (dn ah be : Int) (tp : Nat → Int) (tl ta ac : Nat) (kd nb : Nat → Int) (ik : Int) (im ln rs it : Nat → Int) (R : AW) (htl : tl ≤ 80) (hT : ∀ i, i < tl → 32 ≤ tp i ∧ tp i ≤ 126) (hta : ta ≤ tl) (hac : ac < 80) : CTi I_X6_readAct 0 0 [.ref (a + 0)] (P ++ mw a z sp n sa ba dn ah be tp tl ta ac kd nb ik im ln rs it R) (fun x w' => (x = 1 ∧ aOk tp tl ta ∧ w' = P ++ mw a z sp n sa ba dn ah be tp tl (aQ tp tl ta) (ac + 1) (updI kd ac (aK tp tl ta)) (updI nb ac (aV tp tl ta)) ik im ln rs it R) ∨ (x = 0 ∧ ¬ aOk tp tl ta ∧ ∃ kd nb, w' = P ++ mw a z sp n sa ba dn ah be tp tl (aF tp tl ta) ac kd nb ik im ln rs it R)) := by
  have hta : ta ≤ 82 := by omega
  have hp0 := aP_b tp htl (i := ta) (by omega)
  have hcb := byt_b hT (aP0 tp tl ta)
  have hcb' : aC tp tl ta = byt tp tl (aP0 tp tl ta) := rfl
  have hdb := byt_b hT (aP1 tp tl ta)
  have hdb' : aD tp tl ta = byt tp tl (aP1 tp tl ta) - 49 := rfl
  have hnb := aN_b tp tl ta
  have hp1 : aP1 tp tl ta ≤ 82 := skp_82 tp htl 80 _ (by omega)
  refine CT_of 2 rfl (Nat.le_of_ble_eq_true rfl) ?_
  show EX I_X6_readAct 0 0 none _ 0 [some (.ref (a + 0)), none, none] [] _ 0 0
  refine x_aload_n dX6_readAct_0 rfl ?_
  refine x_calliV dX6_readAct_1 mk_X6_nextByte ml_X6_173 (c_nextByte hP z sp n sa ba dn ah be tp tl ta ac kd nb ik im ln rs it R htl hT hta) ((wg_app hP 0).trans rfl) rfl (fun x1 w1 h1 => ?_)
  obtain ⟨rfl, rfl⟩ := h1
  refine x_top (show _ = aC tp tl ta from rfl) ?_
  refine x_ist1 dX6_readAct_4 ?_
  refine x_iload_n dX6_readAct_5 rfl ?_
  refine x_i2l dX6_readAct_6 ?_
  refine x_ldc2 dX6_readAct_7 kl_X6_180 ?_
  refine x_ldc2 dX6_readAct_10 kl_X6_182 ?_
  refine x_calliS dX6_readAct_13 mk_X6_in ml_X6_43 (c_in _ (aC tp tl ta) 97 106 (by omega) (by decide) (by decide)) rfl (fun x13 w13 h13 => ?_)
  obtain ⟨hb13, rfl⟩ := h13
  by_cases c13 : 97 ≤ aC tp tl ta ∧ aC tp tl ta ≤ 106
  · rw [if_pos c13] at hb13
    subst hb13
    refine x_if_eq 89 dX6_readAct_16 (fun h16 => absurd h16 (by decide)) (fun h16 => ?_)
    refine x_aload_n dX6_readAct_19 rfl ?_
    refine x_dup dX6_readAct_20 ?_
    refine x_getfield 0 dX6_readAct_21 fg_X6_170 hP rfl rfl ?_
    refine x_iconst dX6_readAct_24 ?_
    refine x_iadd dX6_readAct_25 ?_
    refine x_putfield 0 dX6_readAct_26 fl_X6_170 hP rfl (fun _ _ => ⟨rfl, rfl⟩) ?_
    refine x_aload_n dX6_readAct_29 rfl ?_
    refine x_calliV dX6_readAct_30 mk_X6_nextByte ml_X6_173 (c_nextByte hP z sp n sa ba dn ah be tp tl (aP0 tp tl ta + 1) ac kd nb ik im ln rs it R htl hT (by omega)) ((wg_app hP 0).trans rfl) rfl (fun x30 w30 h30 => ?_)
    obtain ⟨rfl, rfl⟩ := h30
    refine x_bipush dX6_readAct_33 ?_
    refine x_isub dX6_readAct_35 ?_
    refine x_top (show _ = aD tp tl ta from rfl) ?_
    refine x_ist2 dX6_readAct_36 ?_
    refine x_iload_n dX6_readAct_37 rfl ?_
    refine x_i2l dX6_readAct_38 ?_
    refine x_lconst dX6_readAct_39 ?_
    refine x_lconst dX6_readAct_40 ?_
    refine x_calliS dX6_readAct_41 mk_X6_in ml_X6_43 (c_in _ (aD tp tl ta) 0 1 (by omega) (by decide) (by decide)) rfl (fun x41 w41 h41 => ?_)
    obtain ⟨hb41, rfl⟩ := h41
    by_cases c41 : 0 ≤ aD tp tl ta ∧ aD tp tl ta ≤ 1
    · rw [if_pos c41] at hb41
      subst hb41
      refine x_if_ne 49 dX6_readAct_44 (fun h44 => ?_) (fun h44 => absurd h44 (by decide))
      refine x_aload_n dX6_readAct_49 rfl ?_
      refine x_dup dX6_readAct_50 ?_
      refine x_getfield 0 dX6_readAct_51 fg_X6_170 hP rfl rfl ?_
      refine x_iconst dX6_readAct_54 ?_
      refine x_iadd dX6_readAct_55 ?_
      refine x_putfield 0 dX6_readAct_56 fl_X6_170 hP rfl (fun _ _ => ⟨rfl, rfl⟩) ?_
      refine x_aload_n dX6_readAct_59 rfl ?_
      refine x_getfield 0 dX6_readAct_60 fg_X6_25 hP rfl rfl ?_
      refine x_aload_n dX6_readAct_63 rfl ?_
      refine x_getfield 0 dX6_readAct_64 fg_X6_184 hP rfl rfl ?_
      refine x_iconst dX6_readAct_67 ?_
      refine x_iastore 6 (ac) dX6_readAct_68 hP rfl ?_
      refine x_aload_n dX6_readAct_69 rfl ?_
      refine x_getfield 0 dX6_readAct_70 fg_X6_28 hP rfl rfl ?_
      refine x_aload_n dX6_readAct_73 rfl ?_
      refine x_getfield 0 dX6_readAct_74 fg_X6_184 hP rfl rfl ?_
      refine x_iconst dX6_readAct_77 ?_
      refine x_iload_n dX6_readAct_78 rfl ?_
      refine x_bipush dX6_readAct_79 ?_
      refine x_isub dX6_readAct_81 ?_
      refine x_imul dX6_readAct_82 ?_
      refine x_iload_n dX6_readAct_83 rfl ?_
      refine x_iadd dX6_readAct_84 ?_
      refine x_iastore 7 (ac) dX6_readAct_85 hP rfl ?_
      refine x_goto 174 dX6_readAct_86 ?_
      refine x_aload_n dX6_readAct_174 rfl ?_
      refine x_dup dX6_readAct_175 ?_
      refine x_getfield 0 dX6_readAct_176 fg_X6_184 hP rfl rfl ?_
      refine x_iconst dX6_readAct_179 ?_
      refine x_iadd dX6_readAct_180 ?_
      refine x_putfield 0 dX6_readAct_181 fl_X6_184 hP rfl (fun _ _ => ⟨rfl, rfl⟩) ?_
      refine x_iconst dX6_readAct_184 ?_
      exact x_zret dX6_readAct_185 (by omega) (Or.inl ⟨rfl, Or.inl ⟨c13.1, c13.2, c41⟩, by rw [show aK tp tl ta = 0 from if_pos c13, show aV tp tl ta = 2 * (aC tp tl ta - 97) + aD tp tl ta from if_pos c13, show aQ tp tl ta = aP1 tp tl ta + 1 from if_pos c13]; rfl⟩)
    · rw [if_neg c41] at hb41
      subst hb41
      refine x_if_ne 49 dX6_readAct_44 (fun h44 => absurd h44 (by decide)) (fun h44 => ?_)
      refine x_iconst dX6_readAct_47 ?_
      exact x_zret dX6_readAct_48 (by omega) (Or.inr ⟨rfl, by unfold aOk; omega, kd, nb, by rw [show aF tp tl ta = aP1 tp tl ta from if_pos (by omega)]; rfl⟩)
  · rw [if_neg c13] at hb13
    subst hb13
    refine x_if_eq 89 dX6_readAct_16 (fun h16 => ?_) (fun h16 => absurd h16 (by decide))
    refine x_iload_n dX6_readAct_89 rfl ?_
    refine x_bipush dX6_readAct_90 ?_
    refine x_icmp_eq 101 dX6_readAct_92 (fun h92 => ?_) (fun h92 => ?_)
    · refine x_aload_n dX6_readAct_101 rfl ?_
      refine x_dup dX6_readAct_102 ?_
      refine x_getfield 0 dX6_readAct_103 fg_X6_170 hP rfl rfl ?_
      refine x_iconst dX6_readAct_106 ?_
      refine x_iadd dX6_readAct_107 ?_
      refine x_putfield 0 dX6_readAct_108 fl_X6_170 hP rfl (fun _ _ => ⟨rfl, rfl⟩) ?_
      refine x_aload_n dX6_readAct_111 rfl ?_
      refine x_getfield 0 dX6_readAct_112 fg_X6_25 hP rfl rfl ?_
      refine x_aload_n dX6_readAct_115 rfl ?_
      refine x_getfield 0 dX6_readAct_116 fg_X6_184 hP rfl rfl ?_
      refine x_iload_n dX6_readAct_119 rfl ?_
      refine x_bipush dX6_readAct_120 ?_
      refine x_icmp_ne 129 dX6_readAct_122 (fun h122 => by exfalso; omega) (fun h122 => ?_)
      refine x_iconst dX6_readAct_125 ?_
      refine x_goto 130 dX6_readAct_126 ?_
      refine x_iastore 6 (ac) dX6_readAct_130 hP rfl ?_
      refine x_aload_n dX6_readAct_131 rfl ?_
      refine x_getfield 0 dX6_readAct_132 fg_X6_28 hP rfl rfl ?_
      refine x_aload_n dX6_readAct_135 rfl ?_
      refine x_getfield 0 dX6_readAct_136 fg_X6_184 hP rfl rfl ?_
      refine x_aload_n dX6_readAct_139 rfl ?_
      refine x_iload_n dX6_readAct_140 rfl ?_
      refine x_bipush dX6_readAct_141 ?_
      refine x_icmp_ne 151 dX6_readAct_143 (fun h143 => by exfalso; omega) (fun h143 => ?_)
      refine x_bipush dX6_readAct_146 ?_
      refine x_goto 154 dX6_readAct_148 ?_
      refine x_calliV dX6_readAct_154 mk_X6_readNumber ml_X6_187 (c_readNumber hP z sp n sa ba dn ah be tp tl (aP0 tp tl ta + 1) ac (updI kd ac 1) nb ik im ln rs it R htl hT (by omega) 99 (by decide)) ((wg_app hP 0).trans rfl) rfl (fun x154 w154 h154 => ?_)
      obtain ⟨hb154, rfl⟩ := h154
      by_cases c154 : 1 ≤ aN tp tl ta ∧ aN tp tl ta ≤ 99
      · rw [show dvr tp tl 80 (skp tp tl 80 (aP0 tp tl ta + 1)) 0 = aN tp tl ta from rfl] at hb154
        rw [if_pos c154] at hb154
        subst hb154
        refine x_eqw (w' := P ++ mw a z sp n sa ba dn ah be tp tl (aE tp tl ta) ac (updI kd ac 1) nb ik im ln rs it R) (by rw [show dvr tp tl 80 (skp tp tl 80 (aP0 tp tl ta + 1)) 0 = aN tp tl ta from rfl, if_pos c154]; rfl) ?_
        refine x_iastore 7 (ac) dX6_readAct_157 hP rfl ?_
        refine x_aload_n dX6_readAct_158 rfl ?_
        refine x_getfield 0 dX6_readAct_159 fg_X6_28 hP rfl rfl ?_
        refine x_aload_n dX6_readAct_162 rfl ?_
        refine x_getfield 0 dX6_readAct_163 fg_X6_184 hP rfl rfl ?_
        refine x_iaload 7 (ac) dX6_readAct_166 hP rfl ?_
        refine x_top (updI_e _ _ _) ?_
        refine x_if_ge 174 dX6_readAct_167 (fun h167 => ?_) (fun h167 => by exfalso; omega) (ha := by omega)
        refine x_aload_n dX6_readAct_174 rfl ?_
        refine x_dup dX6_readAct_175 ?_
        refine x_getfield 0 dX6_readAct_176 fg_X6_184 hP rfl rfl ?_
        refine x_iconst dX6_readAct_179 ?_
        refine x_iadd dX6_readAct_180 ?_
        refine x_putfield 0 dX6_readAct_181 fl_X6_184 hP rfl (fun _ _ => ⟨rfl, rfl⟩) ?_
        refine x_iconst dX6_readAct_184 ?_
        exact x_zret dX6_readAct_185 (by omega) (Or.inl ⟨rfl, Or.inr (Or.inl ⟨h92, c154⟩), by rw [show aK tp tl ta = 1 from (if_neg c13).trans (if_pos h92), show aV tp tl ta = aN tp tl ta from if_neg c13, show aQ tp tl ta = aE tp tl ta from if_neg c13]; rfl⟩)
      · rw [show dvr tp tl 80 (skp tp tl 80 (aP0 tp tl ta + 1)) 0 = aN tp tl ta from rfl] at hb154
        rw [if_neg c154] at hb154
        subst hb154
        refine x_eqw (w' := P ++ mw a z sp n sa ba dn ah be tp tl (aP1 tp tl ta) ac (updI kd ac 1) nb ik im ln rs it R) (by rw [show dvr tp tl 80 (skp tp tl 80 (aP0 tp tl ta + 1)) 0 = aN tp tl ta from rfl, if_neg c154]; rfl) ?_
        refine x_iastore 7 (ac) dX6_readAct_157 hP rfl ?_
        refine x_aload_n dX6_readAct_158 rfl ?_
        refine x_getfield 0 dX6_readAct_159 fg_X6_28 hP rfl rfl ?_
        refine x_aload_n dX6_readAct_162 rfl ?_
        refine x_getfield 0 dX6_readAct_163 fg_X6_184 hP rfl rfl ?_
        refine x_iaload 7 (ac) dX6_readAct_166 hP rfl ?_
        refine x_top (updI_e _ _ _) ?_
        refine x_if_ge 174 dX6_readAct_167 (fun h167 => by exfalso; omega) (fun h167 => ?_) (ha := by omega)
        refine x_iconst dX6_readAct_170 ?_
        exact x_zret dX6_readAct_171 (by omega) (Or.inr ⟨rfl, by unfold aOk; omega, _, _, by rw [show aF tp tl ta = aP1 tp tl ta from if_pos (by omega)]; rfl⟩)
    · refine x_iload_n dX6_readAct_95 rfl ?_
      refine x_bipush dX6_readAct_96 ?_
      refine x_icmp_ne 172 dX6_readAct_98 (fun h98 => ?_) (fun h98 => ?_)
      · refine x_iconst dX6_readAct_172 ?_
        exact x_zret dX6_readAct_173 (by omega) (Or.inr ⟨rfl, by unfold aOk; omega, kd, nb, by rw [show aF tp tl ta = aP0 tp tl ta from if_neg (by omega)]; rfl⟩)
      · refine x_aload_n dX6_readAct_101 rfl ?_
        refine x_dup dX6_readAct_102 ?_
        refine x_getfield 0 dX6_readAct_103 fg_X6_170 hP rfl rfl ?_
        refine x_iconst dX6_readAct_106 ?_
        refine x_iadd dX6_readAct_107 ?_
        refine x_putfield 0 dX6_readAct_108 fl_X6_170 hP rfl (fun _ _ => ⟨rfl, rfl⟩) ?_
        refine x_aload_n dX6_readAct_111 rfl ?_
        refine x_getfield 0 dX6_readAct_112 fg_X6_25 hP rfl rfl ?_
        refine x_aload_n dX6_readAct_115 rfl ?_
        refine x_getfield 0 dX6_readAct_116 fg_X6_184 hP rfl rfl ?_
        refine x_iload_n dX6_readAct_119 rfl ?_
        refine x_bipush dX6_readAct_120 ?_
        refine x_icmp_ne 129 dX6_readAct_122 (fun h122 => ?_) (fun h122 => by exfalso; omega)
        refine x_iconst dX6_readAct_129 ?_
        refine x_iastore 6 (ac) dX6_readAct_130 hP rfl ?_
        refine x_aload_n dX6_readAct_131 rfl ?_
        refine x_getfield 0 dX6_readAct_132 fg_X6_28 hP rfl rfl ?_
        refine x_aload_n dX6_readAct_135 rfl ?_
        refine x_getfield 0 dX6_readAct_136 fg_X6_184 hP rfl rfl ?_
        refine x_aload_n dX6_readAct_139 rfl ?_
        refine x_iload_n dX6_readAct_140 rfl ?_
        refine x_bipush dX6_readAct_141 ?_
        refine x_icmp_ne 151 dX6_readAct_143 (fun h143 => ?_) (fun h143 => by exfalso; omega)
        refine x_sipush dX6_readAct_151 ?_
        refine x_calliV dX6_readAct_154 mk_X6_readNumber ml_X6_187 (c_readNumber hP z sp n sa ba dn ah be tp tl (aP0 tp tl ta + 1) ac (updI kd ac 2) nb ik im ln rs it R htl hT (by omega) 999 (by decide)) ((wg_app hP 0).trans rfl) rfl (fun x154 w154 h154 => ?_)
        obtain ⟨hb154, rfl⟩ := h154
        by_cases c154 : 1 ≤ aN tp tl ta ∧ aN tp tl ta ≤ 999
        · rw [show dvr tp tl 80 (skp tp tl 80 (aP0 tp tl ta + 1)) 0 = aN tp tl ta from rfl] at hb154
          rw [if_pos c154] at hb154
          subst hb154
          refine x_eqw (w' := P ++ mw a z sp n sa ba dn ah be tp tl (aE tp tl ta) ac (updI kd ac 2) nb ik im ln rs it R) (by rw [show dvr tp tl 80 (skp tp tl 80 (aP0 tp tl ta + 1)) 0 = aN tp tl ta from rfl, if_pos c154]; rfl) ?_
          refine x_iastore 7 (ac) dX6_readAct_157 hP rfl ?_
          refine x_aload_n dX6_readAct_158 rfl ?_
          refine x_getfield 0 dX6_readAct_159 fg_X6_28 hP rfl rfl ?_
          refine x_aload_n dX6_readAct_162 rfl ?_
          refine x_getfield 0 dX6_readAct_163 fg_X6_184 hP rfl rfl ?_
          refine x_iaload 7 (ac) dX6_readAct_166 hP rfl ?_
          refine x_top (updI_e _ _ _) ?_
          refine x_if_ge 174 dX6_readAct_167 (fun h167 => ?_) (fun h167 => by exfalso; omega) (ha := by omega)
          refine x_aload_n dX6_readAct_174 rfl ?_
          refine x_dup dX6_readAct_175 ?_
          refine x_getfield 0 dX6_readAct_176 fg_X6_184 hP rfl rfl ?_
          refine x_iconst dX6_readAct_179 ?_
          refine x_iadd dX6_readAct_180 ?_
          refine x_putfield 0 dX6_readAct_181 fl_X6_184 hP rfl (fun _ _ => ⟨rfl, rfl⟩) ?_
          refine x_iconst dX6_readAct_184 ?_
          exact x_zret dX6_readAct_185 (by omega) (Or.inl ⟨rfl, Or.inr (Or.inr ⟨by omega, c154⟩), by rw [show aK tp tl ta = 2 from (if_neg c13).trans (if_neg h92), show aV tp tl ta = aN tp tl ta from if_neg c13, show aQ tp tl ta = aE tp tl ta from if_neg c13]; rfl⟩)
        · rw [show dvr tp tl 80 (skp tp tl 80 (aP0 tp tl ta + 1)) 0 = aN tp tl ta from rfl] at hb154
          rw [if_neg c154] at hb154
          subst hb154
          refine x_eqw (w' := P ++ mw a z sp n sa ba dn ah be tp tl (aP1 tp tl ta) ac (updI kd ac 2) nb ik im ln rs it R) (by rw [show dvr tp tl 80 (skp tp tl 80 (aP0 tp tl ta + 1)) 0 = aN tp tl ta from rfl, if_neg c154]; rfl) ?_
          refine x_iastore 7 (ac) dX6_readAct_157 hP rfl ?_
          refine x_aload_n dX6_readAct_158 rfl ?_
          refine x_getfield 0 dX6_readAct_159 fg_X6_28 hP rfl rfl ?_
          refine x_aload_n dX6_readAct_162 rfl ?_
          refine x_getfield 0 dX6_readAct_163 fg_X6_184 hP rfl rfl ?_
          refine x_iaload 7 (ac) dX6_readAct_166 hP rfl ?_
          refine x_top (updI_e _ _ _) ?_
          refine x_if_ge 174 dX6_readAct_167 (fun h167 => by exfalso; omega) (fun h167 => ?_) (ha := by omega)
          refine x_iconst dX6_readAct_170 ?_
          exact x_zret dX6_readAct_171 (by omega) (Or.inr ⟨rfl, by unfold aOk; omega, _, _, by rw [show aF tp tl ta = aP1 tp tl ta from if_pos (by omega)]; rfl⟩)
