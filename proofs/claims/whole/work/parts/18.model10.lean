/-! ===== the reference's wire ===== -/
theorem x_ist10 {mi : MI} {mc ms : Nat} {SC : Option (Nat × (Nat → Int32))} {Z : Zt} {pc : Nat} {st : List Value} {w : AW} {k n : Nat} {a0 a1 a2 a3 a4 a5 a6 a7 a8 a9 a10 : Option Value} {r : List (Option Value)} {x : Int32} (hd : decode mi.2.1 pc = .ok (.istore 10, 2)) (kk : EX mi mc ms SC Z (pc + 2) (a0 :: a1 :: a2 :: a3 :: a4 :: a5 :: a6 :: a7 :: a8 :: a9 :: some (.int x) :: r) st w k n) (hn : 10 < mi.2.2.1 := by decide) (hc : okb (a0 :: a1 :: a2 :: a3 :: a4 :: a5 :: a6 :: a7 :: a8 :: a9 :: a10 :: r) 10 = true := by rfl) : EX mi mc ms SC Z pc (a0 :: a1 :: a2 :: a3 :: a4 :: a5 :: a6 :: a7 :: a8 :: a9 :: a10 :: r) (.int x :: st) w k n := x_istore hd hn hc rfl kk
def gcnt (f : Nat → Int) (g : Int) : Nat → Int
  | 0 => 0
  | k + 1 => if f k < g then gcnt f g k else gcnt f g k + 1
def rgt (f : Nat → Int) : Nat → Int
  | 0 => 1
  | k + 1 => if ¬ rgt f k = 0 ∧ ¬ f k < 1 then 1 else 0
def lsa (f : Nat → Int) (g x : Int) : Nat → Int
  | 0 => x
  | k + 1 => if f k < g then lsa f g x k else (k : Int) + 1
def lsb (f : Nat → Int) (g m x : Int) : Nat → Int
  | 0 => x
  | k + 1 => if f k < g then lsb f g m x k else m - (k : Int)
theorem gcnt_b (f : Nat → Int) (g : Int) : ∀ k : Nat, 0 ≤ gcnt f g k ∧ gcnt f g k ≤ k
  | 0 => by simp [gcnt]
  | k + 1 => by have := gcnt_b f g k; unfold gcnt; split <;> omega
theorem rgt_b (f : Nat → Int) : ∀ k, rgt f k = 0 ∨ rgt f k = 1
  | 0 => Or.inr rfl
  | k + 1 => by unfold rgt; split <;> omega
theorem lsa_b (f : Nat → Int) (g x : Int) : ∀ k : Nat, (gcnt f g k = 0 ∧ lsa f g x k = x) ∨ (1 ≤ gcnt f g k ∧ 1 ≤ lsa f g x k ∧ lsa f g x k ≤ k)
  | 0 => Or.inl ⟨rfl, rfl⟩
  | k + 1 => by
    have h := lsa_b f g x k
    have hg := gcnt_b f g k
    unfold gcnt lsa
    split
    · rename_i hc
      rcases h with h | h
      · exact Or.inl h
      · exact Or.inr ⟨h.1, h.2.1, by omega⟩
    · exact Or.inr ⟨by omega, by omega, by omega⟩
/-- the two counts of the last gap -/
theorem lsb_a (f : Nat → Int) (g m x y : Int) : ∀ k : Nat, 1 ≤ gcnt f g k → lsb f g m y k = m + 1 - lsa f g x k
  | 0, h => by simp [gcnt] at h
  | k + 1, h => by
    have ih := lsb_a f g m x y k
    unfold gcnt at h
    unfold lsa lsb
    split
    · rename_i hc
      rw [if_pos hc] at h
      exact ih h
    · omega
def rHear (ln rs it : Nat → Int) (s l f m g : Int) : Int :=
  if 0 ≤ s ∧ s ≤ 3 ∧ 0 ≤ l ∧ l ≤ 2 ∧ 1 ≤ m ∧ m ≤ 20 ∧ 1 ≤ g ∧ g ≤ 999 then
    (if rLack ln rs s l f m < 0 then rLack ln rs s l f m else if rgt (fun i => it ((24 * s).toNat + f.toNat + i)) m.toNat = 0 then -2 else if gcnt (fun i => it ((24 * s).toNat + f.toNat + i)) g m.toNat = 1 then 0 else -4)
  else -1
def gapA (it : Nat → Int) (s f m g : Int) : Int := lsa (fun i => it ((24 * s).toNat + f.toNat + i)) g 0 m.toNat
def isT (x y : Int) : Prop := 1 ≤ x ∧ x ≤ 10 ∧ 1 ≤ y ∧ y ≤ 2
def sgO (x y : Int) : Int := 2 * (x - 1) + y - 1
def rHeard (ln rs it : Nat → Int) (s l f m g : Int) : Int := if rHear ln rs it s l f m g < 0 then rHear ln rs it s l f m g else if 1 ≤ gapA it s f m g ∧ gapA it s f m g ≤ 10 ∧ 1 ≤ m + 1 - gapA it s f m g ∧ m + 1 - gapA it s f m g ≤ 2 then sgO (gapA it s f m g) (m + 1 - gapA it s f m g) else -4
def bitO (x y : Int) : Int := if 1 ≤ x ∧ x ≤ 10 ∧ 1 ≤ y ∧ y ≤ 2 then shlI 1 (sgO x y) else 0
def bits3 (x y : Int) : Int := orI (orI (bitO x y) (bitO (x + 1) y)) (bitO x (y + 1))
def rMay (ln rs it : Nat → Int) (s l f m g : Int) : Int := if rHear ln rs it s l f m g < 0 then rHear ln rs it s l f m g else if bits3 (gapA it s f m g) (m + 1 - gapA it s f m g) = 0 then -4 else bits3 (gapA it s f m g) (m + 1 - gapA it s f m g)
theorem bitO_R (x y : Int) : inR (bitO x y) := by
  unfold bitO
  split
  · exact shlI_R _ _
  · decide
set_option maxRecDepth 100000 in
set_option maxHeartbeats 4000000 in
theorem l_hear {P : AW} {a : Nat} (hP : P.length = a) (z sp : Nat → Int) (n : Nat) (sa ba : Nat → Int) (dn ah be : Int) (tp : Nat → Int) (tl ta ac : Nat) (kd nb : Nat → Int) (ik : Int) (im ln rs it : Nat → Int) (R : AW) (hSh : SH ln rs it) (s l f m g : Int) (his : inR s) (hil : inR l) (hif : inR f) (him : inR m) (hig : inR g) (hs : 0 ≤ s ∧ s ≤ 3) (hf : 0 ≤ f ∧ f ≤ rs s.toNat - m) (hm : 1 ≤ m ∧ m ≤ 20) (x6 : Int32) {Z : Zt} (hx : ∀ l10, EX I_X6_hear 0 0 none Z 138 [some (.ref (a + 0)), some (.int (iI s)), some (.int (iI l)), some (.int (iI f)), some (.int (iI m)), some (.int (iI g)), some (.int x6), some (.int (iI (gcnt (fun i => it ((24 * s).toNat + f.toNat + i)) g m.toNat))), some (.int (iI (rgt (fun i => it ((24 * s).toNat + f.toNat + i)) m.toNat))), some (.int (iI ((m.toNat : Nat) : Int))), l10] [] (P ++ mw a z sp n sa ba dn (lsa (fun i => it ((24 * s).toNat + f.toNat + i)) g ah m.toNat) (lsb (fun i => it ((24 * s).toNat + f.toNat + i)) g m be m.toNat) tp tl ta ac kd nb ik im ln rs it R) 0 0) : ∀ (r k : Nat) (l10 : Option Value), k + r = m.toNat → EX I_X6_hear 0 0 none Z 64 [some (.ref (a + 0)), some (.int (iI s)), some (.int (iI l)), some (.int (iI f)), some (.int (iI m)), some (.int (iI g)), some (.int x6), some (.int (iI (gcnt (fun i => it ((24 * s).toNat + f.toNat + i)) g k))), some (.int (iI (rgt (fun i => it ((24 * s).toNat + f.toNat + i)) k))), some (.int (iI ((k : Nat) : Int))), l10] [] (P ++ mw a z sp n sa ba dn (lsa (fun i => it ((24 * s).toNat + f.toNat + i)) g ah k) (lsb (fun i => it ((24 * s).toNat + f.toNat + i)) g m be k) tp tl ta ac kd nb ik im ln rs it R) 0 0 := by
  intro r
  induction r with
  | zero =>
    intro k l10 hs
    have hs' : k = m.toNat := by omega
    subst hs'
    refine x_iload dX6_hear_64 rfl ?_
    refine x_iload dX6_hear_66 rfl ?_
    refine x_icmp_ge 138 dX6_hear_68 (fun h68 => ?_) (fun h68 => by exfalso; omega)
    exact hx l10
  | succ r ih =>
    intro k l10 hk
    have hr1 := hSh.2.1 s.toNat
    have hit := hSh.2.2 ((24 * s).toNat + f.toNat + k)
    have hgc := gcnt_b (fun i => it ((24 * s).toNat + f.toNat + i)) g k
    have hrg := rgt_b (fun i => it ((24 * s).toNat + f.toNat + i)) k
    refine x_iload dX6_hear_64 rfl ?_
    refine x_iload dX6_hear_66 rfl ?_
    refine x_icmp_ge 138 dX6_hear_68 (fun h68 => by exfalso; omega) (fun h68 => ?_)
    refine x_aload_n dX6_hear_71 rfl ?_
    refine x_getfield 0 dX6_hear_72 fg_X6_40 hP rfl rfl ?_
    refine x_bipush dX6_hear_75 ?_
    refine x_iload_n dX6_hear_77 rfl ?_
    refine x_imul dX6_hear_78 ?_
    refine x_iload_n dX6_hear_79 rfl ?_
    refine x_iadd dX6_hear_80 ?_
    refine x_iload dX6_hear_81 rfl ?_
    refine x_iadd dX6_hear_83 ?_
    refine x_iaload 11 ((24 * s).toNat + f.toNat + k) dX6_hear_84 hP rfl ?_
    refine x_ist10 dX6_hear_85 ?_
    refine x_iload dX6_hear_87 rfl ?_
    refine x_if_eq 102 dX6_hear_89 (fun h89 => ?_) (fun h89 => ?_) (ha := by omega)
    · refine x_iconst dX6_hear_102 ?_
      refine x_ist8 dX6_hear_103 ?_
      refine x_iload dX6_hear_105 rfl ?_
      refine x_iload dX6_hear_107 rfl ?_
      refine x_icmp_lt 132 dX6_hear_109 (fun h109 => ?_) (fun h109 => ?_) (ha := by omega)
      · refine x_inc9 dX6_hear_132 ?_
        refine x_goto 64 dX6_hear_135 ?_
        have er : rgt (fun i => it ((24 * s).toNat + f.toNat + i)) (k + 1) = 0 := by simp only [rgt]; (first | exact if_pos (by omega) | exact if_neg (by omega))
        have eg : gcnt (fun i => it ((24 * s).toNat + f.toNat + i)) g (k + 1) = gcnt (fun i => it ((24 * s).toNat + f.toNat + i)) g k := if_pos h109
        have ea : lsa (fun i => it ((24 * s).toNat + f.toNat + i)) g ah (k + 1) = lsa (fun i => it ((24 * s).toNat + f.toNat + i)) g ah k := if_pos h109
        have eb : lsb (fun i => it ((24 * s).toNat + f.toNat + i)) g m be (k + 1) = lsb (fun i => it ((24 * s).toNat + f.toNat + i)) g m be k := if_pos h109
        have := ih (k + 1) (some (.int (iI (it ((24 * s).toNat + f.toNat + k))))) (by omega)
        rw [er, eg, ea, eb] at this
        exact this
      · refine x_inc7 dX6_hear_112 ?_
        refine x_aload_n dX6_hear_115 rfl ?_
        refine x_iload dX6_hear_116 rfl ?_
        refine x_iconst dX6_hear_118 ?_
        refine x_iadd dX6_hear_119 ?_
        refine x_putfield 0 dX6_hear_120 fl_X6_140 hP rfl (fun _ _ => ⟨rfl, rfl⟩) ?_
        refine x_aload_n dX6_hear_123 rfl ?_
        refine x_iload dX6_hear_124 rfl ?_
        refine x_iload dX6_hear_126 rfl ?_
        refine x_isub dX6_hear_128 ?_
        refine x_putfield 0 dX6_hear_129 fl_X6_143 hP rfl (fun _ _ => ⟨rfl, rfl⟩) ?_
        refine x_inc9 dX6_hear_132 ?_
        refine x_goto 64 dX6_hear_135 ?_
        have er : rgt (fun i => it ((24 * s).toNat + f.toNat + i)) (k + 1) = 0 := by simp only [rgt]; (first | exact if_pos (by omega) | exact if_neg (by omega))
        have eg : gcnt (fun i => it ((24 * s).toNat + f.toNat + i)) g (k + 1) = gcnt (fun i => it ((24 * s).toNat + f.toNat + i)) g k + 1 := if_neg h109
        have ea : lsa (fun i => it ((24 * s).toNat + f.toNat + i)) g ah (k + 1) = (k : Int) + 1 := if_neg h109
        have eb : lsb (fun i => it ((24 * s).toNat + f.toNat + i)) g m be (k + 1) = m - (k : Int) := if_neg h109
        have := ih (k + 1) (some (.int (iI (it ((24 * s).toNat + f.toNat + k))))) (by omega)
        rw [er, eg, ea, eb] at this
        exact this
    · refine x_iload dX6_hear_92 rfl ?_
      refine x_iconst dX6_hear_94 ?_
      refine x_icmp_lt 102 dX6_hear_95 (fun h95 => ?_) (fun h95 => ?_) (ha := by omega)
      · refine x_iconst dX6_hear_102 ?_
        refine x_ist8 dX6_hear_103 ?_
        refine x_iload dX6_hear_105 rfl ?_
        refine x_iload dX6_hear_107 rfl ?_
        refine x_icmp_lt 132 dX6_hear_109 (fun h109 => ?_) (fun h109 => ?_) (ha := by omega)
        · refine x_inc9 dX6_hear_132 ?_
          refine x_goto 64 dX6_hear_135 ?_
          have er : rgt (fun i => it ((24 * s).toNat + f.toNat + i)) (k + 1) = 0 := by simp only [rgt]; (first | exact if_pos (by omega) | exact if_neg (by omega))
          have eg : gcnt (fun i => it ((24 * s).toNat + f.toNat + i)) g (k + 1) = gcnt (fun i => it ((24 * s).toNat + f.toNat + i)) g k := if_pos h109
          have ea : lsa (fun i => it ((24 * s).toNat + f.toNat + i)) g ah (k + 1) = lsa (fun i => it ((24 * s).toNat + f.toNat + i)) g ah k := if_pos h109
          have eb : lsb (fun i => it ((24 * s).toNat + f.toNat + i)) g m be (k + 1) = lsb (fun i => it ((24 * s).toNat + f.toNat + i)) g m be k := if_pos h109
          have := ih (k + 1) (some (.int (iI (it ((24 * s).toNat + f.toNat + k))))) (by omega)
          rw [er, eg, ea, eb] at this
          exact this
        · refine x_inc7 dX6_hear_112 ?_
          refine x_aload_n dX6_hear_115 rfl ?_
          refine x_iload dX6_hear_116 rfl ?_
          refine x_iconst dX6_hear_118 ?_
          refine x_iadd dX6_hear_119 ?_
          refine x_putfield 0 dX6_hear_120 fl_X6_140 hP rfl (fun _ _ => ⟨rfl, rfl⟩) ?_
          refine x_aload_n dX6_hear_123 rfl ?_
          refine x_iload dX6_hear_124 rfl ?_
          refine x_iload dX6_hear_126 rfl ?_
          refine x_isub dX6_hear_128 ?_
          refine x_putfield 0 dX6_hear_129 fl_X6_143 hP rfl (fun _ _ => ⟨rfl, rfl⟩) ?_
          refine x_inc9 dX6_hear_132 ?_
          refine x_goto 64 dX6_hear_135 ?_
          have er : rgt (fun i => it ((24 * s).toNat + f.toNat + i)) (k + 1) = 0 := by simp only [rgt]; (first | exact if_pos (by omega) | exact if_neg (by omega))
          have eg : gcnt (fun i => it ((24 * s).toNat + f.toNat + i)) g (k + 1) = gcnt (fun i => it ((24 * s).toNat + f.toNat + i)) g k + 1 := if_neg h109
          have ea : lsa (fun i => it ((24 * s).toNat + f.toNat + i)) g ah (k + 1) = (k : Int) + 1 := if_neg h109
          have eb : lsb (fun i => it ((24 * s).toNat + f.toNat + i)) g m be (k + 1) = m - (k : Int) := if_neg h109
          have := ih (k + 1) (some (.int (iI (it ((24 * s).toNat + f.toNat + k))))) (by omega)
          rw [er, eg, ea, eb] at this
          exact this
      · refine x_iconst dX6_hear_98 ?_
        refine x_goto 103 dX6_hear_99 ?_
        refine x_ist8 dX6_hear_103 ?_
        refine x_iload dX6_hear_105 rfl ?_
        refine x_iload dX6_hear_107 rfl ?_
        refine x_icmp_lt 132 dX6_hear_109 (fun h109 => ?_) (fun h109 => ?_) (ha := by omega)
        · refine x_inc9 dX6_hear_132 ?_
          refine x_goto 64 dX6_hear_135 ?_
          have er : rgt (fun i => it ((24 * s).toNat + f.toNat + i)) (k + 1) = 1 := by simp only [rgt]; (first | exact if_pos (by omega) | exact if_neg (by omega))
          have eg : gcnt (fun i => it ((24 * s).toNat + f.toNat + i)) g (k + 1) = gcnt (fun i => it ((24 * s).toNat + f.toNat + i)) g k := if_pos h109
          have ea : lsa (fun i => it ((24 * s).toNat + f.toNat + i)) g ah (k + 1) = lsa (fun i => it ((24 * s).toNat + f.toNat + i)) g ah k := if_pos h109
          have eb : lsb (fun i => it ((24 * s).toNat + f.toNat + i)) g m be (k + 1) = lsb (fun i => it ((24 * s).toNat + f.toNat + i)) g m be k := if_pos h109
          have := ih (k + 1) (some (.int (iI (it ((24 * s).toNat + f.toNat + k))))) (by omega)
          rw [er, eg, ea, eb] at this
          exact this
        · refine x_inc7 dX6_hear_112 ?_
          refine x_aload_n dX6_hear_115 rfl ?_
          refine x_iload dX6_hear_116 rfl ?_
          refine x_iconst dX6_hear_118 ?_
          refine x_iadd dX6_hear_119 ?_
          refine x_putfield 0 dX6_hear_120 fl_X6_140 hP rfl (fun _ _ => ⟨rfl, rfl⟩) ?_
          refine x_aload_n dX6_hear_123 rfl ?_
          refine x_iload dX6_hear_124 rfl ?_
          refine x_iload dX6_hear_126 rfl ?_
          refine x_isub dX6_hear_128 ?_
          refine x_putfield 0 dX6_hear_129 fl_X6_143 hP rfl (fun _ _ => ⟨rfl, rfl⟩) ?_
          refine x_inc9 dX6_hear_132 ?_
          refine x_goto 64 dX6_hear_135 ?_
          have er : rgt (fun i => it ((24 * s).toNat + f.toNat + i)) (k + 1) = 1 := by simp only [rgt]; (first | exact if_pos (by omega) | exact if_neg (by omega))
          have eg : gcnt (fun i => it ((24 * s).toNat + f.toNat + i)) g (k + 1) = gcnt (fun i => it ((24 * s).toNat + f.toNat + i)) g k + 1 := if_neg h109
          have ea : lsa (fun i => it ((24 * s).toNat + f.toNat + i)) g ah (k + 1) = (k : Int) + 1 := if_neg h109
          have eb : lsb (fun i => it ((24 * s).toNat + f.toNat + i)) g m be (k + 1) = m - (k : Int) := if_neg h109
          have := ih (k + 1) (some (.int (iI (it ((24 * s).toNat + f.toNat + k))))) (by omega)
          rw [er, eg, ea, eb] at this
          exact this
theorem lsa_c (f : Nat → Int) (g x y : Int) : ∀ k : Nat, 1 ≤ gcnt f g k → lsa f g x k = lsa f g y k
  | 0, h => by simp [gcnt] at h
  | k + 1, h => by
    have ih := lsa_c f g x y k
    unfold gcnt at h
    unfold lsa
    split
    · rename_i hc
      rw [if_pos hc] at h
      exact ih h
    · rfl
set_option maxRecDepth 100000 in
set_option maxHeartbeats 4000000 in
theorem c_hear {P : AW} {a : Nat} (hP : P.length = a) (z sp : Nat → Int) (n : Nat) (sa ba : Nat → Int) (dn ah be : Int) (tp : Nat → Int) (tl ta ac : Nat) (kd nb : Nat → Int) (ik : Int) (im ln rs it : Nat → Int) (R : AW) (hSh : SH ln rs it) (s l f m g : Int) (his : inR s) (hil : inR l) (hif : inR f) (him : inR m) (hig : inR g) : CTi I_X6_hear 0 0 [.ref (a + 0), .int (iI s), .int (iI l), .int (iI f), .int (iI m), .int (iI g)] (P ++ mw a z sp n sa ba dn ah be tp tl ta ac kd nb ik im ln rs it R) (fun x w' => x = rHear ln rs it s l f m g ∧ ∃ (ah be : Int), w' = P ++ mw a z sp n sa ba dn ah be tp tl ta ac kd nb ik im ln rs it R ∧ (x = 0 → ah = gapA it s f m g ∧ be = m + 1 - gapA it s f m g)) := by
  refine CT_of 5 rfl (Nat.le_of_ble_eq_true rfl) ?_
  show EX I_X6_hear 0 0 none _ 0 [some (.ref (a + 0)), some (.int (iI s)), some (.int (iI l)), some (.int (iI f)), some (.int (iI m)), some (.int (iI g)), none, none, none, none, none] [] _ 0 0
  refine x_iload_n dX6_hear_0 rfl ?_
  refine x_iload_n dX6_hear_1 rfl ?_
  refine x_calliS dX6_hear_2 mk_X6_isSheet ml_X6_132 (c_isSheet _ s l his hil) rfl (fun x2 w2 h2 => ?_)
  obtain ⟨hb2, rfl⟩ := h2
  by_cases c2 : 0 ≤ s ∧ s ≤ 3 ∧ 0 ≤ l ∧ l ≤ 2
  · rw [if_pos c2] at hb2
    subst hb2
    refine x_if_eq 34 dX6_hear_5 (fun h5 => absurd h5 (by decide)) (fun h5 => ?_)
    refine x_iload dX6_hear_8 rfl ?_
    refine x_i2l dX6_hear_10 ?_
    refine x_lconst dX6_hear_11 ?_
    refine x_ldc2 dX6_hear_12 kl_X6_76 ?_
    refine x_calliS dX6_hear_15 mk_X6_in ml_X6_43 (c_in _ m 1 20 him (by decide) (by decide)) rfl (fun x15 w15 h15 => ?_)
    obtain ⟨hb15, rfl⟩ := h15
    by_cases c15 : 1 ≤ m ∧ m ≤ 20
    · rw [if_pos c15] at hb15
      subst hb15
      refine x_if_eq 34 dX6_hear_18 (fun h18 => absurd h18 (by decide)) (fun h18 => ?_)
      refine x_iload dX6_hear_21 rfl ?_
      refine x_i2l dX6_hear_23 ?_
      refine x_lconst dX6_hear_24 ?_
      refine x_ldc2 dX6_hear_25 kl_X6_74 ?_
      refine x_calliS dX6_hear_28 mk_X6_in ml_X6_43 (c_in _ g 1 999 hig (by decide) (by decide)) rfl (fun x28 w28 h28 => ?_)
      obtain ⟨hb28, rfl⟩ := h28
      by_cases c28 : 1 ≤ g ∧ g ≤ 999
      · rw [if_pos c28] at hb28
        subst hb28
        refine x_if_ne 36 dX6_hear_31 (fun h31 => ?_) (fun h31 => absurd h31 (by decide))
        refine x_aload_n dX6_hear_36 rfl ?_
        refine x_iload_n dX6_hear_37 rfl ?_
        refine x_iload_n dX6_hear_38 rfl ?_
        refine x_iload_n dX6_hear_39 rfl ?_
        refine x_iload dX6_hear_40 rfl ?_
        refine x_calliV dX6_hear_42 mk_X6_lacksRow ml_X6_136 (c_lacksRow hP z sp n sa ba dn ah be tp tl ta ac kd nb ik im ln rs it R hSh s l f m (by omega) hil hif (by omega)) ((wg_app hP 0).trans rfl) rfl (fun x42 w42 h42 => ?_)
        obtain ⟨rfl, rfl⟩ := h42
        have hlr : rLack ln rs s l f m = 0 ∨ rLack ln rs s l f m = -13 ∨ rLack ln rs s l f m = -12 ∨ rLack ln rs s l f m = -11 := by unfold rLack; (repeat' split) <;> omega
        have hl0 : ¬ rLack ln rs s l f m < 0 → 0 ≤ f ∧ f ≤ rs s.toNat - m := by unfold rLack; (repeat' split) <;> omega
        refine x_ist6 dX6_hear_45 ?_
        refine x_iload dX6_hear_47 rfl ?_
        refine x_if_ge 55 dX6_hear_49 (fun h49 => ?_) (fun h49 => ?_) (ha := by omega)
        · refine x_iconst dX6_hear_55 ?_
          refine x_ist7 dX6_hear_56 ?_
          refine x_iconst dX6_hear_58 ?_
          refine x_ist8 dX6_hear_59 ?_
          refine x_iconst dX6_hear_61 ?_
          refine x_ist9 dX6_hear_62 ?_
          refine l_hear hP z sp n sa ba dn ah be tp tl ta ac kd nb ik im ln rs it R hSh s l f m g his hil hif him hig (by omega) (hl0 (by omega)) (by omega) _ (fun l10 => ?_) m.toNat 0 none (by omega)
          have hgc := gcnt_b (fun i => it ((24 * s).toNat + f.toNat + i)) g m.toNat
          have hrg := rgt_b (fun i => it ((24 * s).toNat + f.toNat + i)) m.toNat
          refine x_iload dX6_hear_138 rfl ?_
          refine x_if_ne 148 dX6_hear_140 (fun h140 => ?_) (fun h140 => ?_) (ha := by omega)
          · refine x_iload dX6_hear_148 rfl ?_
            refine x_iconst dX6_hear_150 ?_
            refine x_icmp_eq 159 dX6_hear_151 (fun h151 => ?_) (fun h151 => ?_) (ha := by omega)
            · refine x_iconst dX6_hear_159 ?_
              exact x_iret dX6_hear_160 (⟨by unfold rHear; (repeat' split) <;> first | rfl | omega | (exfalso; omega), _, _, rfl, fun q => by first | (exfalso; omega) | exact ⟨(lsa_c (fun i => it ((24 * s).toNat + f.toNat + i)) g ah 0 m.toNat (by omega)), lsb_a (fun i => it ((24 * s).toNat + f.toNat + i)) g m 0 be m.toNat (by omega)⟩⟩)
            · refine x_bipush dX6_hear_154 ?_
              refine x_goto 160 dX6_hear_156 ?_
              exact x_iret dX6_hear_160 (⟨by unfold rHear; (repeat' split) <;> first | rfl | omega | (exfalso; omega), _, _, rfl, fun q => by first | (exfalso; omega) | exact ⟨(lsa_c (fun i => it ((24 * s).toNat + f.toNat + i)) g ah 0 m.toNat (by omega)), lsb_a (fun i => it ((24 * s).toNat + f.toNat + i)) g m 0 be m.toNat (by omega)⟩⟩)
          · refine x_bipush dX6_hear_143 ?_
            refine x_goto 160 dX6_hear_145 ?_
            exact x_iret dX6_hear_160 (⟨by unfold rHear; (repeat' split) <;> first | rfl | omega | (exfalso; omega), _, _, rfl, fun q => by first | (exfalso; omega) | exact ⟨(lsa_c (fun i => it ((24 * s).toNat + f.toNat + i)) g ah 0 m.toNat (by omega)), lsb_a (fun i => it ((24 * s).toNat + f.toNat + i)) g m 0 be m.toNat (by omega)⟩⟩)
        · refine x_iload dX6_hear_52 rfl ?_
          exact x_iret dX6_hear_54 (⟨by unfold rHear; (repeat' split) <;> first | rfl | omega | (exfalso; omega), _, _, rfl, fun q => by exfalso; omega⟩)
      · rw [if_neg c28] at hb28
        subst hb28
        refine x_if_ne 36 dX6_hear_31 (fun h31 => absurd h31 (by decide)) (fun h31 => ?_)
        refine x_iconst dX6_hear_34 ?_
        exact x_iret dX6_hear_35 (⟨by unfold rHear; (repeat' split) <;> first | rfl | omega | (exfalso; omega), _, _, rfl, fun q => by exfalso; omega⟩)
    · rw [if_neg c15] at hb15
      subst hb15
      refine x_if_eq 34 dX6_hear_18 (fun h18 => ?_) (fun h18 => absurd h18 (by decide))
      refine x_iconst dX6_hear_34 ?_
      exact x_iret dX6_hear_35 (⟨by unfold rHear; (repeat' split) <;> first | rfl | omega | (exfalso; omega), _, _, rfl, fun q => by exfalso; omega⟩)
  · rw [if_neg c2] at hb2
    subst hb2
    refine x_if_eq 34 dX6_hear_5 (fun h5 => ?_) (fun h5 => absurd h5 (by decide))
    refine x_iconst dX6_hear_34 ?_
    exact x_iret dX6_hear_35 (⟨by unfold rHear; (repeat' split) <;> first | rfl | omega | (exfalso; omega), _, _, rfl, fun q => by exfalso; omega⟩)
set_option maxRecDepth 100000 in
set_option maxHeartbeats 4000000 in
theorem c_isTold (w : AW) (u v : Int) (hiu : inR u) (hiv : inR v) : CTi I_X6_isTold 0 0 [.int (iI u), .int (iI v)] (w) (fun x w' => x = (if 1 ≤ u ∧ u ≤ 10 ∧ 1 ≤ v ∧ v ≤ 2 then 1 else 0) ∧ w' = w) := by
  refine CT_of 0 rfl (Nat.le_of_ble_eq_true rfl) ?_
  show EX I_X6_isTold 0 0 none _ 0 [some (.int (iI u)), some (.int (iI v))] [] _ 0 0
  refine x_iload_n dX6_isTold_0 rfl ?_
  refine x_i2l dX6_isTold_1 ?_
  refine x_lconst dX6_isTold_2 ?_
  refine x_ldc2 dX6_isTold_3 kl_X6_146 ?_
  refine x_calliS dX6_isTold_6 mk_X6_in ml_X6_43 (c_in _ u 1 10 hiu (by decide) (by decide)) rfl (fun x6 w6 h6 => ?_)
  obtain ⟨hb6, rfl⟩ := h6
  by_cases c6 : 1 ≤ u ∧ u ≤ 10
  · rw [if_pos c6] at hb6
    subst hb6
    refine x_if_eq 28 dX6_isTold_9 (fun h9 => absurd h9 (by decide)) (fun h9 => ?_)
    refine x_iload_n dX6_isTold_12 rfl ?_
    refine x_i2l dX6_isTold_13 ?_
    refine x_lconst dX6_isTold_14 ?_
    refine x_ldc2 dX6_isTold_15 kl_X6_70 ?_
    refine x_calliS dX6_isTold_18 mk_X6_in ml_X6_43 (c_in _ v 1 2 hiv (by decide) (by decide)) rfl (fun x18 w18 h18 => ?_)
    obtain ⟨hb18, rfl⟩ := h18
    by_cases c18 : 1 ≤ v ∧ v ≤ 2
    · rw [if_pos c18] at hb18
      subst hb18
      refine x_if_eq 28 dX6_isTold_21 (fun h21 => absurd h21 (by decide)) (fun h21 => ?_)
      refine x_iconst dX6_isTold_24 ?_
      refine x_goto 29 dX6_isTold_25 ?_
      exact x_zret dX6_isTold_29 (by omega) (⟨by (repeat' split) <;> omega, rfl⟩)
    · rw [if_neg c18] at hb18
      subst hb18
      refine x_if_eq 28 dX6_isTold_21 (fun h21 => ?_) (fun h21 => absurd h21 (by decide))
      refine x_iconst dX6_isTold_28 ?_
      exact x_zret dX6_isTold_29 (by omega) (⟨by (repeat' split) <;> omega, rfl⟩)
  · rw [if_neg c6] at hb6
    subst hb6
    refine x_if_eq 28 dX6_isTold_9 (fun h9 => ?_) (fun h9 => absurd h9 (by decide))
    refine x_iconst dX6_isTold_28 ?_
    exact x_zret dX6_isTold_29 (by omega) (⟨by (repeat' split) <;> omega, rfl⟩)
set_option maxRecDepth 100000 in
set_option maxHeartbeats 4000000 in
theorem c_songOf (w : AW) (u v : Int) : CTi I_X6_songOf 0 0 [.int (iI u), .int (iI v)] (w) (fun x w' => x = sgO u v ∧ w' = w) := by
  refine CT_of 0 rfl (Nat.le_of_ble_eq_true rfl) ?_
  show EX I_X6_songOf 0 0 none _ 0 [some (.int (iI u)), some (.int (iI v))] [] _ 0 0
  refine x_iconst dX6_songOf_0 ?_
  refine x_iload_n dX6_songOf_1 rfl ?_
  refine x_iconst dX6_songOf_2 ?_
  refine x_isub dX6_songOf_3 ?_
  refine x_imul dX6_songOf_4 ?_
  refine x_iload_n dX6_songOf_5 rfl ?_
  refine x_iadd dX6_songOf_6 ?_
  refine x_iconst dX6_songOf_7 ?_
  refine x_isub dX6_songOf_8 ?_
  exact x_iret dX6_songOf_9 (⟨rfl, rfl⟩)
theorem rHear_b (ln rs it : Nat → Int) (s l f m g : Int) : rHear ln rs it s l f m g = 0 ∨ (-13 ≤ rHear ln rs it s l f m g ∧ rHear ln rs it s l f m g < 0) := by
  unfold rHear rLack
  (repeat' split) <;> omega
theorem rHear_0 {ln rs it : Nat → Int} {s l f m g : Int} (h : rHear ln rs it s l f m g = 0) : 1 ≤ m ∧ m ≤ 20 ∧ 1 ≤ gapA it s f m g ∧ gapA it s f m g ≤ m := by
  unfold rHear at h
  split at h
  · split at h
    · omega
    · split at h
      · omega
      · split at h
        · rename_i h1 _ _ h4
          have := lsa_b (fun i => it ((24 * s).toNat + f.toNat + i)) g 0 m.toNat
          unfold gapA
          omega
        · omega
  · omega
set_option maxRecDepth 100000 in
set_option maxHeartbeats 4000000 in
theorem c_heard {P : AW} {a : Nat} (hP : P.length = a) (z sp : Nat → Int) (n : Nat) (sa ba : Nat → Int) (dn ah be : Int) (tp : Nat → Int) (tl ta ac : Nat) (kd nb : Nat → Int) (ik : Int) (im ln rs it : Nat → Int) (R : AW) (hSh : SH ln rs it) (s l f m g : Int) (his : inR s) (hil : inR l) (hif : inR f) (him : inR m) (hig : inR g) : CTi I_X6_heard 0 0 [.ref (a + 0), .int (iI s), .int (iI l), .int (iI f), .int (iI m), .int (iI g)] (P ++ mw a z sp n sa ba dn ah be tp tl ta ac kd nb ik im ln rs it R) (fun x w' => x = rHeard ln rs it s l f m g ∧ ∃ (ah be : Int), w' = P ++ mw a z sp n sa ba dn ah be tp tl ta ac kd nb ik im ln rs it R) := by
  refine CT_of 1 rfl (Nat.le_of_ble_eq_true rfl) ?_
  show EX I_X6_heard 0 0 none _ 0 [some (.ref (a + 0)), some (.int (iI s)), some (.int (iI l)), some (.int (iI f)), some (.int (iI m)), some (.int (iI g)), none] [] _ 0 0
  refine x_aload_n dX6_heard_0 rfl ?_
  refine x_iload_n dX6_heard_1 rfl ?_
  refine x_iload_n dX6_heard_2 rfl ?_
  refine x_iload_n dX6_heard_3 rfl ?_
  refine x_iload dX6_heard_4 rfl ?_
  refine x_iload dX6_heard_6 rfl ?_
  refine x_calliV dX6_heard_8 mk_X6_hear ml_X6_148 (c_hear hP z sp n sa ba dn ah be tp tl ta ac kd nb ik im ln rs it R hSh s l f m g his hil hif him hig) ((wg_app hP 0).trans rfl) rfl (fun x8 w8 h8 => ?_)
  obtain ⟨rfl, ah', be', rfl, hab⟩ := h8
  have hrr := rHear_b ln rs it s l f m g
  refine x_ist6 dX6_heard_11 ?_
  refine x_iload dX6_heard_13 rfl ?_
  refine x_if_ge 23 dX6_heard_15 (fun h15 => ?_) (fun h15 => ?_) (ha := by omega)
  · have h0 := hab (by omega)
    obtain ⟨rfl, rfl⟩ := h0
    have hg0 := rHear_0 (ln := ln) (rs := rs) (it := it) (s := s) (l := l) (f := f) (m := m) (g := g) (by omega)
    refine x_aload_n dX6_heard_23 rfl ?_
    refine x_getfield 0 dX6_heard_24 fg_X6_140 hP rfl rfl ?_
    refine x_aload_n dX6_heard_27 rfl ?_
    refine x_getfield 0 dX6_heard_28 fg_X6_143 hP rfl rfl ?_
    refine x_calliS dX6_heard_31 mk_X6_isTold ml_X6_152 (c_isTold _ (gapA it s f m g) (m + 1 - gapA it s f m g) (by omega) (by omega)) rfl (fun x31 w31 h31 => ?_)
    obtain ⟨hb31, rfl⟩ := h31
    by_cases c31 : 1 ≤ gapA it s f m g ∧ gapA it s f m g ≤ 10 ∧ 1 ≤ m + 1 - gapA it s f m g ∧ m + 1 - gapA it s f m g ≤ 2
    · rw [if_pos c31] at hb31
      subst hb31
      refine x_if_eq 51 dX6_heard_34 (fun h34 => absurd h34 (by decide)) (fun h34 => ?_)
      refine x_aload_n dX6_heard_37 rfl ?_
      refine x_getfield 0 dX6_heard_38 fg_X6_140 hP rfl rfl ?_
      refine x_aload_n dX6_heard_41 rfl ?_
      refine x_getfield 0 dX6_heard_42 fg_X6_143 hP rfl rfl ?_
      refine x_calliS dX6_heard_45 mk_X6_songOf ml_X6_155 (c_songOf _ (gapA it s f m g) (m + 1 - gapA it s f m g)) rfl (fun x45 w45 h45 => ?_)
      obtain ⟨rfl, rfl⟩ := h45
      refine x_goto 53 dX6_heard_48 ?_
      exact x_iret dX6_heard_53 (⟨by unfold rHeard; (repeat' split) <;> first | rfl | omega | (exfalso; omega), _, _, rfl⟩)
    · rw [if_neg c31] at hb31
      subst hb31
      refine x_if_eq 51 dX6_heard_34 (fun h34 => ?_) (fun h34 => absurd h34 (by decide))
      refine x_bipush dX6_heard_51 ?_
      exact x_iret dX6_heard_53 (⟨by unfold rHeard; (repeat' split) <;> first | rfl | omega | (exfalso; omega), _, _, rfl⟩)
  · refine x_iload dX6_heard_18 rfl ?_
    refine x_goto 53 dX6_heard_20 ?_
    exact x_iret dX6_heard_53 (⟨by unfold rHeard; (repeat' split) <;> first | rfl | omega | (exfalso; omega), _, _, rfl⟩)
set_option maxRecDepth 100000 in
set_option maxHeartbeats 4000000 in
theorem c_mayBe {P : AW} {a : Nat} (hP : P.length = a) (z sp : Nat → Int) (n : Nat) (sa ba : Nat → Int) (dn ah be : Int) (tp : Nat → Int) (tl ta ac : Nat) (kd nb : Nat → Int) (ik : Int) (im ln rs it : Nat → Int) (R : AW) (hSh : SH ln rs it) (s l f m g : Int) (his : inR s) (hil : inR l) (hif : inR f) (him : inR m) (hig : inR g) : CTi I_X6_mayBe 0 0 [.ref (a + 0), .int (iI s), .int (iI l), .int (iI f), .int (iI m), .int (iI g)] (P ++ mw a z sp n sa ba dn ah be tp tl ta ac kd nb ik im ln rs it R) (fun x w' => x = rMay ln rs it s l f m g ∧ ∃ (ah be : Int), w' = P ++ mw a z sp n sa ba dn ah be tp tl ta ac kd nb ik im ln rs it R) := by
  refine CT_of 2 rfl (Nat.le_of_ble_eq_true rfl) ?_
  show EX I_X6_mayBe 0 0 none _ 0 [some (.ref (a + 0)), some (.int (iI s)), some (.int (iI l)), some (.int (iI f)), some (.int (iI m)), some (.int (iI g)), none, none] [] _ 0 0
  refine x_aload_n dX6_mayBe_0 rfl ?_
  refine x_iload_n dX6_mayBe_1 rfl ?_
  refine x_iload_n dX6_mayBe_2 rfl ?_
  refine x_iload_n dX6_mayBe_3 rfl ?_
  refine x_iload dX6_mayBe_4 rfl ?_
  refine x_iload dX6_mayBe_6 rfl ?_
  refine x_calliV dX6_mayBe_8 mk_X6_hear ml_X6_148 (c_hear hP z sp n sa ba dn ah be tp tl ta ac kd nb ik im ln rs it R hSh s l f m g his hil hif him hig) ((wg_app hP 0).trans rfl) rfl (fun x8 w8 h8 => ?_)
  obtain ⟨rfl, ah', be', rfl, hab⟩ := h8
  have hrr := rHear_b ln rs it s l f m g
  refine x_ist6 dX6_mayBe_11 ?_
  refine x_iload dX6_mayBe_13 rfl ?_
  refine x_if_ge 21 dX6_mayBe_15 (fun h15 => ?_) (fun h15 => ?_) (ha := by omega)
  · have h0 := hab (by omega)
    obtain ⟨rfl, rfl⟩ := h0
    have hg0 := rHear_0 (ln := ln) (rs := rs) (it := it) (s := s) (l := l) (f := f) (m := m) (g := g) (by omega)
    refine x_aload_n dX6_mayBe_21 rfl ?_
    refine x_getfield 0 dX6_mayBe_22 fg_X6_140 hP rfl rfl ?_
    refine x_aload_n dX6_mayBe_25 rfl ?_
    refine x_getfield 0 dX6_mayBe_26 fg_X6_143 hP rfl rfl ?_
    refine x_calliS dX6_mayBe_29 mk_X6_isTold ml_X6_152 (c_isTold _ (gapA it s f m g) (m + 1 - gapA it s f m g) (by omega) (by omega)) rfl (fun x29 w29 h29 => ?_)
    obtain ⟨hb29, rfl⟩ := h29
    by_cases c29 : 1 ≤ gapA it s f m g ∧ gapA it s f m g ≤ 10 ∧ 1 ≤ m + 1 - gapA it s f m g ∧ m + 1 - gapA it s f m g ≤ 2
    · rw [if_pos c29] at hb29
      subst hb29
      refine x_if_eq 51 dX6_mayBe_32 (fun h32 => absurd h32 (by decide)) (fun h32 => ?_)
      refine x_iconst dX6_mayBe_35 ?_
      refine x_aload_n dX6_mayBe_36 rfl ?_
      refine x_getfield 0 dX6_mayBe_37 fg_X6_140 hP rfl rfl ?_
      refine x_aload_n dX6_mayBe_40 rfl ?_
      refine x_getfield 0 dX6_mayBe_41 fg_X6_143 hP rfl rfl ?_
      refine x_calliS dX6_mayBe_44 mk_X6_songOf ml_X6_155 (c_songOf _ (gapA it s f m g) (m + 1 - gapA it s f m g)) rfl (fun x44 w44 h44 => ?_)
      obtain ⟨rfl, rfl⟩ := h44
      refine x_ishl dX6_mayBe_47 (shl_i _ _) ?_
      refine x_goto 52 dX6_mayBe_48 ?_
      refine x_ist7 dX6_mayBe_52 ?_
      refine x_iload dX6_mayBe_54 rfl ?_
      refine x_aload_n dX6_mayBe_56 rfl ?_
      refine x_getfield 0 dX6_mayBe_57 fg_X6_140 hP rfl rfl ?_
      refine x_iconst dX6_mayBe_60 ?_
      refine x_iadd dX6_mayBe_61 ?_
      refine x_aload_n dX6_mayBe_62 rfl ?_
      refine x_getfield 0 dX6_mayBe_63 fg_X6_143 hP rfl rfl ?_
      refine x_calliS dX6_mayBe_66 mk_X6_isTold ml_X6_152 (c_isTold _ (gapA it s f m g + 1) (m + 1 - gapA it s f m g) (by omega) (by omega)) rfl (fun x66 w66 h66 => ?_)
      obtain ⟨hb66, rfl⟩ := h66
      by_cases c66 : 1 ≤ (gapA it s f m g + 1) ∧ (gapA it s f m g + 1) ≤ 10 ∧ 1 ≤ m + 1 - gapA it s f m g ∧ m + 1 - gapA it s f m g ≤ 2
      · rw [if_pos c66] at hb66
        subst hb66
        refine x_if_eq 90 dX6_mayBe_69 (fun h69 => absurd h69 (by decide)) (fun h69 => ?_)
        refine x_iconst dX6_mayBe_72 ?_
        refine x_aload_n dX6_mayBe_73 rfl ?_
        refine x_getfield 0 dX6_mayBe_74 fg_X6_140 hP rfl rfl ?_
        refine x_iconst dX6_mayBe_77 ?_
        refine x_iadd dX6_mayBe_78 ?_
        refine x_aload_n dX6_mayBe_79 rfl ?_
        refine x_getfield 0 dX6_mayBe_80 fg_X6_143 hP rfl rfl ?_
        refine x_calliS dX6_mayBe_83 mk_X6_songOf ml_X6_155 (c_songOf _ (gapA it s f m g + 1) (m + 1 - gapA it s f m g)) rfl (fun x83 w83 h83 => ?_)
        obtain ⟨rfl, rfl⟩ := h83
        refine x_ishl dX6_mayBe_86 (shl_i _ _) ?_
        refine x_goto 91 dX6_mayBe_87 ?_
        refine x_ior dX6_mayBe_91 (or_i _ _) ?_
        refine x_ist7 dX6_mayBe_92 ?_
        refine x_iload dX6_mayBe_94 rfl ?_
        refine x_aload_n dX6_mayBe_96 rfl ?_
        refine x_getfield 0 dX6_mayBe_97 fg_X6_140 hP rfl rfl ?_
        refine x_aload_n dX6_mayBe_100 rfl ?_
        refine x_getfield 0 dX6_mayBe_101 fg_X6_143 hP rfl rfl ?_
        refine x_iconst dX6_mayBe_104 ?_
        refine x_iadd dX6_mayBe_105 ?_
        refine x_calliS dX6_mayBe_106 mk_X6_isTold ml_X6_152 (c_isTold _ (gapA it s f m g) (m + 1 - gapA it s f m g + 1) (by omega) (by omega)) rfl (fun x106 w106 h106 => ?_)
        obtain ⟨hb106, rfl⟩ := h106
        by_cases c106 : 1 ≤ gapA it s f m g ∧ gapA it s f m g ≤ 10 ∧ 1 ≤ (m + 1 - gapA it s f m g + 1) ∧ (m + 1 - gapA it s f m g + 1) ≤ 2
        · rw [if_pos c106] at hb106
          subst hb106
          refine x_if_eq 130 dX6_mayBe_109 (fun h109 => absurd h109 (by decide)) (fun h109 => ?_)
          refine x_iconst dX6_mayBe_112 ?_
          refine x_aload_n dX6_mayBe_113 rfl ?_
          refine x_getfield 0 dX6_mayBe_114 fg_X6_140 hP rfl rfl ?_
          refine x_aload_n dX6_mayBe_117 rfl ?_
          refine x_getfield 0 dX6_mayBe_118 fg_X6_143 hP rfl rfl ?_
          refine x_iconst dX6_mayBe_121 ?_
          refine x_iadd dX6_mayBe_122 ?_
          refine x_calliS dX6_mayBe_123 mk_X6_songOf ml_X6_155 (c_songOf _ (gapA it s f m g) (m + 1 - gapA it s f m g + 1)) rfl (fun x123 w123 h123 => ?_)
          obtain ⟨rfl, rfl⟩ := h123
          refine x_ishl dX6_mayBe_126 (shl_i _ _) ?_
          refine x_goto 131 dX6_mayBe_127 ?_
          refine x_ior dX6_mayBe_131 (or_i _ _) ?_
          refine x_ist7 dX6_mayBe_132 ?_
          refine x_iload dX6_mayBe_134 rfl ?_
          refine x_if_ne 144 dX6_mayBe_136 (fun h136 => ?_) (fun h136 => ?_) (ha := orI_R _ _)
          · refine x_iload dX6_mayBe_144 rfl ?_
            exact x_iret dX6_mayBe_146 (⟨by unfold rMay; rw [if_neg (by omega)]; unfold bits3 bitO; rw [if_pos c29, if_pos c66, if_pos c106]; exact (if_neg h136).symm, _, _, rfl⟩)
          · refine x_bipush dX6_mayBe_139 ?_
            refine x_goto 146 dX6_mayBe_141 ?_
            exact x_iret dX6_mayBe_146 (⟨by unfold rMay; rw [if_neg (by omega)]; unfold bits3 bitO; rw [if_pos c29, if_pos c66, if_pos c106]; exact (if_pos h136).symm, _, _, rfl⟩)
        · rw [if_neg c106] at hb106
          subst hb106
          refine x_if_eq 130 dX6_mayBe_109 (fun h109 => ?_) (fun h109 => absurd h109 (by decide))
          refine x_iconst dX6_mayBe_130 ?_
          refine x_ior dX6_mayBe_131 (or_i _ _) ?_
          refine x_ist7 dX6_mayBe_132 ?_
          refine x_iload dX6_mayBe_134 rfl ?_
          refine x_if_ne 144 dX6_mayBe_136 (fun h136 => ?_) (fun h136 => ?_) (ha := orI_R _ _)
          · refine x_iload dX6_mayBe_144 rfl ?_
            exact x_iret dX6_mayBe_146 (⟨by unfold rMay; rw [if_neg (by omega)]; unfold bits3 bitO; rw [if_pos c29, if_pos c66, if_neg c106]; exact (if_neg h136).symm, _, _, rfl⟩)
          · refine x_bipush dX6_mayBe_139 ?_
            refine x_goto 146 dX6_mayBe_141 ?_
            exact x_iret dX6_mayBe_146 (⟨by unfold rMay; rw [if_neg (by omega)]; unfold bits3 bitO; rw [if_pos c29, if_pos c66, if_neg c106]; exact (if_pos h136).symm, _, _, rfl⟩)
      · rw [if_neg c66] at hb66
        subst hb66
        refine x_if_eq 90 dX6_mayBe_69 (fun h69 => ?_) (fun h69 => absurd h69 (by decide))
        refine x_iconst dX6_mayBe_90 ?_
        refine x_ior dX6_mayBe_91 (or_i _ _) ?_
        refine x_ist7 dX6_mayBe_92 ?_
        refine x_iload dX6_mayBe_94 rfl ?_
        refine x_aload_n dX6_mayBe_96 rfl ?_
        refine x_getfield 0 dX6_mayBe_97 fg_X6_140 hP rfl rfl ?_
        refine x_aload_n dX6_mayBe_100 rfl ?_
        refine x_getfield 0 dX6_mayBe_101 fg_X6_143 hP rfl rfl ?_
        refine x_iconst dX6_mayBe_104 ?_
        refine x_iadd dX6_mayBe_105 ?_
        refine x_calliS dX6_mayBe_106 mk_X6_isTold ml_X6_152 (c_isTold _ (gapA it s f m g) (m + 1 - gapA it s f m g + 1) (by omega) (by omega)) rfl (fun x106 w106 h106 => ?_)
        obtain ⟨hb106, rfl⟩ := h106
        by_cases c106 : 1 ≤ gapA it s f m g ∧ gapA it s f m g ≤ 10 ∧ 1 ≤ (m + 1 - gapA it s f m g + 1) ∧ (m + 1 - gapA it s f m g + 1) ≤ 2
        · rw [if_pos c106] at hb106
          subst hb106
          refine x_if_eq 130 dX6_mayBe_109 (fun h109 => absurd h109 (by decide)) (fun h109 => ?_)
          refine x_iconst dX6_mayBe_112 ?_
          refine x_aload_n dX6_mayBe_113 rfl ?_
          refine x_getfield 0 dX6_mayBe_114 fg_X6_140 hP rfl rfl ?_
          refine x_aload_n dX6_mayBe_117 rfl ?_
          refine x_getfield 0 dX6_mayBe_118 fg_X6_143 hP rfl rfl ?_
          refine x_iconst dX6_mayBe_121 ?_
          refine x_iadd dX6_mayBe_122 ?_
          refine x_calliS dX6_mayBe_123 mk_X6_songOf ml_X6_155 (c_songOf _ (gapA it s f m g) (m + 1 - gapA it s f m g + 1)) rfl (fun x123 w123 h123 => ?_)
          obtain ⟨rfl, rfl⟩ := h123
          refine x_ishl dX6_mayBe_126 (shl_i _ _) ?_
          refine x_goto 131 dX6_mayBe_127 ?_
          refine x_ior dX6_mayBe_131 (or_i _ _) ?_
          refine x_ist7 dX6_mayBe_132 ?_
          refine x_iload dX6_mayBe_134 rfl ?_
          refine x_if_ne 144 dX6_mayBe_136 (fun h136 => ?_) (fun h136 => ?_) (ha := orI_R _ _)
          · refine x_iload dX6_mayBe_144 rfl ?_
            exact x_iret dX6_mayBe_146 (⟨by unfold rMay; rw [if_neg (by omega)]; unfold bits3 bitO; rw [if_pos c29, if_neg c66, if_pos c106]; exact (if_neg h136).symm, _, _, rfl⟩)
          · refine x_bipush dX6_mayBe_139 ?_
            refine x_goto 146 dX6_mayBe_141 ?_
            exact x_iret dX6_mayBe_146 (⟨by unfold rMay; rw [if_neg (by omega)]; unfold bits3 bitO; rw [if_pos c29, if_neg c66, if_pos c106]; exact (if_pos h136).symm, _, _, rfl⟩)
        · rw [if_neg c106] at hb106
          subst hb106
          refine x_if_eq 130 dX6_mayBe_109 (fun h109 => ?_) (fun h109 => absurd h109 (by decide))
          refine x_iconst dX6_mayBe_130 ?_
          refine x_ior dX6_mayBe_131 (or_i _ _) ?_
          refine x_ist7 dX6_mayBe_132 ?_
          refine x_iload dX6_mayBe_134 rfl ?_
          refine x_if_ne 144 dX6_mayBe_136 (fun h136 => ?_) (fun h136 => ?_) (ha := orI_R _ _)
          · refine x_iload dX6_mayBe_144 rfl ?_
            exact x_iret dX6_mayBe_146 (⟨by unfold rMay; rw [if_neg (by omega)]; unfold bits3 bitO; rw [if_pos c29, if_neg c66, if_neg c106]; exact (if_neg h136).symm, _, _, rfl⟩)
          · refine x_bipush dX6_mayBe_139 ?_
            refine x_goto 146 dX6_mayBe_141 ?_
            exact x_iret dX6_mayBe_146 (⟨by unfold rMay; rw [if_neg (by omega)]; unfold bits3 bitO; rw [if_pos c29, if_neg c66, if_neg c106]; exact (if_pos h136).symm, _, _, rfl⟩)
    · rw [if_neg c29] at hb29
      subst hb29
      refine x_if_eq 51 dX6_mayBe_32 (fun h32 => ?_) (fun h32 => absurd h32 (by decide))
      refine x_iconst dX6_mayBe_51 ?_
      refine x_ist7 dX6_mayBe_52 ?_
      refine x_iload dX6_mayBe_54 rfl ?_
      refine x_aload_n dX6_mayBe_56 rfl ?_
      refine x_getfield 0 dX6_mayBe_57 fg_X6_140 hP rfl rfl ?_
      refine x_iconst dX6_mayBe_60 ?_
      refine x_iadd dX6_mayBe_61 ?_
      refine x_aload_n dX6_mayBe_62 rfl ?_
      refine x_getfield 0 dX6_mayBe_63 fg_X6_143 hP rfl rfl ?_
      refine x_calliS dX6_mayBe_66 mk_X6_isTold ml_X6_152 (c_isTold _ (gapA it s f m g + 1) (m + 1 - gapA it s f m g) (by omega) (by omega)) rfl (fun x66 w66 h66 => ?_)
      obtain ⟨hb66, rfl⟩ := h66
      by_cases c66 : 1 ≤ (gapA it s f m g + 1) ∧ (gapA it s f m g + 1) ≤ 10 ∧ 1 ≤ m + 1 - gapA it s f m g ∧ m + 1 - gapA it s f m g ≤ 2
      · rw [if_pos c66] at hb66
        subst hb66
        refine x_if_eq 90 dX6_mayBe_69 (fun h69 => absurd h69 (by decide)) (fun h69 => ?_)
        refine x_iconst dX6_mayBe_72 ?_
        refine x_aload_n dX6_mayBe_73 rfl ?_
        refine x_getfield 0 dX6_mayBe_74 fg_X6_140 hP rfl rfl ?_
        refine x_iconst dX6_mayBe_77 ?_
        refine x_iadd dX6_mayBe_78 ?_
        refine x_aload_n dX6_mayBe_79 rfl ?_
        refine x_getfield 0 dX6_mayBe_80 fg_X6_143 hP rfl rfl ?_
        refine x_calliS dX6_mayBe_83 mk_X6_songOf ml_X6_155 (c_songOf _ (gapA it s f m g + 1) (m + 1 - gapA it s f m g)) rfl (fun x83 w83 h83 => ?_)
        obtain ⟨rfl, rfl⟩ := h83
        refine x_ishl dX6_mayBe_86 (shl_i _ _) ?_
        refine x_goto 91 dX6_mayBe_87 ?_
        refine x_ior dX6_mayBe_91 (or_i _ _) ?_
        refine x_ist7 dX6_mayBe_92 ?_
        refine x_iload dX6_mayBe_94 rfl ?_
        refine x_aload_n dX6_mayBe_96 rfl ?_
        refine x_getfield 0 dX6_mayBe_97 fg_X6_140 hP rfl rfl ?_
        refine x_aload_n dX6_mayBe_100 rfl ?_
        refine x_getfield 0 dX6_mayBe_101 fg_X6_143 hP rfl rfl ?_
        refine x_iconst dX6_mayBe_104 ?_
        refine x_iadd dX6_mayBe_105 ?_
        refine x_calliS dX6_mayBe_106 mk_X6_isTold ml_X6_152 (c_isTold _ (gapA it s f m g) (m + 1 - gapA it s f m g + 1) (by omega) (by omega)) rfl (fun x106 w106 h106 => ?_)
        obtain ⟨hb106, rfl⟩ := h106
        by_cases c106 : 1 ≤ gapA it s f m g ∧ gapA it s f m g ≤ 10 ∧ 1 ≤ (m + 1 - gapA it s f m g + 1) ∧ (m + 1 - gapA it s f m g + 1) ≤ 2
        · rw [if_pos c106] at hb106
          subst hb106
          refine x_if_eq 130 dX6_mayBe_109 (fun h109 => absurd h109 (by decide)) (fun h109 => ?_)
          refine x_iconst dX6_mayBe_112 ?_
          refine x_aload_n dX6_mayBe_113 rfl ?_
          refine x_getfield 0 dX6_mayBe_114 fg_X6_140 hP rfl rfl ?_
          refine x_aload_n dX6_mayBe_117 rfl ?_
          refine x_getfield 0 dX6_mayBe_118 fg_X6_143 hP rfl rfl ?_
          refine x_iconst dX6_mayBe_121 ?_
          refine x_iadd dX6_mayBe_122 ?_
          refine x_calliS dX6_mayBe_123 mk_X6_songOf ml_X6_155 (c_songOf _ (gapA it s f m g) (m + 1 - gapA it s f m g + 1)) rfl (fun x123 w123 h123 => ?_)
          obtain ⟨rfl, rfl⟩ := h123
          refine x_ishl dX6_mayBe_126 (shl_i _ _) ?_
          refine x_goto 131 dX6_mayBe_127 ?_
          refine x_ior dX6_mayBe_131 (or_i _ _) ?_
          refine x_ist7 dX6_mayBe_132 ?_
          refine x_iload dX6_mayBe_134 rfl ?_
          refine x_if_ne 144 dX6_mayBe_136 (fun h136 => ?_) (fun h136 => ?_) (ha := orI_R _ _)
          · refine x_iload dX6_mayBe_144 rfl ?_
            exact x_iret dX6_mayBe_146 (⟨by unfold rMay; rw [if_neg (by omega)]; unfold bits3 bitO; rw [if_neg c29, if_pos c66, if_pos c106]; exact (if_neg h136).symm, _, _, rfl⟩)
          · refine x_bipush dX6_mayBe_139 ?_
            refine x_goto 146 dX6_mayBe_141 ?_
            exact x_iret dX6_mayBe_146 (⟨by unfold rMay; rw [if_neg (by omega)]; unfold bits3 bitO; rw [if_neg c29, if_pos c66, if_pos c106]; exact (if_pos h136).symm, _, _, rfl⟩)
        · rw [if_neg c106] at hb106
          subst hb106
          refine x_if_eq 130 dX6_mayBe_109 (fun h109 => ?_) (fun h109 => absurd h109 (by decide))
          refine x_iconst dX6_mayBe_130 ?_
          refine x_ior dX6_mayBe_131 (or_i _ _) ?_
          refine x_ist7 dX6_mayBe_132 ?_
          refine x_iload dX6_mayBe_134 rfl ?_
          refine x_if_ne 144 dX6_mayBe_136 (fun h136 => ?_) (fun h136 => ?_) (ha := orI_R _ _)
          · refine x_iload dX6_mayBe_144 rfl ?_
            exact x_iret dX6_mayBe_146 (⟨by unfold rMay; rw [if_neg (by omega)]; unfold bits3 bitO; rw [if_neg c29, if_pos c66, if_neg c106]; exact (if_neg h136).symm, _, _, rfl⟩)
          · refine x_bipush dX6_mayBe_139 ?_
            refine x_goto 146 dX6_mayBe_141 ?_
            exact x_iret dX6_mayBe_146 (⟨by unfold rMay; rw [if_neg (by omega)]; unfold bits3 bitO; rw [if_neg c29, if_pos c66, if_neg c106]; exact (if_pos h136).symm, _, _, rfl⟩)
      · rw [if_neg c66] at hb66
        subst hb66
        refine x_if_eq 90 dX6_mayBe_69 (fun h69 => ?_) (fun h69 => absurd h69 (by decide))
        refine x_iconst dX6_mayBe_90 ?_
        refine x_ior dX6_mayBe_91 (or_i _ _) ?_
        refine x_ist7 dX6_mayBe_92 ?_
        refine x_iload dX6_mayBe_94 rfl ?_
        refine x_aload_n dX6_mayBe_96 rfl ?_
        refine x_getfield 0 dX6_mayBe_97 fg_X6_140 hP rfl rfl ?_
        refine x_aload_n dX6_mayBe_100 rfl ?_
        refine x_getfield 0 dX6_mayBe_101 fg_X6_143 hP rfl rfl ?_
        refine x_iconst dX6_mayBe_104 ?_
        refine x_iadd dX6_mayBe_105 ?_
        refine x_calliS dX6_mayBe_106 mk_X6_isTold ml_X6_152 (c_isTold _ (gapA it s f m g) (m + 1 - gapA it s f m g + 1) (by omega) (by omega)) rfl (fun x106 w106 h106 => ?_)
        obtain ⟨hb106, rfl⟩ := h106
        by_cases c106 : 1 ≤ gapA it s f m g ∧ gapA it s f m g ≤ 10 ∧ 1 ≤ (m + 1 - gapA it s f m g + 1) ∧ (m + 1 - gapA it s f m g + 1) ≤ 2
        · rw [if_pos c106] at hb106
          subst hb106
          refine x_if_eq 130 dX6_mayBe_109 (fun h109 => absurd h109 (by decide)) (fun h109 => ?_)
          refine x_iconst dX6_mayBe_112 ?_
          refine x_aload_n dX6_mayBe_113 rfl ?_
          refine x_getfield 0 dX6_mayBe_114 fg_X6_140 hP rfl rfl ?_
          refine x_aload_n dX6_mayBe_117 rfl ?_
          refine x_getfield 0 dX6_mayBe_118 fg_X6_143 hP rfl rfl ?_
          refine x_iconst dX6_mayBe_121 ?_
          refine x_iadd dX6_mayBe_122 ?_
          refine x_calliS dX6_mayBe_123 mk_X6_songOf ml_X6_155 (c_songOf _ (gapA it s f m g) (m + 1 - gapA it s f m g + 1)) rfl (fun x123 w123 h123 => ?_)
          obtain ⟨rfl, rfl⟩ := h123
          refine x_ishl dX6_mayBe_126 (shl_i _ _) ?_
          refine x_goto 131 dX6_mayBe_127 ?_
          refine x_ior dX6_mayBe_131 (or_i _ _) ?_
          refine x_ist7 dX6_mayBe_132 ?_
          refine x_iload dX6_mayBe_134 rfl ?_
          refine x_if_ne 144 dX6_mayBe_136 (fun h136 => ?_) (fun h136 => ?_) (ha := orI_R _ _)
          · refine x_iload dX6_mayBe_144 rfl ?_
            exact x_iret dX6_mayBe_146 (⟨by unfold rMay; rw [if_neg (by omega)]; unfold bits3 bitO; rw [if_neg c29, if_neg c66, if_pos c106]; exact (if_neg h136).symm, _, _, rfl⟩)
          · refine x_bipush dX6_mayBe_139 ?_
            refine x_goto 146 dX6_mayBe_141 ?_
            exact x_iret dX6_mayBe_146 (⟨by unfold rMay; rw [if_neg (by omega)]; unfold bits3 bitO; rw [if_neg c29, if_neg c66, if_pos c106]; exact (if_pos h136).symm, _, _, rfl⟩)
        · rw [if_neg c106] at hb106
          subst hb106
          refine x_if_eq 130 dX6_mayBe_109 (fun h109 => ?_) (fun h109 => absurd h109 (by decide))
          refine x_iconst dX6_mayBe_130 ?_
          refine x_ior dX6_mayBe_131 (or_i _ _) ?_
          refine x_ist7 dX6_mayBe_132 ?_
          refine x_iload dX6_mayBe_134 rfl ?_
          refine x_if_ne 144 dX6_mayBe_136 (fun h136 => ?_) (fun h136 => ?_) (ha := orI_R _ _)
          · refine x_iload dX6_mayBe_144 rfl ?_
            exact x_iret dX6_mayBe_146 (⟨by unfold rMay; rw [if_neg (by omega)]; unfold bits3 bitO; rw [if_neg c29, if_neg c66, if_neg c106]; exact (if_neg h136).symm, _, _, rfl⟩)
          · refine x_bipush dX6_mayBe_139 ?_
            refine x_goto 146 dX6_mayBe_141 ?_
            exact x_iret dX6_mayBe_146 (⟨by unfold rMay; rw [if_neg (by omega)]; unfold bits3 bitO; rw [if_neg c29, if_neg c66, if_neg c106]; exact (if_pos h136).symm, _, _, rfl⟩)
  · refine x_iload dX6_mayBe_18 rfl ?_
    exact x_iret dX6_mayBe_20 (⟨by unfold rMay; (repeat' split) <;> first | rfl | omega | (exfalso; omega), _, _, rfl⟩)
