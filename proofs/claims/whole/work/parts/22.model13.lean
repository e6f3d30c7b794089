/-- the acts behind an act that ends at q, and the fault -/
def pq (tp : Nat → Int) (tl : Nat) : Nat → Nat → List (Int × Int) × Option Nat
  | 0, _ => ([], none)
  | F + 1, q => if byt tp tl (skp tp tl 80 q) < 0 then ([], none) else if ((97 ≤ aC tp tl (skp tp tl 80 q) ∧ aC tp tl (skp tp tl 80 q) ≤ 106 ∧ 0 ≤ aD tp tl (skp tp tl 80 q) ∧ aD tp tl (skp tp tl 80 q) ≤ 1) ∨ (aC tp tl (skp tp tl 80 q) = 43 ∧ 1 ≤ aN tp tl (skp tp tl 80 q) ∧ aN tp tl (skp tp tl 80 q) ≤ 99) ∨ (aC tp tl (skp tp tl 80 q) = 116 ∧ 1 ≤ aN tp tl (skp tp tl 80 q) ∧ aN tp tl (skp tp tl 80 q) ≤ 999)) then ((aK tp tl (skp tp tl 80 q), aV tp tl (skp tp tl 80 q)) :: (pq tp tl F (aQ tp tl (skp tp tl 80 q))).1, (pq tp tl F (aQ tp tl (skp tp tl 80 q))).2) else ([], some (aF tp tl (skp tp tl 80 q)))
theorem pq_e {tp : Nat → Int} {tl F q : Nat} (h : byt tp tl (skp tp tl 80 q) < 0) : pq tp tl (F + 1) q = ([], none) := if_pos h
theorem pq_c {tp : Nat → Int} {tl F q : Nat} (h : ¬ byt tp tl (skp tp tl 80 q) < 0) (h2 : aOk tp tl (skp tp tl 80 q)) : pq tp tl (F + 1) q = ((aK tp tl (skp tp tl 80 q), aV tp tl (skp tp tl 80 q)) :: (pq tp tl F (aQ tp tl (skp tp tl 80 q))).1, (pq tp tl F (aQ tp tl (skp tp tl 80 q))).2) := (if_neg h).trans (if_pos h2)
theorem pq_f {tp : Nat → Int} {tl F q : Nat} (h : ¬ byt tp tl (skp tp tl 80 q) < 0) (h2 : ¬ aOk tp tl (skp tp tl 80 q)) : pq tp tl (F + 1) q = ([], some (aF tp tl (skp tp tl 80 q))) := (if_neg h).trans (if_neg h2)
def mActs (tp : Nat → Int) (tl : Nat) : List (Int × Int) × Option Nat := if ((97 ≤ aC tp tl 0 ∧ aC tp tl 0 ≤ 106 ∧ 0 ≤ aD tp tl 0 ∧ aD tp tl 0 ≤ 1) ∨ (aC tp tl 0 = 43 ∧ 1 ≤ aN tp tl 0 ∧ aN tp tl 0 ≤ 99) ∨ (aC tp tl 0 = 116 ∧ 1 ≤ aN tp tl 0 ∧ aN tp tl 0 ≤ 999)) then ((aK tp tl 0, aV tp tl 0) :: (pq tp tl 81 (aQ tp tl 0)).1, (pq tp tl 81 (aQ tp tl 0)).2) else ([], some (aF tp tl 0))
theorem mActs_c {tp : Nat → Int} {tl : Nat} (h2 : aOk tp tl 0) : mActs tp tl = ((aK tp tl 0, aV tp tl 0) :: (pq tp tl 81 (aQ tp tl 0)).1, (pq tp tl 81 (aQ tp tl 0)).2) := if_pos h2
theorem mActs_f {tp : Nat → Int} {tl : Nat} (h2 : ¬ aOk tp tl 0) : mActs tp tl = ([], some (aF tp tl 0)) := if_neg h2
def actOk (x : Int × Int) : Prop := (x.1 = 0 ∨ x.1 = 1 ∨ x.1 = 2) ∧ 0 ≤ x.2 ∧ x.2 ≤ 999
theorem pq_ok {tp : Nat → Int} {tl : Nat} (htl : tl ≤ 80) (hT : ∀ i, i < tl → 32 ≤ tp i ∧ tp i ≤ 126) : ∀ (F q : Nat), q ≤ tl → (∀ x ∈ (pq tp tl F q).1, actOk x) ∧ q + 2 * (pq tp tl F q).1.length ≤ tl
  | 0, q, hq => by simp [pq]; exact hq
  | F + 1, q, hq => by
    by_cases c1 : byt tp tl (skp tp tl 80 q) < 0
    · rw [pq_e c1]; simpa using hq
    · by_cases c2 : aOk tp tl (skp tp tl 80 q)
      · have hs := skp_b tp tl 80 q
        have hQ := aQ_b htl hT (i := (skp tp tl 80 q)) (by omega) c2
        have ih := pq_ok htl hT F (aQ tp tl (skp tp tl 80 q)) (by omega)
        rw [pq_c c1 c2]
        refine ⟨fun x hx => ?_, by simp only [List.length_cons]; omega⟩
        rcases List.mem_cons.mp hx with rfl | hx
        · exact ⟨aK_b _ _ _, aV_b hT c2⟩
        · exact ih.1 x hx
      · rw [pq_f c1 c2]; simpa using hq
theorem mActs_ok {tp : Nat → Int} {tl : Nat} (htl : tl ≤ 80) (hT : ∀ i, i < tl → 32 ≤ tp i ∧ tp i ≤ 126) : (∀ x ∈ (mActs tp tl).1, actOk x) ∧ 2 * (mActs tp tl).1.length ≤ tl := by
  by_cases c2 : aOk tp tl 0
  · have hQ := aQ_b htl hT (i := 0) (by omega) c2
    have ih := pq_ok htl hT 81 (aQ tp tl 0) (by omega)
    rw [mActs_c c2]
    refine ⟨fun x hx => ?_, by simp only [List.length_cons]; omega⟩
    rcases List.mem_cons.mp hx with rfl | hx
    · exact ⟨aK_b _ _ _, aV_b hT c2⟩
    · exact ih.1 x hx
  · rw [mActs_f c2]; simp
def actR (z : Nat → Int) (k v : Int) : Int := if k = 0 then rKey z v else if k = 1 then rCoin z v else rTks z v
def actS (z : Nat → Int) (k v : Int) : Nat → Int := if k = 0 then sKey z v else if k = 1 then sCoin z v else sTks z v
def evR : List (Int × Int) → (Nat → Int) → Int → Int × (Nat → Int)
  | [], z, n => (n, z)
  | x :: l, z, n => if actR z x.1 x.2 < 0 then (n, actS z x.1 x.2) else evR l (actS z x.1 x.2) (n + 1)
theorem evR_s {l : List (Int × Int)} {x : Int × Int} {z : Nat → Int} {n : Int} (h : actR z x.1 x.2 < 0) : evR (x :: l) z n = (n, actS z x.1 x.2) := if_pos h
theorem evR_n {l : List (Int × Int)} {x : Int × Int} {z : Nat → Int} {n : Int} (h : ¬ actR z x.1 x.2 < 0) : evR (x :: l) z n = evR l (actS z x.1 x.2) (n + 1) := if_neg h
def rEve (z tp : Nat → Int) (tl : Nat) : Int := match (mActs tp tl).2 with
  | some f => -20 - (f : Int)
  | none => (evR (mActs tp tl).1 z 0).1
def sEve (z tp : Nat → Int) (tl : Nat) : Nat → Int := match (mActs tp tl).2 with
  | some _ => z
  | none => (evR (mActs tp tl).1 z 0).2
theorem GA_act {c : Int} {z : Nat → Int} {k v : Int} (h : GA c z) (hc : c ≤ 40000) (hc0 : 0 ≤ c) : GA (c + 1) (actS z k v) := by
  unfold actS
  split
  · exact GA_key h hc hc0
  · split
    · exact GA_coin h hc
    · exact GA_up (GA_tks h) (by omega)
theorem GA_evR : ∀ (l : List (Int × Int)) {c : Int} {z : Nat → Int} (n : Int), GA c z → 0 ≤ c → c + l.length ≤ 40000 → GA (c + l.length) (evR l z n).2
  | [], c, z, n, h, h0, hc => by simpa [evR] using h
  | x :: l, c, z, n, h, h0, hc => by
    simp only [List.length_cons] at hc ⊢
    have h1 := GA_act (k := x.1) (v := x.2) h (by omega) h0
    by_cases c1 : actR z x.1 x.2 < 0
    · rw [evR_s c1]; exact GA_up h1 (by omega)
    · rw [evR_n c1]
      have := GA_evR l (n + 1) h1 (by omega) (by omega)
      exact GA_up this (by omega)
theorem GA_eve {c : Int} {z tp : Nat → Int} {tl : Nat} (htl : tl ≤ 80) (hT : ∀ i, i < tl → 32 ≤ tp i ∧ tp i ≤ 126) (h : GA c z) (h0 : 0 ≤ c) (hc : c ≤ 39000) : GA (c + 41) (sEve z tp tl) := by
  have hl := mActs_ok htl hT
  unfold sEve
  split
  · exact GA_up h (by omega)
  · exact GA_up (GA_evR _ 0 h h0 (by omega)) (by omega)
set_option maxRecDepth 100000 in
set_option maxHeartbeats 4000000 in
theorem l_evp {P : AW} {a : Nat} (hP : P.length = a) (z sp : Nat → Int) (n : Nat) (sa ba : Nat → Int) (dn ah be : Int) (tp : Nat → Int) (tl : Nat) (ik : Int) (im ln rs it : Nat → Int) (R : AW) (htl : tl ≤ 80) (hT : ∀ i, i < tl → 32 ≤ tp i ∧ tp i ≤ 126) {Z : Zt} : ∀ (F q n1 : Nat) (kd nb : Nat → Int), q ≤ tl → 2 * n1 ≤ q → tl - q < F →
    ((pq tp tl F q).2 = none → ∀ ta : Nat, EX I_X6_evening 0 0 none Z 34 [some (.ref (a + 0)), some (.int (iI 1)), none, none] [] (P ++ mw a z sp n sa ba dn ah be tp tl ta (n1 + (pq tp tl F q).1.length) (wr kd n1 ((pq tp tl F q).1.map Prod.fst)) (wr nb n1 ((pq tp tl F q).1.map Prod.snd)) ik im ln rs it R) 0 0) →
    (∀ f, (pq tp tl F q).2 = some f → ∀ (ac : Nat) (kd nb : Nat → Int), EX I_X6_evening 0 0 none Z 34 [some (.ref (a + 0)), some (.int (iI 0)), none, none] [] (P ++ mw a z sp n sa ba dn ah be tp tl (f) ac kd nb ik im ln rs it R) 0 0) →
    EX I_X6_evening 0 0 none Z 15 [some (.ref (a + 0)), some (.int (iI 1)), none, none] [] (P ++ mw a z sp n sa ba dn ah be tp tl (q) (n1) kd nb ik im ln rs it R) 0 0 := by
  intro F
  induction F with
  | zero => intro q n1 kd nb h1 h2 h3; exact absurd h3 (by omega)
  | succ F ih =>
    intro q n1 kd nb hq hn hF hg hb
    have hs := skp_b tp tl 80 q
    have hbb := byt_b hT (skp tp tl 80 q)
    refine x_iload_n dX6_evening_15 rfl ?_
    refine x_if_eq 34 dX6_evening_16 (fun h16 => absurd h16 (by decide)) (fun h16 => ?_)
    refine x_aload_n dX6_evening_19 rfl ?_
    refine x_calliV dX6_evening_20 mk_X6_nextByte ml_X6_173 (c_nextByte hP z sp n sa ba dn ah be tp tl q n1 kd nb ik im ln rs it R htl hT (by omega)) ((wg_app hP 0).trans rfl) rfl (fun x20 w20 h20 => ?_)
    obtain ⟨rfl, rfl⟩ := h20
    refine x_if_lt 34 dX6_evening_23 (fun h23 => ?_) (fun h23 => ?_) (ha := by omega)
    · have e1 := pq_e (F := F) h23
      rw [e1] at hg
      exact hg rfl _
    · have h23' := h23
      refine x_aload_n dX6_evening_26 rfl ?_
      refine x_calliV dX6_evening_27 mk_X6_readAct ml_X6_190 (c_readAct hP z sp n sa ba dn ah be tp tl (skp tp tl 80 q) n1 kd nb ik im ln rs it R htl hT (by omega) (by omega)) ((wg_app hP 0).trans rfl) rfl (fun x27 w27 h27 => ?_)
      rcases h27 with ⟨rfl, hok, rfl⟩ | ⟨rfl, hok, kd', nb', rfl⟩
      · have hQ := aQ_b htl hT (i := (skp tp tl 80 q)) (by omega) hok
        refine x_ist1 dX6_evening_30 ?_
        refine x_goto 15 dX6_evening_31 ?_
        have e1 := pq_c (F := F) h23' hok
        rw [e1] at hg hb
        simp only [List.length_cons, List.map_cons, wr] at hg
        exact ih (aQ tp tl (skp tp tl 80 q)) (n1 + 1) _ _ (by omega) (by omega) (by omega) (fun h ta' => by have := hg h ta'; rw [show n1 + ((pq tp tl F (aQ tp tl (skp tp tl 80 q))).1.length + 1) = n1 + 1 + (pq tp tl F (aQ tp tl (skp tp tl 80 q))).1.length by omega] at this; exact this) (fun f h => hb f h)
      · refine x_ist1 dX6_evening_30 ?_
        refine x_goto 15 dX6_evening_31 ?_
        have e1 := pq_f (F := F) h23' hok
        rw [e1] at hg hb
        refine x_iload_n dX6_evening_15 rfl ?_
        refine x_if_eq 34 dX6_evening_16 (fun h16 => ?_) (fun h16 => absurd rfl h16)
        exact hb _ rfl _ _ _
set_option maxRecDepth 100000 in
set_option maxHeartbeats 4000000 in
theorem l_eva {P : AW} {a : Nat} (hP : P.length = a) (sp : Nat → Int) (n : Nat) (sa ba : Nat → Int) (dn ah be : Int) (tp : Nat → Int) (tl : Nat) (ik : Int) (im ln rs it : Nat → Int) (R : AW) (htl : tl ≤ 80) (hT : ∀ i, i < tl → 32 ≤ tp i ∧ tp i ≤ 126) (ta : Nat) (kd nb : Nat → Int) (c : Int) (hc0 : 0 ≤ c) (hc : c ≤ 39000) {Q : Int → AW → Prop} : ∀ (r k : Nat) (z : Nat → Int) (l3 : Option Value), k + r = (mActs tp tl).1.length → GA (c + (k : Int)) z →
    Q (evR ((mActs tp tl).1.drop k) z (k : Int)).1 (P ++ mw a ((evR ((mActs tp tl).1.drop k) z (k : Int)).2) sp n sa ba dn ah be tp (0) ta ((mActs tp tl).1.length) (wr kd 0 ((mActs tp tl).1.map Prod.fst)) (wr nb 0 ((mActs tp tl).1.map Prod.snd)) ik im ln rs it R) →
    EX I_X6_evening 0 0 none (ZM 0 0 (fun r w' => ∃ x : Int, r = some (.int (iI x)) ∧ Q x w')) 53 [some (.ref (a + 0)), some (.int (iI 1)), some (.int (iI ((k : Nat) : Int))), l3] [] (P ++ mw a (z) sp n sa ba dn ah be tp (0) ta ((mActs tp tl).1.length) (wr kd 0 ((mActs tp tl).1.map Prod.fst)) (wr nb 0 ((mActs tp tl).1.map Prod.snd)) ik im ln rs it R) 0 0 := by
  have hao := mActs_ok htl hT
  intro r
  induction r with
  | zero =>
    intro k z l3 hk hGA hq
    have hs' : k = (mActs tp tl).1.length := by omega
    subst hs'
    refine x_iload_n dX6_evening_53 rfl ?_
    refine x_aload_n dX6_evening_54 rfl ?_
    refine x_getfield 0 dX6_evening_55 fg_X6_184 hP rfl rfl ?_
    refine x_icmp_ge 129 dX6_evening_58 (fun h58 => ?_) (fun h58 => by exfalso; omega)
    have e1 : (mActs tp tl).1.drop (mActs tp tl).1.length = [] := List.drop_length
    rw [e1] at hq
    refine x_aload_n dX6_evening_129 rfl ?_
    refine x_getfield 0 dX6_evening_130 fg_X6_184 hP rfl rfl ?_
    exact x_iret dX6_evening_133 hq
  | succ r ih =>
    intro k z l3 hk hGA hq
    have hx0 : actOk ((mActs tp tl).1.getD k (0, 0)) := hao.1 _ (by simp [List.getD, show k < (mActs tp tl).1.length by omega])
    obtain ⟨x1, x2⟩ := id hx0
    obtain ⟨hA, h0, hm⟩ := id hGA
    obtain ⟨m7, m8, m9, m10, m11, m12, m13, m14⟩ := id hm
    refine x_iload_n dX6_evening_53 rfl ?_
    refine x_aload_n dX6_evening_54 rfl ?_
    refine x_getfield 0 dX6_evening_55 fg_X6_184 hP rfl rfl ?_
    refine x_icmp_ge 129 dX6_evening_58 (fun h58 => by exfalso; omega) (fun h58 => ?_)
    refine x_aload_n dX6_evening_61 rfl ?_
    refine x_getfield 0 dX6_evening_62 fg_X6_25 hP rfl rfl ?_
    refine x_iload_n dX6_evening_65 rfl ?_
    refine x_iaload 6 (k) dX6_evening_66 hP rfl ?_
    refine x_top (wr_fst (mActs tp tl).1 kd k (by omega)) ?_
    refine x_if_ne 83 dX6_evening_67 (fun h67 => ?_) (fun h67 => ?_) (ha := by omega)
    · refine x_aload_n dX6_evening_83 rfl ?_
      refine x_getfield 0 dX6_evening_84 fg_X6_25 hP rfl rfl ?_
      refine x_iload_n dX6_evening_87 rfl ?_
      refine x_iaload 6 (k) dX6_evening_88 hP rfl ?_
      refine x_top (wr_fst (mActs tp tl).1 kd k (by omega)) ?_
      refine x_iconst dX6_evening_89 ?_
      refine x_icmp_ne 106 dX6_evening_90 (fun h90 => ?_) (fun h90 => ?_) (ha := by omega)
      · refine x_aload_n dX6_evening_106 rfl ?_
        refine x_aload_n dX6_evening_107 rfl ?_
        refine x_getfield 0 dX6_evening_108 fg_X6_28 hP rfl rfl ?_
        refine x_iload_n dX6_evening_111 rfl ?_
        refine x_iaload 7 (k) dX6_evening_112 hP rfl ?_
        refine x_top (wr_snd (mActs tp tl).1 nb k (by omega)) ?_
        refine x_calliV dX6_evening_113 mk_X6_ticks ml_X6_199 (c_ticks hP _ z _ hA h0 ((mActs tp tl).1.getD k (0, 0)).2 (by omega)) ((wg_app hP 0).trans rfl) rfl (fun x113 w113 h113 => ?_)
        obtain ⟨rfl, rfl⟩ := h113
        have hRr : inR (rTks z ((mActs tp tl).1.getD k (0, 0)).2) := by unfold rTks; (repeat' split) <;> first | exact (ZA_ticks hA _ (by omega)).1.1 0 | omega
        refine x_ist3 dX6_evening_116 ?_
        refine x_iload_n dX6_evening_117 rfl ?_
        refine x_if_ge 123 dX6_evening_118 (fun h118 => ?_) (fun h118 => ?_) (ha := hRr)
        · refine x_inc2 dX6_evening_123 ?_
          refine x_goto 53 dX6_evening_126 ?_
          have e2 : actR z ((mActs tp tl).1.getD k (0, 0)).1 ((mActs tp tl).1.getD k (0, 0)).2 = rTks z ((mActs tp tl).1.getD k (0, 0)).2 := (if_neg h67).trans (if_neg h90)
          have e3 : actS z ((mActs tp tl).1.getD k (0, 0)).1 ((mActs tp tl).1.getD k (0, 0)).2 = sTks z ((mActs tp tl).1.getD k (0, 0)).2 := (if_neg h67).trans (if_neg h90)
          have hGk := GA_act (k := ((mActs tp tl).1.getD k (0, 0)).1) (v := ((mActs tp tl).1.getD k (0, 0)).2) hGA (by omega) (by omega)
          rw [e3] at hGk
          rw [drop_getD (mActs tp tl).1 k (by omega), evR_n (by rw [e2]; omega), e3] at hq
          exact ih (k + 1) _ _ (by omega) (by rw [show c + ((k + 1 : Nat) : Int) = c + (k : Int) + 1 by omega]; exact hGk) hq
        · refine x_iload_n dX6_evening_121 rfl ?_
          exact x_iret dX6_evening_122 (by rw [drop_getD (mActs tp tl).1 k (by omega), evR_s (by rw [show actR z ((mActs tp tl).1.getD k (0, 0)).1 ((mActs tp tl).1.getD k (0, 0)).2 = rTks z ((mActs tp tl).1.getD k (0, 0)).2 from (if_neg h67).trans (if_neg h90)]; omega), show actS z ((mActs tp tl).1.getD k (0, 0)).1 ((mActs tp tl).1.getD k (0, 0)).2 = sTks z ((mActs tp tl).1.getD k (0, 0)).2 from (if_neg h67).trans (if_neg h90)] at hq; exact hq)
      · refine x_aload_n dX6_evening_93 rfl ?_
        refine x_aload_n dX6_evening_94 rfl ?_
        refine x_getfield 0 dX6_evening_95 fg_X6_28 hP rfl rfl ?_
        refine x_iload_n dX6_evening_98 rfl ?_
        refine x_iaload 7 (k) dX6_evening_99 hP rfl ?_
        refine x_top (wr_snd (mActs tp tl).1 nb k (by omega)) ?_
        refine x_calliV dX6_evening_100 mk_X6_coin ml_X6_196 (c_coin hP _ z _ hA.1 ((mActs tp tl).1.getD k (0, 0)).2 (by omega) (by omega) m11 m12 m13 (by omega) (by omega) (fun hv => by have := mDue_b m9.1 m11 m12 m13 hv; omega)) ((wg_app hP 0).trans rfl) rfl (fun x100 w100 h100 => ?_)
        obtain ⟨rfl, rfl⟩ := h100
        have hRr : inR (rCoin z ((mActs tp tl).1.getD k (0, 0)).2) := by unfold rCoin; split <;> first | (rename_i hv; have := mDue_b m9.1 m11 m12 m13 hv; omega) | omega
        refine x_goto 116 dX6_evening_103 ?_
        refine x_ist3 dX6_evening_116 ?_
        refine x_iload_n dX6_evening_117 rfl ?_
        refine x_if_ge 123 dX6_evening_118 (fun h118 => ?_) (fun h118 => ?_) (ha := hRr)
        · refine x_inc2 dX6_evening_123 ?_
          refine x_goto 53 dX6_evening_126 ?_
          have e2 : actR z ((mActs tp tl).1.getD k (0, 0)).1 ((mActs tp tl).1.getD k (0, 0)).2 = rCoin z ((mActs tp tl).1.getD k (0, 0)).2 := (if_neg h67).trans (if_pos h90)
          have e3 : actS z ((mActs tp tl).1.getD k (0, 0)).1 ((mActs tp tl).1.getD k (0, 0)).2 = sCoin z ((mActs tp tl).1.getD k (0, 0)).2 := (if_neg h67).trans (if_pos h90)
          have hGk := GA_act (k := ((mActs tp tl).1.getD k (0, 0)).1) (v := ((mActs tp tl).1.getD k (0, 0)).2) hGA (by omega) (by omega)
          rw [e3] at hGk
          rw [drop_getD (mActs tp tl).1 k (by omega), evR_n (by rw [e2]; omega), e3] at hq
          exact ih (k + 1) _ _ (by omega) (by rw [show c + ((k + 1 : Nat) : Int) = c + (k : Int) + 1 by omega]; exact hGk) hq
        · refine x_iload_n dX6_evening_121 rfl ?_
          exact x_iret dX6_evening_122 (by rw [drop_getD (mActs tp tl).1 k (by omega), evR_s (by rw [show actR z ((mActs tp tl).1.getD k (0, 0)).1 ((mActs tp tl).1.getD k (0, 0)).2 = rCoin z ((mActs tp tl).1.getD k (0, 0)).2 from (if_neg h67).trans (if_pos h90)]; omega), show actS z ((mActs tp tl).1.getD k (0, 0)).1 ((mActs tp tl).1.getD k (0, 0)).2 = sCoin z ((mActs tp tl).1.getD k (0, 0)).2 from (if_neg h67).trans (if_pos h90)] at hq; exact hq)
    · refine x_aload_n dX6_evening_70 rfl ?_
      refine x_aload_n dX6_evening_71 rfl ?_
      refine x_getfield 0 dX6_evening_72 fg_X6_28 hP rfl rfl ?_
      refine x_iload_n dX6_evening_75 rfl ?_
      refine x_iaload 7 (k) dX6_evening_76 hP rfl ?_
      refine x_top (wr_snd (mActs tp tl).1 nb k (by omega)) ?_
      refine x_calliV dX6_evening_77 mk_X6_key ml_X6_193 (c_key hP _ z _ hA.1 ((mActs tp tl).1.getD k (0, 0)).2 (by omega) m7.1 (by omega)) ((wg_app hP 0).trans rfl) rfl (fun x77 w77 h77 => ?_)
      obtain ⟨rfl, rfl⟩ := h77
      have hRr : inR (rKey z ((mActs tp tl).1.getD k (0, 0)).2) := by unfold rKey; (repeat' split) <;> omega
      refine x_goto 116 dX6_evening_80 ?_
      refine x_ist3 dX6_evening_116 ?_
      refine x_iload_n dX6_evening_117 rfl ?_
      refine x_if_ge 123 dX6_evening_118 (fun h118 => ?_) (fun h118 => ?_) (ha := hRr)
      · refine x_inc2 dX6_evening_123 ?_
        refine x_goto 53 dX6_evening_126 ?_
        have e2 : actR z ((mActs tp tl).1.getD k (0, 0)).1 ((mActs tp tl).1.getD k (0, 0)).2 = rKey z ((mActs tp tl).1.getD k (0, 0)).2 := if_pos h67
        have e3 : actS z ((mActs tp tl).1.getD k (0, 0)).1 ((mActs tp tl).1.getD k (0, 0)).2 = sKey z ((mActs tp tl).1.getD k (0, 0)).2 := if_pos h67
        have hGk := GA_act (k := ((mActs tp tl).1.getD k (0, 0)).1) (v := ((mActs tp tl).1.getD k (0, 0)).2) hGA (by omega) (by omega)
        rw [e3] at hGk
        rw [drop_getD (mActs tp tl).1 k (by omega), evR_n (by rw [e2]; omega), e3] at hq
        exact ih (k + 1) _ _ (by omega) (by rw [show c + ((k + 1 : Nat) : Int) = c + (k : Int) + 1 by omega]; exact hGk) hq
      · refine x_iload_n dX6_evening_121 rfl ?_
        exact x_iret dX6_evening_122 (by rw [drop_getD (mActs tp tl).1 k (by omega), evR_s (by rw [show actR z ((mActs tp tl).1.getD k (0, 0)).1 ((mActs tp tl).1.getD k (0, 0)).2 = rKey z ((mActs tp tl).1.getD k (0, 0)).2 from if_pos h67]; omega), show actS z ((mActs tp tl).1.getD k (0, 0)).1 ((mActs tp tl).1.getD k (0, 0)).2 = sKey z ((mActs tp tl).1.getD k (0, 0)).2 from if_pos h67] at hq; exact hq)
set_option maxRecDepth 100000 in
set_option maxHeartbeats 4000000 in
theorem c_evening {P : AW} {a : Nat} (hP : P.length = a) (z sp : Nat → Int) (n : Nat) (sa ba : Nat → Int) (dn ah be : Int) (tp : Nat → Int) (tl ta ac : Nat) (kd nb : Nat → Int) (ik : Int) (im ln rs it : Nat → Int) (R : AW) (htl : tl ≤ 80) (hT : ∀ i, i < tl → 32 ≤ tp i ∧ tp i ≤ 126) (c : Int) (hc0 : 0 ≤ c) (hc : c ≤ 39000) (hGA : GA c z) : CTi I_X6_evening 0 0 [.ref (a + 0)] (P ++ mw a z sp n sa ba dn ah be tp tl ta ac kd nb ik im ln rs it R) (fun x w' => x = rEve z tp tl ∧ ∃ (ta ac : Nat) (kd nb : Nat → Int), w' = P ++ mw a (sEve z tp tl) sp n sa ba dn ah be tp (0) ta ac kd nb ik im ln rs it R) := by
  refine CT_of 3 rfl (Nat.le_of_ble_eq_true rfl) ?_
  show EX I_X6_evening 0 0 none _ 0 [some (.ref (a + 0)), none, none, none] [] _ 0 0
  refine x_aload_n dX6_evening_0 rfl ?_
  refine x_iconst dX6_evening_1 ?_
  refine x_putfield 0 dX6_evening_2 fl_X6_170 hP rfl (fun _ _ => ⟨rfl, rfl⟩) ?_
  refine x_aload_n dX6_evening_5 rfl ?_
  refine x_iconst dX6_evening_6 ?_
  refine x_putfield 0 dX6_evening_7 fl_X6_184 hP rfl (fun _ _ => ⟨rfl, rfl⟩) ?_
  refine x_eqw (w' := P ++ mw a z sp n sa ba dn ah be tp tl (0) (0) kd nb ik im ln rs it R) rfl ?_
  refine x_aload_n dX6_evening_10 rfl ?_
  refine x_calliV dX6_evening_11 mk_X6_readAct ml_X6_190 (c_readAct hP z sp n sa ba dn ah be tp tl 0 0 kd nb ik im ln rs it R htl hT (by omega) (by omega)) ((wg_app hP 0).trans rfl) rfl (fun x11 w11 h11 => ?_)
  rcases h11 with ⟨rfl, hok, rfl⟩ | ⟨rfl, hok, kd', nb', rfl⟩
  · refine x_ist1 dX6_evening_14 ?_
    have hQ := aQ_b htl hT (i := 0) (by omega) hok
    have ea := mActs_c hok
    refine l_evp hP z sp n sa ba dn ah be tp tl ik im ln rs it R htl hT 81 (aQ tp tl 0) 1 _ _ (by omega) (by omega) (by omega) (fun hn ta' => ?_) (fun f hf ac' kd' nb' => ?_)
    · have hno : (mActs tp tl).2 = none := by rw [ea]; exact hn
      refine x_eqw (w' := P ++ mw a z sp n sa ba dn ah be tp tl (ta') ((mActs tp tl).1.length) (wr kd 0 ((mActs tp tl).1.map Prod.fst)) (wr nb 0 ((mActs tp tl).1.map Prod.snd)) ik im ln rs it R) (by rw [ea]; simp only [List.length_cons, List.map_cons, wr]; rw [Nat.add_comm 1]) ?_
      refine x_aload_n dX6_evening_34 rfl ?_
      refine x_iconst dX6_evening_35 ?_
      refine x_putfield 0 dX6_evening_36 fl_X6_167 hP rfl (fun _ _ => ⟨rfl, rfl⟩) ?_
      refine x_iload_n dX6_evening_39 rfl ?_
      refine x_if_ne 51 dX6_evening_40 (fun h40 => ?_) (fun h40 => absurd h40 (by decide))
      refine x_iconst dX6_evening_51 ?_
      refine x_ist2 dX6_evening_52 ?_
      refine x_eqw (w' := P ++ mw a (z) sp n sa ba dn ah be tp (0) ta' ((mActs tp tl).1.length) (wr kd 0 ((mActs tp tl).1.map Prod.fst)) (wr nb 0 ((mActs tp tl).1.map Prod.snd)) ik im ln rs it R) rfl ?_
      exact l_eva hP sp n sa ba dn ah be tp tl ik im ln rs it R htl hT ta' kd nb c hc0 hc (mActs tp tl).1.length 0 z none (by omega) (by simpa using hGA) ⟨by unfold rEve; rw [hno]; rfl, _, _, _, _, by unfold sEve; rw [hno]; rfl⟩
    · have hno : (mActs tp tl).2 = some f := by rw [ea]; exact hf
      refine x_aload_n dX6_evening_34 rfl ?_
      refine x_iconst dX6_evening_35 ?_
      refine x_putfield 0 dX6_evening_36 fl_X6_167 hP rfl (fun _ _ => ⟨rfl, rfl⟩) ?_
      refine x_iload_n dX6_evening_39 rfl ?_
      refine x_if_ne 51 dX6_evening_40 (fun h40 => absurd h40 (by decide)) (fun h40 => ?_)
      refine x_bipush dX6_evening_43 ?_
      refine x_aload_n dX6_evening_45 rfl ?_
      refine x_getfield 0 dX6_evening_46 fg_X6_170 hP rfl rfl ?_
      refine x_isub dX6_evening_49 ?_
      exact x_iret dX6_evening_50 (⟨by unfold rEve; rw [hno], _, _, _, _, by unfold sEve; rw [hno]; rfl⟩)
  · refine x_ist1 dX6_evening_14 ?_
    have ea := mActs_f hok
    have hno : (mActs tp tl).2 = some (aF tp tl 0) := by rw [ea]
    refine x_iload_n dX6_evening_15 rfl ?_
    refine x_if_eq 34 dX6_evening_16 (fun h16 => ?_) (fun h16 => absurd h16 (by decide))
    refine x_aload_n dX6_evening_34 rfl ?_
    refine x_iconst dX6_evening_35 ?_
    refine x_putfield 0 dX6_evening_36 fl_X6_167 hP rfl (fun _ _ => ⟨rfl, rfl⟩) ?_
    refine x_iload_n dX6_evening_39 rfl ?_
    refine x_if_ne 51 dX6_evening_40 (fun h40 => absurd h40 (by decide)) (fun h40 => ?_)
    refine x_bipush dX6_evening_43 ?_
    refine x_aload_n dX6_evening_45 rfl ?_
    refine x_getfield 0 dX6_evening_46 fg_X6_170 hP rfl rfl ?_
    refine x_isub dX6_evening_49 ?_
    exact x_iret dX6_evening_50 (⟨by unfold rEve; rw [hno], _, _, _, _, by unfold sEve; rw [hno]; rfl⟩)
