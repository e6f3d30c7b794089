/-! ===== the class: by when all is done, and the best pair ===== -/
theorem swp_00 (z : Nat → Int) : swp z 0 0 = z := by
  unfold swp
  rw [updI_uu, updI_id]
theorem stk_x {z z' : Nat → Int} (h : ∀ s, s < 20 → z' (50 + s) = z (50 + s)) : ∀ n, n ≤ 20 → mStk z' n = mStk z n
  | 0, _ => rfl
  | n + 1, hn => by
    unfold mStk
    rw [stk_x h n (by omega), h n (by omega)]
theorem stk_swp (z : Nat → Int) {p q : Nat} (hp : p < 10) (hq : q < 10) : mStk (swp z p q) 20 = mStk z 20 := stk_x (fun s hs => swp_n (by omega) (by omega)) 20 (by decide)
theorem db_n {F : Nat} {z : Nat → Int} {t : Nat} (h : ¬ (z 3 = 0 ∧ mPins z 20 = 0)) : db (F + 1) z t = db F (stp z) (t + gP z 120) := if_neg h
theorem db_x {F : Nat} {z : Nat → Int} {t : Nat} (h : z 3 = 0 ∧ mPins z 20 = 0) : db (F + 1) z t = t := if_pos h
def snS (s : Int × Int × Int) : Int := if 0 ≤ s.2.1 then s.1 else -4
/-- the pair kept is the best -/
def CP (z : Nat → Int) (le ot sn : Int) : Prop := le = (mBt z).2.1 ∧ ot = (mBt z).2.2 ∧ sn = snS (mBt z)
set_option maxRecDepth 100000 in
set_option maxHeartbeats 4000000 in
theorem lk_done {P : AW} {a : Nat} (hP : P.length = a) (c0 c6 c12 : AC) (z y so st : Nat → Int) (td sk le ot sn pk : Int) (R : AW) (hz : 0 ≤ z 0 ∧ z 0 ≤ 1000000) (p q : Nat) {Q : Int → AW → Prop} : ∀ (F : Nat) (t : Nat → Int) (tm i : Nat), i + F = 1000 → ZA t → t 0 = z 0 + (tm : Int) → tm + 120 * F ≤ 200000 →
    (∀ t', Q ((db F t tm : Nat) : Int) (P ++ ow a c0 c6 c12 z y (t') so st td sk le ot sn pk R)) → EX I_X0_doneBy 0 0 none (ZM 0 0 (fun r w' => ∃ x : Int, r = some (.int (iI x)) ∧ Q x w')) 20 [some (.ref (a + 13)), some (.ref (a + 1)), some (.int (iI (p : Int))), some (.int (iI (q : Int))), some (.int (iI ((i : Nat) : Int)))] [] (P ++ ow a c0 c6 c12 z y t so st td sk le ot sn pk R) 0 0 := by
  intro F
  induction F with
  | zero =>
    intro t tm i hi hA h0 ht hq
    refine x_iload dX0_doneBy_20 rfl ?_
    refine x_sipush dX0_doneBy_22 ?_
    refine x_icmp_ge 54 dX0_doneBy_25 (fun h25 => ?_) (fun h25 => by exfalso; omega)
    refine x_aload_n dX0_doneBy_54 rfl ?_
    refine x_getfield 13 dX0_doneBy_55 fg_X0_12 hP rfl rfl ?_
    refine x_getfield 14 dX0_doneBy_58 fg_X0_64 hP rfl rfl ?_
    refine x_aload_n dX0_doneBy_61 rfl ?_
    refine x_getfield 1 dX0_doneBy_62 fg_X0_64 hP rfl rfl ?_
    refine x_isub dX0_doneBy_65 ?_
    exact x_iret dX0_doneBy_66 (by rw [show t 0 - z 0 = (tm : Int) by omega]; exact hq t)
  | succ F ih =>
    intro t tm i hi hA h0 ht hq
    have hg := gP_b hA.2.2.1
    have hZ : ZA (stp t) ∧ stp t 0 = t 0 + gP t 120 := ZA_ticks hA (gP t 120) (by omega)
    refine x_iload dX0_doneBy_20 rfl ?_
    refine x_sipush dX0_doneBy_22 ?_
    refine x_icmp_ge 54 dX0_doneBy_25 (fun h25 => by exfalso; omega) (fun h25 => ?_)
    refine x_aload_n dX0_doneBy_28 rfl ?_
    refine x_getfield 13 dX0_doneBy_29 fg_X0_12 hP rfl rfl ?_
    refine x_calliV dX0_doneBy_32 mk_X4_isDone ml_X0_49 (q_isDone hP c0 c6 c12 z y t so st td sk le ot sn pk R hA.1 hA.2.1.2.2.2.2.2.2.1) ((wg_app hP 14).trans rfl) rfl (fun x32 w32 h32 => ?_)
    obtain ⟨hb32, rfl⟩ := h32
    by_cases c32 : t 3 = 0 ∧ mPins t 20 = 0
    · rw [if_pos c32] at hb32
      subst hb32
      refine x_if_ne 54 dX0_doneBy_35 (fun h35 => ?_) (fun h35 => absurd h35 (by decide))
      refine x_aload_n dX0_doneBy_54 rfl ?_
      refine x_getfield 13 dX0_doneBy_55 fg_X0_12 hP rfl rfl ?_
      refine x_getfield 14 dX0_doneBy_58 fg_X0_64 hP rfl rfl ?_
      refine x_aload_n dX0_doneBy_61 rfl ?_
      refine x_getfield 1 dX0_doneBy_62 fg_X0_64 hP rfl rfl ?_
      refine x_isub dX0_doneBy_65 ?_
      exact x_iret dX0_doneBy_66 (by rw [show t 0 - z 0 = (tm : Int) by omega]; have h := hq t; rw [db_x c32] at h; exact h)
    · rw [if_neg c32] at hb32
      subst hb32
      refine x_if_ne 54 dX0_doneBy_35 (fun h35 => absurd h35 (by decide)) (fun h35 => ?_)
      refine x_aload_n dX0_doneBy_38 rfl ?_
      refine x_getfield 13 dX0_doneBy_39 fg_X0_12 hP rfl rfl ?_
      refine x_bipush dX0_doneBy_42 ?_
      refine x_calliV dX0_doneBy_44 mk_X4_pass ml_X0_56 (q_pass hP c0 c6 c12 z y t so st td sk le ot sn pk R hA (by omega)) ((wg_app hP 14).trans rfl) rfl (fun x44 w44 h44 => ?_)
      obtain ⟨rfl, rfl⟩ := h44
      refine x_pop dX0_doneBy_47 ?_
      refine x_inc4 dX0_doneBy_48 ?_
      refine x_goto 20 dX0_doneBy_51 ?_
      rw [db_n c32] at hq
      exact ih (stp t) (tm + gP t 120) (i + 1) (by omega) hZ.1 (by omega) (by omega) hq
set_option maxRecDepth 100000 in
set_option maxHeartbeats 4000000 in
theorem k_doneBy {P : AW} {a : Nat} (hP : P.length = a) (c0 c6 c12 : AC) (z y t so st : Nat → Int) (td sk le ot sn pk : Int) (R : AW) (h2 : z 2 = 0 ∨ z 2 = 1) (hz : 0 ≤ z 0 ∧ z 0 ≤ 1000000) (p q : Nat) (hp : p < 10) (hq : q < 10) (hA : ZA (swp z p q)) (hS : mStk (swp z p q) 20 = 0) : CTi I_X0_doneBy 0 0 [.ref (a + 13), .ref (a + 1), .int (iI (p : Int)), .int (iI (q : Int))] (P ++ ow a c0 c6 c12 z y t so st td sk le ot sn pk R) (fun x w' => x = mDn (swp z p q) ∧ ∃ t, w' = P ++ ow a c0 c6 c12 z y t so st td sk le ot sn pk R) := by
  refine CT_of 1 rfl (Nat.le_of_ble_eq_true rfl) ?_
  show EX I_X0_doneBy 0 0 none _ 0 [some (.ref (a + 13)), some (.ref (a + 1)), some (.int (iI (p : Int))), some (.int (iI (q : Int))), none] [] _ 0 0
  refine x_aload_n dX0_doneBy_0 rfl ?_
  refine x_getfield 13 dX0_doneBy_1 fg_X0_12 hP rfl rfl ?_
  refine x_aload_n dX0_doneBy_4 rfl ?_
  refine x_callvV dX0_doneBy_5 mk_X4_copyFrom ml_X0_45 (k_copyT hP c0 c6 c12 z y t so st td sk le ot sn pk R h2) ((wg_app hP 14).trans rfl) rfl (fun w5 h5 => ?_)
  subst h5
  refine x_aload_n dX0_doneBy_8 rfl ?_
  refine x_getfield 13 dX0_doneBy_9 fg_X0_12 hP rfl rfl ?_
  refine x_iload_n dX0_doneBy_12 rfl ?_
  refine x_iload_n dX0_doneBy_13 rfl ?_
  refine x_callvV dX0_doneBy_14 mk_X4_swap ml_X0_67 (q_swap hP c0 c6 c12 z y (z) so st td sk le ot sn pk R p q hp hq) ((wg_app hP 14).trans rfl) rfl (fun w14 h14 => ?_)
  subst h14
  refine x_iconst dX0_doneBy_17 ?_
  refine x_ist4 dX0_doneBy_18 ?_
  exact lk_done hP c0 c6 c12 z y so st td sk le ot sn pk R hz p q 1000 (swp z p q) 0 0 (by omega) hA (by rw [swp_n (by omega) (by omega)]; omega) (by omega) (fun t' => ⟨db_mDn hA (by rw [swp_n (by omega) (by omega)]; exact hz.2) hS, t', rfl⟩)
theorem btS_skip {z : Nat → Int} (hA : ZA z) (h0 : z 0 ≤ 1000000) {p q : Nat} (hp : p < 10) (hq : q < 10) {s : Int × Int × Int} (hle : s.1 ≤ mDn z) (h : ¬ (¬ (z 1 = (p : Int) ∧ 3 ≤ z 3) ∧ ¬ (z 1 = (q : Int) ∧ 3 ≤ z 3) ∧ ((z (30 + 2 * p) = 1 ∨ z (30 + (2 * p + 1)) = 1) ∨ (z (30 + 2 * q) = 1 ∨ z (30 + (2 * q + 1)) = 1)))) : btS z p q s = s := by
  unfold btS
  by_cases c1 : z 1 = (p : Int) ∧ 3 ≤ z 3
  · rw [if_pos c1]
  · rw [if_neg c1]
    by_cases c2 : z 1 = (q : Int) ∧ 3 ≤ z 3
    · rw [if_pos c2]
    · rw [if_neg c2]
      have h3 := mDn_swp hA h0 hp hq c1 c2 (fun k => h ⟨c1, c2, Or.inl k⟩) (fun k => h ⟨c1, c2, Or.inr k⟩)
      rw [h3, if_pos hle]
set_option maxRecDepth 100000 in
set_option maxHeartbeats 4000000 in
theorem lk_spI {P : AW} {a : Nat} (hP : P.length = a) (c0 c6 c12 : AC) (z y so st : Nat → Int) (td sk : Int) (R : AW) (hA : ZA z) (h0 : z 0 ≤ 1000000) (hS : mStk z 20 = 0) (p : Nat) (hp : p < 10) {Z : Zt} : ∀ (r q : Nat) (s : Int × Int × Int) (t : Nat → Int) (l5 : Option Value), p < q ∧ q + r = 10 → btOk s → s.1 ≤ mDn z →
    (∀ (t : Nat → Int) (l5 : Option Value), EX I_X0_seekPair 0 0 none Z 115 [some (.ref (a + 13)), some (.ref (a + 1)), some (.int (iI ((btF z p r q s).1))), some (.int (iI ((p : Nat) : Int))), some (.int (iI ((10 : Nat) : Int))), l5] [] (P ++ ow a c0 c6 c12 z y t so st td sk ((btF z p r q s).2.1) ((btF z p r q s).2.2) (snS (btF z p r q s)) (1) R) 0 0) →
    EX I_X0_seekPair 0 0 none Z 52 [some (.ref (a + 13)), some (.ref (a + 1)), some (.int (iI (s.1))), some (.int (iI ((p : Nat) : Int))), some (.int (iI ((q : Nat) : Int))), l5] [] (P ++ ow a c0 c6 c12 z y t so st td sk (s.2.1) (s.2.2) (snS s) (1) R) 0 0 := by
  have hz5 := hA.2.2.2
  intro r
  induction r with
  | zero =>
    intro q s t l5 hq hok hle hx
    have hq' : q = 10 := by omega
    subst hq'
    refine x_iload dX0_seekPair_52 rfl ?_
    refine x_bipush dX0_seekPair_54 ?_
    refine x_icmp_ge 115 dX0_seekPair_56 (fun h56 => ?_) (fun h56 => by exfalso; omega)
    exact hx t l5
  | succ r ih =>
    intro q s t l5 hq hok hle hx
    have hdb := mDn_b (swp z p q)
    obtain ⟨hs1, hs2, hs3⟩ := id hok
    refine x_iload dX0_seekPair_52 rfl ?_
    refine x_bipush dX0_seekPair_54 ?_
    refine x_icmp_ge 115 dX0_seekPair_56 (fun h56 => by exfalso; omega) (fun h56 => ?_)
    refine x_aload_n dX0_seekPair_59 rfl ?_
    refine x_iload_n dX0_seekPair_60 rfl ?_
    refine x_iload dX0_seekPair_61 rfl ?_
    refine x_calliS dX0_seekPair_63 mk_X0_mayHelp ml_X0_75 (q_mayHelp hP c0 c6 c12 z y t so st td sk (s.2.1) (s.2.2) (snS s) (1) R hA.1 p q (by omega) (by omega)) rfl (fun x63 w63 h63 => ?_)
    obtain ⟨hb63, rfl⟩ := h63
    by_cases c63 : ¬ (z 1 = (p : Int) ∧ 3 ≤ z 3) ∧ ¬ (z 1 = (q : Int) ∧ 3 ≤ z 3) ∧ ((z (30 + 2 * p) = 1 ∨ z (30 + (2 * p + 1)) = 1) ∨ (z (30 + 2 * q) = 1 ∨ z (30 + (2 * q + 1)) = 1))
    · rw [if_pos c63] at hb63
      subst hb63
      refine x_if_eq 80 dX0_seekPair_66 (fun h66 => absurd h66 (by decide)) (fun h66 => ?_)
      refine x_aload_n dX0_seekPair_69 rfl ?_
      refine x_aload_n dX0_seekPair_70 rfl ?_
      refine x_iload_n dX0_seekPair_71 rfl ?_
      refine x_iload dX0_seekPair_72 rfl ?_
      refine x_calliV dX0_seekPair_74 mk_X0_doneBy ml_X0_71 (k_doneBy hP c0 c6 c12 z y t so st td sk (s.2.1) (s.2.2) (snS s) (1) R hA.2.1.2.1 ⟨by omega, h0⟩ p q (by omega) (by omega) (ZA_swp hA (by omega) (by omega) c63.1 c63.2.1) (by rw [stk_swp z (by omega) (by omega)]; exact hS)) ((wg_app hP 13).trans rfl) rfl (fun x74 w74 h74 => ?_)
      obtain ⟨rfl, t', rfl⟩ := h74
      refine x_goto 81 dX0_seekPair_77 ?_
      refine x_ist5 dX0_seekPair_81 ?_
      refine x_iload dX0_seekPair_83 rfl ?_
      refine x_iload_n dX0_seekPair_85 rfl ?_
      refine x_icmp_ge 109 dX0_seekPair_86 (fun h86 => ?_) (fun h86 => ?_)
      · refine x_inc4 dX0_seekPair_109 ?_
        refine x_goto 52 dX0_seekPair_112 ?_
        have e1 : btS z p q s = s := ((if_neg c63.1).trans (if_neg c63.2.1)).trans (if_pos (by omega))
        rw [show btF z p (r + 1) q s = btF z p r (q + 1) (btS z p q s) from rfl, e1] at hx
        exact ih (q + 1) s _ _ (by omega) hok hle hx
      · refine x_iload dX0_seekPair_89 rfl ?_
        refine x_ist2 dX0_seekPair_91 ?_
        refine x_aload_n dX0_seekPair_92 rfl ?_
        refine x_iload_n dX0_seekPair_93 rfl ?_
        refine x_putfield 13 dX0_seekPair_94 fl_X0_33 hP rfl (fun _ _ => ⟨rfl, rfl⟩) ?_
        refine x_aload_n dX0_seekPair_97 rfl ?_
        refine x_iload dX0_seekPair_98 rfl ?_
        refine x_putfield 13 dX0_seekPair_100 fl_X0_36 hP rfl (fun _ _ => ⟨rfl, rfl⟩) ?_
        refine x_aload_n dX0_seekPair_103 rfl ?_
        refine x_iload dX0_seekPair_104 rfl ?_
        refine x_putfield 13 dX0_seekPair_106 fl_X0_39 hP rfl (fun _ _ => ⟨rfl, rfl⟩) ?_
        refine x_inc4 dX0_seekPair_109 ?_
        refine x_goto 52 dX0_seekPair_112 ?_
        have e1 : btS z p q s = (mDn (swp z p q), (p : Int), (q : Int)) := ((if_neg c63.1).trans (if_neg c63.2.1)).trans (if_neg (by omega))
        rw [show btF z p (r + 1) q s = btF z p r (q + 1) (btS z p q s) from rfl, e1] at hx
        refine x_eqw (w' := P ++ ow a c0 c6 c12 z y (t') so st td sk ((mDn (swp z p q), (p : Int), (q : Int)).2.1) ((mDn (swp z p q), (p : Int), (q : Int)).2.2) (snS (mDn (swp z p q), (p : Int), (q : Int))) (1) R) (by rw [show snS (mDn (swp z p q), (p : Int), (q : Int)) = mDn (swp z p q) from if_pos (show (0 : Int) ≤ (p : Int) by omega)]; rfl) ?_
        exact ih (q + 1) (mDn (swp z p q), (p : Int), (q : Int)) _ _ (by omega) ⟨by omega, ⟨by show -4 ≤ (p : Int); omega, by show (p : Int) ≤ 9; omega⟩, ⟨by show -4 ≤ (q : Int); omega, by show (q : Int) ≤ 9; omega⟩⟩ (by show mDn (swp z p q) ≤ mDn z; omega) hx
    · rw [if_neg c63] at hb63
      subst hb63
      refine x_if_eq 80 dX0_seekPair_66 (fun h66 => ?_) (fun h66 => absurd h66 (by decide))
      refine x_iload_n dX0_seekPair_80 rfl ?_
      refine x_ist5 dX0_seekPair_81 ?_
      refine x_iload dX0_seekPair_83 rfl ?_
      refine x_iload_n dX0_seekPair_85 rfl ?_
      refine x_icmp_ge 109 dX0_seekPair_86 (fun h86 => ?_) (fun h86 => by exfalso; omega)
      refine x_inc4 dX0_seekPair_109 ?_
      refine x_goto 52 dX0_seekPair_112 ?_
      have e1 : btS z p q s = s := btS_skip hA h0 (by omega) (by omega) hle c63
      rw [show btF z p (r + 1) q s = btF z p r (q + 1) (btS z p q s) from rfl, e1] at hx
      exact ih (q + 1) s _ _ (by omega) hok hle hx
theorem btF_le {z : Nat → Int} {p : Nat} {m : Int} : ∀ (r q : Nat) (s : Int × Int × Int), s.1 ≤ m → (btF z p r q s).1 ≤ m
  | 0, _, _, h => h
  | r + 1, q, s, h => btF_le r (q + 1) _ (btS_le h)
theorem btG_le {z : Nat → Int} {m : Int} : ∀ (r p : Nat) (s : Int × Int × Int), s.1 ≤ m → (btG z r p s).1 ≤ m
  | 0, _, _, h => h
  | r + 1, p, s, h => btG_le r (p + 1) _ (btF_le _ _ _ h)
set_option maxRecDepth 100000 in
set_option maxHeartbeats 4000000 in
theorem lk_spO {P : AW} {a : Nat} (hP : P.length = a) (c0 c6 c12 : AC) (z y so st : Nat → Int) (td sk : Int) (R : AW) (hA : ZA z) (h0 : z 0 ≤ 1000000) (hS : mStk z 20 = 0) {Q : AW → Prop} : ∀ (r p : Nat) (s : Int × Int × Int) (t : Nat → Int) (l4 l5 : Option Value), p + r = 10 → btOk s → s.1 ≤ mDn z →
    (∀ t, Q (P ++ ow a c0 c6 c12 z y t so st td sk ((btG z r p s).2.1) ((btG z r p s).2.2) (snS (btG z r p s)) (1) R)) →
    EX I_X0_seekPair 0 0 none (ZM 0 0 (fun r w' => r = none ∧ Q w')) 41 [some (.ref (a + 13)), some (.ref (a + 1)), some (.int (iI (s.1))), some (.int (iI ((p : Nat) : Int))), l4, l5] [] (P ++ ow a c0 c6 c12 z y t so st td sk (s.2.1) (s.2.2) (snS s) (1) R) 0 0 := by
  intro r
  induction r with
  | zero =>
    intro p s t l4 l5 hp hok hle hq
    refine x_iload_n dX0_seekPair_41 rfl ?_
    refine x_bipush dX0_seekPair_42 ?_
    refine x_icmp_ge 121 dX0_seekPair_44 (fun h44 => ?_) (fun h44 => by exfalso; omega)
    exact x_vret dX0_seekPair_121 (hq t)
  | succ r ih =>
    intro p s t l4 l5 hp hok hle hq
    refine x_iload_n dX0_seekPair_41 rfl ?_
    refine x_bipush dX0_seekPair_42 ?_
    refine x_icmp_ge 121 dX0_seekPair_44 (fun h44 => by exfalso; omega) (fun h44 => ?_)
    refine x_iload_n dX0_seekPair_47 rfl ?_
    refine x_iconst dX0_seekPair_48 ?_
    refine x_iadd dX0_seekPair_49 ?_
    refine x_ist4 dX0_seekPair_50 ?_
    refine lk_spI hP c0 c6 c12 z y so st td sk R hA h0 hS p (by omega) (9 - p) (p + 1) s t _ (by omega) hok hle (fun t' l5' => ?_)
    refine x_inc3 dX0_seekPair_115 ?_
    refine x_goto 41 dX0_seekPair_118 ?_
    exact ih (p + 1) (btF z p (9 - p) (p + 1) s) t' _ _ (by omega) (btF_ok (by omega) (9 - p) (p + 1) s (by omega) hok) (btF_le _ _ _ hle) hq
set_option maxRecDepth 100000 in
set_option maxHeartbeats 4000000 in
theorem k_seekPair {P : AW} {a : Nat} (hP : P.length = a) (c0 c6 c12 : AC) (z y t so st : Nat → Int) (td sk le ot sn pk : Int) (R : AW) (hA : ZA z) (h0 : z 0 ≤ 1000000) (hS : mStk z 20 = 0) (hk : pk = 0 ∨ (pk = 1 ∧ CP z le ot sn)) : CTv I_X0_seekPair 0 0 [.ref (a + 13), .ref (a + 1)] (P ++ ow a c0 c6 c12 z y t so st td sk le ot sn pk R) (fun w' => ∃ (t : Nat → Int) (le ot sn : Int), w' = P ++ ow a c0 c6 c12 z y t so st td sk le ot sn (1) R ∧ CP z le ot sn) := by
  have hz5 := hA.2.2.2
  have hdb := mDn_b z
  refine CT_of 4 rfl (Nat.le_of_ble_eq_true rfl) ?_
  show EX I_X0_seekPair 0 0 none _ 0 [some (.ref (a + 13)), some (.ref (a + 1)), none, none, none, none] [] _ 0 0
  refine x_aload_n dX0_seekPair_0 rfl ?_
  refine x_getfield 13 dX0_seekPair_1 fg_X0_42 hP rfl rfl ?_
  refine x_if_eq 8 dX0_seekPair_4 (fun h4 => ?_) (fun h4 => ?_) (ha := by omega)
  · refine x_aload_n dX0_seekPair_8 rfl ?_
    refine x_iconst dX0_seekPair_9 ?_
    refine x_putfield 13 dX0_seekPair_10 fl_X0_42 hP rfl (fun _ _ => bfit (by omega)) ?_
    refine x_aload_n dX0_seekPair_13 rfl ?_
    refine x_bipush dX0_seekPair_14 ?_
    refine x_putfield 13 dX0_seekPair_16 fl_X0_33 hP rfl (fun _ _ => ⟨rfl, rfl⟩) ?_
    refine x_aload_n dX0_seekPair_19 rfl ?_
    refine x_bipush dX0_seekPair_20 ?_
    refine x_putfield 13 dX0_seekPair_22 fl_X0_36 hP rfl (fun _ _ => ⟨rfl, rfl⟩) ?_
    refine x_aload_n dX0_seekPair_25 rfl ?_
    refine x_bipush dX0_seekPair_26 ?_
    refine x_putfield 13 dX0_seekPair_28 fl_X0_39 hP rfl (fun _ _ => ⟨rfl, rfl⟩) ?_
    refine x_eqw (w' := P ++ ow a c0 c6 c12 z y t so st td sk (-4) (-4) (-4) (1) R) rfl ?_
    refine x_aload_n dX0_seekPair_31 rfl ?_
    refine x_aload_n dX0_seekPair_32 rfl ?_
    refine x_iconst dX0_seekPair_33 ?_
    refine x_iconst dX0_seekPair_34 ?_
    refine x_calliV dX0_seekPair_35 mk_X0_doneBy ml_X0_71 (k_doneBy hP c0 c6 c12 z y t so st td sk (-4) (-4) (-4) (1) R hA.2.1.2.1 ⟨by omega, h0⟩ 0 0 (by omega) (by omega) (by rw [swp_00]; exact hA) (by rw [swp_00]; exact hS)) ((wg_app hP 13).trans rfl) rfl (fun x35 w35 h35 => ?_)
    obtain ⟨rfl, t', rfl⟩ := h35
    refine x_top (show _ = mDn z by rw [swp_00]) ?_
    refine x_ist2 dX0_seekPair_38 ?_
    refine x_iconst dX0_seekPair_39 ?_
    refine x_ist3 dX0_seekPair_40 ?_
    refine x_eqw (w' := P ++ ow a c0 c6 c12 z y (t') so st td sk ((mDn z, (-4 : Int), (-4 : Int)).2.1) ((mDn z, (-4 : Int), (-4 : Int)).2.2) (snS (mDn z, (-4 : Int), (-4 : Int))) (1) R) rfl ?_
    exact lk_spO hP c0 c6 c12 z y so st td sk R hA h0 hS 10 0 (mDn z, (-4 : Int), (-4 : Int)) t' _ _ (by omega) ⟨⟨hdb.1, hdb.2⟩, by show -4 ≤ (-4 : Int) ∧ (-4 : Int) ≤ 9; decide, by show -4 ≤ (-4 : Int) ∧ (-4 : Int) ≤ 9; decide⟩ (Int.le_refl _) (fun t => ⟨t, _, _, _, rfl, rfl, rfl, rfl⟩)
  · exact x_vret dX0_seekPair_7 (by rcases hk with h | h; { omega }; { exact ⟨t, le, ot, sn, by rw [h.1], h.2⟩ })
set_option maxRecDepth 100000 in
set_option maxHeartbeats 4000000 in
theorem k_tillK {P : AW} {a : Nat} (hP : P.length = a) (c0 : AC) (z y : Nat → Int) (x x2 : Nat → Int) (R : AW) : CTv I_X3_copyFrom 0 0 [.ref (a + 12), .ref (a + 6)] (P ++ (c0 :: wk (a + 1) z (tk x :: wk (a + 7) y (tk x2 :: R)))) (fun w' => w' = P ++ (c0 :: wk (a + 1) z (tk x :: wk (a + 7) y (tk x :: R)))) := by
  refine CT_of 0 rfl (Nat.le_of_ble_eq_true rfl) ?_
  show EX I_X3_copyFrom 0 0 none _ 0 [some (.ref (a + 12)), some (.ref (a + 6))] [] _ 0 0
  refine x_aload_n dX3_copyFrom_0 rfl ?_
  refine x_aload_n dX3_copyFrom_1 rfl ?_
  refine x_getfield 6 dX3_copyFrom_2 fg_X3_7 hP rfl rfl ?_
  refine x_putfield 12 dX3_copyFrom_5 fl_X3_7 hP rfl (fun _ _ => ⟨rfl, rfl⟩) ?_
  refine x_eqw (w' := P ++ (c0 :: wk (a + 1) z (tk x :: wk (a + 7) y ((oT (x 11) (x2 12) (x2 13) (x2 9) (x2 7) (x2 8) (x2 10) (x2 14)) :: R)))) rfl ?_
  refine x_aload_n dX3_copyFrom_8 rfl ?_
  refine x_aload_n dX3_copyFrom_9 rfl ?_
  refine x_getfield 6 dX3_copyFrom_10 fg_X3_13 hP rfl rfl ?_
  refine x_putfield 12 dX3_copyFrom_13 fl_X3_13 hP rfl (fun _ _ => ⟨rfl, rfl⟩) ?_
  refine x_eqw (w' := P ++ (c0 :: wk (a + 1) z (tk x :: wk (a + 7) y ((oT (x 11) (x 12) (x2 13) (x2 9) (x2 7) (x2 8) (x2 10) (x2 14)) :: R)))) rfl ?_
  refine x_aload_n dX3_copyFrom_16 rfl ?_
  refine x_aload_n dX3_copyFrom_17 rfl ?_
  refine x_getfield 6 dX3_copyFrom_18 fg_X3_16 hP rfl rfl ?_
  refine x_putfield 12 dX3_copyFrom_21 fl_X3_16 hP rfl (fun _ _ => ⟨rfl, rfl⟩) ?_
  refine x_eqw (w' := P ++ (c0 :: wk (a + 1) z (tk x :: wk (a + 7) y ((oT (x 11) (x 12) (x 13) (x2 9) (x2 7) (x2 8) (x2 10) (x2 14)) :: R)))) rfl ?_
  refine x_aload_n dX3_copyFrom_24 rfl ?_
  refine x_aload_n dX3_copyFrom_25 rfl ?_
  refine x_getfield 6 dX3_copyFrom_26 fg_X3_19 hP rfl rfl ?_
  refine x_putfield 12 dX3_copyFrom_29 fl_X3_19 hP rfl (fun _ _ => ⟨rfl, rfl⟩) ?_
  refine x_eqw (w' := P ++ (c0 :: wk (a + 1) z (tk x :: wk (a + 7) y ((oT (x 11) (x 12) (x 13) (x 9) (x2 7) (x2 8) (x2 10) (x2 14)) :: R)))) rfl ?_
  refine x_aload_n dX3_copyFrom_32 rfl ?_
  refine x_aload_n dX3_copyFrom_33 rfl ?_
  refine x_getfield 6 dX3_copyFrom_34 fg_X3_22 hP rfl rfl ?_
  refine x_putfield 12 dX3_copyFrom_37 fl_X3_22 hP rfl (fun _ _ => ⟨rfl, rfl⟩) ?_
  refine x_eqw (w' := P ++ (c0 :: wk (a + 1) z (tk x :: wk (a + 7) y ((oT (x 11) (x 12) (x 13) (x 9) (x 7) (x2 8) (x2 10) (x2 14)) :: R)))) rfl ?_
  refine x_aload_n dX3_copyFrom_40 rfl ?_
  refine x_aload_n dX3_copyFrom_41 rfl ?_
  refine x_getfield 6 dX3_copyFrom_42 fg_X3_25 hP rfl rfl ?_
  refine x_putfield 12 dX3_copyFrom_45 fl_X3_25 hP rfl (fun _ _ => ⟨rfl, rfl⟩) ?_
  refine x_eqw (w' := P ++ (c0 :: wk (a + 1) z (tk x :: wk (a + 7) y ((oT (x 11) (x 12) (x 13) (x 9) (x 7) (x 8) (x2 10) (x2 14)) :: R)))) rfl ?_
  refine x_aload_n dX3_copyFrom_48 rfl ?_
  refine x_aload_n dX3_copyFrom_49 rfl ?_
  refine x_getfield 6 dX3_copyFrom_50 fg_X3_28 hP rfl rfl ?_
  refine x_putfield 12 dX3_copyFrom_53 fl_X3_28 hP rfl (fun _ _ => ⟨rfl, rfl⟩) ?_
  refine x_eqw (w' := P ++ (c0 :: wk (a + 1) z (tk x :: wk (a + 7) y ((oT (x 11) (x 12) (x 13) (x 9) (x 7) (x 8) (x 10) (x2 14)) :: R)))) rfl ?_
  refine x_aload_n dX3_copyFrom_56 rfl ?_
  refine x_aload_n dX3_copyFrom_57 rfl ?_
  refine x_getfield 6 dX3_copyFrom_58 fg_X3_31 hP rfl rfl ?_
  refine x_putfield 12 dX3_copyFrom_61 fl_X3_31 hP rfl (fun _ _ => ⟨rfl, rfl⟩) ?_
  refine x_eqw (w' := P ++ (c0 :: wk (a + 1) z (tk x :: wk (a + 7) y ((oT (x 11) (x 12) (x 13) (x 9) (x 7) (x 8) (x 10) (x 14)) :: R)))) rfl ?_
  exact x_vret dX3_copyFrom_64 (rfl)
set_option maxRecDepth 100000 in
set_option maxHeartbeats 4000000 in
theorem k_tillB {P : AW} {a : Nat} (hP : P.length = a) (c0 : AC) (z y : Nat → Int) (x x2 : Nat → Int) (R : AW) : CTv I_X3_copyFrom 0 0 [.ref (a + 6), .ref (a + 12)] (P ++ (c0 :: wk (a + 1) z (tk x :: wk (a + 7) y (tk x2 :: R)))) (fun w' => w' = P ++ (c0 :: wk (a + 1) z (tk x2 :: wk (a + 7) y (tk x2 :: R)))) := by
  refine CT_of 0 rfl (Nat.le_of_ble_eq_true rfl) ?_
  show EX I_X3_copyFrom 0 0 none _ 0 [some (.ref (a + 6)), some (.ref (a + 12))] [] _ 0 0
  refine x_aload_n dX3_copyFrom_0 rfl ?_
  refine x_aload_n dX3_copyFrom_1 rfl ?_
  refine x_getfield 12 dX3_copyFrom_2 fg_X3_7 hP rfl rfl ?_
  refine x_putfield 6 dX3_copyFrom_5 fl_X3_7 hP rfl (fun _ _ => ⟨rfl, rfl⟩) ?_
  refine x_eqw (w' := P ++ (c0 :: wk (a + 1) z ((oT (x2 11) (x 12) (x 13) (x 9) (x 7) (x 8) (x 10) (x 14)) :: wk (a + 7) y (tk x2 :: R)))) rfl ?_
  refine x_aload_n dX3_copyFrom_8 rfl ?_
  refine x_aload_n dX3_copyFrom_9 rfl ?_
  refine x_getfield 12 dX3_copyFrom_10 fg_X3_13 hP rfl rfl ?_
  refine x_putfield 6 dX3_copyFrom_13 fl_X3_13 hP rfl (fun _ _ => ⟨rfl, rfl⟩) ?_
  refine x_eqw (w' := P ++ (c0 :: wk (a + 1) z ((oT (x2 11) (x2 12) (x 13) (x 9) (x 7) (x 8) (x 10) (x 14)) :: wk (a + 7) y (tk x2 :: R)))) rfl ?_
  refine x_aload_n dX3_copyFrom_16 rfl ?_
  refine x_aload_n dX3_copyFrom_17 rfl ?_
  refine x_getfield 12 dX3_copyFrom_18 fg_X3_16 hP rfl rfl ?_
  refine x_putfield 6 dX3_copyFrom_21 fl_X3_16 hP rfl (fun _ _ => ⟨rfl, rfl⟩) ?_
  refine x_eqw (w' := P ++ (c0 :: wk (a + 1) z ((oT (x2 11) (x2 12) (x2 13) (x 9) (x 7) (x 8) (x 10) (x 14)) :: wk (a + 7) y (tk x2 :: R)))) rfl ?_
  refine x_aload_n dX3_copyFrom_24 rfl ?_
  refine x_aload_n dX3_copyFrom_25 rfl ?_
  refine x_getfield 12 dX3_copyFrom_26 fg_X3_19 hP rfl rfl ?_
  refine x_putfield 6 dX3_copyFrom_29 fl_X3_19 hP rfl (fun _ _ => ⟨rfl, rfl⟩) ?_
  refine x_eqw (w' := P ++ (c0 :: wk (a + 1) z ((oT (x2 11) (x2 12) (x2 13) (x2 9) (x 7) (x 8) (x 10) (x 14)) :: wk (a + 7) y (tk x2 :: R)))) rfl ?_
  refine x_aload_n dX3_copyFrom_32 rfl ?_
  refine x_aload_n dX3_copyFrom_33 rfl ?_
  refine x_getfield 12 dX3_copyFrom_34 fg_X3_22 hP rfl rfl ?_
  refine x_putfield 6 dX3_copyFrom_37 fl_X3_22 hP rfl (fun _ _ => ⟨rfl, rfl⟩) ?_
  refine x_eqw (w' := P ++ (c0 :: wk (a + 1) z ((oT (x2 11) (x2 12) (x2 13) (x2 9) (x2 7) (x 8) (x 10) (x 14)) :: wk (a + 7) y (tk x2 :: R)))) rfl ?_
  refine x_aload_n dX3_copyFrom_40 rfl ?_
  refine x_aload_n dX3_copyFrom_41 rfl ?_
  refine x_getfield 12 dX3_copyFrom_42 fg_X3_25 hP rfl rfl ?_
  refine x_putfield 6 dX3_copyFrom_45 fl_X3_25 hP rfl (fun _ _ => ⟨rfl, rfl⟩) ?_
  refine x_eqw (w' := P ++ (c0 :: wk (a + 1) z ((oT (x2 11) (x2 12) (x2 13) (x2 9) (x2 7) (x2 8) (x 10) (x 14)) :: wk (a + 7) y (tk x2 :: R)))) rfl ?_
  refine x_aload_n dX3_copyFrom_48 rfl ?_
  refine x_aload_n dX3_copyFrom_49 rfl ?_
  refine x_getfield 12 dX3_copyFrom_50 fg_X3_28 hP rfl rfl ?_
  refine x_putfield 6 dX3_copyFrom_53 fl_X3_28 hP rfl (fun _ _ => ⟨rfl, rfl⟩) ?_
  refine x_eqw (w' := P ++ (c0 :: wk (a + 1) z ((oT (x2 11) (x2 12) (x2 13) (x2 9) (x2 7) (x2 8) (x2 10) (x 14)) :: wk (a + 7) y (tk x2 :: R)))) rfl ?_
  refine x_aload_n dX3_copyFrom_56 rfl ?_
  refine x_aload_n dX3_copyFrom_57 rfl ?_
  refine x_getfield 12 dX3_copyFrom_58 fg_X3_31 hP rfl rfl ?_
  refine x_putfield 6 dX3_copyFrom_61 fl_X3_31 hP rfl (fun _ _ => ⟨rfl, rfl⟩) ?_
  refine x_eqw (w' := P ++ (c0 :: wk (a + 1) z ((oT (x2 11) (x2 12) (x2 13) (x2 9) (x2 7) (x2 8) (x2 10) (x2 14)) :: wk (a + 7) y (tk x2 :: R)))) rfl ?_
  exact x_vret dX3_copyFrom_64 (rfl)
