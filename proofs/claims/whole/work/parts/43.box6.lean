/-! ===== the class: the box: the wire ===== -/
set_option maxRecDepth 100000 in
set_option maxHeartbeats 4000000 in
theorem k_songOf (w : AW) (u v : Int) (hiu : inR u) (hiv : inR v) : CTi I_X5_songOfPulses 0 0 [.int (iI u), .int (iI v)] (w) (fun x w' => x = (if 1 ≤ u ∧ u ≤ 10 ∧ 1 ≤ v ∧ v ≤ 2 then sgO u v else -4) ∧ w' = w) := by
  refine CT_of 0 rfl (Nat.le_of_ble_eq_true rfl) ?_
  show EX I_X5_songOfPulses 0 0 none _ 0 [some (.int (iI u)), some (.int (iI v))] [] _ 0 0
  refine x_iload_n dX5_songOfPulses_0 rfl ?_
  refine x_iconst dX5_songOfPulses_1 ?_
  refine x_bipush dX5_songOfPulses_2 ?_
  refine x_calliS dX5_songOfPulses_4 mk_X5_within ml_X5_54 (k_within _ u 1 10 hiu (by decide) (by decide)) rfl (fun x4 w4 h4 => ?_)
  obtain ⟨hb4, rfl⟩ := h4
  by_cases c4 : 1 ≤ u ∧ u ≤ 10
  · rw [if_pos c4] at hb4
    subst hb4
    refine x_if_eq 19 dX5_songOfPulses_7 (fun h7 => absurd h7 (by decide)) (fun h7 => ?_)
    refine x_iload_n dX5_songOfPulses_10 rfl ?_
    refine x_iconst dX5_songOfPulses_11 ?_
    refine x_iconst dX5_songOfPulses_12 ?_
    refine x_calliS dX5_songOfPulses_13 mk_X5_within ml_X5_54 (k_within _ v 1 2 hiv (by decide) (by decide)) rfl (fun x13 w13 h13 => ?_)
    obtain ⟨hb13, rfl⟩ := h13
    by_cases c13 : 1 ≤ v ∧ v ≤ 2
    · rw [if_pos c13] at hb13
      subst hb13
      refine x_if_ne 22 dX5_songOfPulses_16 (fun h16 => ?_) (fun h16 => absurd h16 (by decide))
      refine x_iconst dX5_songOfPulses_22 ?_
      refine x_iload_n dX5_songOfPulses_23 rfl ?_
      refine x_iconst dX5_songOfPulses_24 ?_
      refine x_isub dX5_songOfPulses_25 ?_
      refine x_imul dX5_songOfPulses_26 ?_
      refine x_iload_n dX5_songOfPulses_27 rfl ?_
      refine x_iadd dX5_songOfPulses_28 ?_
      refine x_iconst dX5_songOfPulses_29 ?_
      refine x_isub dX5_songOfPulses_30 ?_
      exact x_iret dX5_songOfPulses_31 (⟨by unfold sgO; (repeat' split) <;> omega, rfl⟩)
    · rw [if_neg c13] at hb13
      subst hb13
      refine x_if_ne 22 dX5_songOfPulses_16 (fun h16 => absurd h16 (by decide)) (fun h16 => ?_)
      refine x_bipush dX5_songOfPulses_19 ?_
      exact x_iret dX5_songOfPulses_21 (⟨by unfold sgO; (repeat' split) <;> omega, rfl⟩)
  · rw [if_neg c4] at hb4
    subst hb4
    refine x_if_eq 19 dX5_songOfPulses_7 (fun h7 => ?_) (fun h7 => absurd h7 (by decide))
    refine x_bipush dX5_songOfPulses_19 ?_
    exact x_iret dX5_songOfPulses_21 (⟨by unfold sgO; (repeat' split) <;> omega, rfl⟩)
set_option maxRecDepth 100000 in
set_option maxHeartbeats 4000000 in
theorem k_bitOf (w : AW) (u v : Int) (hiu : inR u) (hiv : inR v) : CTi I_X5_bitOfPulses 0 0 [.int (iI u), .int (iI v)] (w) (fun x w' => x = bitO u v ∧ w' = w) := by
  refine CT_of 1 rfl (Nat.le_of_ble_eq_true rfl) ?_
  show EX I_X5_bitOfPulses 0 0 none _ 0 [some (.int (iI u)), some (.int (iI v)), none] [] _ 0 0
  refine x_iload_n dX5_bitOfPulses_0 rfl ?_
  refine x_iload_n dX5_bitOfPulses_1 rfl ?_
  refine x_calliS dX5_bitOfPulses_2 mk_X5_songOfPulses ml_X5_203 (k_songOf _ u v hiu hiv) rfl (fun x2 w2 h2 => ?_)
  obtain ⟨hb2, rfl⟩ := h2
  by_cases c2 : 1 ≤ u ∧ u ≤ 10 ∧ 1 ≤ v ∧ v ≤ 2
  · rw [if_pos c2] at hb2
    subst hb2
    have hsg : 0 ≤ sgO u v ∧ sgO u v ≤ 19 := by unfold sgO; omega
    refine x_ist2 dX5_bitOfPulses_5 ?_
    refine x_iload_n dX5_bitOfPulses_6 rfl ?_
    refine x_bipush dX5_bitOfPulses_7 ?_
    refine x_icmp_ne 16 dX5_bitOfPulses_9 (fun h9 => ?_) (fun h9 => by exfalso; omega)
    refine x_iconst dX5_bitOfPulses_16 ?_
    refine x_iload_n dX5_bitOfPulses_17 rfl ?_
    refine x_ishl dX5_bitOfPulses_18 (shl_i _ _) ?_
    exact x_iret dX5_bitOfPulses_19 (⟨(if_pos c2).symm, rfl⟩)
  · rw [if_neg c2] at hb2
    subst hb2
    refine x_ist2 dX5_bitOfPulses_5 ?_
    refine x_iload_n dX5_bitOfPulses_6 rfl ?_
    refine x_bipush dX5_bitOfPulses_7 ?_
    refine x_icmp_ne 16 dX5_bitOfPulses_9 (fun h9 => absurd h9 (by decide)) (fun h9 => ?_)
    refine x_iconst dX5_bitOfPulses_12 ?_
    refine x_goto 19 dX5_bitOfPulses_13 ?_
    exact x_iret dX5_bitOfPulses_19 (⟨(if_neg c2).symm, rfl⟩)
theorem rgt_01 (f : Nat → Int) : ∀ k, rgt f k = 0 ∨ rgt f k = 1
  | 0 => Or.inr rfl
  | k + 1 => by unfold rgt; split <;> simp
theorem addf (it : Nat → Int) (o f : Nat) : (fun i => it (o + (f + i))) = (fun i => it (o + f + i)) := funext (fun i => by rw [Nat.add_assoc])
def rW0 (ln rs it : Nat → Int) (l f m g : Int) : Int := if 0 ≤ (0 : Int) ∧ (0 : Int) ≤ 3 ∧ 0 ≤ l ∧ l ≤ 2 ∧ 1 ≤ m ∧ m ≤ 20 ∧ 1 ≤ g ∧ g ≤ 999 then (if (if ln 0 = l then (if 0 ≤ f ∧ f ≤ rs 0 - m then (0 : Int) else -13) else (if 0 ≤ ln 0 then -12 else -11)) < 0 then (if ln 0 = l then (if 0 ≤ f ∧ f ≤ rs 0 - m then (0 : Int) else -13) else (if 0 ≤ ln 0 then -12 else -11)) else if rgt (fun i => it (0 + f.toNat + i)) m.toNat = 0 then -2 else 0) else -1
theorem rW0_h (ln rs it : Nat → Int) (l f m g : Int) : (rW0 ln rs it l f m g = 0 → (0 ≤ (0 : Int) ∧ (0 : Int) ≤ 3 ∧ 0 ≤ l ∧ l ≤ 2 ∧ 1 ≤ m ∧ m ≤ 20 ∧ 1 ≤ g ∧ g ≤ 999) ∧ ln 0 = l ∧ (0 ≤ f ∧ f ≤ rs 0 - m) ∧ rHear ln rs it 0 l f m g = (if gcnt (fun i => it (0 + f.toNat + i)) g m.toNat = 1 then 0 else -4)) ∧ (¬ rW0 ln rs it l f m g = 0 → rHear ln rs it 0 l f m g = rW0 ln rs it l f m g ∧ rW0 ln rs it l f m g < 0) ∧ inR (rW0 ln rs it l f m g) := by
  rw [show rHear ln rs it 0 l f m g = (if 0 ≤ (0 : Int) ∧ (0 : Int) ≤ 3 ∧ 0 ≤ l ∧ l ≤ 2 ∧ 1 ≤ m ∧ m ≤ 20 ∧ 1 ≤ g ∧ g ≤ 999 then (if (if ln 0 = l then (if 0 ≤ f ∧ f ≤ rs 0 - m then (0 : Int) else -13) else (if 0 ≤ ln 0 then -12 else -11)) < 0 then (if ln 0 = l then (if 0 ≤ f ∧ f ≤ rs 0 - m then (0 : Int) else -13) else (if 0 ≤ ln 0 then -12 else -11)) else if rgt (fun i => it (0 + f.toNat + i)) m.toNat = 0 then -2 else if gcnt (fun i => it (0 + f.toNat + i)) g m.toNat = 1 then 0 else -4) else -1) from rfl]
  unfold rW0
  have hg := gcnt_b (fun i => it (0 + f.toNat + i)) g m.toNat
  by_cases c1 : 0 ≤ (0 : Int) ∧ (0 : Int) ≤ 3 ∧ 0 ≤ l ∧ l ≤ 2 ∧ 1 ≤ m ∧ m ≤ 20 ∧ 1 ≤ g ∧ g ≤ 999
  · rw [if_pos c1, if_pos c1]
    by_cases c2 : ln 0 = l
    · rw [if_pos c2]
      by_cases c3 : 0 ≤ f ∧ f ≤ rs 0 - m
      · rw [if_pos c3, if_neg (show ¬ (0 : Int) < 0 by decide), if_neg (show ¬ (0 : Int) < 0 by decide)]
        by_cases c4 : rgt (fun i => it (0 + f.toNat + i)) m.toNat = 0
        · rw [if_pos c4, if_pos c4]; refine ⟨fun h => by omega, fun _ => ⟨rfl, by decide⟩, by decide⟩
        · rw [if_neg c4, if_neg c4]; exact ⟨fun _ => ⟨c1, c2, c3, rfl⟩, fun h => absurd rfl h, by decide⟩
      · rw [if_neg c3, if_pos (show (-13 : Int) < 0 by decide), if_pos (show (-13 : Int) < 0 by decide)]; exact ⟨fun h => by omega, fun _ => ⟨rfl, by decide⟩, by decide⟩
    · rw [if_neg c2]
      split
      · rw [if_pos (show (-12 : Int) < 0 by decide), if_pos (show (-12 : Int) < 0 by decide)]; exact ⟨fun h => by omega, fun _ => ⟨rfl, by decide⟩, by decide⟩
      · rw [if_pos (show (-11 : Int) < 0 by decide), if_pos (show (-11 : Int) < 0 by decide)]; exact ⟨fun h => by omega, fun _ => ⟨rfl, by decide⟩, by decide⟩
  · rw [if_neg c1, if_neg c1]; exact ⟨fun h => by omega, fun _ => ⟨rfl, by decide⟩, by decide⟩
set_option maxRecDepth 100000 in
set_option maxHeartbeats 4000000 in
theorem b_wire0 {P : AW} {a : Nat} (hP : P.length = a) (ik : Int) (z y t so st : Nat → Int) (td sk le ot sn pk : Int) (d1 d2 d3 d4 : AC) (ln rs it : Nat → Int) (R : AW) (hSh : SH ln rs it) (hC : CI z td sk so st le ot sn pk) (l f m g : Int) (hil : inR l) (hif : inR f) (him : inR m) (hig : inR g) : CTi I_X5_wireRefusal 0 0 [.ref (a + 0), .int (iI 0), .int (iI l), .int (iI f), .int (iI m), .int (iI g)] (P ++ bx a ik z y t so st td sk le ot sn pk (d1 :: d2 :: d3 :: d4 :: shF a (ln) (rs) (it) R)) (fun x w' => x = rW0 ln rs it l f m g ∧ w' = P ++ bx a ik z y t so st td sk le ot sn pk (d1 :: d2 :: d3 :: d4 :: shF a (ln) (rs) (it) R)) := by
  have hl := lq_b (hSh.1 0)
  have hln := hSh.1 0
  have hrs := hSh.2.1 0
  refine CT_of 1 rfl (Nat.le_of_ble_eq_true rfl) ?_
  show EX I_X5_wireRefusal 0 0 none _ 0 [some (.ref (a + 0)), some (.int (iI 0)), some (.int (iI l)), some (.int (iI f)), some (.int (iI m)), some (.int (iI g)), none] [] _ 0 0
  refine x_iload_n dX5_wireRefusal_0 rfl ?_
  refine x_iload_n dX5_wireRefusal_1 rfl ?_
  refine x_calliS dX5_wireRefusal_2 mk_X5_isSheetOfLane ml_X5_209 (k_isSL _ 0 l (by decide) hil) rfl (fun x2 w2 h2 => ?_)
  obtain ⟨hb2, rfl⟩ := h2
  by_cases c2 : 0 ≤ (0 : Int) ∧ (0 : Int) ≤ 3 ∧ 0 ≤ l ∧ l ≤ 2
  · rw [if_pos c2] at hb2
    subst hb2
    refine x_if_eq 31 dX5_wireRefusal_5 (fun h5 => absurd h5 (by decide)) (fun h5 => ?_)
    refine x_iload dX5_wireRefusal_8 rfl ?_
    refine x_iconst dX5_wireRefusal_10 ?_
    refine x_bipush dX5_wireRefusal_11 ?_
    refine x_calliS dX5_wireRefusal_13 mk_X5_within ml_X5_54 (k_within _ m 1 20 him (by decide) (by decide)) rfl (fun x13 w13 h13 => ?_)
    obtain ⟨hb13, rfl⟩ := h13
    by_cases c13 : 1 ≤ m ∧ m ≤ 20
    · rw [if_pos c13] at hb13
      subst hb13
      refine x_if_eq 31 dX5_wireRefusal_16 (fun h16 => absurd h16 (by decide)) (fun h16 => ?_)
      refine x_iload dX5_wireRefusal_19 rfl ?_
      refine x_iconst dX5_wireRefusal_21 ?_
      refine x_sipush dX5_wireRefusal_22 ?_
      refine x_calliS dX5_wireRefusal_25 mk_X5_within ml_X5_54 (k_within _ g 1 999 hig (by decide) (by decide)) rfl (fun x25 w25 h25 => ?_)
      obtain ⟨hb25, rfl⟩ := h25
      by_cases c25 : 1 ≤ g ∧ g ≤ 999
      · rw [if_pos c25] at hb25
        subst hb25
        refine x_if_ne 33 dX5_wireRefusal_28 (fun h28 => ?_) (fun h28 => absurd h28 (by decide))
        refine x_aload_n dX5_wireRefusal_33 rfl ?_
        refine x_getfield 0 dX5_wireRefusal_34 fg_X5_49 hP rfl rfl ?_
        refine x_iload_n dX5_wireRefusal_37 rfl ?_
        refine x_aaload 25 (0) dX5_wireRefusal_38 hP rfl (rfl) ?_
        refine x_iload_n dX5_wireRefusal_39 rfl ?_
        refine x_calliV dX5_wireRefusal_40 mk_X1_refusalAs ml_X5_213 (s0_refusalAs hP ik z y t so st td sk le ot sn pk d1 d2 d3 d4 (lq (ln 0)) (rs 0) (fun i => it (0 + i)) (lq (ln 1)) (rs 1) (fun i => it (24 + i)) (lq (ln 2)) (rs 2) (fun i => it (48 + i)) (lq (ln 3)) (rs 3) (fun i => it (72 + i)) R (by omega) l hil) ((wg_app hP 26).trans rfl) rfl (fun x40 w40 h40 => ?_)
        obtain ⟨rfl, rfl⟩ := h40
        refine x_ist6 dX5_wireRefusal_43 ?_
        refine x_iload dX5_wireRefusal_45 rfl ?_
        refine x_if_eq 53 dX5_wireRefusal_47 (fun h47 => ?_) (fun h47 => ?_) (ha := by (repeat' split) <;> omega)
        · have hll : lq (ln 0) = l ∧ ln 0 = l := by (repeat' split at h47) <;> omega
          refine x_iload_n dX5_wireRefusal_53 rfl ?_
          refine x_if_lt 73 dX5_wireRefusal_54 (fun h54 => ?_) (fun h54 => ?_)
          · refine x_bipush dX5_wireRefusal_73 ?_
            exact x_iret dX5_wireRefusal_75 (⟨by unfold rW0; (repeat' split) <;> first | rfl | omega | (exfalso; omega), rfl⟩)
          · refine x_iload_n dX5_wireRefusal_57 rfl ?_
            refine x_aload_n dX5_wireRefusal_58 rfl ?_
            refine x_getfield 0 dX5_wireRefusal_59 fg_X5_49 hP rfl rfl ?_
            refine x_iload_n dX5_wireRefusal_62 rfl ?_
            refine x_aaload 25 (0) dX5_wireRefusal_63 hP rfl (rfl) ?_
            refine x_getfield 26 dX5_wireRefusal_64 fg_X5_216 hP rfl rfl ?_
            refine x_iload dX5_wireRefusal_67 rfl ?_
            refine x_isub dX5_wireRefusal_69 ?_
            refine x_icmp_le 76 dX5_wireRefusal_70 (fun h70 => ?_) (fun h70 => ?_) (hb := by omega)
            · refine x_aload_n dX5_wireRefusal_76 rfl ?_
              refine x_getfield 0 dX5_wireRefusal_77 fg_X5_49 hP rfl rfl ?_
              refine x_iload_n dX5_wireRefusal_80 rfl ?_
              refine x_aaload 25 (0) dX5_wireRefusal_81 hP rfl (rfl) ?_
              refine x_iload_n dX5_wireRefusal_82 rfl ?_
              refine x_iload dX5_wireRefusal_83 rfl ?_
              refine x_calliV dX5_wireRefusal_85 mk_X1_areTimes ml_X5_219 (s0_areTimes hP ik z y t so st td sk le ot sn pk d1 d2 d3 d4 (lq (ln 0)) (rs 0) (fun i => it (0 + i)) (lq (ln 1)) (rs 1) (fun i => it (24 + i)) (lq (ln 2)) (rs 2) (fun i => it (48 + i)) (lq (ln 3)) (rs 3) (fun i => it (72 + i)) R (fun i => hSh.2.2 _) f m (by omega) (by omega) (by omega)) ((wg_app hP 26).trans rfl) rfl (fun x85 w85 h85 => ?_)
              obtain ⟨rfl, rfl⟩ := h85
              refine x_top (show _ = rgt (fun i => it (0 + f.toNat + i)) m.toNat from congrArg (fun q => rgt q m.toNat) (addf it 0 f.toNat)) ?_
              have hr01 := rgt_01 (fun i => it (0 + f.toNat + i)) m.toNat
              refine x_if_eq 95 dX5_wireRefusal_88 (fun h88 => ?_) (fun h88 => ?_) (ha := by omega)
              · refine x_bipush dX5_wireRefusal_95 ?_
                exact x_iret dX5_wireRefusal_97 (⟨by unfold rW0; (repeat' split) <;> first | rfl | omega | (exfalso; omega), rfl⟩)
              · refine x_iconst dX5_wireRefusal_91 ?_
                refine x_goto 97 dX5_wireRefusal_92 ?_
                exact x_iret dX5_wireRefusal_97 (⟨by unfold rW0; (repeat' split) <;> first | rfl | omega | (exfalso; omega), rfl⟩)
            · refine x_bipush dX5_wireRefusal_73 ?_
              exact x_iret dX5_wireRefusal_75 (⟨by unfold rW0; (repeat' split) <;> first | rfl | omega | (exfalso; omega), rfl⟩)
        · refine x_iload dX5_wireRefusal_50 rfl ?_
          exact x_iret dX5_wireRefusal_52 (⟨by unfold rW0; (repeat' split) <;> first | rfl | omega | (exfalso; omega), rfl⟩)
      · rw [if_neg c25] at hb25
        subst hb25
        refine x_if_ne 33 dX5_wireRefusal_28 (fun h28 => absurd h28 (by decide)) (fun h28 => ?_)
        refine x_iconst dX5_wireRefusal_31 ?_
        exact x_iret dX5_wireRefusal_32 (⟨by unfold rW0; (repeat' split) <;> first | rfl | omega | (exfalso; omega), rfl⟩)
    · rw [if_neg c13] at hb13
      subst hb13
      refine x_if_eq 31 dX5_wireRefusal_16 (fun h16 => ?_) (fun h16 => absurd h16 (by decide))
      refine x_iconst dX5_wireRefusal_31 ?_
      exact x_iret dX5_wireRefusal_32 (⟨by unfold rW0; (repeat' split) <;> first | rfl | omega | (exfalso; omega), rfl⟩)
  · rw [if_neg c2] at hb2
    subst hb2
    refine x_if_eq 31 dX5_wireRefusal_5 (fun h5 => ?_) (fun h5 => absurd h5 (by decide))
    refine x_iconst dX5_wireRefusal_31 ?_
    exact x_iret dX5_wireRefusal_32 (⟨by unfold rW0; (repeat' split) <;> first | rfl | omega | (exfalso; omega), rfl⟩)
set_option maxRecDepth 100000 in
set_option maxHeartbeats 4000000 in
theorem b_heard0 {P : AW} {a : Nat} (hP : P.length = a) (ik : Int) (z y t so st : Nat → Int) (td sk le ot sn pk : Int) (d1 d2 d3 d4 : AC) (ln rs it : Nat → Int) (R : AW) (hSh : SH ln rs it) (hC : CI z td sk so st le ot sn pk) (l f m g : Int) (hil : inR l) (hif : inR f) (him : inR m) (hig : inR g) : CTi I_X5_heard 0 0 [.ref (a + 0), .int (iI 0), .int (iI l), .int (iI f), .int (iI m), .int (iI g)] (P ++ bx a ik z y t so st td sk le ot sn pk (d1 :: d2 :: d3 :: d4 :: shF a (ln) (rs) (it) R)) (fun x w' => x = rHeard ln rs it 0 l f m g ∧ BI P a ik z y (d1 :: d2 :: d3 :: d4 :: shF a (ln) (rs) (it) R) w') := by
  have hl := lq_b (hSh.1 0)
  have hln := hSh.1 0
  have hrs := hSh.2.1 0
  refine CT_of 2 rfl (Nat.le_of_ble_eq_true rfl) ?_
  show EX I_X5_heard 0 0 none _ 0 [some (.ref (a + 0)), some (.int (iI 0)), some (.int (iI l)), some (.int (iI f)), some (.int (iI m)), some (.int (iI g)), none, none] [] _ 0 0
  refine x_aload_n dX5_heard_0 rfl ?_
  refine x_iload_n dX5_heard_1 rfl ?_
  refine x_iload_n dX5_heard_2 rfl ?_
  refine x_iload_n dX5_heard_3 rfl ?_
  refine x_iload dX5_heard_4 rfl ?_
  refine x_iload dX5_heard_6 rfl ?_
  refine x_calliV dX5_heard_8 mk_X5_wireRefusal ml_X5_195 (b_wire0 hP ik z y t so st td sk le ot sn pk d1 d2 d3 d4 ln rs it R hSh hC l f m g hil hif him hig) ((wg_app hP 0).trans rfl) rfl (fun x8 w8 h8 => ?_)
  obtain ⟨rfl, rfl⟩ := h8
  have hW := rW0_h ln rs it l f m g
  refine x_ist6 dX5_heard_11 ?_
  refine x_iload dX5_heard_13 rfl ?_
  refine x_if_eq 21 dX5_heard_15 (fun h15 => ?_) (fun h15 => ?_) (ha := hW.2.2)
  · obtain ⟨hcd, hll, hfr, hhe⟩ := hW.1 h15
    refine x_aload_n dX5_heard_21 rfl ?_
    refine x_getfield 0 dX5_heard_22 fg_X5_49 hP rfl rfl ?_
    refine x_iload_n dX5_heard_25 rfl ?_
    refine x_aaload 25 (0) dX5_heard_26 hP rfl (rfl) ?_
    refine x_iload_n dX5_heard_27 rfl ?_
    refine x_iload dX5_heard_28 rfl ?_
    refine x_iload dX5_heard_30 rfl ?_
    refine x_calliV dX5_heard_32 mk_X1_onlyGap ml_X5_199 (s0_onlyGap hP ik z y t so st td sk le ot sn pk d1 d2 d3 d4 (lq (ln 0)) (rs 0) (fun i => it (0 + i)) (lq (ln 1)) (rs 1) (fun i => it (24 + i)) (lq (ln 2)) (rs 2) (fun i => it (48 + i)) (lq (ln 3)) (rs 3) (fun i => it (72 + i)) R (fun i => hSh.2.2 _) f m g (by omega) (by omega) (by omega) (by omega)) ((wg_app hP 26).trans rfl) rfl (fun x32 w32 h32 => ?_)
    obtain ⟨rfl, rfl⟩ := h32
    refine x_top (show _ = rOg (fun i => it (0 + f.toNat + i)) g m.toNat from congrArg (fun q => rOg q g m.toNat) (addf it 0 f.toNat)) ?_
    have hog := og_a (fun i => it (0 + f.toNat + i)) g m.toNat
    have hlb := lsa_b (fun i => it (0 + f.toNat + i)) g 0 m.toNat
    have hro : (rOg (fun i => it (0 + f.toNat + i)) g m.toNat = -4 ∧ ¬ gcnt (fun i => it (0 + f.toNat + i)) g m.toNat = 1) ∨ (rOg (fun i => it (0 + f.toNat + i)) g m.toNat + 1 = lsa (fun i => it (0 + f.toNat + i)) g 0 m.toNat ∧ 0 ≤ rOg (fun i => it (0 + f.toNat + i)) g m.toNat ∧ gcnt (fun i => it (0 + f.toNat + i)) g m.toNat = 1) := by unfold rOg; split <;> omega
    refine x_ist7 dX5_heard_35 ?_
    refine x_iload dX5_heard_37 rfl ?_
    refine x_bipush dX5_heard_39 ?_
    refine x_icmp_ne 49 dX5_heard_41 (fun h41 => ?_) (fun h41 => ?_) (ha := by omega)
    · refine x_iload dX5_heard_49 rfl ?_
      refine x_iconst dX5_heard_51 ?_
      refine x_iadd dX5_heard_52 ?_
      refine x_iload dX5_heard_53 rfl ?_
      refine x_iload dX5_heard_55 rfl ?_
      refine x_isub dX5_heard_57 ?_
      refine x_calliS dX5_heard_58 mk_X5_songOfPulses ml_X5_203 (k_songOf _ (rOg (fun i => it (0 + f.toNat + i)) g m.toNat + 1) (m - rOg (fun i => it (0 + f.toNat + i)) g m.toNat) (by omega) (by omega)) rfl (fun x58 w58 h58 => ?_)
      obtain ⟨rfl, rfl⟩ := h58
      exact x_iret dX5_heard_61 (⟨by unfold rHeard; rw [hhe, if_pos (show gcnt (fun i => it (0 + f.toNat + i)) g m.toNat = 1 by omega), if_neg (show ¬ (0 : Int) < 0 by decide), show gapA it 0 f m g = lsa (fun i => it (0 + f.toNat + i)) g 0 m.toNat from rfl, show rOg (fun i => it (0 + f.toNat + i)) g m.toNat + 1 = lsa (fun i => it (0 + f.toNat + i)) g 0 m.toNat by omega, show m - rOg (fun i => it (0 + f.toNat + i)) g m.toNat = m + 1 - lsa (fun i => it (0 + f.toNat + i)) g 0 m.toNat by omega], ⟨t, so, st, td, sk, le, ot, sn, pk, rfl, hC⟩⟩)
    · refine x_bipush dX5_heard_44 ?_
      refine x_goto 61 dX5_heard_46 ?_
      exact x_iret dX5_heard_61 (⟨by unfold rHeard; rw [hhe, if_neg (show ¬ gcnt (fun i => it (0 + f.toNat + i)) g m.toNat = 1 by omega), if_pos (show (-4 : Int) < 0 by decide)], ⟨t, so, st, td, sk, le, ot, sn, pk, rfl, hC⟩⟩)
  · refine x_iload dX5_heard_18 rfl ?_
    exact x_iret dX5_heard_20 (⟨by unfold rHeard; rw [(hW.2.1 h15).1, if_pos (hW.2.1 h15).2], ⟨t, so, st, td, sk, le, ot, sn, pk, rfl, hC⟩⟩)
set_option maxRecDepth 100000 in
set_option maxHeartbeats 4000000 in
theorem b_mayBe0 {P : AW} {a : Nat} (hP : P.length = a) (ik : Int) (z y t so st : Nat → Int) (td sk le ot sn pk : Int) (d1 d2 d3 d4 : AC) (ln rs it : Nat → Int) (R : AW) (hSh : SH ln rs it) (hC : CI z td sk so st le ot sn pk) (l f m g : Int) (hil : inR l) (hif : inR f) (him : inR m) (hig : inR g) : CTi I_X5_mayBe 0 0 [.ref (a + 0), .int (iI 0), .int (iI l), .int (iI f), .int (iI m), .int (iI g)] (P ++ bx a ik z y t so st td sk le ot sn pk (d1 :: d2 :: d3 :: d4 :: shF a (ln) (rs) (it) R)) (fun x w' => x = rMay ln rs it 0 l f m g ∧ BI P a ik z y (d1 :: d2 :: d3 :: d4 :: shF a (ln) (rs) (it) R) w') := by
  have hl := lq_b (hSh.1 0)
  have hln := hSh.1 0
  have hrs := hSh.2.1 0
  refine CT_of 5 rfl (Nat.le_of_ble_eq_true rfl) ?_
  show EX I_X5_mayBe 0 0 none _ 0 [some (.ref (a + 0)), some (.int (iI 0)), some (.int (iI l)), some (.int (iI f)), some (.int (iI m)), some (.int (iI g)), none, none, none, none, none] [] _ 0 0
  refine x_aload_n dX5_mayBe_0 rfl ?_
  refine x_iload_n dX5_mayBe_1 rfl ?_
  refine x_iload_n dX5_mayBe_2 rfl ?_
  refine x_iload_n dX5_mayBe_3 rfl ?_
  refine x_iload dX5_mayBe_4 rfl ?_
  refine x_iload dX5_mayBe_6 rfl ?_
  refine x_calliV dX5_mayBe_8 mk_X5_wireRefusal ml_X5_195 (b_wire0 hP ik z y t so st td sk le ot sn pk d1 d2 d3 d4 ln rs it R hSh hC l f m g hil hif him hig) ((wg_app hP 0).trans rfl) rfl (fun x8 w8 h8 => ?_)
  obtain ⟨rfl, rfl⟩ := h8
  have hW := rW0_h ln rs it l f m g
  refine x_ist6 dX5_mayBe_11 ?_
  refine x_iload dX5_mayBe_13 rfl ?_
  refine x_if_eq 21 dX5_mayBe_15 (fun h15 => ?_) (fun h15 => ?_) (ha := hW.2.2)
  · obtain ⟨hcd, hll, hfr, hhe⟩ := hW.1 h15
    refine x_aload_n dX5_mayBe_21 rfl ?_
    refine x_getfield 0 dX5_mayBe_22 fg_X5_49 hP rfl rfl ?_
    refine x_iload_n dX5_mayBe_25 rfl ?_
    refine x_aaload 25 (0) dX5_mayBe_26 hP rfl (rfl) ?_
    refine x_iload_n dX5_mayBe_27 rfl ?_
    refine x_iload dX5_mayBe_28 rfl ?_
    refine x_iload dX5_mayBe_30 rfl ?_
    refine x_calliV dX5_mayBe_32 mk_X1_onlyGap ml_X5_199 (s0_onlyGap hP ik z y t so st td sk le ot sn pk d1 d2 d3 d4 (lq (ln 0)) (rs 0) (fun i => it (0 + i)) (lq (ln 1)) (rs 1) (fun i => it (24 + i)) (lq (ln 2)) (rs 2) (fun i => it (48 + i)) (lq (ln 3)) (rs 3) (fun i => it (72 + i)) R (fun i => hSh.2.2 _) f m g (by omega) (by omega) (by omega) (by omega)) ((wg_app hP 26).trans rfl) rfl (fun x32 w32 h32 => ?_)
    obtain ⟨rfl, rfl⟩ := h32
    refine x_top (show _ = rOg (fun i => it (0 + f.toNat + i)) g m.toNat from congrArg (fun q => rOg q g m.toNat) (addf it 0 f.toNat)) ?_
    have hog := og_a (fun i => it (0 + f.toNat + i)) g m.toNat
    have hlb := lsa_b (fun i => it (0 + f.toNat + i)) g 0 m.toNat
    have hro : (rOg (fun i => it (0 + f.toNat + i)) g m.toNat = -4 ∧ ¬ gcnt (fun i => it (0 + f.toNat + i)) g m.toNat = 1) ∨ (rOg (fun i => it (0 + f.toNat + i)) g m.toNat + 1 = lsa (fun i => it (0 + f.toNat + i)) g 0 m.toNat ∧ 0 ≤ rOg (fun i => it (0 + f.toNat + i)) g m.toNat ∧ gcnt (fun i => it (0 + f.toNat + i)) g m.toNat = 1) := by unfold rOg; split <;> omega
    refine x_ist7 dX5_mayBe_35 ?_
    refine x_iload dX5_mayBe_37 rfl ?_
    refine x_bipush dX5_mayBe_39 ?_
    refine x_icmp_ne 47 dX5_mayBe_41 (fun h41 => ?_) (fun h41 => ?_) (ha := by omega)
    · refine x_iload dX5_mayBe_47 rfl ?_
      refine x_iconst dX5_mayBe_49 ?_
      refine x_iadd dX5_mayBe_50 ?_
      refine x_ist8 dX5_mayBe_51 ?_
      refine x_iload dX5_mayBe_53 rfl ?_
      refine x_iload dX5_mayBe_55 rfl ?_
      refine x_isub dX5_mayBe_57 ?_
      refine x_ist9 dX5_mayBe_58 ?_
      refine x_iload dX5_mayBe_60 rfl ?_
      refine x_iload dX5_mayBe_62 rfl ?_
      refine x_calliS dX5_mayBe_64 mk_X5_bitOfPulses ml_X5_206 (k_bitOf _ (rOg (fun i => it (0 + f.toNat + i)) g m.toNat + 1) (m - rOg (fun i => it (0 + f.toNat + i)) g m.toNat) (by omega) (by omega)) rfl (fun x64 w64 h64 => ?_)
      obtain ⟨rfl, rfl⟩ := h64
      refine x_iload dX5_mayBe_67 rfl ?_
      refine x_iconst dX5_mayBe_69 ?_
      refine x_iadd dX5_mayBe_70 ?_
      refine x_iload dX5_mayBe_71 rfl ?_
      refine x_calliS dX5_mayBe_73 mk_X5_bitOfPulses ml_X5_206 (k_bitOf _ ((rOg (fun i => it (0 + f.toNat + i)) g m.toNat + 1) + 1) (m - rOg (fun i => it (0 + f.toNat + i)) g m.toNat) (by omega) (by omega)) rfl (fun x73 w73 h73 => ?_)
      obtain ⟨rfl, rfl⟩ := h73
      refine x_ior dX5_mayBe_76 (or_i _ _) ?_
      refine x_iload dX5_mayBe_77 rfl ?_
      refine x_iload dX5_mayBe_79 rfl ?_
      refine x_iconst dX5_mayBe_81 ?_
      refine x_iadd dX5_mayBe_82 ?_
      refine x_calliS dX5_mayBe_83 mk_X5_bitOfPulses ml_X5_206 (k_bitOf _ (rOg (fun i => it (0 + f.toNat + i)) g m.toNat + 1) ((m - rOg (fun i => it (0 + f.toNat + i)) g m.toNat) + 1) (by omega) (by omega)) rfl (fun x83 w83 h83 => ?_)
      obtain ⟨rfl, rfl⟩ := h83
      refine x_ior dX5_mayBe_86 (or_i _ _) ?_
      refine x_top (show _ = bits3 (lsa (fun i => it (0 + f.toNat + i)) g 0 m.toNat) (m + 1 - lsa (fun i => it (0 + f.toNat + i)) g 0 m.toNat) by unfold bits3; rw [show rOg (fun i => it (0 + f.toNat + i)) g m.toNat + 1 = lsa (fun i => it (0 + f.toNat + i)) g 0 m.toNat by omega, show m - rOg (fun i => it (0 + f.toNat + i)) g m.toNat = m + 1 - lsa (fun i => it (0 + f.toNat + i)) g 0 m.toNat by omega]) ?_
      refine x_ist10 dX5_mayBe_87 ?_
      refine x_iload dX5_mayBe_89 rfl ?_
      refine x_if_ne 99 dX5_mayBe_91 (fun h91 => ?_) (fun h91 => ?_) (ha := orI_R _ _)
      · refine x_iload dX5_mayBe_99 rfl ?_
        exact x_iret dX5_mayBe_101 (⟨by unfold rMay; rw [hhe, if_pos (show gcnt (fun i => it (0 + f.toNat + i)) g m.toNat = 1 by omega), if_neg (show ¬ (0 : Int) < 0 by decide), show gapA it 0 f m g = lsa (fun i => it (0 + f.toNat + i)) g 0 m.toNat from rfl, if_neg h91], ⟨t, so, st, td, sk, le, ot, sn, pk, rfl, hC⟩⟩)
      · refine x_bipush dX5_mayBe_94 ?_
        refine x_goto 101 dX5_mayBe_96 ?_
        exact x_iret dX5_mayBe_101 (⟨by unfold rMay; rw [hhe, if_pos (show gcnt (fun i => it (0 + f.toNat + i)) g m.toNat = 1 by omega), if_neg (show ¬ (0 : Int) < 0 by decide), show gapA it 0 f m g = lsa (fun i => it (0 + f.toNat + i)) g 0 m.toNat from rfl, if_pos h91], ⟨t, so, st, td, sk, le, ot, sn, pk, rfl, hC⟩⟩)
    · refine x_bipush dX5_mayBe_44 ?_
      exact x_iret dX5_mayBe_46 (⟨by unfold rMay; rw [hhe, if_neg (show ¬ gcnt (fun i => it (0 + f.toNat + i)) g m.toNat = 1 by omega), if_pos (show (-4 : Int) < 0 by decide)], ⟨t, so, st, td, sk, le, ot, sn, pk, rfl, hC⟩⟩)
  · refine x_iload dX5_mayBe_18 rfl ?_
    exact x_iret dX5_mayBe_20 (⟨by unfold rMay; rw [(hW.2.1 h15).1, if_pos (hW.2.1 h15).2], ⟨t, so, st, td, sk, le, ot, sn, pk, rfl, hC⟩⟩)
def rW1 (ln rs it : Nat → Int) (l f m g : Int) : Int := if 0 ≤ (1 : Int) ∧ (1 : Int) ≤ 3 ∧ 0 ≤ l ∧ l ≤ 2 ∧ 1 ≤ m ∧ m ≤ 20 ∧ 1 ≤ g ∧ g ≤ 999 then (if (if ln 1 = l then (if 0 ≤ f ∧ f ≤ rs 1 - m then (0 : Int) else -13) else (if 0 ≤ ln 1 then -12 else -11)) < 0 then (if ln 1 = l then (if 0 ≤ f ∧ f ≤ rs 1 - m then (0 : Int) else -13) else (if 0 ≤ ln 1 then -12 else -11)) else if rgt (fun i => it (24 + f.toNat + i)) m.toNat = 0 then -2 else 0) else -1
theorem rW1_h (ln rs it : Nat → Int) (l f m g : Int) : (rW1 ln rs it l f m g = 0 → (0 ≤ (1 : Int) ∧ (1 : Int) ≤ 3 ∧ 0 ≤ l ∧ l ≤ 2 ∧ 1 ≤ m ∧ m ≤ 20 ∧ 1 ≤ g ∧ g ≤ 999) ∧ ln 1 = l ∧ (0 ≤ f ∧ f ≤ rs 1 - m) ∧ rHear ln rs it 1 l f m g = (if gcnt (fun i => it (24 + f.toNat + i)) g m.toNat = 1 then 0 else -4)) ∧ (¬ rW1 ln rs it l f m g = 0 → rHear ln rs it 1 l f m g = rW1 ln rs it l f m g ∧ rW1 ln rs it l f m g < 0) ∧ inR (rW1 ln rs it l f m g) := by
  rw [show rHear ln rs it 1 l f m g = (if 0 ≤ (1 : Int) ∧ (1 : Int) ≤ 3 ∧ 0 ≤ l ∧ l ≤ 2 ∧ 1 ≤ m ∧ m ≤ 20 ∧ 1 ≤ g ∧ g ≤ 999 then (if (if ln 1 = l then (if 0 ≤ f ∧ f ≤ rs 1 - m then (0 : Int) else -13) else (if 0 ≤ ln 1 then -12 else -11)) < 0 then (if ln 1 = l then (if 0 ≤ f ∧ f ≤ rs 1 - m then (0 : Int) else -13) else (if 0 ≤ ln 1 then -12 else -11)) else if rgt (fun i => it (24 + f.toNat + i)) m.toNat = 0 then -2 else if gcnt (fun i => it (24 + f.toNat + i)) g m.toNat = 1 then 0 else -4) else -1) from rfl]
  unfold rW1
  have hg := gcnt_b (fun i => it (24 + f.toNat + i)) g m.toNat
  by_cases c1 : 0 ≤ (1 : Int) ∧ (1 : Int) ≤ 3 ∧ 0 ≤ l ∧ l ≤ 2 ∧ 1 ≤ m ∧ m ≤ 20 ∧ 1 ≤ g ∧ g ≤ 999
  · rw [if_pos c1, if_pos c1]
    by_cases c2 : ln 1 = l
    · rw [if_pos c2]
      by_cases c3 : 0 ≤ f ∧ f ≤ rs 1 - m
      · rw [if_pos c3, if_neg (show ¬ (0 : Int) < 0 by decide), if_neg (show ¬ (0 : Int) < 0 by decide)]
        by_cases c4 : rgt (fun i => it (24 + f.toNat + i)) m.toNat = 0
        · rw [if_pos c4, if_pos c4]; refine ⟨fun h => by omega, fun _ => ⟨rfl, by decide⟩, by decide⟩
        · rw [if_neg c4, if_neg c4]; exact ⟨fun _ => ⟨c1, c2, c3, rfl⟩, fun h => absurd rfl h, by decide⟩
      · rw [if_neg c3, if_pos (show (-13 : Int) < 0 by decide), if_pos (show (-13 : Int) < 0 by decide)]; exact ⟨fun h => by omega, fun _ => ⟨rfl, by decide⟩, by decide⟩
    · rw [if_neg c2]
      split
      · rw [if_pos (show (-12 : Int) < 0 by decide), if_pos (show (-12 : Int) < 0 by decide)]; exact ⟨fun h => by omega, fun _ => ⟨rfl, by decide⟩, by decide⟩
      · rw [if_pos (show (-11 : Int) < 0 by decide), if_pos (show (-11 : Int) < 0 by decide)]; exact ⟨fun h => by omega, fun _ => ⟨rfl, by decide⟩, by decide⟩
  · rw [if_neg c1, if_neg c1]; exact ⟨fun h => by omega, fun _ => ⟨rfl, by decide⟩, by decide⟩
set_option maxRecDepth 100000 in
set_option maxHeartbeats 4000000 in
theorem b_wire1 {P : AW} {a : Nat} (hP : P.length = a) (ik : Int) (z y t so st : Nat → Int) (td sk le ot sn pk : Int) (d1 d2 d3 d4 : AC) (ln rs it : Nat → Int) (R : AW) (hSh : SH ln rs it) (hC : CI z td sk so st le ot sn pk) (l f m g : Int) (hil : inR l) (hif : inR f) (him : inR m) (hig : inR g) : CTi I_X5_wireRefusal 0 0 [.ref (a + 0), .int (iI 1), .int (iI l), .int (iI f), .int (iI m), .int (iI g)] (P ++ bx a ik z y t so st td sk le ot sn pk (d1 :: d2 :: d3 :: d4 :: shF a (ln) (rs) (it) R)) (fun x w' => x = rW1 ln rs it l f m g ∧ w' = P ++ bx a ik z y t so st td sk le ot sn pk (d1 :: d2 :: d3 :: d4 :: shF a (ln) (rs) (it) R)) := by
  have hl := lq_b (hSh.1 1)
  have hln := hSh.1 1
  have hrs := hSh.2.1 1
  refine CT_of 1 rfl (Nat.le_of_ble_eq_true rfl) ?_
  show EX I_X5_wireRefusal 0 0 none _ 0 [some (.ref (a + 0)), some (.int (iI 1)), some (.int (iI l)), some (.int (iI f)), some (.int (iI m)), some (.int (iI g)), none] [] _ 0 0
  refine x_iload_n dX5_wireRefusal_0 rfl ?_
  refine x_iload_n dX5_wireRefusal_1 rfl ?_
  refine x_calliS dX5_wireRefusal_2 mk_X5_isSheetOfLane ml_X5_209 (k_isSL _ 1 l (by decide) hil) rfl (fun x2 w2 h2 => ?_)
  obtain ⟨hb2, rfl⟩ := h2
  by_cases c2 : 0 ≤ (1 : Int) ∧ (1 : Int) ≤ 3 ∧ 0 ≤ l ∧ l ≤ 2
  · rw [if_pos c2] at hb2
    subst hb2
    refine x_if_eq 31 dX5_wireRefusal_5 (fun h5 => absurd h5 (by decide)) (fun h5 => ?_)
    refine x_iload dX5_wireRefusal_8 rfl ?_
    refine x_iconst dX5_wireRefusal_10 ?_
    refine x_bipush dX5_wireRefusal_11 ?_
    refine x_calliS dX5_wireRefusal_13 mk_X5_within ml_X5_54 (k_within _ m 1 20 him (by decide) (by decide)) rfl (fun x13 w13 h13 => ?_)
    obtain ⟨hb13, rfl⟩ := h13
    by_cases c13 : 1 ≤ m ∧ m ≤ 20
    · rw [if_pos c13] at hb13
      subst hb13
      refine x_if_eq 31 dX5_wireRefusal_16 (fun h16 => absurd h16 (by decide)) (fun h16 => ?_)
      refine x_iload dX5_wireRefusal_19 rfl ?_
      refine x_iconst dX5_wireRefusal_21 ?_
      refine x_sipush dX5_wireRefusal_22 ?_
      refine x_calliS dX5_wireRefusal_25 mk_X5_within ml_X5_54 (k_within _ g 1 999 hig (by decide) (by decide)) rfl (fun x25 w25 h25 => ?_)
      obtain ⟨hb25, rfl⟩ := h25
      by_cases c25 : 1 ≤ g ∧ g ≤ 999
      · rw [if_pos c25] at hb25
        subst hb25
        refine x_if_ne 33 dX5_wireRefusal_28 (fun h28 => ?_) (fun h28 => absurd h28 (by decide))
        refine x_aload_n dX5_wireRefusal_33 rfl ?_
        refine x_getfield 0 dX5_wireRefusal_34 fg_X5_49 hP rfl rfl ?_
        refine x_iload_n dX5_wireRefusal_37 rfl ?_
        refine x_aaload 25 (1) dX5_wireRefusal_38 hP rfl (rfl) ?_
        refine x_iload_n dX5_wireRefusal_39 rfl ?_
        refine x_calliV dX5_wireRefusal_40 mk_X1_refusalAs ml_X5_213 (s1_refusalAs hP ik z y t so st td sk le ot sn pk d1 d2 d3 d4 (lq (ln 0)) (rs 0) (fun i => it (0 + i)) (lq (ln 1)) (rs 1) (fun i => it (24 + i)) (lq (ln 2)) (rs 2) (fun i => it (48 + i)) (lq (ln 3)) (rs 3) (fun i => it (72 + i)) R (by omega) l hil) ((wg_app hP 28).trans rfl) rfl (fun x40 w40 h40 => ?_)
        obtain ⟨rfl, rfl⟩ := h40
        refine x_ist6 dX5_wireRefusal_43 ?_
        refine x_iload dX5_wireRefusal_45 rfl ?_
        refine x_if_eq 53 dX5_wireRefusal_47 (fun h47 => ?_) (fun h47 => ?_) (ha := by (repeat' split) <;> omega)
        · have hll : lq (ln 1) = l ∧ ln 1 = l := by (repeat' split at h47) <;> omega
          refine x_iload_n dX5_wireRefusal_53 rfl ?_
          refine x_if_lt 73 dX5_wireRefusal_54 (fun h54 => ?_) (fun h54 => ?_)
          · refine x_bipush dX5_wireRefusal_73 ?_
            exact x_iret dX5_wireRefusal_75 (⟨by unfold rW1; (repeat' split) <;> first | rfl | omega | (exfalso; omega), rfl⟩)
          · refine x_iload_n dX5_wireRefusal_57 rfl ?_
            refine x_aload_n dX5_wireRefusal_58 rfl ?_
            refine x_getfield 0 dX5_wireRefusal_59 fg_X5_49 hP rfl rfl ?_
            refine x_iload_n dX5_wireRefusal_62 rfl ?_
            refine x_aaload 25 (1) dX5_wireRefusal_63 hP rfl (rfl) ?_
            refine x_getfield 28 dX5_wireRefusal_64 fg_X5_216 hP rfl rfl ?_
            refine x_iload dX5_wireRefusal_67 rfl ?_
            refine x_isub dX5_wireRefusal_69 ?_
            refine x_icmp_le 76 dX5_wireRefusal_70 (fun h70 => ?_) (fun h70 => ?_) (hb := by omega)
            · refine x_aload_n dX5_wireRefusal_76 rfl ?_
              refine x_getfield 0 dX5_wireRefusal_77 fg_X5_49 hP rfl rfl ?_
              refine x_iload_n dX5_wireRefusal_80 rfl ?_
              refine x_aaload 25 (1) dX5_wireRefusal_81 hP rfl (rfl) ?_
              refine x_iload_n dX5_wireRefusal_82 rfl ?_
              refine x_iload dX5_wireRefusal_83 rfl ?_
              refine x_calliV dX5_wireRefusal_85 mk_X1_areTimes ml_X5_219 (s1_areTimes hP ik z y t so st td sk le ot sn pk d1 d2 d3 d4 (lq (ln 0)) (rs 0) (fun i => it (0 + i)) (lq (ln 1)) (rs 1) (fun i => it (24 + i)) (lq (ln 2)) (rs 2) (fun i => it (48 + i)) (lq (ln 3)) (rs 3) (fun i => it (72 + i)) R (fun i => hSh.2.2 _) f m (by omega) (by omega) (by omega)) ((wg_app hP 28).trans rfl) rfl (fun x85 w85 h85 => ?_)
              obtain ⟨rfl, rfl⟩ := h85
              refine x_top (show _ = rgt (fun i => it (24 + f.toNat + i)) m.toNat from congrArg (fun q => rgt q m.toNat) (addf it 24 f.toNat)) ?_
              have hr01 := rgt_01 (fun i => it (24 + f.toNat + i)) m.toNat
              refine x_if_eq 95 dX5_wireRefusal_88 (fun h88 => ?_) (fun h88 => ?_) (ha := by omega)
              · refine x_bipush dX5_wireRefusal_95 ?_
                exact x_iret dX5_wireRefusal_97 (⟨by unfold rW1; (repeat' split) <;> first | rfl | omega | (exfalso; omega), rfl⟩)
              · refine x_iconst dX5_wireRefusal_91 ?_
                refine x_goto 97 dX5_wireRefusal_92 ?_
                exact x_iret dX5_wireRefusal_97 (⟨by unfold rW1; (repeat' split) <;> first | rfl | omega | (exfalso; omega), rfl⟩)
            · refine x_bipush dX5_wireRefusal_73 ?_
              exact x_iret dX5_wireRefusal_75 (⟨by unfold rW1; (repeat' split) <;> first | rfl | omega | (exfalso; omega), rfl⟩)
        · refine x_iload dX5_wireRefusal_50 rfl ?_
          exact x_iret dX5_wireRefusal_52 (⟨by unfold rW1; (repeat' split) <;> first | rfl | omega | (exfalso; omega), rfl⟩)
      · rw [if_neg c25] at hb25
        subst hb25
        refine x_if_ne 33 dX5_wireRefusal_28 (fun h28 => absurd h28 (by decide)) (fun h28 => ?_)
        refine x_iconst dX5_wireRefusal_31 ?_
        exact x_iret dX5_wireRefusal_32 (⟨by unfold rW1; (repeat' split) <;> first | rfl | omega | (exfalso; omega), rfl⟩)
    · rw [if_neg c13] at hb13
      subst hb13
      refine x_if_eq 31 dX5_wireRefusal_16 (fun h16 => ?_) (fun h16 => absurd h16 (by decide))
      refine x_iconst dX5_wireRefusal_31 ?_
      exact x_iret dX5_wireRefusal_32 (⟨by unfold rW1; (repeat' split) <;> first | rfl | omega | (exfalso; omega), rfl⟩)
  · rw [if_neg c2] at hb2
    subst hb2
    refine x_if_eq 31 dX5_wireRefusal_5 (fun h5 => ?_) (fun h5 => absurd h5 (by decide))
    refine x_iconst dX5_wireRefusal_31 ?_
    exact x_iret dX5_wireRefusal_32 (⟨by unfold rW1; (repeat' split) <;> first | rfl | omega | (exfalso; omega), rfl⟩)
set_option maxRecDepth 100000 in
set_option maxHeartbeats 4000000 in
theorem b_heard1 {P : AW} {a : Nat} (hP : P.length = a) (ik : Int) (z y t so st : Nat → Int) (td sk le ot sn pk : Int) (d1 d2 d3 d4 : AC) (ln rs it : Nat → Int) (R : AW) (hSh : SH ln rs it) (hC : CI z td sk so st le ot sn pk) (l f m g : Int) (hil : inR l) (hif : inR f) (him : inR m) (hig : inR g) : CTi I_X5_heard 0 0 [.ref (a + 0), .int (iI 1), .int (iI l), .int (iI f), .int (iI m), .int (iI g)] (P ++ bx a ik z y t so st td sk le ot sn pk (d1 :: d2 :: d3 :: d4 :: shF a (ln) (rs) (it) R)) (fun x w' => x = rHeard ln rs it 1 l f m g ∧ BI P a ik z y (d1 :: d2 :: d3 :: d4 :: shF a (ln) (rs) (it) R) w') := by
  have hl := lq_b (hSh.1 1)
  have hln := hSh.1 1
  have hrs := hSh.2.1 1
  refine CT_of 2 rfl (Nat.le_of_ble_eq_true rfl) ?_
  show EX I_X5_heard 0 0 none _ 0 [some (.ref (a + 0)), some (.int (iI 1)), some (.int (iI l)), some (.int (iI f)), some (.int (iI m)), some (.int (iI g)), none, none] [] _ 0 0
  refine x_aload_n dX5_heard_0 rfl ?_
  refine x_iload_n dX5_heard_1 rfl ?_
  refine x_iload_n dX5_heard_2 rfl ?_
  refine x_iload_n dX5_heard_3 rfl ?_
  refine x_iload dX5_heard_4 rfl ?_
  refine x_iload dX5_heard_6 rfl ?_
  refine x_calliV dX5_heard_8 mk_X5_wireRefusal ml_X5_195 (b_wire1 hP ik z y t so st td sk le ot sn pk d1 d2 d3 d4 ln rs it R hSh hC l f m g hil hif him hig) ((wg_app hP 0).trans rfl) rfl (fun x8 w8 h8 => ?_)
  obtain ⟨rfl, rfl⟩ := h8
  have hW := rW1_h ln rs it l f m g
  refine x_ist6 dX5_heard_11 ?_
  refine x_iload dX5_heard_13 rfl ?_
  refine x_if_eq 21 dX5_heard_15 (fun h15 => ?_) (fun h15 => ?_) (ha := hW.2.2)
  · obtain ⟨hcd, hll, hfr, hhe⟩ := hW.1 h15
    refine x_aload_n dX5_heard_21 rfl ?_
    refine x_getfield 0 dX5_heard_22 fg_X5_49 hP rfl rfl ?_
    refine x_iload_n dX5_heard_25 rfl ?_
    refine x_aaload 25 (1) dX5_heard_26 hP rfl (rfl) ?_
    refine x_iload_n dX5_heard_27 rfl ?_
    refine x_iload dX5_heard_28 rfl ?_
    refine x_iload dX5_heard_30 rfl ?_
    refine x_calliV dX5_heard_32 mk_X1_onlyGap ml_X5_199 (s1_onlyGap hP ik z y t so st td sk le ot sn pk d1 d2 d3 d4 (lq (ln 0)) (rs 0) (fun i => it (0 + i)) (lq (ln 1)) (rs 1) (fun i => it (24 + i)) (lq (ln 2)) (rs 2) (fun i => it (48 + i)) (lq (ln 3)) (rs 3) (fun i => it (72 + i)) R (fun i => hSh.2.2 _) f m g (by omega) (by omega) (by omega) (by omega)) ((wg_app hP 28).trans rfl) rfl (fun x32 w32 h32 => ?_)
    obtain ⟨rfl, rfl⟩ := h32
    refine x_top (show _ = rOg (fun i => it (24 + f.toNat + i)) g m.toNat from congrArg (fun q => rOg q g m.toNat) (addf it 24 f.toNat)) ?_
    have hog := og_a (fun i => it (24 + f.toNat + i)) g m.toNat
    have hlb := lsa_b (fun i => it (24 + f.toNat + i)) g 0 m.toNat
    have hro : (rOg (fun i => it (24 + f.toNat + i)) g m.toNat = -4 ∧ ¬ gcnt (fun i => it (24 + f.toNat + i)) g m.toNat = 1) ∨ (rOg (fun i => it (24 + f.toNat + i)) g m.toNat + 1 = lsa (fun i => it (24 + f.toNat + i)) g 0 m.toNat ∧ 0 ≤ rOg (fun i => it (24 + f.toNat + i)) g m.toNat ∧ gcnt (fun i => it (24 + f.toNat + i)) g m.toNat = 1) := by unfold rOg; split <;> omega
    refine x_ist7 dX5_heard_35 ?_
    refine x_iload dX5_heard_37 rfl ?_
    refine x_bipush dX5_heard_39 ?_
    refine x_icmp_ne 49 dX5_heard_41 (fun h41 => ?_) (fun h41 => ?_) (ha := by omega)
    · refine x_iload dX5_heard_49 rfl ?_
      refine x_iconst dX5_heard_51 ?_
      refine x_iadd dX5_heard_52 ?_
      refine x_iload dX5_heard_53 rfl ?_
      refine x_iload dX5_heard_55 rfl ?_
      refine x_isub dX5_heard_57 ?_
      refine x_calliS dX5_heard_58 mk_X5_songOfPulses ml_X5_203 (k_songOf _ (rOg (fun i => it (24 + f.toNat + i)) g m.toNat + 1) (m - rOg (fun i => it (24 + f.toNat + i)) g m.toNat) (by omega) (by omega)) rfl (fun x58 w58 h58 => ?_)
      obtain ⟨rfl, rfl⟩ := h58
      exact x_iret dX5_heard_61 (⟨by unfold rHeard; rw [hhe, if_pos (show gcnt (fun i => it (24 + f.toNat + i)) g m.toNat = 1 by omega), if_neg (show ¬ (0 : Int) < 0 by decide), show gapA it 1 f m g = lsa (fun i => it (24 + f.toNat + i)) g 0 m.toNat from rfl, show rOg (fun i => it (24 + f.toNat + i)) g m.toNat + 1 = lsa (fun i => it (24 + f.toNat + i)) g 0 m.toNat by omega, show m - rOg (fun i => it (24 + f.toNat + i)) g m.toNat = m + 1 - lsa (fun i => it (24 + f.toNat + i)) g 0 m.toNat by omega], ⟨t, so, st, td, sk, le, ot, sn, pk, rfl, hC⟩⟩)
    · refine x_bipush dX5_heard_44 ?_
      refine x_goto 61 dX5_heard_46 ?_
      exact x_iret dX5_heard_61 (⟨by unfold rHeard; rw [hhe, if_neg (show ¬ gcnt (fun i => it (24 + f.toNat + i)) g m.toNat = 1 by omega), if_pos (show (-4 : Int) < 0 by decide)], ⟨t, so, st, td, sk, le, ot, sn, pk, rfl, hC⟩⟩)
  · refine x_iload dX5_heard_18 rfl ?_
    exact x_iret dX5_heard_20 (⟨by unfold rHeard; rw [(hW.2.1 h15).1, if_pos (hW.2.1 h15).2], ⟨t, so, st, td, sk, le, ot, sn, pk, rfl, hC⟩⟩)
set_option maxRecDepth 100000 in
set_option maxHeartbeats 4000000 in
theorem b_mayBe1 {P : AW} {a : Nat} (hP : P.length = a) (ik : Int) (z y t so st : Nat → Int) (td sk le ot sn pk : Int) (d1 d2 d3 d4 : AC) (ln rs it : Nat → Int) (R : AW) (hSh : SH ln rs it) (hC : CI z td sk so st le ot sn pk) (l f m g : Int) (hil : inR l) (hif : inR f) (him : inR m) (hig : inR g) : CTi I_X5_mayBe 0 0 [.ref (a + 0), .int (iI 1), .int (iI l), .int (iI f), .int (iI m), .int (iI g)] (P ++ bx a ik z y t so st td sk le ot sn pk (d1 :: d2 :: d3 :: d4 :: shF a (ln) (rs) (it) R)) (fun x w' => x = rMay ln rs it 1 l f m g ∧ BI P a ik z y (d1 :: d2 :: d3 :: d4 :: shF a (ln) (rs) (it) R) w') := by
  have hl := lq_b (hSh.1 1)
  have hln := hSh.1 1
  have hrs := hSh.2.1 1
  refine CT_of 5 rfl (Nat.le_of_ble_eq_true rfl) ?_
  show EX I_X5_mayBe 0 0 none _ 0 [some (.ref (a + 0)), some (.int (iI 1)), some (.int (iI l)), some (.int (iI f)), some (.int (iI m)), some (.int (iI g)), none, none, none, none, none] [] _ 0 0
  refine x_aload_n dX5_mayBe_0 rfl ?_
  refine x_iload_n dX5_mayBe_1 rfl ?_
  refine x_iload_n dX5_mayBe_2 rfl ?_
  refine x_iload_n dX5_mayBe_3 rfl ?_
  refine x_iload dX5_mayBe_4 rfl ?_
  refine x_iload dX5_mayBe_6 rfl ?_
  refine x_calliV dX5_mayBe_8 mk_X5_wireRefusal ml_X5_195 (b_wire1 hP ik z y t so st td sk le ot sn pk d1 d2 d3 d4 ln rs it R hSh hC l f m g hil hif him hig) ((wg_app hP 0).trans rfl) rfl (fun x8 w8 h8 => ?_)
  obtain ⟨rfl, rfl⟩ := h8
  have hW := rW1_h ln rs it l f m g
  refine x_ist6 dX5_mayBe_11 ?_
  refine x_iload dX5_mayBe_13 rfl ?_
  refine x_if_eq 21 dX5_mayBe_15 (fun h15 => ?_) (fun h15 => ?_) (ha := hW.2.2)
  · obtain ⟨hcd, hll, hfr, hhe⟩ := hW.1 h15
    refine x_aload_n dX5_mayBe_21 rfl ?_
    refine x_getfield 0 dX5_mayBe_22 fg_X5_49 hP rfl rfl ?_
    refine x_iload_n dX5_mayBe_25 rfl ?_
    refine x_aaload 25 (1) dX5_mayBe_26 hP rfl (rfl) ?_
    refine x_iload_n dX5_mayBe_27 rfl ?_
    refine x_iload dX5_mayBe_28 rfl ?_
    refine x_iload dX5_mayBe_30 rfl ?_
    refine x_calliV dX5_mayBe_32 mk_X1_onlyGap ml_X5_199 (s1_onlyGap hP ik z y t so st td sk le ot sn pk d1 d2 d3 d4 (lq (ln 0)) (rs 0) (fun i => it (0 + i)) (lq (ln 1)) (rs 1) (fun i => it (24 + i)) (lq (ln 2)) (rs 2) (fun i => it (48 + i)) (lq (ln 3)) (rs 3) (fun i => it (72 + i)) R (fun i => hSh.2.2 _) f m g (by omega) (by omega) (by omega) (by omega)) ((wg_app hP 28).trans rfl) rfl (fun x32 w32 h32 => ?_)
    obtain ⟨rfl, rfl⟩ := h32
    refine x_top (show _ = rOg (fun i => it (24 + f.toNat + i)) g m.toNat from congrArg (fun q => rOg q g m.toNat) (addf it 24 f.toNat)) ?_
    have hog := og_a (fun i => it (24 + f.toNat + i)) g m.toNat
    have hlb := lsa_b (fun i => it (24 + f.toNat + i)) g 0 m.toNat
    have hro : (rOg (fun i => it (24 + f.toNat + i)) g m.toNat = -4 ∧ ¬ gcnt (fun i => it (24 + f.toNat + i)) g m.toNat = 1) ∨ (rOg (fun i => it (24 + f.toNat + i)) g m.toNat + 1 = lsa (fun i => it (24 + f.toNat + i)) g 0 m.toNat ∧ 0 ≤ rOg (fun i => it (24 + f.toNat + i)) g m.toNat ∧ gcnt (fun i => it (24 + f.toNat + i)) g m.toNat = 1) := by unfold rOg; split <;> omega
    refine x_ist7 dX5_mayBe_35 ?_
    refine x_iload dX5_mayBe_37 rfl ?_
    refine x_bipush dX5_mayBe_39 ?_
    refine x_icmp_ne 47 dX5_mayBe_41 (fun h41 => ?_) (fun h41 => ?_) (ha := by omega)
    · refine x_iload dX5_mayBe_47 rfl ?_
      refine x_iconst dX5_mayBe_49 ?_
      refine x_iadd dX5_mayBe_50 ?_
      refine x_ist8 dX5_mayBe_51 ?_
      refine x_iload dX5_mayBe_53 rfl ?_
      refine x_iload dX5_mayBe_55 rfl ?_
      refine x_isub dX5_mayBe_57 ?_
      refine x_ist9 dX5_mayBe_58 ?_
      refine x_iload dX5_mayBe_60 rfl ?_
      refine x_iload dX5_mayBe_62 rfl ?_
      refine x_calliS dX5_mayBe_64 mk_X5_bitOfPulses ml_X5_206 (k_bitOf _ (rOg (fun i => it (24 + f.toNat + i)) g m.toNat + 1) (m - rOg (fun i => it (24 + f.toNat + i)) g m.toNat) (by omega) (by omega)) rfl (fun x64 w64 h64 => ?_)
      obtain ⟨rfl, rfl⟩ := h64
      refine x_iload dX5_mayBe_67 rfl ?_
      refine x_iconst dX5_mayBe_69 ?_
      refine x_iadd dX5_mayBe_70 ?_
      refine x_iload dX5_mayBe_71 rfl ?_
      refine x_calliS dX5_mayBe_73 mk_X5_bitOfPulses ml_X5_206 (k_bitOf _ ((rOg (fun i => it (24 + f.toNat + i)) g m.toNat + 1) + 1) (m - rOg (fun i => it (24 + f.toNat + i)) g m.toNat) (by omega) (by omega)) rfl (fun x73 w73 h73 => ?_)
      obtain ⟨rfl, rfl⟩ := h73
      refine x_ior dX5_mayBe_76 (or_i _ _) ?_
      refine x_iload dX5_mayBe_77 rfl ?_
      refine x_iload dX5_mayBe_79 rfl ?_
      refine x_iconst dX5_mayBe_81 ?_
      refine x_iadd dX5_mayBe_82 ?_
      refine x_calliS dX5_mayBe_83 mk_X5_bitOfPulses ml_X5_206 (k_bitOf _ (rOg (fun i => it (24 + f.toNat + i)) g m.toNat + 1) ((m - rOg (fun i => it (24 + f.toNat + i)) g m.toNat) + 1) (by omega) (by omega)) rfl (fun x83 w83 h83 => ?_)
      obtain ⟨rfl, rfl⟩ := h83
      refine x_ior dX5_mayBe_86 (or_i _ _) ?_
      refine x_top (show _ = bits3 (lsa (fun i => it (24 + f.toNat + i)) g 0 m.toNat) (m + 1 - lsa (fun i => it (24 + f.toNat + i)) g 0 m.toNat) by unfold bits3; rw [show rOg (fun i => it (24 + f.toNat + i)) g m.toNat + 1 = lsa (fun i => it (24 + f.toNat + i)) g 0 m.toNat by omega, show m - rOg (fun i => it (24 + f.toNat + i)) g m.toNat = m + 1 - lsa (fun i => it (24 + f.toNat + i)) g 0 m.toNat by omega]) ?_
      refine x_ist10 dX5_mayBe_87 ?_
      refine x_iload dX5_mayBe_89 rfl ?_
      refine x_if_ne 99 dX5_mayBe_91 (fun h91 => ?_) (fun h91 => ?_) (ha := orI_R _ _)
      · refine x_iload dX5_mayBe_99 rfl ?_
        exact x_iret dX5_mayBe_101 (⟨by unfold rMay; rw [hhe, if_pos (show gcnt (fun i => it (24 + f.toNat + i)) g m.toNat = 1 by omega), if_neg (show ¬ (0 : Int) < 0 by decide), show gapA it 1 f m g = lsa (fun i => it (24 + f.toNat + i)) g 0 m.toNat from rfl, if_neg h91], ⟨t, so, st, td, sk, le, ot, sn, pk, rfl, hC⟩⟩)
      · refine x_bipush dX5_mayBe_94 ?_
        refine x_goto 101 dX5_mayBe_96 ?_
        exact x_iret dX5_mayBe_101 (⟨by unfold rMay; rw [hhe, if_pos (show gcnt (fun i => it (24 + f.toNat + i)) g m.toNat = 1 by omega), if_neg (show ¬ (0 : Int) < 0 by decide), show gapA it 1 f m g = lsa (fun i => it (24 + f.toNat + i)) g 0 m.toNat from rfl, if_pos h91], ⟨t, so, st, td, sk, le, ot, sn, pk, rfl, hC⟩⟩)
    · refine x_bipush dX5_mayBe_44 ?_
      exact x_iret dX5_mayBe_46 (⟨by unfold rMay; rw [hhe, if_neg (show ¬ gcnt (fun i => it (24 + f.toNat + i)) g m.toNat = 1 by omega), if_pos (show (-4 : Int) < 0 by decide)], ⟨t, so, st, td, sk, le, ot, sn, pk, rfl, hC⟩⟩)
  · refine x_iload dX5_mayBe_18 rfl ?_
    exact x_iret dX5_mayBe_20 (⟨by unfold rMay; rw [(hW.2.1 h15).1, if_pos (hW.2.1 h15).2], ⟨t, so, st, td, sk, le, ot, sn, pk, rfl, hC⟩⟩)
def rW2 (ln rs it : Nat → Int) (l f m g : Int) : Int := if 0 ≤ (2 : Int) ∧ (2 : Int) ≤ 3 ∧ 0 ≤ l ∧ l ≤ 2 ∧ 1 ≤ m ∧ m ≤ 20 ∧ 1 ≤ g ∧ g ≤ 999 then (if (if ln 2 = l then (if 0 ≤ f ∧ f ≤ rs 2 - m then (0 : Int) else -13) else (if 0 ≤ ln 2 then -12 else -11)) < 0 then (if ln 2 = l then (if 0 ≤ f ∧ f ≤ rs 2 - m then (0 : Int) else -13) else (if 0 ≤ ln 2 then -12 else -11)) else if rgt (fun i => it (48 + f.toNat + i)) m.toNat = 0 then -2 else 0) else -1
theorem rW2_h (ln rs it : Nat → Int) (l f m g : Int) : (rW2 ln rs it l f m g = 0 → (0 ≤ (2 : Int) ∧ (2 : Int) ≤ 3 ∧ 0 ≤ l ∧ l ≤ 2 ∧ 1 ≤ m ∧ m ≤ 20 ∧ 1 ≤ g ∧ g ≤ 999) ∧ ln 2 = l ∧ (0 ≤ f ∧ f ≤ rs 2 - m) ∧ rHear ln rs it 2 l f m g = (if gcnt (fun i => it (48 + f.toNat + i)) g m.toNat = 1 then 0 else -4)) ∧ (¬ rW2 ln rs it l f m g = 0 → rHear ln rs it 2 l f m g = rW2 ln rs it l f m g ∧ rW2 ln rs it l f m g < 0) ∧ inR (rW2 ln rs it l f m g) := by
  rw [show rHear ln rs it 2 l f m g = (if 0 ≤ (2 : Int) ∧ (2 : Int) ≤ 3 ∧ 0 ≤ l ∧ l ≤ 2 ∧ 1 ≤ m ∧ m ≤ 20 ∧ 1 ≤ g ∧ g ≤ 999 then (if (if ln 2 = l then (if 0 ≤ f ∧ f ≤ rs 2 - m then (0 : Int) else -13) else (if 0 ≤ ln 2 then -12 else -11)) < 0 then (if ln 2 = l then (if 0 ≤ f ∧ f ≤ rs 2 - m then (0 : Int) else -13) else (if 0 ≤ ln 2 then -12 else -11)) else if rgt (fun i => it (48 + f.toNat + i)) m.toNat = 0 then -2 else if gcnt (fun i => it (48 + f.toNat + i)) g m.toNat = 1 then 0 else -4) else -1) from rfl]
  unfold rW2
  have hg := gcnt_b (fun i => it (48 + f.toNat + i)) g m.toNat
  by_cases c1 : 0 ≤ (2 : Int) ∧ (2 : Int) ≤ 3 ∧ 0 ≤ l ∧ l ≤ 2 ∧ 1 ≤ m ∧ m ≤ 20 ∧ 1 ≤ g ∧ g ≤ 999
  · rw [if_pos c1, if_pos c1]
    by_cases c2 : ln 2 = l
    · rw [if_pos c2]
      by_cases c3 : 0 ≤ f ∧ f ≤ rs 2 - m
      · rw [if_pos c3, if_neg (show ¬ (0 : Int) < 0 by decide), if_neg (show ¬ (0 : Int) < 0 by decide)]
        by_cases c4 : rgt (fun i => it (48 + f.toNat + i)) m.toNat = 0
        · rw [if_pos c4, if_pos c4]; refine ⟨fun h => by omega, fun _ => ⟨rfl, by decide⟩, by decide⟩
        · rw [if_neg c4, if_neg c4]; exact ⟨fun _ => ⟨c1, c2, c3, rfl⟩, fun h => absurd rfl h, by decide⟩
      · rw [if_neg c3, if_pos (show (-13 : Int) < 0 by decide), if_pos (show (-13 : Int) < 0 by decide)]; exact ⟨fun h => by omega, fun _ => ⟨rfl, by decide⟩, by decide⟩
    · rw [if_neg c2]
      split
      · rw [if_pos (show (-12 : Int) < 0 by decide), if_pos (show (-12 : Int) < 0 by decide)]; exact ⟨fun h => by omega, fun _ => ⟨rfl, by decide⟩, by decide⟩
      · rw [if_pos (show (-11 : Int) < 0 by decide), if_pos (show (-11 : Int) < 0 by decide)]; exact ⟨fun h => by omega, fun _ => ⟨rfl, by decide⟩, by decide⟩
  · rw [if_neg c1, if_neg c1]; exact ⟨fun h => by omega, fun _ => ⟨rfl, by decide⟩, by decide⟩
set_option maxRecDepth 100000 in
set_option maxHeartbeats 4000000 in
theorem b_wire2 {P : AW} {a : Nat} (hP : P.length = a) (ik : Int) (z y t so st : Nat → Int) (td sk le ot sn pk : Int) (d1 d2 d3 d4 : AC) (ln rs it : Nat → Int) (R : AW) (hSh : SH ln rs it) (hC : CI z td sk so st le ot sn pk) (l f m g : Int) (hil : inR l) (hif : inR f) (him : inR m) (hig : inR g) : CTi I_X5_wireRefusal 0 0 [.ref (a + 0), .int (iI 2), .int (iI l), .int (iI f), .int (iI m), .int (iI g)] (P ++ bx a ik z y t so st td sk le ot sn pk (d1 :: d2 :: d3 :: d4 :: shF a (ln) (rs) (it) R)) (fun x w' => x = rW2 ln rs it l f m g ∧ w' = P ++ bx a ik z y t so st td sk le ot sn pk (d1 :: d2 :: d3 :: d4 :: shF a (ln) (rs) (it) R)) := by
  have hl := lq_b (hSh.1 2)
  have hln := hSh.1 2
  have hrs := hSh.2.1 2
  refine CT_of 1 rfl (Nat.le_of_ble_eq_true rfl) ?_
  show EX I_X5_wireRefusal 0 0 none _ 0 [some (.ref (a + 0)), some (.int (iI 2)), some (.int (iI l)), some (.int (iI f)), some (.int (iI m)), some (.int (iI g)), none] [] _ 0 0
  refine x_iload_n dX5_wireRefusal_0 rfl ?_
  refine x_iload_n dX5_wireRefusal_1 rfl ?_
  refine x_calliS dX5_wireRefusal_2 mk_X5_isSheetOfLane ml_X5_209 (k_isSL _ 2 l (by decide) hil) rfl (fun x2 w2 h2 => ?_)
  obtain ⟨hb2, rfl⟩ := h2
  by_cases c2 : 0 ≤ (2 : Int) ∧ (2 : Int) ≤ 3 ∧ 0 ≤ l ∧ l ≤ 2
  · rw [if_pos c2] at hb2
    subst hb2
    refine x_if_eq 31 dX5_wireRefusal_5 (fun h5 => absurd h5 (by decide)) (fun h5 => ?_)
    refine x_iload dX5_wireRefusal_8 rfl ?_
    refine x_iconst dX5_wireRefusal_10 ?_
    refine x_bipush dX5_wireRefusal_11 ?_
    refine x_calliS dX5_wireRefusal_13 mk_X5_within ml_X5_54 (k_within _ m 1 20 him (by decide) (by decide)) rfl (fun x13 w13 h13 => ?_)
    obtain ⟨hb13, rfl⟩ := h13
    by_cases c13 : 1 ≤ m ∧ m ≤ 20
    · rw [if_pos c13] at hb13
      subst hb13
      refine x_if_eq 31 dX5_wireRefusal_16 (fun h16 => absurd h16 (by decide)) (fun h16 => ?_)
      refine x_iload dX5_wireRefusal_19 rfl ?_
      refine x_iconst dX5_wireRefusal_21 ?_
      refine x_sipush dX5_wireRefusal_22 ?_
      refine x_calliS dX5_wireRefusal_25 mk_X5_within ml_X5_54 (k_within _ g 1 999 hig (by decide) (by decide)) rfl (fun x25 w25 h25 => ?_)
      obtain ⟨hb25, rfl⟩ := h25
      by_cases c25 : 1 ≤ g ∧ g ≤ 999
      · rw [if_pos c25] at hb25
        subst hb25
        refine x_if_ne 33 dX5_wireRefusal_28 (fun h28 => ?_) (fun h28 => absurd h28 (by decide))
        refine x_aload_n dX5_wireRefusal_33 rfl ?_
        refine x_getfield 0 dX5_wireRefusal_34 fg_X5_49 hP rfl rfl ?_
        refine x_iload_n dX5_wireRefusal_37 rfl ?_
        refine x_aaload 25 (2) dX5_wireRefusal_38 hP rfl (rfl) ?_
        refine x_iload_n dX5_wireRefusal_39 rfl ?_
        refine x_calliV dX5_wireRefusal_40 mk_X1_refusalAs ml_X5_213 (s2_refusalAs hP ik z y t so st td sk le ot sn pk d1 d2 d3 d4 (lq (ln 0)) (rs 0) (fun i => it (0 + i)) (lq (ln 1)) (rs 1) (fun i => it (24 + i)) (lq (ln 2)) (rs 2) (fun i => it (48 + i)) (lq (ln 3)) (rs 3) (fun i => it (72 + i)) R (by omega) l hil) ((wg_app hP 30).trans rfl) rfl (fun x40 w40 h40 => ?_)
        obtain ⟨rfl, rfl⟩ := h40
        refine x_ist6 dX5_wireRefusal_43 ?_
        refine x_iload dX5_wireRefusal_45 rfl ?_
        refine x_if_eq 53 dX5_wireRefusal_47 (fun h47 => ?_) (fun h47 => ?_) (ha := by (repeat' split) <;> omega)
        · have hll : lq (ln 2) = l ∧ ln 2 = l := by (repeat' split at h47) <;> omega
          refine x_iload_n dX5_wireRefusal_53 rfl ?_
          refine x_if_lt 73 dX5_wireRefusal_54 (fun h54 => ?_) (fun h54 => ?_)
          · refine x_bipush dX5_wireRefusal_73 ?_
            exact x_iret dX5_wireRefusal_75 (⟨by unfold rW2; (repeat' split) <;> first | rfl | omega | (exfalso; omega), rfl⟩)
          · refine x_iload_n dX5_wireRefusal_57 rfl ?_
            refine x_aload_n dX5_wireRefusal_58 rfl ?_
            refine x_getfield 0 dX5_wireRefusal_59 fg_X5_49 hP rfl rfl ?_
            refine x_iload_n dX5_wireRefusal_62 rfl ?_
            refine x_aaload 25 (2) dX5_wireRefusal_63 hP rfl (rfl) ?_
            refine x_getfield 30 dX5_wireRefusal_64 fg_X5_216 hP rfl rfl ?_
            refine x_iload dX5_wireRefusal_67 rfl ?_
            refine x_isub dX5_wireRefusal_69 ?_
            refine x_icmp_le 76 dX5_wireRefusal_70 (fun h70 => ?_) (fun h70 => ?_) (hb := by omega)
            · refine x_aload_n dX5_wireRefusal_76 rfl ?_
              refine x_getfield 0 dX5_wireRefusal_77 fg_X5_49 hP rfl rfl ?_
              refine x_iload_n dX5_wireRefusal_80 rfl ?_
              refine x_aaload 25 (2) dX5_wireRefusal_81 hP rfl (rfl) ?_
              refine x_iload_n dX5_wireRefusal_82 rfl ?_
              refine x_iload dX5_wireRefusal_83 rfl ?_
              refine x_calliV dX5_wireRefusal_85 mk_X1_areTimes ml_X5_219 (s2_areTimes hP ik z y t so st td sk le ot sn pk d1 d2 d3 d4 (lq (ln 0)) (rs 0) (fun i => it (0 + i)) (lq (ln 1)) (rs 1) (fun i => it (24 + i)) (lq (ln 2)) (rs 2) (fun i => it (48 + i)) (lq (ln 3)) (rs 3) (fun i => it (72 + i)) R (fun i => hSh.2.2 _) f m (by omega) (by omega) (by omega)) ((wg_app hP 30).trans rfl) rfl (fun x85 w85 h85 => ?_)
              obtain ⟨rfl, rfl⟩ := h85
              refine x_top (show _ = rgt (fun i => it (48 + f.toNat + i)) m.toNat from congrArg (fun q => rgt q m.toNat) (addf it 48 f.toNat)) ?_
              have hr01 := rgt_01 (fun i => it (48 + f.toNat + i)) m.toNat
              refine x_if_eq 95 dX5_wireRefusal_88 (fun h88 => ?_) (fun h88 => ?_) (ha := by omega)
              · refine x_bipush dX5_wireRefusal_95 ?_
                exact x_iret dX5_wireRefusal_97 (⟨by unfold rW2; (repeat' split) <;> first | rfl | omega | (exfalso; omega), rfl⟩)
              · refine x_iconst dX5_wireRefusal_91 ?_
                refine x_goto 97 dX5_wireRefusal_92 ?_
                exact x_iret dX5_wireRefusal_97 (⟨by unfold rW2; (repeat' split) <;> first | rfl | omega | (exfalso; omega), rfl⟩)
            · refine x_bipush dX5_wireRefusal_73 ?_
              exact x_iret dX5_wireRefusal_75 (⟨by unfold rW2; (repeat' split) <;> first | rfl | omega | (exfalso; omega), rfl⟩)
        · refine x_iload dX5_wireRefusal_50 rfl ?_
          exact x_iret dX5_wireRefusal_52 (⟨by unfold rW2; (repeat' split) <;> first | rfl | omega | (exfalso; omega), rfl⟩)
      · rw [if_neg c25] at hb25
        subst hb25
        refine x_if_ne 33 dX5_wireRefusal_28 (fun h28 => absurd h28 (by decide)) (fun h28 => ?_)
        refine x_iconst dX5_wireRefusal_31 ?_
        exact x_iret dX5_wireRefusal_32 (⟨by unfold rW2; (repeat' split) <;> first | rfl | omega | (exfalso; omega), rfl⟩)
    · rw [if_neg c13] at hb13
      subst hb13
      refine x_if_eq 31 dX5_wireRefusal_16 (fun h16 => ?_) (fun h16 => absurd h16 (by decide))
      refine x_iconst dX5_wireRefusal_31 ?_
      exact x_iret dX5_wireRefusal_32 (⟨by unfold rW2; (repeat' split) <;> first | rfl | omega | (exfalso; omega), rfl⟩)
  · rw [if_neg c2] at hb2
    subst hb2
    refine x_if_eq 31 dX5_wireRefusal_5 (fun h5 => ?_) (fun h5 => absurd h5 (by decide))
    refine x_iconst dX5_wireRefusal_31 ?_
    exact x_iret dX5_wireRefusal_32 (⟨by unfold rW2; (repeat' split) <;> first | rfl | omega | (exfalso; omega), rfl⟩)
set_option maxRecDepth 100000 in
set_option maxHeartbeats 4000000 in
theorem b_heard2 {P : AW} {a : Nat} (hP : P.length = a) (ik : Int) (z y t so st : Nat → Int) (td sk le ot sn pk : Int) (d1 d2 d3 d4 : AC) (ln rs it : Nat → Int) (R : AW) (hSh : SH ln rs it) (hC : CI z td sk so st le ot sn pk) (l f m g : Int) (hil : inR l) (hif : inR f) (him : inR m) (hig : inR g) : CTi I_X5_heard 0 0 [.ref (a + 0), .int (iI 2), .int (iI l), .int (iI f), .int (iI m), .int (iI g)] (P ++ bx a ik z y t so st td sk le ot sn pk (d1 :: d2 :: d3 :: d4 :: shF a (ln) (rs) (it) R)) (fun x w' => x = rHeard ln rs it 2 l f m g ∧ BI P a ik z y (d1 :: d2 :: d3 :: d4 :: shF a (ln) (rs) (it) R) w') := by
  have hl := lq_b (hSh.1 2)
  have hln := hSh.1 2
  have hrs := hSh.2.1 2
  refine CT_of 2 rfl (Nat.le_of_ble_eq_true rfl) ?_
  show EX I_X5_heard 0 0 none _ 0 [some (.ref (a + 0)), some (.int (iI 2)), some (.int (iI l)), some (.int (iI f)), some (.int (iI m)), some (.int (iI g)), none, none] [] _ 0 0
  refine x_aload_n dX5_heard_0 rfl ?_
  refine x_iload_n dX5_heard_1 rfl ?_
  refine x_iload_n dX5_heard_2 rfl ?_
  refine x_iload_n dX5_heard_3 rfl ?_
  refine x_iload dX5_heard_4 rfl ?_
  refine x_iload dX5_heard_6 rfl ?_
  refine x_calliV dX5_heard_8 mk_X5_wireRefusal ml_X5_195 (b_wire2 hP ik z y t so st td sk le ot sn pk d1 d2 d3 d4 ln rs it R hSh hC l f m g hil hif him hig) ((wg_app hP 0).trans rfl) rfl (fun x8 w8 h8 => ?_)
  obtain ⟨rfl, rfl⟩ := h8
  have hW := rW2_h ln rs it l f m g
  refine x_ist6 dX5_heard_11 ?_
  refine x_iload dX5_heard_13 rfl ?_
  refine x_if_eq 21 dX5_heard_15 (fun h15 => ?_) (fun h15 => ?_) (ha := hW.2.2)
  · obtain ⟨hcd, hll, hfr, hhe⟩ := hW.1 h15
    refine x_aload_n dX5_heard_21 rfl ?_
    refine x_getfield 0 dX5_heard_22 fg_X5_49 hP rfl rfl ?_
    refine x_iload_n dX5_heard_25 rfl ?_
    refine x_aaload 25 (2) dX5_heard_26 hP rfl (rfl) ?_
    refine x_iload_n dX5_heard_27 rfl ?_
    refine x_iload dX5_heard_28 rfl ?_
    refine x_iload dX5_heard_30 rfl ?_
    refine x_calliV dX5_heard_32 mk_X1_onlyGap ml_X5_199 (s2_onlyGap hP ik z y t so st td sk le ot sn pk d1 d2 d3 d4 (lq (ln 0)) (rs 0) (fun i => it (0 + i)) (lq (ln 1)) (rs 1) (fun i => it (24 + i)) (lq (ln 2)) (rs 2) (fun i => it (48 + i)) (lq (ln 3)) (rs 3) (fun i => it (72 + i)) R (fun i => hSh.2.2 _) f m g (by omega) (by omega) (by omega) (by omega)) ((wg_app hP 30).trans rfl) rfl (fun x32 w32 h32 => ?_)
    obtain ⟨rfl, rfl⟩ := h32
    refine x_top (show _ = rOg (fun i => it (48 + f.toNat + i)) g m.toNat from congrArg (fun q => rOg q g m.toNat) (addf it 48 f.toNat)) ?_
    have hog := og_a (fun i => it (48 + f.toNat + i)) g m.toNat
    have hlb := lsa_b (fun i => it (48 + f.toNat + i)) g 0 m.toNat
    have hro : (rOg (fun i => it (48 + f.toNat + i)) g m.toNat = -4 ∧ ¬ gcnt (fun i => it (48 + f.toNat + i)) g m.toNat = 1) ∨ (rOg (fun i => it (48 + f.toNat + i)) g m.toNat + 1 = lsa (fun i => it (48 + f.toNat + i)) g 0 m.toNat ∧ 0 ≤ rOg (fun i => it (48 + f.toNat + i)) g m.toNat ∧ gcnt (fun i => it (48 + f.toNat + i)) g m.toNat = 1) := by unfold rOg; split <;> omega
    refine x_ist7 dX5_heard_35 ?_
    refine x_iload dX5_heard_37 rfl ?_
    refine x_bipush dX5_heard_39 ?_
    refine x_icmp_ne 49 dX5_heard_41 (fun h41 => ?_) (fun h41 => ?_) (ha := by omega)
    · refine x_iload dX5_heard_49 rfl ?_
      refine x_iconst dX5_heard_51 ?_
      refine x_iadd dX5_heard_52 ?_
      refine x_iload dX5_heard_53 rfl ?_
      refine x_iload dX5_heard_55 rfl ?_
      refine x_isub dX5_heard_57 ?_
      refine x_calliS dX5_heard_58 mk_X5_songOfPulses ml_X5_203 (k_songOf _ (rOg (fun i => it (48 + f.toNat + i)) g m.toNat + 1) (m - rOg (fun i => it (48 + f.toNat + i)) g m.toNat) (by omega) (by omega)) rfl (fun x58 w58 h58 => ?_)
      obtain ⟨rfl, rfl⟩ := h58
      exact x_iret dX5_heard_61 (⟨by unfold rHeard; rw [hhe, if_pos (show gcnt (fun i => it (48 + f.toNat + i)) g m.toNat = 1 by omega), if_neg (show ¬ (0 : Int) < 0 by decide), show gapA it 2 f m g = lsa (fun i => it (48 + f.toNat + i)) g 0 m.toNat from rfl, show rOg (fun i => it (48 + f.toNat + i)) g m.toNat + 1 = lsa (fun i => it (48 + f.toNat + i)) g 0 m.toNat by omega, show m - rOg (fun i => it (48 + f.toNat + i)) g m.toNat = m + 1 - lsa (fun i => it (48 + f.toNat + i)) g 0 m.toNat by omega], ⟨t, so, st, td, sk, le, ot, sn, pk, rfl, hC⟩⟩)
    · refine x_bipush dX5_heard_44 ?_
      refine x_goto 61 dX5_heard_46 ?_
      exact x_iret dX5_heard_61 (⟨by unfold rHeard; rw [hhe, if_neg (show ¬ gcnt (fun i => it (48 + f.toNat + i)) g m.toNat = 1 by omega), if_pos (show (-4 : Int) < 0 by decide)], ⟨t, so, st, td, sk, le, ot, sn, pk, rfl, hC⟩⟩)
  · refine x_iload dX5_heard_18 rfl ?_
    exact x_iret dX5_heard_20 (⟨by unfold rHeard; rw [(hW.2.1 h15).1, if_pos (hW.2.1 h15).2], ⟨t, so, st, td, sk, le, ot, sn, pk, rfl, hC⟩⟩)
set_option maxRecDepth 100000 in
set_option maxHeartbeats 4000000 in
theorem b_mayBe2 {P : AW} {a : Nat} (hP : P.length = a) (ik : Int) (z y t so st : Nat → Int) (td sk le ot sn pk : Int) (d1 d2 d3 d4 : AC) (ln rs it : Nat → Int) (R : AW) (hSh : SH ln rs it) (hC : CI z td sk so st le ot sn pk) (l f m g : Int) (hil : inR l) (hif : inR f) (him : inR m) (hig : inR g) : CTi I_X5_mayBe 0 0 [.ref (a + 0), .int (iI 2), .int (iI l), .int (iI f), .int (iI m), .int (iI g)] (P ++ bx a ik z y t so st td sk le ot sn pk (d1 :: d2 :: d3 :: d4 :: shF a (ln) (rs) (it) R)) (fun x w' => x = rMay ln rs it 2 l f m g ∧ BI P a ik z y (d1 :: d2 :: d3 :: d4 :: shF a (ln) (rs) (it) R) w') := by
  have hl := lq_b (hSh.1 2)
  have hln := hSh.1 2
  have hrs := hSh.2.1 2
  refine CT_of 5 rfl (Nat.le_of_ble_eq_true rfl) ?_
  show EX I_X5_mayBe 0 0 none _ 0 [some (.ref (a + 0)), some (.int (iI 2)), some (.int (iI l)), some (.int (iI f)), some (.int (iI m)), some (.int (iI g)), none, none, none, none, none] [] _ 0 0
  refine x_aload_n dX5_mayBe_0 rfl ?_
  refine x_iload_n dX5_mayBe_1 rfl ?_
  refine x_iload_n dX5_mayBe_2 rfl ?_
  refine x_iload_n dX5_mayBe_3 rfl ?_
  refine x_iload dX5_mayBe_4 rfl ?_
  refine x_iload dX5_mayBe_6 rfl ?_
  refine x_calliV dX5_mayBe_8 mk_X5_wireRefusal ml_X5_195 (b_wire2 hP ik z y t so st td sk le ot sn pk d1 d2 d3 d4 ln rs it R hSh hC l f m g hil hif him hig) ((wg_app hP 0).trans rfl) rfl (fun x8 w8 h8 => ?_)
  obtain ⟨rfl, rfl⟩ := h8
  have hW := rW2_h ln rs it l f m g
  refine x_ist6 dX5_mayBe_11 ?_
  refine x_iload dX5_mayBe_13 rfl ?_
  refine x_if_eq 21 dX5_mayBe_15 (fun h15 => ?_) (fun h15 => ?_) (ha := hW.2.2)
  · obtain ⟨hcd, hll, hfr, hhe⟩ := hW.1 h15
    refine x_aload_n dX5_mayBe_21 rfl ?_
    refine x_getfield 0 dX5_mayBe_22 fg_X5_49 hP rfl rfl ?_
    refine x_iload_n dX5_mayBe_25 rfl ?_
    refine x_aaload 25 (2) dX5_mayBe_26 hP rfl (rfl) ?_
    refine x_iload_n dX5_mayBe_27 rfl ?_
    refine x_iload dX5_mayBe_28 rfl ?_
    refine x_iload dX5_mayBe_30 rfl ?_
    refine x_calliV dX5_mayBe_32 mk_X1_onlyGap ml_X5_199 (s2_onlyGap hP ik z y t so st td sk le ot sn pk d1 d2 d3 d4 (lq (ln 0)) (rs 0) (fun i => it (0 + i)) (lq (ln 1)) (rs 1) (fun i => it (24 + i)) (lq (ln 2)) (rs 2) (fun i => it (48 + i)) (lq (ln 3)) (rs 3) (fun i => it (72 + i)) R (fun i => hSh.2.2 _) f m g (by omega) (by omega) (by omega) (by omega)) ((wg_app hP 30).trans rfl) rfl (fun x32 w32 h32 => ?_)
    obtain ⟨rfl, rfl⟩ := h32
    refine x_top (show _ = rOg (fun i => it (48 + f.toNat + i)) g m.toNat from congrArg (fun q => rOg q g m.toNat) (addf it 48 f.toNat)) ?_
    have hog := og_a (fun i => it (48 + f.toNat + i)) g m.toNat
    have hlb := lsa_b (fun i => it (48 + f.toNat + i)) g 0 m.toNat
    have hro : (rOg (fun i => it (48 + f.toNat + i)) g m.toNat = -4 ∧ ¬ gcnt (fun i => it (48 + f.toNat + i)) g m.toNat = 1) ∨ (rOg (fun i => it (48 + f.toNat + i)) g m.toNat + 1 = lsa (fun i => it (48 + f.toNat + i)) g 0 m.toNat ∧ 0 ≤ rOg (fun i => it (48 + f.toNat + i)) g m.toNat ∧ gcnt (fun i => it (48 + f.toNat + i)) g m.toNat = 1) := by unfold rOg; split <;> omega
    refine x_ist7 dX5_mayBe_35 ?_
    refine x_iload dX5_mayBe_37 rfl ?_
    refine x_bipush dX5_mayBe_39 ?_
    refine x_icmp_ne 47 dX5_mayBe_41 (fun h41 => ?_) (fun h41 => ?_) (ha := by omega)
    · refine x_iload dX5_mayBe_47 rfl ?_
      refine x_iconst dX5_mayBe_49 ?_
      refine x_iadd dX5_mayBe_50 ?_
      refine x_ist8 dX5_mayBe_51 ?_
      refine x_iload dX5_mayBe_53 rfl ?_
      refine x_iload dX5_mayBe_55 rfl ?_
      refine x_isub dX5_mayBe_57 ?_
      refine x_ist9 dX5_mayBe_58 ?_
      refine x_iload dX5_mayBe_60 rfl ?_
      refine x_iload dX5_mayBe_62 rfl ?_
      refine x_calliS dX5_mayBe_64 mk_X5_bitOfPulses ml_X5_206 (k_bitOf _ (rOg (fun i => it (48 + f.toNat + i)) g m.toNat + 1) (m - rOg (fun i => it (48 + f.toNat + i)) g m.toNat) (by omega) (by omega)) rfl (fun x64 w64 h64 => ?_)
      obtain ⟨rfl, rfl⟩ := h64
      refine x_iload dX5_mayBe_67 rfl ?_
      refine x_iconst dX5_mayBe_69 ?_
      refine x_iadd dX5_mayBe_70 ?_
      refine x_iload dX5_mayBe_71 rfl ?_
      refine x_calliS dX5_mayBe_73 mk_X5_bitOfPulses ml_X5_206 (k_bitOf _ ((rOg (fun i => it (48 + f.toNat + i)) g m.toNat + 1) + 1) (m - rOg (fun i => it (48 + f.toNat + i)) g m.toNat) (by omega) (by omega)) rfl (fun x73 w73 h73 => ?_)
      obtain ⟨rfl, rfl⟩ := h73
      refine x_ior dX5_mayBe_76 (or_i _ _) ?_
      refine x_iload dX5_mayBe_77 rfl ?_
      refine x_iload dX5_mayBe_79 rfl ?_
      refine x_iconst dX5_mayBe_81 ?_
      refine x_iadd dX5_mayBe_82 ?_
      refine x_calliS dX5_mayBe_83 mk_X5_bitOfPulses ml_X5_206 (k_bitOf _ (rOg (fun i => it (48 + f.toNat + i)) g m.toNat + 1) ((m - rOg (fun i => it (48 + f.toNat + i)) g m.toNat) + 1) (by omega) (by omega)) rfl (fun x83 w83 h83 => ?_)
      obtain ⟨rfl, rfl⟩ := h83
      refine x_ior dX5_mayBe_86 (or_i _ _) ?_
      refine x_top (show _ = bits3 (lsa (fun i => it (48 + f.toNat + i)) g 0 m.toNat) (m + 1 - lsa (fun i => it (48 + f.toNat + i)) g 0 m.toNat) by unfold bits3; rw [show rOg (fun i => it (48 + f.toNat + i)) g m.toNat + 1 = lsa (fun i => it (48 + f.toNat + i)) g 0 m.toNat by omega, show m - rOg (fun i => it (48 + f.toNat + i)) g m.toNat = m + 1 - lsa (fun i => it (48 + f.toNat + i)) g 0 m.toNat by omega]) ?_
      refine x_ist10 dX5_mayBe_87 ?_
      refine x_iload dX5_mayBe_89 rfl ?_
      refine x_if_ne 99 dX5_mayBe_91 (fun h91 => ?_) (fun h91 => ?_) (ha := orI_R _ _)
      · refine x_iload dX5_mayBe_99 rfl ?_
        exact x_iret dX5_mayBe_101 (⟨by unfold rMay; rw [hhe, if_pos (show gcnt (fun i => it (48 + f.toNat + i)) g m.toNat = 1 by omega), if_neg (show ¬ (0 : Int) < 0 by decide), show gapA it 2 f m g = lsa (fun i => it (48 + f.toNat + i)) g 0 m.toNat from rfl, if_neg h91], ⟨t, so, st, td, sk, le, ot, sn, pk, rfl, hC⟩⟩)
      · refine x_bipush dX5_mayBe_94 ?_
        refine x_goto 101 dX5_mayBe_96 ?_
        exact x_iret dX5_mayBe_101 (⟨by unfold rMay; rw [hhe, if_pos (show gcnt (fun i => it (48 + f.toNat + i)) g m.toNat = 1 by omega), if_neg (show ¬ (0 : Int) < 0 by decide), show gapA it 2 f m g = lsa (fun i => it (48 + f.toNat + i)) g 0 m.toNat from rfl, if_pos h91], ⟨t, so, st, td, sk, le, ot, sn, pk, rfl, hC⟩⟩)
    · refine x_bipush dX5_mayBe_44 ?_
      exact x_iret dX5_mayBe_46 (⟨by unfold rMay; rw [hhe, if_neg (show ¬ gcnt (fun i => it (48 + f.toNat + i)) g m.toNat = 1 by omega), if_pos (show (-4 : Int) < 0 by decide)], ⟨t, so, st, td, sk, le, ot, sn, pk, rfl, hC⟩⟩)
  · refine x_iload dX5_mayBe_18 rfl ?_
    exact x_iret dX5_mayBe_20 (⟨by unfold rMay; rw [(hW.2.1 h15).1, if_pos (hW.2.1 h15).2], ⟨t, so, st, td, sk, le, ot, sn, pk, rfl, hC⟩⟩)
def rW3 (ln rs it : Nat → Int) (l f m g : Int) : Int := if 0 ≤ (3 : Int) ∧ (3 : Int) ≤ 3 ∧ 0 ≤ l ∧ l ≤ 2 ∧ 1 ≤ m ∧ m ≤ 20 ∧ 1 ≤ g ∧ g ≤ 999 then (if (if ln 3 = l then (if 0 ≤ f ∧ f ≤ rs 3 - m then (0 : Int) else -13) else (if 0 ≤ ln 3 then -12 else -11)) < 0 then (if ln 3 = l then (if 0 ≤ f ∧ f ≤ rs 3 - m then (0 : Int) else -13) else (if 0 ≤ ln 3 then -12 else -11)) else if rgt (fun i => it (72 + f.toNat + i)) m.toNat = 0 then -2 else 0) else -1
theorem rW3_h (ln rs it : Nat → Int) (l f m g : Int) : (rW3 ln rs it l f m g = 0 → (0 ≤ (3 : Int) ∧ (3 : Int) ≤ 3 ∧ 0 ≤ l ∧ l ≤ 2 ∧ 1 ≤ m ∧ m ≤ 20 ∧ 1 ≤ g ∧ g ≤ 999) ∧ ln 3 = l ∧ (0 ≤ f ∧ f ≤ rs 3 - m) ∧ rHear ln rs it 3 l f m g = (if gcnt (fun i => it (72 + f.toNat + i)) g m.toNat = 1 then 0 else -4)) ∧ (¬ rW3 ln rs it l f m g = 0 → rHear ln rs it 3 l f m g = rW3 ln rs it l f m g ∧ rW3 ln rs it l f m g < 0) ∧ inR (rW3 ln rs it l f m g) := by
  rw [show rHear ln rs it 3 l f m g = (if 0 ≤ (3 : Int) ∧ (3 : Int) ≤ 3 ∧ 0 ≤ l ∧ l ≤ 2 ∧ 1 ≤ m ∧ m ≤ 20 ∧ 1 ≤ g ∧ g ≤ 999 then (if (if ln 3 = l then (if 0 ≤ f ∧ f ≤ rs 3 - m then (0 : Int) else -13) else (if 0 ≤ ln 3 then -12 else -11)) < 0 then (if ln 3 = l then (if 0 ≤ f ∧ f ≤ rs 3 - m then (0 : Int) else -13) else (if 0 ≤ ln 3 then -12 else -11)) else if rgt (fun i => it (72 + f.toNat + i)) m.toNat = 0 then -2 else if gcnt (fun i => it (72 + f.toNat + i)) g m.toNat = 1 then 0 else -4) else -1) from rfl]
  unfold rW3
  have hg := gcnt_b (fun i => it (72 + f.toNat + i)) g m.toNat
  by_cases c1 : 0 ≤ (3 : Int) ∧ (3 : Int) ≤ 3 ∧ 0 ≤ l ∧ l ≤ 2 ∧ 1 ≤ m ∧ m ≤ 20 ∧ 1 ≤ g ∧ g ≤ 999
  · rw [if_pos c1, if_pos c1]
    by_cases c2 : ln 3 = l
    · rw [if_pos c2]
      by_cases c3 : 0 ≤ f ∧ f ≤ rs 3 - m
      · rw [if_pos c3, if_neg (show ¬ (0 : Int) < 0 by decide), if_neg (show ¬ (0 : Int) < 0 by decide)]
        by_cases c4 : rgt (fun i => it (72 + f.toNat + i)) m.toNat = 0
        · rw [if_pos c4, if_pos c4]; refine ⟨fun h => by omega, fun _ => ⟨rfl, by decide⟩, by decide⟩
        · rw [if_neg c4, if_neg c4]; exact ⟨fun _ => ⟨c1, c2, c3, rfl⟩, fun h => absurd rfl h, by decide⟩
      · rw [if_neg c3, if_pos (show (-13 : Int) < 0 by decide), if_pos (show (-13 : Int) < 0 by decide)]; exact ⟨fun h => by omega, fun _ => ⟨rfl, by decide⟩, by decide⟩
    · rw [if_neg c2]
      split
      · rw [if_pos (show (-12 : Int) < 0 by decide), if_pos (show (-12 : Int) < 0 by decide)]; exact ⟨fun h => by omega, fun _ => ⟨rfl, by decide⟩, by decide⟩
      · rw [if_pos (show (-11 : Int) < 0 by decide), if_pos (show (-11 : Int) < 0 by decide)]; exact ⟨fun h => by omega, fun _ => ⟨rfl, by decide⟩, by decide⟩
  · rw [if_neg c1, if_neg c1]; exact ⟨fun h => by omega, fun _ => ⟨rfl, by decide⟩, by decide⟩
set_option maxRecDepth 100000 in
set_option maxHeartbeats 4000000 in
theorem b_wire3 {P : AW} {a : Nat} (hP : P.length = a) (ik : Int) (z y t so st : Nat → Int) (td sk le ot sn pk : Int) (d1 d2 d3 d4 : AC) (ln rs it : Nat → Int) (R : AW) (hSh : SH ln rs it) (hC : CI z td sk so st le ot sn pk) (l f m g : Int) (hil : inR l) (hif : inR f) (him : inR m) (hig : inR g) : CTi I_X5_wireRefusal 0 0 [.ref (a + 0), .int (iI 3), .int (iI l), .int (iI f), .int (iI m), .int (iI g)] (P ++ bx a ik z y t so st td sk le ot sn pk (d1 :: d2 :: d3 :: d4 :: shF a (ln) (rs) (it) R)) (fun x w' => x = rW3 ln rs it l f m g ∧ w' = P ++ bx a ik z y t so st td sk le ot sn pk (d1 :: d2 :: d3 :: d4 :: shF a (ln) (rs) (it) R)) := by
  have hl := lq_b (hSh.1 3)
  have hln := hSh.1 3
  have hrs := hSh.2.1 3
  refine CT_of 1 rfl (Nat.le_of_ble_eq_true rfl) ?_
  show EX I_X5_wireRefusal 0 0 none _ 0 [some (.ref (a + 0)), some (.int (iI 3)), some (.int (iI l)), some (.int (iI f)), some (.int (iI m)), some (.int (iI g)), none] [] _ 0 0
  refine x_iload_n dX5_wireRefusal_0 rfl ?_
  refine x_iload_n dX5_wireRefusal_1 rfl ?_
  refine x_calliS dX5_wireRefusal_2 mk_X5_isSheetOfLane ml_X5_209 (k_isSL _ 3 l (by decide) hil) rfl (fun x2 w2 h2 => ?_)
  obtain ⟨hb2, rfl⟩ := h2
  by_cases c2 : 0 ≤ (3 : Int) ∧ (3 : Int) ≤ 3 ∧ 0 ≤ l ∧ l ≤ 2
  · rw [if_pos c2] at hb2
    subst hb2
    refine x_if_eq 31 dX5_wireRefusal_5 (fun h5 => absurd h5 (by decide)) (fun h5 => ?_)
    refine x_iload dX5_wireRefusal_8 rfl ?_
    refine x_iconst dX5_wireRefusal_10 ?_
    refine x_bipush dX5_wireRefusal_11 ?_
    refine x_calliS dX5_wireRefusal_13 mk_X5_within ml_X5_54 (k_within _ m 1 20 him (by decide) (by decide)) rfl (fun x13 w13 h13 => ?_)
    obtain ⟨hb13, rfl⟩ := h13
    by_cases c13 : 1 ≤ m ∧ m ≤ 20
    · rw [if_pos c13] at hb13
      subst hb13
      refine x_if_eq 31 dX5_wireRefusal_16 (fun h16 => absurd h16 (by decide)) (fun h16 => ?_)
      refine x_iload dX5_wireRefusal_19 rfl ?_
      refine x_iconst dX5_wireRefusal_21 ?_
      refine x_sipush dX5_wireRefusal_22 ?_
      refine x_calliS dX5_wireRefusal_25 mk_X5_within ml_X5_54 (k_within _ g 1 999 hig (by decide) (by decide)) rfl (fun x25 w25 h25 => ?_)
      obtain ⟨hb25, rfl⟩ := h25
      by_cases c25 : 1 ≤ g ∧ g ≤ 999
      · rw [if_pos c25] at hb25
        subst hb25
        refine x_if_ne 33 dX5_wireRefusal_28 (fun h28 => ?_) (fun h28 => absurd h28 (by decide))
        refine x_aload_n dX5_wireRefusal_33 rfl ?_
        refine x_getfield 0 dX5_wireRefusal_34 fg_X5_49 hP rfl rfl ?_
        refine x_iload_n dX5_wireRefusal_37 rfl ?_
        refine x_aaload 25 (3) dX5_wireRefusal_38 hP rfl (rfl) ?_
        refine x_iload_n dX5_wireRefusal_39 rfl ?_
        refine x_calliV dX5_wireRefusal_40 mk_X1_refusalAs ml_X5_213 (s3_refusalAs hP ik z y t so st td sk le ot sn pk d1 d2 d3 d4 (lq (ln 0)) (rs 0) (fun i => it (0 + i)) (lq (ln 1)) (rs 1) (fun i => it (24 + i)) (lq (ln 2)) (rs 2) (fun i => it (48 + i)) (lq (ln 3)) (rs 3) (fun i => it (72 + i)) R (by omega) l hil) ((wg_app hP 32).trans rfl) rfl (fun x40 w40 h40 => ?_)
        obtain ⟨rfl, rfl⟩ := h40
        refine x_ist6 dX5_wireRefusal_43 ?_
        refine x_iload dX5_wireRefusal_45 rfl ?_
        refine x_if_eq 53 dX5_wireRefusal_47 (fun h47 => ?_) (fun h47 => ?_) (ha := by (repeat' split) <;> omega)
        · have hll : lq (ln 3) = l ∧ ln 3 = l := by (repeat' split at h47) <;> omega
          refine x_iload_n dX5_wireRefusal_53 rfl ?_
          refine x_if_lt 73 dX5_wireRefusal_54 (fun h54 => ?_) (fun h54 => ?_)
          · refine x_bipush dX5_wireRefusal_73 ?_
            exact x_iret dX5_wireRefusal_75 (⟨by unfold rW3; (repeat' split) <;> first | rfl | omega | (exfalso; omega), rfl⟩)
          · refine x_iload_n dX5_wireRefusal_57 rfl ?_
            refine x_aload_n dX5_wireRefusal_58 rfl ?_
            refine x_getfield 0 dX5_wireRefusal_59 fg_X5_49 hP rfl rfl ?_
            refine x_iload_n dX5_wireRefusal_62 rfl ?_
            refine x_aaload 25 (3) dX5_wireRefusal_63 hP rfl (rfl) ?_
            refine x_getfield 32 dX5_wireRefusal_64 fg_X5_216 hP rfl rfl ?_
            refine x_iload dX5_wireRefusal_67 rfl ?_
            refine x_isub dX5_wireRefusal_69 ?_
            refine x_icmp_le 76 dX5_wireRefusal_70 (fun h70 => ?_) (fun h70 => ?_) (hb := by omega)
            · refine x_aload_n dX5_wireRefusal_76 rfl ?_
              refine x_getfield 0 dX5_wireRefusal_77 fg_X5_49 hP rfl rfl ?_
              refine x_iload_n dX5_wireRefusal_80 rfl ?_
              refine x_aaload 25 (3) dX5_wireRefusal_81 hP rfl (rfl) ?_
              refine x_iload_n dX5_wireRefusal_82 rfl ?_
              refine x_iload dX5_wireRefusal_83 rfl ?_
              refine x_calliV dX5_wireRefusal_85 mk_X1_areTimes ml_X5_219 (s3_areTimes hP ik z y t so st td sk le ot sn pk d1 d2 d3 d4 (lq (ln 0)) (rs 0) (fun i => it (0 + i)) (lq (ln 1)) (rs 1) (fun i => it (24 + i)) (lq (ln 2)) (rs 2) (fun i => it (48 + i)) (lq (ln 3)) (rs 3) (fun i => it (72 + i)) R (fun i => hSh.2.2 _) f m (by omega) (by omega) (by omega)) ((wg_app hP 32).trans rfl) rfl (fun x85 w85 h85 => ?_)
              obtain ⟨rfl, rfl⟩ := h85
              refine x_top (show _ = rgt (fun i => it (72 + f.toNat + i)) m.toNat from congrArg (fun q => rgt q m.toNat) (addf it 72 f.toNat)) ?_
              have hr01 := rgt_01 (fun i => it (72 + f.toNat + i)) m.toNat
              refine x_if_eq 95 dX5_wireRefusal_88 (fun h88 => ?_) (fun h88 => ?_) (ha := by omega)
              · refine x_bipush dX5_wireRefusal_95 ?_
                exact x_iret dX5_wireRefusal_97 (⟨by unfold rW3; (repeat' split) <;> first | rfl | omega | (exfalso; omega), rfl⟩)
              · refine x_iconst dX5_wireRefusal_91 ?_
                refine x_goto 97 dX5_wireRefusal_92 ?_
                exact x_iret dX5_wireRefusal_97 (⟨by unfold rW3; (repeat' split) <;> first | rfl | omega | (exfalso; omega), rfl⟩)
            · refine x_bipush dX5_wireRefusal_73 ?_
              exact x_iret dX5_wireRefusal_75 (⟨by unfold rW3; (repeat' split) <;> first | rfl | omega | (exfalso; omega), rfl⟩)
        · refine x_iload dX5_wireRefusal_50 rfl ?_
          exact x_iret dX5_wireRefusal_52 (⟨by unfold rW3; (repeat' split) <;> first | rfl | omega | (exfalso; omega), rfl⟩)
      · rw [if_neg c25] at hb25
        subst hb25
        refine x_if_ne 33 dX5_wireRefusal_28 (fun h28 => absurd h28 (by decide)) (fun h28 => ?_)
        refine x_iconst dX5_wireRefusal_31 ?_
        exact x_iret dX5_wireRefusal_32 (⟨by unfold rW3; (repeat' split) <;> first | rfl | omega | (exfalso; omega), rfl⟩)
    · rw [if_neg c13] at hb13
      subst hb13
      refine x_if_eq 31 dX5_wireRefusal_16 (fun h16 => ?_) (fun h16 => absurd h16 (by decide))
      refine x_iconst dX5_wireRefusal_31 ?_
      exact x_iret dX5_wireRefusal_32 (⟨by unfold rW3; (repeat' split) <;> first | rfl | omega | (exfalso; omega), rfl⟩)
  · rw [if_neg c2] at hb2
    subst hb2
    refine x_if_eq 31 dX5_wireRefusal_5 (fun h5 => ?_) (fun h5 => absurd h5 (by decide))
    refine x_iconst dX5_wireRefusal_31 ?_
    exact x_iret dX5_wireRefusal_32 (⟨by unfold rW3; (repeat' split) <;> first | rfl | omega | (exfalso; omega), rfl⟩)
set_option maxRecDepth 100000 in
set_option maxHeartbeats 4000000 in
theorem b_heard3 {P : AW} {a : Nat} (hP : P.length = a) (ik : Int) (z y t so st : Nat → Int) (td sk le ot sn pk : Int) (d1 d2 d3 d4 : AC) (ln rs it : Nat → Int) (R : AW) (hSh : SH ln rs it) (hC : CI z td sk so st le ot sn pk) (l f m g : Int) (hil : inR l) (hif : inR f) (him : inR m) (hig : inR g) : CTi I_X5_heard 0 0 [.ref (a + 0), .int (iI 3), .int (iI l), .int (iI f), .int (iI m), .int (iI g)] (P ++ bx a ik z y t so st td sk le ot sn pk (d1 :: d2 :: d3 :: d4 :: shF a (ln) (rs) (it) R)) (fun x w' => x = rHeard ln rs it 3 l f m g ∧ BI P a ik z y (d1 :: d2 :: d3 :: d4 :: shF a (ln) (rs) (it) R) w') := by
  have hl := lq_b (hSh.1 3)
  have hln := hSh.1 3
  have hrs := hSh.2.1 3
  refine CT_of 2 rfl (Nat.le_of_ble_eq_true rfl) ?_
  show EX I_X5_heard 0 0 none _ 0 [some (.ref (a + 0)), some (.int (iI 3)), some (.int (iI l)), some (.int (iI f)), some (.int (iI m)), some (.int (iI g)), none, none] [] _ 0 0
  refine x_aload_n dX5_heard_0 rfl ?_
  refine x_iload_n dX5_heard_1 rfl ?_
  refine x_iload_n dX5_heard_2 rfl ?_
  refine x_iload_n dX5_heard_3 rfl ?_
  refine x_iload dX5_heard_4 rfl ?_
  refine x_iload dX5_heard_6 rfl ?_
  refine x_calliV dX5_heard_8 mk_X5_wireRefusal ml_X5_195 (b_wire3 hP ik z y t so st td sk le ot sn pk d1 d2 d3 d4 ln rs it R hSh hC l f m g hil hif him hig) ((wg_app hP 0).trans rfl) rfl (fun x8 w8 h8 => ?_)
  obtain ⟨rfl, rfl⟩ := h8
  have hW := rW3_h ln rs it l f m g
  refine x_ist6 dX5_heard_11 ?_
  refine x_iload dX5_heard_13 rfl ?_
  refine x_if_eq 21 dX5_heard_15 (fun h15 => ?_) (fun h15 => ?_) (ha := hW.2.2)
  · obtain ⟨hcd, hll, hfr, hhe⟩ := hW.1 h15
    refine x_aload_n dX5_heard_21 rfl ?_
    refine x_getfield 0 dX5_heard_22 fg_X5_49 hP rfl rfl ?_
    refine x_iload_n dX5_heard_25 rfl ?_
    refine x_aaload 25 (3) dX5_heard_26 hP rfl (rfl) ?_
    refine x_iload_n dX5_heard_27 rfl ?_
    refine x_iload dX5_heard_28 rfl ?_
    refine x_iload dX5_heard_30 rfl ?_
    refine x_calliV dX5_heard_32 mk_X1_onlyGap ml_X5_199 (s3_onlyGap hP ik z y t so st td sk le ot sn pk d1 d2 d3 d4 (lq (ln 0)) (rs 0) (fun i => it (0 + i)) (lq (ln 1)) (rs 1) (fun i => it (24 + i)) (lq (ln 2)) (rs 2) (fun i => it (48 + i)) (lq (ln 3)) (rs 3) (fun i => it (72 + i)) R (fun i => hSh.2.2 _) f m g (by omega) (by omega) (by omega) (by omega)) ((wg_app hP 32).trans rfl) rfl (fun x32 w32 h32 => ?_)
    obtain ⟨rfl, rfl⟩ := h32
    refine x_top (show _ = rOg (fun i => it (72 + f.toNat + i)) g m.toNat from congrArg (fun q => rOg q g m.toNat) (addf it 72 f.toNat)) ?_
    have hog := og_a (fun i => it (72 + f.toNat + i)) g m.toNat
    have hlb := lsa_b (fun i => it (72 + f.toNat + i)) g 0 m.toNat
    have hro : (rOg (fun i => it (72 + f.toNat + i)) g m.toNat = -4 ∧ ¬ gcnt (fun i => it (72 + f.toNat + i)) g m.toNat = 1) ∨ (rOg (fun i => it (72 + f.toNat + i)) g m.toNat + 1 = lsa (fun i => it (72 + f.toNat + i)) g 0 m.toNat ∧ 0 ≤ rOg (fun i => it (72 + f.toNat + i)) g m.toNat ∧ gcnt (fun i => it (72 + f.toNat + i)) g m.toNat = 1) := by unfold rOg; split <;> omega
    refine x_ist7 dX5_heard_35 ?_
    refine x_iload dX5_heard_37 rfl ?_
    refine x_bipush dX5_heard_39 ?_
    refine x_icmp_ne 49 dX5_heard_41 (fun h41 => ?_) (fun h41 => ?_) (ha := by omega)
    · refine x_iload dX5_heard_49 rfl ?_
      refine x_iconst dX5_heard_51 ?_
      refine x_iadd dX5_heard_52 ?_
      refine x_iload dX5_heard_53 rfl ?_
      refine x_iload dX5_heard_55 rfl ?_
      refine x_isub dX5_heard_57 ?_
      refine x_calliS dX5_heard_58 mk_X5_songOfPulses ml_X5_203 (k_songOf _ (rOg (fun i => it (72 + f.toNat + i)) g m.toNat + 1) (m - rOg (fun i => it (72 + f.toNat + i)) g m.toNat) (by omega) (by omega)) rfl (fun x58 w58 h58 => ?_)
      obtain ⟨rfl, rfl⟩ := h58
      exact x_iret dX5_heard_61 (⟨by unfold rHeard; rw [hhe, if_pos (show gcnt (fun i => it (72 + f.toNat + i)) g m.toNat = 1 by omega), if_neg (show ¬ (0 : Int) < 0 by decide), show gapA it 3 f m g = lsa (fun i => it (72 + f.toNat + i)) g 0 m.toNat from rfl, show rOg (fun i => it (72 + f.toNat + i)) g m.toNat + 1 = lsa (fun i => it (72 + f.toNat + i)) g 0 m.toNat by omega, show m - rOg (fun i => it (72 + f.toNat + i)) g m.toNat = m + 1 - lsa (fun i => it (72 + f.toNat + i)) g 0 m.toNat by omega], ⟨t, so, st, td, sk, le, ot, sn, pk, rfl, hC⟩⟩)
    · refine x_bipush dX5_heard_44 ?_
      refine x_goto 61 dX5_heard_46 ?_
      exact x_iret dX5_heard_61 (⟨by unfold rHeard; rw [hhe, if_neg (show ¬ gcnt (fun i => it (72 + f.toNat + i)) g m.toNat = 1 by omega), if_pos (show (-4 : Int) < 0 by decide)], ⟨t, so, st, td, sk, le, ot, sn, pk, rfl, hC⟩⟩)
  · refine x_iload dX5_heard_18 rfl ?_
    exact x_iret dX5_heard_20 (⟨by unfold rHeard; rw [(hW.2.1 h15).1, if_pos (hW.2.1 h15).2], ⟨t, so, st, td, sk, le, ot, sn, pk, rfl, hC⟩⟩)
set_option maxRecDepth 100000 in
set_option maxHeartbeats 4000000 in
theorem b_mayBe3 {P : AW} {a : Nat} (hP : P.length = a) (ik : Int) (z y t so st : Nat → Int) (td sk le ot sn pk : Int) (d1 d2 d3 d4 : AC) (ln rs it : Nat → Int) (R : AW) (hSh : SH ln rs it) (hC : CI z td sk so st le ot sn pk) (l f m g : Int) (hil : inR l) (hif : inR f) (him : inR m) (hig : inR g) : CTi I_X5_mayBe 0 0 [.ref (a + 0), .int (iI 3), .int (iI l), .int (iI f), .int (iI m), .int (iI g)] (P ++ bx a ik z y t so st td sk le ot sn pk (d1 :: d2 :: d3 :: d4 :: shF a (ln) (rs) (it) R)) (fun x w' => x = rMay ln rs it 3 l f m g ∧ BI P a ik z y (d1 :: d2 :: d3 :: d4 :: shF a (ln) (rs) (it) R) w') := by
  have hl := lq_b (hSh.1 3)
  have hln := hSh.1 3
  have hrs := hSh.2.1 3
  refine CT_of 5 rfl (Nat.le_of_ble_eq_true rfl) ?_
  show EX I_X5_mayBe 0 0 none _ 0 [some (.ref (a + 0)), some (.int (iI 3)), some (.int (iI l)), some (.int (iI f)), some (.int (iI m)), some (.int (iI g)), none, none, none, none, none] [] _ 0 0
  refine x_aload_n dX5_mayBe_0 rfl ?_
  refine x_iload_n dX5_mayBe_1 rfl ?_
  refine x_iload_n dX5_mayBe_2 rfl ?_
  refine x_iload_n dX5_mayBe_3 rfl ?_
  refine x_iload dX5_mayBe_4 rfl ?_
  refine x_iload dX5_mayBe_6 rfl ?_
  refine x_calliV dX5_mayBe_8 mk_X5_wireRefusal ml_X5_195 (b_wire3 hP ik z y t so st td sk le ot sn pk d1 d2 d3 d4 ln rs it R hSh hC l f m g hil hif him hig) ((wg_app hP 0).trans rfl) rfl (fun x8 w8 h8 => ?_)
  obtain ⟨rfl, rfl⟩ := h8
  have hW := rW3_h ln rs it l f m g
  refine x_ist6 dX5_mayBe_11 ?_
  refine x_iload dX5_mayBe_13 rfl ?_
  refine x_if_eq 21 dX5_mayBe_15 (fun h15 => ?_) (fun h15 => ?_) (ha := hW.2.2)
  · obtain ⟨hcd, hll, hfr, hhe⟩ := hW.1 h15
    refine x_aload_n dX5_mayBe_21 rfl ?_
    refine x_getfield 0 dX5_mayBe_22 fg_X5_49 hP rfl rfl ?_
    refine x_iload_n dX5_mayBe_25 rfl ?_
    refine x_aaload 25 (3) dX5_mayBe_26 hP rfl (rfl) ?_
    refine x_iload_n dX5_mayBe_27 rfl ?_
    refine x_iload dX5_mayBe_28 rfl ?_
    refine x_iload dX5_mayBe_30 rfl ?_
    refine x_calliV dX5_mayBe_32 mk_X1_onlyGap ml_X5_199 (s3_onlyGap hP ik z y t so st td sk le ot sn pk d1 d2 d3 d4 (lq (ln 0)) (rs 0) (fun i => it (0 + i)) (lq (ln 1)) (rs 1) (fun i => it (24 + i)) (lq (ln 2)) (rs 2) (fun i => it (48 + i)) (lq (ln 3)) (rs 3) (fun i => it (72 + i)) R (fun i => hSh.2.2 _) f m g (by omega) (by omega) (by omega) (by omega)) ((wg_app hP 32).trans rfl) rfl (fun x32 w32 h32 => ?_)
    obtain ⟨rfl, rfl⟩ := h32
    refine x_top (show _ = rOg (fun i => it (72 + f.toNat + i)) g m.toNat from congrArg (fun q => rOg q g m.toNat) (addf it 72 f.toNat)) ?_
    have hog := og_a (fun i => it (72 + f.toNat + i)) g m.toNat
    have hlb := lsa_b (fun i => it (72 + f.toNat + i)) g 0 m.toNat
    have hro : (rOg (fun i => it (72 + f.toNat + i)) g m.toNat = -4 ∧ ¬ gcnt (fun i => it (72 + f.toNat + i)) g m.toNat = 1) ∨ (rOg (fun i => it (72 + f.toNat + i)) g m.toNat + 1 = lsa (fun i => it (72 + f.toNat + i)) g 0 m.toNat ∧ 0 ≤ rOg (fun i => it (72 + f.toNat + i)) g m.toNat ∧ gcnt (fun i => it (72 + f.toNat + i)) g m.toNat = 1) := by unfold rOg; split <;> omega
    refine x_ist7 dX5_mayBe_35 ?_
    refine x_iload dX5_mayBe_37 rfl ?_
    refine x_bipush dX5_mayBe_39 ?_
    refine x_icmp_ne 47 dX5_mayBe_41 (fun h41 => ?_) (fun h41 => ?_) (ha := by omega)
    · refine x_iload dX5_mayBe_47 rfl ?_
      refine x_iconst dX5_mayBe_49 ?_
      refine x_iadd dX5_mayBe_50 ?_
      refine x_ist8 dX5_mayBe_51 ?_
      refine x_iload dX5_mayBe_53 rfl ?_
      refine x_iload dX5_mayBe_55 rfl ?_
      refine x_isub dX5_mayBe_57 ?_
      refine x_ist9 dX5_mayBe_58 ?_
      refine x_iload dX5_mayBe_60 rfl ?_
      refine x_iload dX5_mayBe_62 rfl ?_
      refine x_calliS dX5_mayBe_64 mk_X5_bitOfPulses ml_X5_206 (k_bitOf _ (rOg (fun i => it (72 + f.toNat + i)) g m.toNat + 1) (m - rOg (fun i => it (72 + f.toNat + i)) g m.toNat) (by omega) (by omega)) rfl (fun x64 w64 h64 => ?_)
      obtain ⟨rfl, rfl⟩ := h64
      refine x_iload dX5_mayBe_67 rfl ?_
      refine x_iconst dX5_mayBe_69 ?_
      refine x_iadd dX5_mayBe_70 ?_
      refine x_iload dX5_mayBe_71 rfl ?_
      refine x_calliS dX5_mayBe_73 mk_X5_bitOfPulses ml_X5_206 (k_bitOf _ ((rOg (fun i => it (72 + f.toNat + i)) g m.toNat + 1) + 1) (m - rOg (fun i => it (72 + f.toNat + i)) g m.toNat) (by omega) (by omega)) rfl (fun x73 w73 h73 => ?_)
      obtain ⟨rfl, rfl⟩ := h73
      refine x_ior dX5_mayBe_76 (or_i _ _) ?_
      refine x_iload dX5_mayBe_77 rfl ?_
      refine x_iload dX5_mayBe_79 rfl ?_
      refine x_iconst dX5_mayBe_81 ?_
      refine x_iadd dX5_mayBe_82 ?_
      refine x_calliS dX5_mayBe_83 mk_X5_bitOfPulses ml_X5_206 (k_bitOf _ (rOg (fun i => it (72 + f.toNat + i)) g m.toNat + 1) ((m - rOg (fun i => it (72 + f.toNat + i)) g m.toNat) + 1) (by omega) (by omega)) rfl (fun x83 w83 h83 => ?_)
      obtain ⟨rfl, rfl⟩ := h83
      refine x_ior dX5_mayBe_86 (or_i _ _) ?_
      refine x_top (show _ = bits3 (lsa (fun i => it (72 + f.toNat + i)) g 0 m.toNat) (m + 1 - lsa (fun i => it (72 + f.toNat + i)) g 0 m.toNat) by unfold bits3; rw [show rOg (fun i => it (72 + f.toNat + i)) g m.toNat + 1 = lsa (fun i => it (72 + f.toNat + i)) g 0 m.toNat by omega, show m - rOg (fun i => it (72 + f.toNat + i)) g m.toNat = m + 1 - lsa (fun i => it (72 + f.toNat + i)) g 0 m.toNat by omega]) ?_
      refine x_ist10 dX5_mayBe_87 ?_
      refine x_iload dX5_mayBe_89 rfl ?_
      refine x_if_ne 99 dX5_mayBe_91 (fun h91 => ?_) (fun h91 => ?_) (ha := orI_R _ _)
      · refine x_iload dX5_mayBe_99 rfl ?_
        exact x_iret dX5_mayBe_101 (⟨by unfold rMay; rw [hhe, if_pos (show gcnt (fun i => it (72 + f.toNat + i)) g m.toNat = 1 by omega), if_neg (show ¬ (0 : Int) < 0 by decide), show gapA it 3 f m g = lsa (fun i => it (72 + f.toNat + i)) g 0 m.toNat from rfl, if_neg h91], ⟨t, so, st, td, sk, le, ot, sn, pk, rfl, hC⟩⟩)
      · refine x_bipush dX5_mayBe_94 ?_
        refine x_goto 101 dX5_mayBe_96 ?_
        exact x_iret dX5_mayBe_101 (⟨by unfold rMay; rw [hhe, if_pos (show gcnt (fun i => it (72 + f.toNat + i)) g m.toNat = 1 by omega), if_neg (show ¬ (0 : Int) < 0 by decide), show gapA it 3 f m g = lsa (fun i => it (72 + f.toNat + i)) g 0 m.toNat from rfl, if_pos h91], ⟨t, so, st, td, sk, le, ot, sn, pk, rfl, hC⟩⟩)
    · refine x_bipush dX5_mayBe_44 ?_
      exact x_iret dX5_mayBe_46 (⟨by unfold rMay; rw [hhe, if_neg (show ¬ gcnt (fun i => it (72 + f.toNat + i)) g m.toNat = 1 by omega), if_pos (show (-4 : Int) < 0 by decide)], ⟨t, so, st, td, sk, le, ot, sn, pk, rfl, hC⟩⟩)
  · refine x_iload dX5_mayBe_18 rfl ?_
    exact x_iret dX5_mayBe_20 (⟨by unfold rMay; rw [(hW.2.1 h15).1, if_pos (hW.2.1 h15).2], ⟨t, so, st, td, sk, le, ot, sn, pk, rfl, hC⟩⟩)
