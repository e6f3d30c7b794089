/-! ===== the law from its entry ===== -/
theorem z00_R (i : Nat) : inR (z00 i) := by
  unfold z00
  (repeat' split) <;> decide
theorem ZA_00 : ZA z00 := by
  refine ⟨z00_R, ⟨by decide, by decide, by decide, by decide, fun p hp => Or.inl (z00_r (by omega)), fun p q _ hq _ => z00_r (by omega), fun s hs => Or.inl (z00_0 (by omega)), fun s hs => ?_, fun s hs h => ?_, fun s hs h => ?_, fun s hs => ?_, fun r hr => ?_, fun r hr => ?_, fun r hr => ?_⟩, ⟨by decide, by decide, by decide, by decide, by decide, by decide, by decide⟩, by decide⟩
  · rw [z00_0 (by omega)]; decide
  · rw [z00_0 (by omega)] at h; exact absurd h (by decide)
  · rw [z00_0 (by omega)] at h; exact absurd h (by decide)
  · rw [z00_0 (by omega)]; decide
  · rw [z00_0 (by omega)]; decide
  · rw [show z00 16 = 0 from rfl] at hr; exfalso; omega
  · rw [z00_0 (by omega)]; decide
theorem GA_00 : GA 0 z00 := ⟨ZA_00, by decide, by decide, by decide, by decide, by decide, by decide, by decide, by decide, by decide⟩
theorem SH_00 : SH (fun _ => -1) (fun _ => 0) (fun _ => 0) := ⟨fun _ => show (-1 : Int) ≤ -1 ∧ (-1 : Int) ≤ 2 by decide, fun _ => show (0 : Int) ≤ 0 ∧ (0 : Int) ≤ 24 by decide, fun _ => R0⟩
abbrev n0 : Nat → Int := fun _ => 0
abbrev lw0 (M : AW) : AW := lB 0 z00 z00 z00 n0 n0 0 0 (-4) (-4) (-4) 0 n0 0 0 0 n0 n0 (fun _ => -1) n0 n0 M
set_option maxRecDepth 100000 in
set_option maxHeartbeats 4000000 in
theorem law_start {L : Nat} {xs : Nat → Int32} (hL : L ≤ 3072) : EX I_L_law 600000 7302250 (some (L, xs)) ZL 0 [some (.retAddr 0), none, none, none] [] (([] : AW) ++ ([] : AW)) 0 0 := by
  refine x_new dL_law_0 nw_L_7 (P := []) (a := 0) rfl rfl ?_
  refine x_dup dL_law_3 ?_
  refine x_eqw (w' := ([] : AW) ++ [.inr (5, nfX5)]) rfl ?_
  refine x_callvI dL_law_4 mk_X5_init ml_L_9 (k_iB (P := []) (a := 0) rfl) rfl (fun w4 h4 => ?_)
  subst h4
  refine x_ast1 dL_law_7 ?_
  refine x_eqw (w' := ([] : AW) ++ lw0 []) rfl ?_
  refine x_new dL_law_8 nw_L_10 (P := []) (a := 0) (j := 34) rfl rfl ?_
  refine x_dup dL_law_11 ?_
  refine x_eqw (w' := lw0 [] ++ [.inr (6, nfX6)]) rfl ?_
  refine x_callvI dL_law_12 mk_X6_init ml_L_12 (c_iM (P := lw0 []) (a := 34) rfl) rfl (fun w12 h12 => ?_)
  subst h12
  refine x_ast2 dL_law_15 ?_
  refine x_iconst dL_law_16 ?_
  refine x_ist3 dL_law_17 ?_
  refine law_loop hL (L + 1) 0 _ (by omega) (by omega) ?_
  exact ⟨0, z00, z00, z00, n0, n0, 0, 0, -4, -4, -4, 0, n0, 0, 0, 0, n0, n0, fun _ => -1, n0, n0, n0, 0, n0, n0, 0, 0, 0, 0, 0, n0, n0, n0, rfl, CI_0 _ _ _ _ _ _ _, GA_00, GA_00, Or.inl rfl, SH_00, by decide, fun i hi => absurd hi (by omega)⟩
