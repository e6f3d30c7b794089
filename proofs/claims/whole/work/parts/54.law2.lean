/-! ===== the law's head, loop and end ===== -/
def R_law : String := "RecordBoxLaw"
def lw_P (b : Addr) (xs : List Int32) (args : Array Value) (s : State) : Prop := args = #[.ref b] ∧ s.IntsAt b xs ∧ xs.length ≤ 3072 ∧ (Jvm.Cond.and given_1 narrow_1).before args s = true
def lw_Q (_ : Array Value) (s : State) (o : Outcome) (t : State) : Prop := o = .returned (some (.int 1)) ∧ Framed s o t [] 600000 7302250
def lw_Z (below : List Frame) (a : Array Value) (s : State) : State → Prop := fun t => ∃ o, t.status = .running ∧ Ended t below o ∧ lw_Q a s o t
theorem lw_retA {p : Program} {l : Launch} {e : Env} {s : State} {m : MethodId} {args : Array Value} {below : List Frame} {meth : Method} {c : Code} (hx : p.tables.exec = Jvm.exec) (hb : c.code = code) (hr : meth.sig.returnType = ret) (hlocks : meth.locks = false) {pc : Nat} {H : Heap} {ls : Array Slot} (hdg : decode code pc = .ok (.ireturn, 1)) : W p l e room_1 s m args below meth c H [] 600000 7302250 (lw_Z below args s) (F0 m pc ls [.int 1]) := by
  intro T hT X
  obtain ⟨fs, hret, hrun, hended, hW, hframe⟩ := X.leave (v := some (.int 1)) (hlocks := hlocks) (fun h => by rw [hr] at h; cases h)
  have hmeth' : T.vm.method? m = some meth := X.method'
  refine ⟨T.setFrames fs, ?_, .returned (some (.int 1)), hrun, hended, rfl, ⟨_, rfl⟩, hW, hframe⟩
  jvm_step X.here [X.here.top, hx, hb, hdg, hmeth', hr, ret, narrow_b1]
  (try refine ⟨rfl, ?_⟩); (try refine ⟨rfl, ?_⟩)
  first | (intro acts; rw [hret _ acts rfl rfl rfl]) | rw [hret _ _ rfl rfl rfl]
  exact Steps.refl _
def ZL : Zt := fun _ _ _ _ below args s => lw_Z below args s
theorem iI_1 : iI 1 = 1 := by decide
theorem law_ret {SC : Option (Nat × (Nat → Int32))} {ls : List (Option Value)} {w : AW} {k n : Nat} (hlen : w.length = k) (h1 : k ≤ 600000) (h2 : n ≤ 7302250) : EX I_L_law 600000 7302250 SC ZL 940 ls [.int (iI 1)] w k n := by
  intro p l e s m args below meth c D dA S b H locs la hk hE hw hS hl
  obtain ⟨hx, hb, hr, hml, hlk, -⟩ := hk
  refine va_forget (fun q hq => by have := hS.2.2 q hq; omega) ?_
  refine W.widen (k := 600000) (n := 7302250) h1 h2 ?_
  show W p l e room_1 s m args below meth c H [] 600000 7302250 (lw_Z below args s) (F0 m 940 la [.int (iI 1)])
  rw [iI_1]
  exact lw_retA hx hb hr hlk dL_law_940
theorem law_head {L : Nat} {xs : Nat → Int32} (hL : L ≤ 3072) (j : Nat) (hj : 6 * j ≤ L + 5) (w : AW) (hw : w.length = 46) (kk : 6 * j + 6 ≤ L → lwE ZL L xs 27 j w) : lwE ZL L xs 18 j w := by
  refine x_iload_n dL_law_18 rfl ?_
  refine x_aload_s dL_law_19 rfl ?_
  refine x_slen dL_law_20 (by omega) ?_
  refine x_bipush dL_law_21 ?_
  refine x_isub dL_law_23 ?_
  refine x_icmp_gt 939 dL_law_24 (fun h => ?_) (fun h => kk (by omega))
  refine x_iconst dL_law_939 ?_
  exact law_ret hw (by decide) (by decide)
set_option maxRecDepth 100000 in
set_option maxHeartbeats 4000000 in
theorem law_body {Z : Zt} {L : Nat} {xs : Nat → Int32} (hL : L ≤ 3072) (j : Nat) (hj : 6 * j + 6 ≤ L) (c : Int) (w : AW) (h0 : 0 ≤ c) (h1 : c ≤ 30000) (hI : LI c w) (kk : ∀ w', LI (c + 41) w' → lwE Z L xs 933 j w') : lwE Z L xs 27 j w := by
  refine x_aload_s dL_law_27 rfl ?_
  refine x_iload_n dL_law_28 rfl ?_
  refine x_sldI (6 * j) dL_law_29 (by omega) (by omega) (by omega) ?_
  refine x_bipush dL_law_30 ?_
  refine x_iand dL_law_32 ((iI_of _).symm) ?_
  have hv := iI_R (iI (xs (6 * j)).toInt &&& iI 31)
  generalize (iI (xs (6 * j)).toInt &&& iI 31).toInt = v at hv ⊢
  rcases (show v = 0 ∨ v = 1 ∨ v = 2 ∨ v = 3 ∨ v = 4 ∨ v = 5 ∨ v = 6 ∨ v = 7 ∨ v = 8 ∨ v = 9 ∨ v = 10 ∨ v = 11 ∨ v = 12 ∨ v = 13 ∨ v = 14 ∨ v = 15 ∨ v = 16 ∨ v = 17 ∨ v = 18 ∨ v = 19 ∨ v = 20 ∨ v = 21 ∨ v = 22 ∨ v = 23 ∨ v = 24 ∨ (v < 0 ∨ 24 < v) by omega) with h | h | h | h | h | h | h | h | h | h | h | h | h | h | h | h | h | h | h | h | h | h | h | h | h | h
  · refine x_tsIn 0 148 dL_law_33 (by omega) ?_
    exact law_c0 hL j hj c w h0 h1 hI kk
  · refine x_tsIn 1 181 dL_law_33 (by omega) ?_
    exact law_c1 hL j hj c w h0 h1 hI kk
  · refine x_tsIn 2 214 dL_law_33 (by omega) ?_
    exact law_c2 hL j hj c w h0 h1 hI kk
  · refine x_tsIn 3 247 dL_law_33 (by omega) ?_
    exact law_c3 hL j hj c w h0 h1 hI kk
  · refine x_tsIn 4 280 dL_law_33 (by omega) ?_
    exact law_c4 hL j hj c w h0 h1 hI kk
  · refine x_tsIn 5 313 dL_law_33 (by omega) ?_
    exact law_c5 hL j hj c w h0 h1 hI kk
  · refine x_tsIn 6 356 dL_law_33 (by omega) ?_
    exact law_c6 hL j hj c w h0 h1 hI kk
  · refine x_tsIn 7 379 dL_law_33 (by omega) ?_
    exact law_c7 hL j hj c w h0 h1 hI kk
  · refine x_tsIn 8 412 dL_law_33 (by omega) ?_
    exact law_c8 hL j hj c w h0 h1 hI kk
  · refine x_tsIn 9 435 dL_law_33 (by omega) ?_
    exact law_c9 hL j hj c w h0 h1 hI kk
  · refine x_tsIn 10 458 dL_law_33 (by omega) ?_
    exact law_c10 hL j hj c w h0 h1 hI kk
  · refine x_tsIn 11 481 dL_law_33 (by omega) ?_
    exact law_c11 hL j hj c w h0 h1 hI kk
  · refine x_tsIn 12 504 dL_law_33 (by omega) ?_
    exact law_c12 hL j hj c w h0 h1 hI kk
  · refine x_tsIn 13 527 dL_law_33 (by omega) ?_
    exact law_c13 hL j hj c w h0 h1 hI kk
  · refine x_tsIn 14 550 dL_law_33 (by omega) ?_
    exact law_c14 hL j hj c w h0 h1 hI kk
  · refine x_tsIn 15 563 dL_law_33 (by omega) ?_
    exact law_c15 hL j hj c w h0 h1 hI kk
  · refine x_tsIn 16 586 dL_law_33 (by omega) ?_
    exact law_c16 hL j hj c w h0 h1 hI kk
  · refine x_tsIn 17 649 dL_law_33 (by omega) ?_
    exact law_c17 hL j hj c w h0 h1 hI kk
  · refine x_tsIn 18 712 dL_law_33 (by omega) ?_
    exact law_c18 hL j hj c w h0 h1 hI kk
  · refine x_tsIn 19 775 dL_law_33 (by omega) ?_
    exact law_c19 hL j hj c w h0 h1 hI kk
  · refine x_tsIn 20 788 dL_law_33 (by omega) ?_
    exact law_c20 hL j hj c w h0 h1 hI kk
  · refine x_tsIn 21 801 dL_law_33 (by omega) ?_
    exact law_c21 hL j hj c w h0 h1 hI kk
  · refine x_tsIn 22 814 dL_law_33 (by omega) ?_
    exact law_c22 hL j hj c w h0 h1 hI kk
  · refine x_tsIn 23 857 dL_law_33 (by omega) ?_
    exact law_c23 hL j hj c w h0 h1 hI kk
  · refine x_tsIn 24 880 dL_law_33 (by omega) ?_
    exact law_c24 hL j hj c w h0 h1 hI kk
  · refine x_tsOut 933 dL_law_33 h ?_
    exact kk w (LI_up hI (by omega))
theorem law_loop {L : Nat} {xs : Nat → Int32} (hL : L ≤ 3072) : ∀ (r j : Nat) (w : AW), 6 * j ≤ L + 5 → L + 1 ≤ 6 * (j + r) → LI (41 * (j : Int)) w → lwE ZL L xs 18 j w
  | 0, j, w, h1, h2, hI => law_head hL j h1 w (LI_0 hI).2 (fun h => by exfalso; omega)
  | r + 1, j, w, h1, h2, hI => by
    refine law_head hL j h1 w (LI_0 hI).2 (fun h => ?_)
    refine law_body hL j h _ w (by omega) (by omega) hI (fun w' hI' => ?_)
    refine x_inc3 dL_law_933 ?_
    refine x_goto 18 dL_law_936 ?_
    rw [show ((6 * j : Nat) : Int) + 6 = ((6 * (j + 1) : Nat) : Int) by omega]
    exact law_loop hL r (j + 1) w' (by omega) (by omega) (by rw [show 41 * ((j + 1 : Nat) : Int) = 41 * (j : Int) + 41 by omega]; exact hI')
