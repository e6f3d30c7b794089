/-! ===== rules that read and write cells, make cells, call ===== -/
def FL (own : String) (idx ci q : Nat) (ty : FieldType) (fin : Bool) : Prop :=
  ∃ (C : String) (T : u_T) (N : Nat) (ty0 : Nat → FieldType), vwCl[ci]? = some (C, T, N) ∧ q < N ∧ (∀ w ∈ u_ws C T N, w ∈ TB) ∧ (∀ j, j < N → parseFieldDescriptor (T j).2.2.1 = some (ty0 j)) ∧ (∀ a, a < N → ∀ b, b < N → a ≠ b → (T a).2.1 ≠ (T b).2.1) ∧ ty0 q = ty ∧ (T q).2.2.2 = fin ∧ (fin = true → (T q).1 = own) ∧
    (Cond.fieldLink own idx (T q).1 (T q).2.1 (T q).2.2.1 ∈ TB ∨ (fin = false ∧ ∃ host, (own, idx, (T q).1, (T q).2.1, (T q).2.2.1, host) ∈ NF))
def FG (own : String) (idx ci q : Nat) : Prop :=
  ∃ (C : String) (T : u_T) (N : Nat), vwCl[ci]? = some (C, T, N) ∧ q < N ∧ (∀ w ∈ u_ws C T N, w ∈ TB) ∧
    (Cond.fieldLink own idx (T q).1 (T q).2.1 (T q).2.2.1 ∈ TB ∨ (∃ host, (own, idx, (T q).1, (T q).2.1, (T q).2.2.1, host) ∈ NF))
def aI (t n : Nat) (f : Nat → Int) : AC := .inl (t, n, .inl (fun j => iI (f j)))
def aR (n : Nat) (f : Nat → Option Nat) : AC := .inl (2, n, .inr (.inr (.inr (.inr f))))
def MLk (own : String) (idx : Nat) (y : MethodName) : Prop := Cond.methodLink own idx y ∈ TB ∨ ∃ host, (own, idx, y, host) ∈ NM
def MOk (mi : MI) (na : Nat) : Prop := Cond.code mi.1 mi.2.1 mi.2.2.1 mi.2.2.2.1 ∈ TB ∧ Cond.initialized mi.1.cls ∈ TB ∧ (mi.1.cls ≠ "java/lang/invoke/MethodHandle" ∧ mi.1.cls ≠ "java/lang/invoke/VarHandle" ∧ (parseMethodDescriptor mi.1.desc).map (fun d => d.parameters.length) = some na)
def MSt (mi : MI) (na : Nat) : Prop := MOk mi na ∧ Cond.static mi.1 ∈ TB
def MVt (mi : MI) (na ci : Nat) : Prop := MOk mi na ∧ Cond.instanceMethod mi.1 ∈ TB ∧ Cond.selects mi.1.cls mi.1 mi.1 ∈ TB ∧ ∃ (T : u_T) (N : Nat), vwCl[ci]? = some (mi.1.cls, T, N)
def MIt (mi : MI) (na : Nat) : Prop := MOk mi na ∧ Cond.instanceMethod mi.1 ∈ TB ∧ mi.1.name = "<init>" ∧ mi.2.2.2.1 = none
theorem MOk.good {mi : MI} {na : Nat} (h : MOk mi na) : GoodIn TB (MW mi) := by
  intro w hw
  rcases List.mem_cons.mp hw with rfl | hw
  · exact ⟨h.1, TB_g h.1⟩
  · exact ⟨hw, TB_g hw⟩
theorem HWset {D : va_G} {dA : Nat → ClassId} {S b : Nat} {P L : AW} {a i : Nat} (hP : P.length = a) {c : AC} {H1 : Heap} (h : va_P D vwCl ((cw dA S b (P ++ L)).set (a + i) (S + (a + i), ce dA S b c)) H1) : HW D dA S b (P ++ wp L i c) H1 := by
  rw [← wp_app hP]
  show va_P D vwCl (cw dA S b _) H1
  rw [cw_set]
  exact h
theorem lenset (P L : AW) (i : Nat) (c : AC) : (P ++ wp L i c).length = (P ++ L).length := by
  rw [List.length_append, List.length_append, wp_len]
theorem HW_low {D : va_G} {dA : Nat → ClassId} {S b : Nat} {w : AW} {H H0 : Heap} {locs : List Loc} (hw : HW D dA S b w H) (hS : va_S (fun q => S ≤ q) H0 H locs) (h0 : S ≤ H0.size) : S + w.length ≤ H.size := by
  cases hn : w.length with
  | zero => have := hS.1; omega
  | succ j =>
    have hj : j < w.length := by omega
    have h1 : wg w j = some w[j] := by rw [wg_eq]; exact List.getElem?_eq_getElem hj
    have := (hw j _ (cw_get (dA := dA) (S := S) (b := b) h1)).lt
    simp only at this
    omega
section HEAPR
variable {p : Program} {l : Launch} {e : Env} {R : Room} {s : State} {m : MethodId} {args : Array Value} {below : List Frame} {meth : Method} {c : Code} {H : Heap} {locs : List Loc} {k n : Nat} {Q : State → Prop}
theorem W_sized {g : JFrame} (h : H.size ≤ s.heap.size + k → W p l e R s m args below meth c H locs k n Q g) : W p l e R s m args below meth c H locs k n Q g := fun T hT X => h (by rw [← hT]; exact X.heapSize) T hT X
theorem w_call {D : va_G} {dA : Nat → ClassId} {S b mc' ms' pc : Nat} {la : Array Slot} {st0 rest : List Value} {a : Array Value} {Q' : Option Value → AW → Prop} (hr : va_Run p l e R s m args below meth c H locs k n mc' ms' (F0 m pc la st0) rest (QC D dA S b mc' Q' a) (fun q => S ≤ q)) (hS : va_S (fun q => S ≤ q) s.heap H locs)
    (kk : ∀ (r : Option Value) (w' : AW) (H1 : Heap) (locs1 : List Loc), Q' r w' → HW D dA S b w' H1 → S + w'.length = H.size + mc' → va_S (fun q => S ≤ q) s.heap H1 locs1 → W p l e R s m args below meth c H1 locs1 (k + mc') (n + ms') Q (F0 m (pc + 3) la ((r.map (cv S b)).toList ++ rest))) : W p l e R s m args below meth c H locs k n Q (F0 m pc la st0) := by
  intro T hT X
  obtain ⟨v, st₀, t, T', L, h0, X', hL, e1, e2, ⟨⟨r, w', hv, hq, hw, hz2⟩, hz, hk⟩, st⟩ := hr T hT X
  cases hv
  rw [h0] at hz hk hz2
  obtain ⟨t2, a1, b1⟩ := kk r w' T'.heap (locs ++ L) hq (by rw [e1]; exact hw) hz2
    ⟨Nat.le_trans hS.1 (by rw [e1]; exact hz), fun q h1 h2 => by rw [e1, hk q (Nat.lt_of_lt_of_le h1 hS.1) h2]; exact hS.2.1 q h1 h2, fun q hq => by
      rcases List.mem_append.mp hq with h | h
      · exact hS.2.2 q h
      · exact hL q h⟩ T' rfl X'
  exact ⟨t2, st t2 a1, b1⟩
end HEAPR
section RULES3
variable {mi : MI} {mc ms : Nat} {SC : Option (Nat × (Nat → Int32))} {Z : Zt} {pc : Nat} {ls : List (Option Value)} {st : List Value} {w : AW} {k n : Nat} {P L : AW} {a : Nat}
theorem x_eqw {w' : AW} (h : w = w') (kk : EX mi mc ms SC Z pc ls st w' k n) : EX mi mc ms SC Z pc ls st w k n := h ▸ kk
theorem x_getfield (i : Nat) {idx ci q : Nat} {fs : List Value} {v : Value} (hd : decode mi.2.1 pc = .ok (.getfield idx, 3)) (hF : FG mi.1.cls idx ci q) (hP : P.length = a) (hc : wg L i = some (.inr (ci, fs))) (hv : vk fs q = some v) (kk : EX mi mc ms SC Z (pc + 3) ls (v :: st) (P ++ L) k n) : EX mi mc ms SC Z pc ls (.ref (a + i) :: st) (P ++ L) k n := by
  intro p l e s m args below meth c D dA S b H locs la hk hE hw hS hl
  have kk := kk p l e s m args below meth c D dA S b H locs la hk hE hw hS hl
  obtain ⟨hx, hb, hr, hml, hlk, hown, hin, hts, hG, hS0, hsc⟩ := hk
  obtain ⟨C, T, N, hcl, hq, hinw, hlink⟩ := hF
  have he := cw_get (dA := dA) (S := S) (b := b) ((wg_app (L := L) hP i).trans hc)
  have hv' : (fs.map (cv S b))[q]? = some (cv S b v) := by rw [List.getElem?_map, ← vk_eq, hv]; rfl
  rcases hlink with h | ⟨host, h⟩
  · exact va_get hx hb hts hinw hown hG.1 hw (a + i) he hcl q hq (hts _ h) (fun _ h => h) hv' hd kk
  · exact va_getN hx hb hts hinw hown hG.1 hw (a + i) he hcl q hq (va_Nw.use rfl (hG.2.2.1 _ h)) (fun _ h => h) hv' hd kk
theorem x_putfield (i : Nat) {idx ci q : Nat} {ty : FieldType} {fin : Bool} {fs : List Value} {v : Value} (hd : decode mi.2.1 pc = .ok (.putfield idx, 3)) (hF : FL mi.1.cls idx ci q ty fin) (hP : P.length = a) (hc : wg L i = some (.inr (ci, fs))) (hv : ∀ S b, narrow ty (cv S b v) = cv S b v ∧ fits ty (cv S b v) = true) (kk : EX mi mc ms SC Z (pc + 3) ls st (P ++ wp L i (.inr (ci, vs fs q v))) k n) (hlen : q < fs.length := by exact Nat.le_of_ble_eq_true rfl) (hfi : fin = true → mi.1.name = "<init>" := by decide) : EX mi mc ms SC Z pc ls (v :: .ref (a + i) :: st) (P ++ L) k n := by
  intro p l e s m args below meth c D dA S b H locs la hk hE hw hS hl
  have kk := fun H1 locs1 => kk p l e s m args below meth c D dA S b H1 locs1 la hk (by rw [lenset]; exact hE)
  obtain ⟨hx, hb, hr, hml, hlk, hown, hin, hts, hG, hS0, hsc⟩ := hk
  obtain ⟨C, T, N, ty0, hcl, hq, hinw, hty, hnm, hty0, hfin, hdecl, hlink⟩ := hF
  have he := cw_get (dA := dA) (S := S) (b := b) ((wg_app (L := L) hP i).trans hc)
  have hset : ce dA S b (.inr (ci, vs fs q v)) = .inr (ci, (fs.map (cv S b)).set q (cv S b v)) := by
    show Sum.inr (ci, (vs fs q v).map (cv S b)) = _
    rw [vs_eq, List.map_set]
  have hlen' : q < (fs.map (cv S b)).length := by rw [List.length_map]; exact hlen
  have hd1 : parseFieldDescriptor (T q).2.2.1 = some ty := by rw [hty q hq, hty0]
  have fin' : ∀ (H1 : Heap) (locs1 : List Loc), va_P D vwCl ((cw dA S b (P ++ L)).set (a + i) (S + (a + i), .inr (ci, (fs.map (cv S b)).set q (cv S b v)))) H1 → va_S (fun q => S ≤ q) s.heap H1 locs1 → W p l e (RM mi mc ms) s m args below meth c H1 locs1 k n (Z D dA S b below args s) (F0 m (pc + 3) la (st.map (cv S b))) := by
    intro H1 locs1 h1 h2
    rw [← hset] at h1
    exact kk H1 locs1 (HWset hP h1) h2 hl
  cases fin with
  | true =>
    rcases hlink with h | ⟨h, -⟩
    · exact va_putF hx hb hts hinw ty0 hty hnm hown hG.1 hw (cw_D dA S b _) hS (a + i) he hcl q hq (hts _ h) (fun _ h => h) hfin (hin (hfi rfl)) (hdecl rfl) hd1 (hv S b).1 (hv S b).2 hlen' hd (fun H1 locs1 h1 _ h2 => fin' H1 locs1 h1 h2)
    · cases h
  | false =>
    rcases hlink with h | ⟨-, host, h⟩
    · exact va_put hx hb hts hinw ty0 hty hnm hown hG.1 hw (cw_D dA S b _) hS (a + i) he hcl q hq (hts _ h) (fun _ h => h) hfin hd1 (hv S b).1 (hv S b).2 hlen' hd (fun H1 locs1 h1 _ h2 => fin' H1 locs1 h1 h2)
    · exact va_putN hx hb hts hinw ty0 hty hnm hown hG.1 hw (cw_D dA S b _) hS (a + i) he hcl q hq (va_Nw.use rfl (hG.2.2.1 _ h)) (fun _ h => h) hfin hd1 (hv S b).1 (hv S b).2 hlen' hd (fun H1 locs1 h1 _ h2 => fin' H1 locs1 h1 h2)
theorem x_iaload (i j : Nat) {N : Nat} {f : Nat → Int} {x : Int} (hd : decode mi.2.1 pc = .ok (.iaload, 1)) (hP : P.length = a) (hc : wg L i = some (aI 0 N f)) (kk : EX mi mc ms SC Z (pc + 1) ls (.int (iI (f j)) :: st) (P ++ L) k n) (hx : x = (j : Int) := by omega) (hj : j < N := by omega) (hN : N < 2147483648 := by decide) : EX mi mc ms SC Z pc ls (.int (iI x) :: .ref (a + i) :: st) (P ++ L) k n := by
  subst hx
  intro p l e s m args below meth c D dA S b H locs la hk hE hw hS hl
  have kk := kk p l e s m args below meth c D dA S b H locs la hk hE hw hS hl
  obtain ⟨hx, hb, hr, hml, hlk, hown, hin, hts, hG, hS0, hsc⟩ := hk
  have he := cw_get (dA := dA) (S := S) (b := b) ((wg_app (L := L) hP i).trans hc)
  refine va_iald hx hb hG.1 hw (a + i) 0 he rfl (iI_in hj hN) hd ?_
  rw [iI_cl (by omega)]
  exact kk
theorem x_baload (i j : Nat) {N : Nat} {f : Nat → Int} {x : Int} (hd : decode mi.2.1 pc = .ok (.baload, 1)) (hP : P.length = a) (hc : wg L i = some (aI 1 N f)) (kk : EX mi mc ms SC Z (pc + 1) ls (.int (iI (f j)) :: st) (P ++ L) k n) (hx : x = (j : Int) := by omega) (hj : j < N := by omega) (hN : N < 2147483648 := by decide) : EX mi mc ms SC Z pc ls (.int (iI x) :: .ref (a + i) :: st) (P ++ L) k n := by
  subst hx
  intro p l e s m args below meth c D dA S b H locs la hk hE hw hS hl
  have kk := kk p l e s m args below meth c D dA S b H locs la hk hE hw hS hl
  obtain ⟨hx, hb, hr, hml, hlk, hown, hin, hts, hG, hS0, hsc⟩ := hk
  have he := cw_get (dA := dA) (S := S) (b := b) ((wg_app (L := L) hP i).trans hc)
  refine va_bald hx hb hG.1 hw (a + i) 1 he rfl (iI_in hj hN) hd ?_
  rw [iI_cl (by omega)]
  exact kk
theorem x_iastore (i j : Nat) {N : Nat} {f : Nat → Int} {x v : Int} (hd : decode mi.2.1 pc = .ok (.iastore, 1)) (hP : P.length = a) (hc : wg L i = some (aI 0 N f)) (kk : EX mi mc ms SC Z (pc + 1) ls st (P ++ wp L i (aI 0 N (updI f j v))) k n) (hx : x = (j : Int) := by omega) (hj : j < N := by omega) (hN : N < 2147483648 := by decide) : EX mi mc ms SC Z pc ls (.int (iI v) :: .int (iI x) :: .ref (a + i) :: st) (P ++ L) k n := by
  subst hx
  intro p l e s m args below meth c D dA S b H locs la hk hE hw hS hl
  have kk := fun H1 locs1 => kk p l e s m args below meth c D dA S b H1 locs1 la hk (by rw [lenset]; exact hE)
  obtain ⟨hx, hb, hr, hml, hlk, hown, hin, hts, hG, hS0, hsc⟩ := hk
  have he := cw_get (dA := dA) (S := S) (b := b) ((wg_app (L := L) hP i).trans hc)
  refine va_iast hx hb hG.1 hw (cw_D dA S b _) hS (a + i) 0 he rfl (iI_in hj hN) hd (fun H1 locs1 h1 _ h2 => ?_)
  rw [iI_cl (by omega), upd_I] at h1
  exact kk H1 locs1 (HWset (c := aI 0 N (updI f j v)) hP h1) h2 hl
theorem x_bastore (i j : Nat) {N : Nat} {f : Nat → Int} {x v : Int} (hd : decode mi.2.1 pc = .ok (.bastore, 1)) (hP : P.length = a) (hc : wg L i = some (aI 1 N f)) (kk : EX mi mc ms SC Z (pc + 1) ls st (P ++ wp L i (aI 1 N (updI f j v))) k n) (hx : x = (j : Int) := by omega) (hj : j < N := by omega) (h1 : -128 ≤ v := by omega) (h2 : v ≤ 127 := by omega) (hN : N < 2147483648 := by decide) : EX mi mc ms SC Z pc ls (.int (iI v) :: .int (iI x) :: .ref (a + i) :: st) (P ++ L) k n := by
  subst hx
  intro p l e s m args below meth c D dA S b H locs la hk hE hw hS hl
  have kk := fun H1 locs1 => kk p l e s m args below meth c D dA S b H1 locs1 la hk (by rw [lenset]; exact hE)
  obtain ⟨hx, hb, hr, hml, hlk, hown, hin, hts, hG, hS0, hsc⟩ := hk
  have he := cw_get (dA := dA) (S := S) (b := b) ((wg_app (L := L) hP i).trans hc)
  refine va_bast hx hb hG.1 hw (cw_D dA S b _) hS (a + i) 1 he rfl (iI_in hj hN) hd (fun H1 locs1 g1 _ g2 => ?_)
  rw [iI_cl (by omega), nar_b h1 h2, upd_I] at g1
  exact kk H1 locs1 (HWset (c := aI 1 N (updI f j v)) hP g1) g2 hl
theorem x_aaload (i j : Nat) {N r : Nat} {f : Nat → Option Nat} {x : Int} (hd : decode mi.2.1 pc = .ok (.aaload, 1)) (hP : P.length = a) (hc : wg L i = some (aR N f)) (hf : f j = some r) (kk : EX mi mc ms SC Z (pc + 1) ls (.ref r :: st) (P ++ L) k n) (hx : x = (j : Int) := by omega) (hj : j < N := by omega) (hN : N < 2147483648 := by decide) : EX mi mc ms SC Z pc ls (.int (iI x) :: .ref (a + i) :: st) (P ++ L) k n := by
  subst hx
  intro p l e s m args below meth c D dA S b H locs la hk hE hw hS hl
  have kk := kk p l e s m args below meth c D dA S b H locs la hk hE hw hS hl
  obtain ⟨hx, hb, hr, hml, hlk, hown, hin, hts, hG, hS0, hsc⟩ := hk
  have he := cw_get (dA := dA) (S := S) (b := b) ((wg_app (L := L) hP i).trans hc)
  refine va_aldq hx hb hG.1 hw (a + i) 2 he rfl (iI_in hj hN) hd ?_
  rw [iI_cl (by omega)]
  simp only [hf]
  exact kk
theorem x_aastore (i j r : Nat) {N : Nat} {fs : List Value} {f : Nat → Option Nat} {x : Int} (hd : decode mi.2.1 pc = .ok (.aastore, 1)) (hP : P.length = a) (hc : wg L i = some (aR N f)) (hr : wg L r = some (.inr (1, fs))) (kk : EX mi mc ms SC Z (pc + 1) ls st (P ++ wp L i (aR N (va_up f j (some (a + r))))) k n) (hx : x = (j : Int) := by omega) (hj : j < N := by omega) (hN : N < 2147483648 := by decide) : EX mi mc ms SC Z pc ls (.ref (a + r) :: .int (iI x) :: .ref (a + i) :: st) (P ++ L) k n := by
  subst hx
  intro p l e s m args below meth c D dA S b H locs la hk hE hw hS hl
  have kk := fun H1 locs1 => kk p l e s m args below meth c D dA S b H1 locs1 la hk (by rw [lenset]; exact hE)
  obtain ⟨hx, hb, hrt, hml, hlk, hown, hin, hts, hG, hS0, hsc⟩ := hk
  have he := cw_get (dA := dA) (S := S) (b := b) ((wg_app (L := L) hP i).trans hc)
  have hev := cw_get (dA := dA) (S := S) (b := b) ((wg_app (L := L) hP r).trans hr)
  refine va_astq (r := (RX1, TX1, 3)) hx hb hG.1 hw (cw_D dA S b _) hS (a + i) 2 (a + r) 1 he rfl hev rfl (iI_in hj hN) hd (fun H1 locs1 g1 _ g2 => ?_)
  rw [iI_cl (by omega)] at g1
  have e1 : ce dA S b (aR N (va_up f j (some (a + r)))) = .inl (dA 2, N, .inr (.inr (.inr (.inr (va_up (fun q => (f q).map (fun k => S + k)) j (some (S + (a + r)))))))) := by
    show Sum.inl (dA 2, N, Sum.inr (Sum.inr (Sum.inr (Sum.inr (fun q => (va_up f j (some (a + r)) q).map (fun k => S + k)))))) = _
    congr 7
    funext q
    simp only [va_up]
    by_cases hq : q = j
    · simp [hq]
    · simp [hq]
  have g1' : va_P D vwCl ((cw dA S b (P ++ L)).set (a + i) (S + (a + i), ce dA S b (aR N (va_up f j (some (a + r)))))) H1 := by rw [e1]; exact g1
  exact kk H1 locs1 (HWset hP g1') g2 hl
/-- the script -/
theorem x_sld {Ln : Nat} {xs : Nat → Int32} {j r : Nat} {x : Int} (hd : decode mi.2.1 pc = .ok (.iaload, 1)) (hx : x = (j : Int)) (hj : j < Ln) (hN : Ln < 2147483648) (kk : EX mi mc ms (some (Ln, xs)) Z (pc + 1) ls (.int (xs j) :: st) w k n) : EX mi mc ms (some (Ln, xs)) Z pc ls (.int (iI x) :: .retAddr r :: st) w k n := by
  subst hx
  intro p l e s m args below meth c D dA S b H locs la hk hE hw hS hl
  have kk := kk p l e s m args below meth c D dA S b H locs la hk hE hw hS hl
  obtain ⟨hx, hb, hr, hml, hlk, hown, hin, hts, hG, hS0, hX, hbl, hbS⟩ := hk
  refine va_sld hx hb hX hbl (show ¬ S ≤ b by omega) hS (iI_in hj hN) hd ?_
  rw [iI_cl (by omega)]
  exact kk
theorem x_slen {Ln : Nat} {xs : Nat → Int32} {r : Nat} (hd : decode mi.2.1 pc = .ok (.arraylength, 1)) (hN : Ln < 2147483648) (kk : EX mi mc ms (some (Ln, xs)) Z (pc + 1) ls (.int (iI (Ln : Int)) :: st) w k n) : EX mi mc ms (some (Ln, xs)) Z pc ls (.retAddr r :: st) w k n := by
  intro p l e s m args below meth c D dA S b H locs la hk hE hw hS hl
  have kk := kk p l e s m args below meth c D dA S b H locs la hk hE hw hS hl
  obtain ⟨hx, hb, hr, hml, hlk, hown, hin, hts, hG, hS0, hX, hbl, hbS⟩ := hk
  refine va_slen hx hb hX hbl (show ¬ S ≤ b by omega) hS hd ?_
  have e1 : nI Ln = iI (Ln : Int) := by
    apply Int32.toInt_inj.mp
    rw [nI_toInt (by omega), iI_t ⟨by omega, by omega⟩]
  rw [show Int32.ofNat (Ln, xs).fst = iI (Ln : Int) from e1]
  exact kk
end RULES3
