/-! ===== what the tables say at the start ===== -/
theorem nest_p {ws : List Cond} (ps : List Nat) (hp : ps.filterMap (fun i => lw_tbl[i]?) = ws) : ∀ w ∈ ws, w ∈ lw_tbl := by
  intro w hw
  rw [← hp] at hw
  obtain ⟨i, -, hi⟩ := List.mem_filterMap.mp hw
  exact List.mem_of_getElem? hi
theorem NF_in : ∀ w ∈ NF.map (fun q => Cond.fieldLinkNest q.1 q.2.1 q.2.2.1 q.2.2.2.1 q.2.2.2.2.1 q.2.2.2.2.2), w ∈ lw_tbl := nest_p [58, 60, 62, 64, 66, 68, 70, 73, 75, 76, 78, 80, 82, 84, 86, 87, 89, 135, 137, 139, 141, 169, 172, 175, 177, 179, 208, 211, 213, 215, 238, 240] (by decide +kernel)
theorem NM_in : ∀ w ∈ NM.map (fun q => Cond.methodLinkNest q.1 q.2.1 q.2.2.1 q.2.2.2), w ∈ lw_tbl := nest_p [126, 161, 202, 233, 397] (by decide +kernel)
theorem ao_in : Cond.arrayOver (.object RX1) ∈ lw_tbl := List.mem_of_getElem? (i := 231) (by decide +kernel)
theorem insX0 : Cond.instantiable RX0 9 ∈ lw_tbl := List.mem_of_getElem? (i := 160) (by decide +kernel)
theorem insX1 : Cond.instantiable RX1 3 ∈ lw_tbl := List.mem_of_getElem? (i := 232) (by decide +kernel)
theorem insX2 : Cond.instantiable RX2 6 ∈ lw_tbl := List.mem_of_getElem? (i := 201) (by decide +kernel)
theorem insX3 : Cond.instantiable RX3 8 ∈ lw_tbl := List.mem_of_getElem? (i := 125) (by decide +kernel)
theorem insX4 : Cond.instantiable RX4 16 ∈ lw_tbl := List.mem_of_getElem? (i := 52) (by decide +kernel)
theorem insX5 : Cond.instantiable RX5 8 ∈ lw_tbl := List.mem_of_getElem? (i := 44) (by decide +kernel)
theorem insX6 : Cond.instantiable RX6 19 ∈ lw_tbl := List.mem_of_getElem? (i := 582) (by decide +kernel)
theorem GK_start {args : Array Value} {s : State} (hts : ∀ w ∈ lw_tbl, w.before args s = true) : ∃ (D : va_G) (dA : Nat → ClassId), GK D dA s := by
  have hT : ∀ w ∈ TB, w.before args s = true := fun w hw => hts w (List.mem_filter.mp hw).1
  obtain ⟨c0, i0, k0⟩ := u_known (C := RX0) (T := TX0) (N := 9) (n := 9) hT inX0 (hts _ insX0)
  obtain ⟨c1, i1, k1⟩ := u_known (C := RX1) (T := TX1) (N := 3) (n := 3) hT inX1 (hts _ insX1)
  obtain ⟨c2, i2, k2⟩ := u_known (C := RX2) (T := TX2) (N := 6) (n := 6) hT inX2 (hts _ insX2)
  obtain ⟨c3, i3, k3⟩ := u_known (C := RX3) (T := TX3) (N := 8) (n := 8) hT inX3 (hts _ insX3)
  obtain ⟨c4, i4, k4⟩ := u_known (C := RX4) (T := TX4) (N := 16) (n := 16) hT inX4 (hts _ insX4)
  obtain ⟨c5, i5, k5⟩ := u_known (C := RX5) (T := TX5) (N := 8) (n := 8) hT inX5 (hts _ insX5)
  obtain ⟨c6, i6, k6⟩ := u_known (C := RX6) (T := TX6) (N := 19) (n := 19) hT inX6 (hts _ insX6)
  obtain ⟨cI, kI, pI, fI, gI, hI⟩ := Cond.arrayClass_spec (hT _ ac_int)
  obtain ⟨cB, kB, pB, fB, gB, hB⟩ := Cond.arrayClass_spec (hT _ ac_byte)
  have hO := hts _ ao_in
  obtain ⟨comp, cR, kR, r1, r2, r3, r4, r5⟩ := Cond.arrayOver_spec hO
  refine ⟨(fun k => [c0, c1, c2, c3, c4, c5, c6].getD k c6, fun k => [i0, i1, i2, i3, i4, i5, i6].getD k i6), fun k => [cI, cB, cR].getD k cR, ⟨?_, ?_⟩, va_AO.of hO, fun q hq => va_Nw.of rfl (hts _ (NF_in _ (List.mem_map.mpr ⟨q, hq, rfl⟩))), fun q hq => va_Nw.of rfl (hts _ (NM_in _ (List.mem_map.mpr ⟨q, hq, rfl⟩)))⟩
  · intro k q hq
    match k, hq with
    | 0, hq => cases hq; exact k0
    | 1, hq => cases hq; exact k1
    | 2, hq => cases hq; exact k2
    | 3, hq => cases hq; exact k3
    | 4, hq => cases hq; exact k4
    | 5, hq => cases hq; exact k5
    | 6, hq => cases hq; exact k6
    | k + 7, hq => simp [vwCl] at hq
  · intro k q hq
    match k, hq with
    | 0, hq => cases hq; exact ⟨fun n z => ⟨fun k h => (by cases h), kI, gI, pI, hI⟩, fI⟩
    | 1, hq => cases hq; exact ⟨fun n z => ⟨fun k h => (by cases h), kB, gB, pB, hB⟩, fB⟩
    | 2, hq => cases hq; exact ⟨fun n z => ⟨fun k h => (by cases h), kR, r3, comp, r4⟩, kR, comp, r3, r4, r1, r5⟩
    | k + 3, hq => simp [TYS] at hq
/-- what holds at the law's entry: the machine, the code, the tables' words (any of lw_tbl by 'hts w (by decide +kernel)'), the script of L ints xs at the cell b, what the Statement gives of the start (any of its parts by flat_of_before) -/
def lw_At (p : Program) (s : State) (m : MethodId) (meth : Method) (c : Code) (b L : Nat) (xs : Nat → Int32) : Prop :=
  p.tables.exec = Jvm.exec ∧ c.code = code ∧ meth.sig.returnType = ret ∧ c.maxLocals = 4 ∧ s.vm.findClass R_law = some m.cls ∧ (∀ w ∈ lw_tbl, w.before #[Value.ref b] s = true) ∧ va_X b L xs s s.heap ∧ b < s.heap.size ∧ meth.locks = false ∧ (Jvm.Cond.and given_1 narrow_1).before #[Value.ref b] s = true
set_option maxRecDepth 100000 in
set_option maxHeartbeats 4000000 in
/-- the law, from its entry -/
theorem whole_start {p : Program} {e : Env} {s : State} {m : MethodId} {below : List Frame} {meth : Method} {c : Code} (l : Launch) {b L : Nat} {xs : Nat → Int32} (hL : L ≤ 3072) (C0 : lw_At p s m meth c b L xs) : W p l e room_1 s m #[Value.ref b] below meth c s.heap [] 0 0 (lw_Z below #[Value.ref b] s) (entryFrame m ([Value.ref b] : List Value).toArray 4) := by
  obtain ⟨hx, hb, hr, hml, hown, hts, hX, hbl, hlocks, hgv⟩ := C0
  obtain ⟨D, dA, hG⟩ := GK_start hts
  have hen := lv_entry ([.ref b]) (n := 4) (Nat.le_of_ble_eq_true rfl)
  rw [lg_entry_eq]
  refine law_start (xs := xs) hL p l e s m #[Value.ref b] below meth c D dA s.heap.size b s.heap [] _ ⟨hx, hb, hr, hml, hlocks, hown, fun h => absurd h (by decide), fun w hw => hts w (List.mem_filter.mp hw).1, hG, Nat.le_refl _, hX, hbl, hbl⟩ rfl (fun k q h => by simp [cw] at h) va_S.rf ⟨hen.1, hen.2.1, fun i v hi => ?_⟩
  match i, hi with
  | 0, hi => cases hi; exact hen.2.2 (0, .ref b) List.mem_cons_self
  | 1, hi => cases hi
  | 2, hi => cases hi
  | 3, hi => cases hi
  | i + 4, hi => cases hi
