def NF : List (String × Nat × String × String × String × String) := [("RecordBox", 58, "RecordBox$Works", "records", "I", "RecordBox"), ("RecordBox", 81, "RecordBox$Works", "times", "[I", "RecordBox"), ("RecordBox", 84, "RecordBox$Works", "wear", "[I", "RecordBox"), ("RecordBox", 77, "RecordBox$Works", "rack", "[I", "RecordBox"), ("RecordBox", 93, "RecordBox$Works", "meters", "[I", "RecordBox"), ("RecordBox", 121, "RecordBox$Works", "pinsIn", "I", "RecordBox"), ("RecordBox", 176, "RecordBox$Works", "stuckIn", "I", "RecordBox"), ("RecordBox", 114, "RecordBox$Works", "groove", "I", "RecordBox"), ("RecordBox$Outlook", 64, "RecordBox$Works", "now", "I", "RecordBox"), ("RecordBox", 127, "RecordBox$Works", "now", "I", "RecordBox"), ("RecordBox", 134, "RecordBox$Works", "place", "I", "RecordBox"), ("RecordBox", 137, "RecordBox$Works", "up", "Z", "RecordBox"), ("RecordBox", 140, "RecordBox$Works", "doing", "I", "RecordBox"), ("RecordBox", 143, "RecordBox$Works", "ticksLeft", "I", "RecordBox"), ("RecordBox$Outlook", 53, "RecordBox$Works", "played", "I", "RecordBox"), ("RecordBox", 154, "RecordBox$Works", "played", "I", "RecordBox"), ("RecordBox", 157, "RecordBox$Works", "misses", "I", "RecordBox"), ("RecordBox", 108, "RecordBox$Till", "credits", "I", "RecordBox"), ("RecordBox", 124, "RecordBox$Till", "lost", "I", "RecordBox"), ("RecordBox", 151, "RecordBox$Till", "taken", "I", "RecordBox"), ("RecordBox", 111, "RecordBox$Till", "kindness", "I", "RecordBox"), ("RecordBox", 170, "RecordBox$Outlook", "songs", "[I", "RecordBox"), ("RecordBox", 167, "RecordBox$Outlook", "told", "I", "RecordBox"), ("RecordBox", 186, "RecordBox$Outlook", "lesser", "I", "RecordBox"), ("RecordBox", 189, "RecordBox$Outlook", "other", "I", "RecordBox"), ("RecordBox", 192, "RecordBox$Outlook", "soonest", "I", "RecordBox"), ("RecordBox", 226, "RecordBox$Tape", "length", "I", "RecordBox"), ("RecordBox", 238, "RecordBox$Tape", "kinds", "[I", "RecordBox"), ("RecordBox", 241, "RecordBox$Tape", "values", "[I", "RecordBox"), ("RecordBox", 235, "RecordBox$Tape", "acts", "I", "RecordBox"), ("RecordBox", 262, "RecordBox$Sheet", "lane", "I", "RecordBox"), ("RecordBox", 216, "RecordBox$Sheet", "size", "I", "RecordBox")]
def NM : List (String × Nat × MethodName × String) := [("RecordBox", 18, ⟨"RecordBox$Till", "<init>", "()V"⟩, "RecordBox"), ("RecordBox", 35, ⟨"RecordBox$Outlook", "<init>", "()V"⟩, "RecordBox"), ("RecordBox", 42, ⟨"RecordBox$Tape", "<init>", "()V"⟩, "RecordBox"), ("RecordBox", 53, ⟨"RecordBox$Sheet", "<init>", "()V"⟩, "RecordBox"), ("RecordBox$Works", 101, ⟨"RecordBox", "within", "(III)Z"⟩, "RecordBox")]
/-! ===== the logic: contracts and runs over abstract worlds ===== -/
def TB : List Cond := lw_tbl.filter goodWord
theorem TB_m {w : Cond} (i : Nat) (h : lw_tbl[i]? = some w) (hg : goodWord w = true) : w ∈ TB := List.mem_filter.mpr ⟨List.mem_of_getElem? h, hg⟩
theorem TB_g {w : Cond} (h : w ∈ TB) : (w.onTables && w.keeps) = true ∨ ∃ ty, w = .arrayClass ty := good_of_word (List.mem_filter.mp h).2
abbrev TYS (dA : Nat → ClassId) : List (ClassId × FieldType) := [(dA 0, .int), (dA 1, .byte), (dA 2, .object RX1)]
def GK (D : va_G) (dA : Nat → ClassId) (U : State) : Prop := va_K D vwCl (TYS dA) U ∧ va_AO RX1 U ∧ (∀ q ∈ NF, va_Nw (.fieldLinkNest q.1 q.2.1 q.2.2.1 q.2.2.2.1 q.2.2.2.2.1 q.2.2.2.2.2) U) ∧ ∀ q ∈ NM, va_Nw (.methodLinkNest q.1 q.2.1 q.2.2.1 q.2.2.2) U
theorem GK.warm {D : va_G} {dA : Nat → ClassId} {s U : State} (hW : s.WarmedH U.vm) (h : GK D dA s) : GK D dA U :=
  ⟨va_K.moved hW.alike h.1, h.2.1.moved hW.alike, fun q hq => (h.2.2.1 q hq).warmF hW, fun q hq => (h.2.2.2 q hq).warmM hW⟩
theorem GK.call {D : va_G} {dA : Nat → ClassId} {U : State} (g : JFrame) (mk : MethodId) (a : Array Value) (h : GK D dA U) : GK D dA (U.calling g mk a) :=
  ⟨va_K.moved (u := U) (U := U.calling g mk a) (Vm.Alike.refl U.vm) h.1, va_AO.moved (u := U) (U := U.calling g mk a) (Vm.Alike.refl U.vm) h.2.1, fun q hq => va_Nw.same (u := U) (U := U.calling g mk a) rfl rfl (h.2.2.1 q hq), fun q hq => va_Nw.same (u := U) (U := U.calling g mk a) rfl rfl (h.2.2.2 q hq)⟩
abbrev HW (D : va_G) (dA : Nat → ClassId) (S b : Nat) (w : AW) (H : Heap) : Prop := va_P D vwCl (cw dA S b w) H
abbrev RM (mi : MI) (mc ms : Nat) : Room := { frames := mi.2.2.2.2.1, cells := mc, slots := ms, locals := mi.2.2.2.2.2 }
abbrev MW (mi : MI) : List Cond := .code mi.1 mi.2.1 mi.2.2.1 mi.2.2.2.1 :: TB
abbrev Zt : Type := va_G → (Nat → ClassId) → Nat → Nat → List Frame → Array Value → State → State → Prop
def QC (D : va_G) (dA : Nat → ClassId) (S b mc : Nat) (Q : Option Value → AW → Prop) : Array Value → State → Outcome → State → Prop := fun _ st oc t =>
  (∃ (r : Option Value) (w : AW), oc = .returned (r.map (cv S b)) ∧ Q r w ∧ HW D dA S b w t.heap ∧ S + w.length = st.heap.size + mc) ∧ va_F (fun q => S ≤ q) st t
def ZM (mc ms : Nat) (Q : Option Value → AW → Prop) : Zt := fun D dA S b below args s => MQ below (QC D dA S b mc Q) args s mc ms (fun q => S ≤ q)
def CT (mi : MI) (mc ms : Nat) (As : List Value) (w : AW) (Q : Option Value → AW → Prop) : Prop :=
  ∀ (l : Launch) (D : va_G) (dA : Nat → ClassId) (S b : Nat), Met l mi.1 (MW mi) (RM mi mc ms)
    (fun args U => args = (As.map (cv S b)).toArray ∧ GK D dA U ∧ HW D dA S b w U.heap ∧ U.heap.size = S + w.length) (QC D dA S b mc Q) mc ms (fun q => S ≤ q)
def CTi (mi : MI) (mc ms : Nat) (As : List Value) (w : AW) (R : Int → AW → Prop) : Prop := CT mi mc ms As w (fun r w' => ∃ x : Int, r = some (.int (iI x)) ∧ R x w')
def CTv (mi : MI) (mc ms : Nat) (As : List Value) (w : AW) (R : AW → Prop) : Prop := CT mi mc ms As w (fun r w' => r = none ∧ R w')
def lk : List (Option Value) → Nat → Option Value
  | [], _ => none
  | a :: _, 0 => a
  | _ :: r, k + 1 => lk r k
def sk : List (Option Value) → Nat → Option Value → List (Option Value)
  | [], _, _ => []
  | _ :: r, 0, v => v :: r
  | a :: r, k + 1, v => a :: sk r k v
theorem lk_sk_ne : ∀ (ls : List (Option Value)) (i j : Nat) (v : Option Value), j ≠ i → lk (sk ls i v) j = lk ls j
  | [], _, _, _, _ => rfl
  | _ :: _, 0, 0, _, h => absurd rfl h
  | _ :: _, 0, j + 1, _, _ => rfl
  | _ :: _, i + 1, 0, _, _ => rfl
  | _ :: r, i + 1, j + 1, v, h => lk_sk_ne r i j v (fun e => h (by rw [e]))
theorem lk_sk_e : ∀ (ls : List (Option Value)) (i : Nat) (v : Option Value) (x : Value), lk (sk ls i v) i = some x → v = some x
  | [], _, _, _, h => by simp [sk, lk] at h
  | _ :: _, 0, _, _, h => h
  | _ :: r, i + 1, v, x, h => lk_sk_e r i v x h
/-- the place before i isn't a long's -/
def okb (ls : List (Option Value)) (i : Nat) : Bool := match i with
  | 0 => true
  | j + 1 => match lk ls j with
    | some v => v.category == 1
    | none => true
def lo (S b : Nat) (la : Array Slot) (nL : Nat) (ls : List (Option Value)) : Prop := la.size = nL ∧ lv_wf la ∧ ∀ (i : Nat) (v : Value), lk ls i = some v → la[i]? = some (.val (cv S b v))
def lAs (S b : Nat) (ls : List (Option Value)) : List (Nat × Value) := (List.range ls.length).filterMap (fun i => (lk ls i).map (fun v => (i, cv S b v)))
theorem lk_lt : ∀ (ls : List (Option Value)) (i : Nat) (v : Value), lk ls i = some v → i < ls.length
  | [], _, _, h => by simp [lk] at h
  | _ :: _, 0, _, _ => Nat.succ_pos _
  | _ :: r, i + 1, v, h => Nat.succ_lt_succ (lk_lt r i v h)
theorem lAs_mem {S b : Nat} {ls : List (Option Value)} {i : Nat} {v : Value} (h : lk ls i = some v) : (i, cv S b v) ∈ lAs S b ls :=
  List.mem_filterMap.mpr ⟨i, List.mem_range.mpr (lk_lt ls i v h), by rw [h]; rfl⟩
theorem lo.has {S b nL : Nat} {la : Array Slot} {ls : List (Option Value)} (h : lo S b la nL ls) : lv_has la nL (lAs S b ls) := by
  refine ⟨h.1, h.2.1, fun q hq => ?_⟩
  obtain ⟨i, -, hi⟩ := List.mem_filterMap.mp hq
  cases hv : lk ls i with
  | none => rw [hv] at hi; cases hi
  | some v =>
    rw [hv] at hi
    cases hi
    exact h.2.2 i v hv
theorem lo.st {S b nL i : Nat} {la : Array Slot} {ls : List (Option Value)} {v : Value} (hc : okb ls i = true)
    (h : lv_has la nL ((i, cv S b v) :: (lAs S b ls).filter (fun q => !(q.1 == i) && !(q.1 + 1 == i && q.2.category == 2)))) : lo S b la nL (sk ls i (some v)) := by
  refine ⟨h.1, h.2.1, fun j x hj => ?_⟩
  by_cases e : j = i
  · subst e
    cases lk_sk_e ls j _ x hj
    exact h.2.2 (j, cv S b v) List.mem_cons_self
  · rw [lk_sk_ne ls i j _ e] at hj
    refine h.2.2 (j, cv S b x) (List.mem_cons_of_mem _ (List.mem_filter.mpr ⟨lAs_mem hj, ?_⟩))
    simp only [Bool.and_eq_true, Bool.not_eq_true', beq_eq_false_iff_ne, ne_eq, Bool.and_eq_false_iff, beq_iff_eq]
    refine ⟨e, ?_⟩
    by_cases e2 : j + 1 = i
    · right
      subst e2
      simp only [okb, hj, beq_iff_eq] at hc
      rw [cv_cat, hc]
      decide
    · exact Or.inl e2
def SX (SC : Option (Nat × (Nat → Int32))) (S b : Nat) (s : State) : Prop := match SC with
  | none => True
  | some q => va_X b q.1 q.2 s s.heap ∧ b < s.heap.size ∧ b < S
def KX (mi : MI) (SC : Option (Nat × (Nat → Int32))) (p : Program) (s : State) (m : MethodId) (args : Array Value) (meth : Method) (c : Code) (D : va_G) (dA : Nat → ClassId) (S b : Nat) : Prop :=
  p.tables.exec = Jvm.exec ∧ c.code = mi.2.1 ∧ meth.sig.returnType = mi.2.2.2.1 ∧ c.maxLocals = mi.2.2.1 ∧ meth.locks = false ∧ s.vm.findClass mi.1.cls = some m.cls ∧ (mi.1.name = "<init>" → meth.name = "<init>") ∧ (∀ w ∈ TB, w.before args s = true) ∧ GK D dA s ∧ S ≤ s.heap.size ∧ SX SC S b s
def EX (mi : MI) (mc ms : Nat) (SC : Option (Nat × (Nat → Int32))) (Z : Zt) (pc : Nat) (ls : List (Option Value)) (st : List Value) (w : AW) (k n : Nat) : Prop :=
  ∀ (p : Program) (l : Launch) (e : Env) (s : State) (m : MethodId) (args : Array Value) (below : List Frame) (meth : Method) (c : Code) (D : va_G) (dA : Nat → ClassId) (S b : Nat) (H : Heap) (locs : List Loc) (la : Array Slot),
    KX mi SC p s m args meth c D dA S b → s.heap.size + k = S + w.length → HW D dA S b w H → va_S (fun q => S ≤ q) s.heap H locs → lo S b la mi.2.2.1 ls →
    W p l e (RM mi mc ms) s m args below meth c H locs k n (Z D dA S b below args s) (F0 m pc la (st.map (cv S b)))
/-- a method's contract out of a run of its body -/
def ent : List Value → List (Option Value)
  | [] => []
  | v :: vs => if v.category = 2 then some v :: none :: ent vs else some v :: ent vs
theorem ent_args : ∀ (vs : List Value) (i j : Nat) (v : Value), lk (ent vs) j = some v → (i + j, v) ∈ lv_args i vs
  | [], _, _, _, h => by simp [ent, lk] at h
  | a :: vs, i, j, v, h => by
    unfold ent at h
    unfold lv_args
    by_cases hc : a.category = 2
    · rw [if_pos hc] at h ⊢
      match j, h with
      | 0, h => cases h; exact List.mem_cons_self
      | 1, h => cases h
      | j + 2, h =>
        have := ent_args vs (i + 2) j v h
        rw [show i + (j + 2) = i + 2 + j by omega]
        exact List.mem_cons_of_mem _ this
    · rw [if_neg hc] at h ⊢
      match j, h with
      | 0, h => cases h; exact List.mem_cons_self
      | j + 1, h =>
        have := ent_args vs (i + 1) j v h
        rw [show i + (j + 1) = i + 1 + j by omega]
        exact List.mem_cons_of_mem _ this
theorem ent_map (S b : Nat) : ∀ (vs : List Value), ent (vs.map (cv S b)) = (ent vs).map (fun o => o.map (cv S b))
  | [] => rfl
  | a :: vs => by
    simp only [List.map_cons, ent, cv_cat]
    by_cases hc : a.category = 2
    · rw [if_pos hc, if_pos hc, ent_map S b vs]; rfl
    · rw [if_neg hc, if_neg hc, ent_map S b vs]; rfl
theorem lk_map (f : Value → Value) : ∀ (ls : List (Option Value)) (i : Nat), lk (ls.map (fun o => o.map f)) i = (lk ls i).map f
  | [], _ => rfl
  | _ :: _, 0 => rfl
  | _ :: r, i + 1 => lk_map f r i
theorem lk_pad (n : Nat) : ∀ (ls : List (Option Value)) (i : Nat) (v : Value), lk (ls ++ List.replicate n none) i = some v → lk ls i = some v
  | [], i, v, h => by
    exfalso
    rw [List.nil_append] at h
    have : ∀ (n i : Nat), lk (List.replicate n none) i = none := by
      intro n
      induction n with
      | zero => intro i; rfl
      | succ n ih =>
        intro i
        rw [List.replicate_succ]
        cases i with
        | zero => rfl
        | succ i => exact ih i
    rw [this] at h
    cases h
  | _ :: _, 0, _, h => h
  | _ :: r, i + 1, v, h => lk_pad n r i v h
theorem lg_slen (S b : Nat) : ∀ (vs : List Value), (lg_sl (vs.map (cv S b))).length = (ent vs).length
  | [] => rfl
  | a :: vs => by
    have ih := lg_slen S b vs
    simp only [lg_sl] at ih
    simp only [lg_sl, List.map_cons, List.flatMap_cons, List.length_append, ent, cv_cat, ih]
    by_cases hc : a.category = 2
    · rw [if_pos hc, if_pos hc]; simp; omega
    · rw [if_neg hc, if_neg hc]; simp; omega
theorem CT_of {mi : MI} {mc ms : Nat} {As : List Value} {w : AW} {Q : Option Value → AW → Prop} (q : Nat) (hp : plainName mi.1.cls = true) (hl : (ent As).length ≤ mi.2.2.1)
    (h : EX mi mc ms none (ZM mc ms Q) 0 (ent As ++ List.replicate q none) [] w 0 0) : CT mi mc ms As w Q := by
  intro l D dA S b
  refine Met.ofW (cc := mi.2.1) (maxL := mi.2.2.1) (ret := mi.2.2.2.1) hp rfl ?_
  intro p e s m args below meth c s₁ B hml hv
  obtain ⟨rfl, hG, hw, hsz⟩ := hv
  have hts := atoms_spec (ws := MW mi) B.pre
  have hown : s.vm.findClass mi.1.cls = some m.cls := findClass_of_methodNamed B.named
  have hen := lv_entry (As.map (cv S b)) (n := mi.2.2.1) (by rw [lg_slen]; exact hl)
  rw [lg_entry_eq]
  refine h p l e s m _ below meth c D dA S b s.heap [] _ ⟨B.exec, B.bytes, B.returns, hml, B.notSynchronized, hown, fun _ => ?_, fun w hw => hts w (List.mem_cons_of_mem _ hw), hG, by omega, trivial⟩ (by omega) hw va_S.rf ⟨hen.1, hen.2.1, fun i v hi => ?_⟩
  · rename_i hn
    rw [← hn]
    exact (name_of_methodNamed B.named B.method).1
  · have h1 := lk_pad q _ i v hi
    have h2 : lk (ent (As.map (cv S b))) i = some (cv S b v) := by rw [ent_map, lk_map, h1]; rfl
    have h3 := ent_args _ 0 i _ h2
    rw [Nat.zero_add] at h3
    exact hen.2.2 _ h3
