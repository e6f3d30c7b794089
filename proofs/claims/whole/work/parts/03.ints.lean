/-! ===== ints ===== -/
def iI (x : Int) : Int32 := Int32.ofInt x
def lI (x : Int) : Int64 := Int64.ofInt x
abbrev inR (a : Int) : Prop := -2147483648 ≤ a ∧ a ≤ 2147483647
theorem iI_t {a : Int} (h : inR a) : (iI a).toInt = a := Int32.toInt_ofInt_of_le (by have := h.1; omega) (by have := h.2; omega)
theorem lI_t {a : Int} (h : inR a) : (lI a).toInt = a := Int64.toInt_ofInt_of_le (by have := h.1; omega) (by have := h.2; omega)
theorem iI_of (x : Int32) : iI x.toInt = x := Int32.ofInt_toInt x
theorem iI_R (x : Int32) : inR x.toInt := ⟨by have := Int32.le_toInt x; omega, by have := Int32.toInt_lt x; omega⟩
theorem iI_add (a b : Int) : iI a + iI b = iI (a + b) := (Int32.ofInt_add a b).symm
theorem iI_sub (a b : Int) : iI a - iI b = iI (a - b) := (Int32.ofInt_sub a b).symm
theorem iI_mul (a b : Int) : iI a * iI b = iI (a * b) := (Int32.ofInt_mul a b).symm
theorem iI_lt {a b : Int} (ha : inR a) (hb : inR b) : iI a < iI b ↔ a < b := by rw [Int32.lt_iff_toInt_lt, iI_t ha, iI_t hb]
theorem iI_le {a b : Int} (ha : inR a) (hb : inR b) : iI a ≤ iI b ↔ a ≤ b := by rw [Int32.le_iff_toInt_le, iI_t ha, iI_t hb]
theorem iI_eq {a b : Int} (ha : inR a) (hb : inR b) : iI a = iI b ↔ a = b := ⟨fun h => by rw [← iI_t ha, ← iI_t hb, h], fun h => by rw [h]⟩
theorem iI_z : iI 0 = 0 := by decide
theorem R0 : inR 0 := by decide
theorem iI_lt0 {a : Int} (ha : inR a) : iI a < 0 ↔ a < 0 := by rw [← iI_z]; exact iI_lt ha R0
theorem iI_le0 {a : Int} (ha : inR a) : iI a ≤ 0 ↔ a ≤ 0 := by rw [← iI_z]; exact iI_le ha R0
theorem iI_0lt {a : Int} (ha : inR a) : 0 < iI a ↔ 0 < a := by rw [← iI_z]; exact iI_lt R0 ha
theorem iI_0le {a : Int} (ha : inR a) : 0 ≤ iI a ↔ 0 ≤ a := by rw [← iI_z]; exact iI_le R0 ha
theorem iI_eq0 {a : Int} (ha : inR a) : iI a = 0 ↔ a = 0 := by rw [← iI_z]; exact iI_eq ha R0
theorem iI_bip {n : Int} (h1 : -128 ≤ n) (h2 : n ≤ 127) : (Int8.ofInt n).toInt32 = iI n := by
  apply Int32.toInt_inj.mp
  rw [Int8.toInt_toInt32, Int8.toInt_ofInt_of_le (by omega) (by omega), iI_t ⟨by omega, by omega⟩]
theorem iI_sip {n : Int} (h1 : -32768 ≤ n) (h2 : n ≤ 32767) : (Int16.ofInt n).toInt32 = iI n := by
  apply Int32.toInt_inj.mp
  rw [Int16.toInt_toInt32, Int16.toInt_ofInt_of_le (by omega) (by omega), iI_t ⟨by omega, by omega⟩]
theorem iI_div {a b : Int} (ha : inR a) (h0 : 0 ≤ a) (hb : inR b) (hp : 0 < b) : iI a / iI b = iI (a / b) := by
  have hd : 0 ≤ a / b := Int.ediv_nonneg h0 (by omega)
  have hl : a / b ≤ a := Int.ediv_le_self _ h0
  apply Int32.toInt_inj.mp
  have hne : iI b ≠ -1 := by
    intro h
    have := congrArg Int32.toInt h
    rw [iI_t hb] at this
    have e : (-1 : Int32).toInt = -1 := by decide
    omega
  rw [Int32.toInt_div_of_ne_right _ _ hne, iI_t ha, iI_t hb, iI_t ⟨by omega, by have := ha.2; omega⟩, Int.tdiv_eq_ediv_of_nonneg h0]
theorem iI_rem {a b : Int} (ha : inR a) (h0 : 0 ≤ a) (hb : inR b) (hp : 0 < b) : iI a - iI a / iI b * iI b = iI (a % b) := by
  rw [iI_div ha h0 hb hp, iI_mul, iI_sub, Int.emod_def, Int.mul_comm b]
theorem iI_64 {a : Int} (ha : inR a) : (iI a).toInt64 = lI a := by
  apply Int64.toInt_inj.mp
  rw [Int32.toInt_toInt64, iI_t ha, lI_t ha]
def cmpI (a b : Int) : Int := if a > b then 1 else if a = b then 0 else -1
theorem lI_cmp {a b : Int} (ha : inR a) (hb : inR b) : lg_cmp (lI a) (lI b) = iI (cmpI a b) := by
  have h1 : (lI a > lI b) ↔ a > b := by show lI b < lI a ↔ _; rw [Int64.lt_iff_toInt_lt, lI_t ha, lI_t hb]
  have h2 : (lI a = lI b) ↔ a = b := ⟨fun h => by rw [← lI_t ha, ← lI_t hb, h], fun h => by rw [h]⟩
  unfold lg_cmp cmpI
  by_cases c1 : a > b
  · rw [if_pos (h1.mpr c1), if_pos c1]; decide
  · rw [if_neg (fun h => c1 (h1.mp h)), if_neg c1]
    by_cases c2 : a = b
    · rw [if_pos (h2.mpr c2), if_pos c2]; decide
    · rw [if_neg (fun h => c2 (h2.mp h)), if_neg c2]; decide
theorem iI_cl {j : Nat} (h : j < 2147483648) : (iI (j : Int)).toNatClampNeg = j := by
  show (iI (j : Int)).toInt.toNat = j
  rw [iI_t ⟨by omega, by omega⟩]
  exact Int.toNat_natCast j
theorem iI_in {j n : Nat} (h : j < n) (hn : n < 2147483648) : vp_in (iI (j : Int)) n := by
  rw [vp_in_iff, iI_t ⟨by omega, by omega⟩]
  omega
def updI (f : Nat → Int) (j : Nat) (v : Int) : Nat → Int := fun q => if q = j then v else f q
theorem updI_e (f : Nat → Int) (j : Nat) (v : Int) : updI f j v j = v := if_pos rfl
theorem updI_n {f : Nat → Int} {j q : Nat} {v : Int} (h : q ≠ j) : updI f j v q = f q := if_neg h
theorem upd_I (f : Nat → Int) (j : Nat) (v : Int) : upd (fun q => iI (f q)) j (iI v) = fun q => iI (updI f j v q) := by
  funext q
  simp only [upd, updI]
  by_cases h : q = j
  · simp [h]
  · simp [h]
theorem nar_b {v : Int} (h1 : -128 ≤ v) (h2 : v ≤ 127) : vp_nar .byte (iI v) = iI v := by
  rw [vp_nar_byte]
  apply Int32.toInt_inj.mp
  rw [Int8.toInt_toInt32, Int32.toInt_toInt8, iI_t ⟨by omega, by omega⟩]
  exact Int.bmod_eq_of_le (by omega) (by omega)
/-! ===== worlds ===== -/
abbrev AC : Type := (Nat × vp_A) ⊕ (Nat × List Value)
abbrev AW : Type := List AC
abbrev MI : Type := MethodName × ByteArray × Nat × Option FieldType × Nat × Nat
def cv (S b : Nat) (v : Value) : Value := match v with
  | .ref k => .ref (S + k)
  | .retAddr _ => .ref b
  | .int x => .int x
  | .long x => .long x
  | .float x => .float x
  | .double x => .double x
  | .null => .null
theorem cv_cat (S b : Nat) (v : Value) : (cv S b v).category = v.category := by cases v <;> rfl
theorem cv_cats (S b : Nat) (st : List Value) : ((st.map (cv S b)).map fun v => v.category) = st.map fun v => v.category := by
  rw [List.map_map]
  apply List.map_congr_left
  intro v _
  exact cv_cat S b v
def ca (S : Nat) (a : vp_A) : vp_A := match a with
  | (n, .inl f) => (n, .inl f)
  | (n, .inr (.inl f)) => (n, .inr (.inl f))
  | (n, .inr (.inr (.inl f))) => (n, .inr (.inr (.inl f)))
  | (n, .inr (.inr (.inr (.inl f)))) => (n, .inr (.inr (.inr (.inl f))))
  | (n, .inr (.inr (.inr (.inr f)))) => (n, .inr (.inr (.inr (.inr (fun j => (f j).map (fun k => S + k))))))
def ce (dA : Nat → ClassId) (S b : Nat) (c : AC) : va_E := match c with
  | .inl (t, a) => .inl (dA t, ca S a)
  | .inr (ci, fs) => .inr (ci, fs.map (cv S b))
def cw (dA : Nat → ClassId) (S b : Nat) (w : AW) : va_W := w.mapIdx (fun i c => (S + i, ce dA S b c))
def wg : AW → Nat → Option AC
  | [], _ => none
  | c :: _, 0 => some c
  | _ :: w, k + 1 => wg w k
def wp : AW → Nat → AC → AW
  | [], _, _ => []
  | _ :: w, 0, c => c :: w
  | d :: w, k + 1, c => d :: wp w k c
def vk : List Value → Nat → Option Value
  | [], _ => none
  | c :: _, 0 => some c
  | _ :: w, k + 1 => vk w k
def vs : List Value → Nat → Value → List Value
  | [], _, _ => []
  | _ :: w, 0, c => c :: w
  | d :: w, k + 1, c => d :: vs w k c
theorem wg_eq : ∀ (w : AW) (i : Nat), wg w i = w[i]?
  | [], _ => by simp [wg]
  | c :: w, 0 => by simp [wg]
  | c :: w, k + 1 => by simp only [wg, List.getElem?_cons_succ]; exact wg_eq w k
theorem wp_eq : ∀ (w : AW) (i : Nat) (c : AC), wp w i c = w.set i c
  | [], _, _ => by simp [wp]
  | d :: w, 0, c => by simp [wp]
  | d :: w, k + 1, c => by simp only [wp, List.set_cons_succ]; rw [wp_eq w k c]
theorem vk_eq : ∀ (w : List Value) (i : Nat), vk w i = w[i]?
  | [], _ => by simp [vk]
  | c :: w, 0 => by simp [vk]
  | c :: w, k + 1 => by simp only [vk, List.getElem?_cons_succ]; exact vk_eq w k
theorem vs_eq : ∀ (w : List Value) (i : Nat) (c : Value), vs w i c = w.set i c
  | [], _, _ => by simp [vs]
  | d :: w, 0, c => by simp [vs]
  | d :: w, k + 1, c => by simp only [vs, List.set_cons_succ]; rw [vs_eq w k c]
theorem wp_len (w : AW) (i : Nat) (c : AC) : (wp w i c).length = w.length := by rw [wp_eq, List.length_set]
theorem wg_app {P L : AW} {a : Nat} (h : P.length = a) (i : Nat) : wg (P ++ L) (a + i) = wg L i := by
  subst h
  rw [wg_eq, wg_eq, List.getElem?_append_right (by omega)]
  congr 1
  omega
theorem wp_app {P L : AW} {a : Nat} (h : P.length = a) (i : Nat) (c : AC) : wp (P ++ L) (a + i) c = P ++ wp L i c := by
  subst h
  rw [wp_eq, wp_eq, List.set_append_right _ _ (by omega)]
  congr 2
  omega
theorem cw_get {dA : Nat → ClassId} {S b : Nat} {w : AW} {i : Nat} {c : AC} (h : wg w i = some c) : (cw dA S b w)[i]? = some (S + i, ce dA S b c) := by
  rw [wg_eq] at h
  simp [cw, h]
theorem cw_set {dA : Nat → ClassId} {S b : Nat} (w : AW) (i : Nat) (c : AC) : cw dA S b (wp w i c) = (cw dA S b w).set i (S + i, ce dA S b c) := by
  rw [wp_eq]
  simp [cw, List.mapIdx_set]
theorem cw_push {dA : Nat → ClassId} {S b : Nat} (w : AW) (c : AC) : cw dA S b (w ++ [c]) = cw dA S b w ++ [(S + w.length, ce dA S b c)] := by
  simp [cw, List.mapIdx_append]
theorem cw_D (dA : Nat → ClassId) (S b : Nat) (w : AW) : va_D (fun q => S ≤ q) (cw dA S b w) := by
  refine ⟨fun i j p q hi hj hpq => ?_, fun k q hk => ?_⟩
  · simp only [cw, List.getElem?_mapIdx, Option.map_eq_some_iff] at hi hj
    obtain ⟨_, -, rfl⟩ := hi
    obtain ⟨_, -, rfl⟩ := hj
    simp only at hpq
    omega
  · simp only [cw, List.getElem?_mapIdx, Option.map_eq_some_iff] at hk
    obtain ⟨_, -, rfl⟩ := hk
    exact Nat.le_add_right _ _
