/-! ===== the class: the box: sheets ===== -/
def lq (l : Int) : Int := if l < 0 then -4 else l
theorem lq_b {l : Int} (h : -1 ≤ l ∧ l ≤ 2) : (lq l = -4 ∧ l < 0) ∨ (lq l = l ∧ 0 ≤ l) := by unfold lq; split <;> omega
def shA (a : Nat) : Nat → Option Nat := va_up (va_up (va_up (va_up (fun _ => none) 0 (some (a + 26))) 1 (some (a + 28))) 2 (some (a + 30))) 3 (some (a + 32))
abbrev shw (a : Nat) (l0 n0 : Int) (f0 : Nat → Int) (l1 n1 : Int) (f1 : Nat → Int) (l2 n2 : Int) (f2 : Nat → Int) (l3 n3 : Int) (f3 : Nat → Int) (R : AW) : AW :=
  aR 4 (shA a) :: sk2 (a + 26) l0 n0 f0 (sk2 (a + 28) l1 n1 f1 (sk2 (a + 30) l2 n2 f2 (sk2 (a + 32) l3 n3 f3 R)))
abbrev shF (a : Nat) (ln rs it : Nat → Int) (R : AW) : AW := shw a (lq (ln 0)) (rs 0) (fun i => it (0 + i)) (lq (ln 1)) (rs 1) (fun i => it (24 + i)) (lq (ln 2)) (rs 2) (fun i => it (48 + i)) (lq (ln 3)) (rs 3) (fun i => it (72 + i)) R
abbrev shB (a : Nat) (ik : Int) (z y t so st : Nat → Int) (td sk le ot sn pk : Int) (d1 d2 d3 d4 : AC) (T : AW) : AW := bx a ik z y t so st td sk le ot sn pk (d1 :: d2 :: d3 :: d4 :: T)
theorem lenS0 {P : AW} {a : Nat} (hP : P.length = a) (ik : Int) (z y t so st : Nat → Int) (td sk le ot sn pk : Int) (d1 d2 d3 d4 : AC)  : (P ++ shB a ik z y t so st td sk le ot sn pk d1 d2 d3 d4 (aR 4 (shA a) :: [])).length = a + 26 := by rw [List.length_append, hP]; rfl
set_option maxRecDepth 100000 in
set_option maxHeartbeats 4000000 in
theorem s0_hold {P : AW} {a : Nat} (hP : P.length = a) (ik : Int) (z y t so st : Nat → Int) (td sk le ot sn pk : Int) (d1 d2 d3 d4 : AC) (l0 n0 : Int) (f0 : Nat → Int) (l1 n1 : Int) (f1 : Nat → Int) (l2 n2 : Int) (f2 : Nat → Int) (l3 n3 : Int) (f3 : Nat → Int) (R : AW) (l' n' : Int) : CTv I_X1_hold 0 0 [.ref (a + 26), .int (iI l'), .int (iI n')] (P ++ shB a ik z y t so st td sk le ot sn pk d1 d2 d3 d4 (shw a l0 n0 f0 l1 n1 f1 l2 n2 f2 l3 n3 f3 R)) (fun w' => w' = P ++ shB a ik z y t so st td sk le ot sn pk d1 d2 d3 d4 (shw a (l') (n') (fun _ => 0) l1 n1 f1 l2 n2 f2 l3 n3 f3 R)) := by
  have h := k_hold (lenS0 hP ik z y t so st td sk le ot sn pk d1 d2 d3 d4 ) l0 n0 f0 (sk2 (a + 28) l1 n1 f1 (sk2 (a + 30) l2 n2 f2 (sk2 (a + 32) l3 n3 f3 (R)))) l' n'
  simp only [List.append_assoc] at h
  exact h
set_option maxRecDepth 100000 in
set_option maxHeartbeats 4000000 in
theorem s0_refusalAs {P : AW} {a : Nat} (hP : P.length = a) (ik : Int) (z y t so st : Nat → Int) (td sk le ot sn pk : Int) (d1 d2 d3 d4 : AC) (l0 n0 : Int) (f0 : Nat → Int) (l1 n1 : Int) (f1 : Nat → Int) (l2 n2 : Int) (f2 : Nat → Int) (l3 n3 : Int) (f3 : Nat → Int) (R : AW) (hil : inR l0) (k : Int) (hik : inR k) : CTi I_X1_refusalAs 0 0 [.ref (a + 26), .int (iI k)] (P ++ shB a ik z y t so st td sk le ot sn pk d1 d2 d3 d4 (shw a l0 n0 f0 l1 n1 f1 l2 n2 f2 l3 n3 f3 R)) (fun x w' => x = (if l0 = -4 then -11 else if l0 = k then 0 else -12) ∧ w' = P ++ shB a ik z y t so st td sk le ot sn pk d1 d2 d3 d4 (shw a l0 n0 f0 l1 n1 f1 l2 n2 f2 l3 n3 f3 R)) := by
  have h := k_refusalAs (lenS0 hP ik z y t so st td sk le ot sn pk d1 d2 d3 d4 ) l0 n0 f0 (sk2 (a + 28) l1 n1 f1 (sk2 (a + 30) l2 n2 f2 (sk2 (a + 32) l3 n3 f3 (R)))) hil k hik
  simp only [List.append_assoc] at h
  exact h
set_option maxRecDepth 100000 in
set_option maxHeartbeats 4000000 in
theorem s0_write {P : AW} {a : Nat} (hP : P.length = a) (ik : Int) (z y t so st : Nat → Int) (td sk le ot sn pk : Int) (d1 d2 d3 d4 : AC) (l0 n0 : Int) (f0 : Nat → Int) (l1 n1 : Int) (f1 : Nat → Int) (l2 n2 : Int) (f2 : Nat → Int) (l3 n3 : Int) (f3 : Nat → Int) (R : AW) (hil : inR l0) (i v : Int) (hi : 0 ≤ i ∧ i ≤ 23) : CTv I_X1_write 0 0 [.ref (a + 26), .int (iI i), .int (iI v)] (P ++ shB a ik z y t so st td sk le ot sn pk d1 d2 d3 d4 (shw a l0 n0 f0 l1 n1 f1 l2 n2 f2 l3 n3 f3 R)) (fun w' => w' = P ++ shB a ik z y t so st td sk le ot sn pk d1 d2 d3 d4 (shw a l0 n0 (updI f0 i.toNat (cutI l0 v)) l1 n1 f1 l2 n2 f2 l3 n3 f3 R)) := by
  have h := k_write (lenS0 hP ik z y t so st td sk le ot sn pk d1 d2 d3 d4 ) l0 n0 f0 (sk2 (a + 28) l1 n1 f1 (sk2 (a + 30) l2 n2 f2 (sk2 (a + 32) l3 n3 f3 (R)))) hil i v hi
  simp only [List.append_assoc] at h
  exact h
set_option maxRecDepth 100000 in
set_option maxHeartbeats 4000000 in
theorem s0_areTimes {P : AW} {a : Nat} (hP : P.length = a) (ik : Int) (z y t so st : Nat → Int) (td sk le ot sn pk : Int) (d1 d2 d3 d4 : AC) (l0 n0 : Int) (f0 : Nat → Int) (l1 n1 : Int) (f1 : Nat → Int) (l2 n2 : Int) (f2 : Nat → Int) (l3 n3 : Int) (f3 : Nat → Int) (R : AW) (hf : ∀ i, inR (f0 i)) (fr m : Int) (h1 : 0 ≤ fr) (h2 : 1 ≤ m) (h3 : fr + m ≤ 24) : CTi I_X1_areTimes 0 0 [.ref (a + 26), .int (iI fr), .int (iI m)] (P ++ shB a ik z y t so st td sk le ot sn pk d1 d2 d3 d4 (shw a l0 n0 f0 l1 n1 f1 l2 n2 f2 l3 n3 f3 R)) (fun x w' => x = rgt (fun i => f0 (fr.toNat + i)) m.toNat ∧ w' = P ++ shB a ik z y t so st td sk le ot sn pk d1 d2 d3 d4 (shw a l0 n0 f0 l1 n1 f1 l2 n2 f2 l3 n3 f3 R)) := by
  have h := k_areTimes (lenS0 hP ik z y t so st td sk le ot sn pk d1 d2 d3 d4 ) l0 n0 f0 (sk2 (a + 28) l1 n1 f1 (sk2 (a + 30) l2 n2 f2 (sk2 (a + 32) l3 n3 f3 (R)))) hf fr m h1 h2 h3
  simp only [List.append_assoc] at h
  exact h
set_option maxRecDepth 100000 in
set_option maxHeartbeats 4000000 in
theorem s0_onlyGap {P : AW} {a : Nat} (hP : P.length = a) (ik : Int) (z y t so st : Nat → Int) (td sk le ot sn pk : Int) (d1 d2 d3 d4 : AC) (l0 n0 : Int) (f0 : Nat → Int) (l1 n1 : Int) (f1 : Nat → Int) (l2 n2 : Int) (f2 : Nat → Int) (l3 n3 : Int) (f3 : Nat → Int) (R : AW) (hf : ∀ i, inR (f0 i)) (fr m g : Int) (h1 : 0 ≤ fr) (h2 : 1 ≤ m) (h3 : fr + m ≤ 24) (hg : 1 ≤ g ∧ g ≤ 999) : CTi I_X1_onlyGap 0 0 [.ref (a + 26), .int (iI fr), .int (iI m), .int (iI g)] (P ++ shB a ik z y t so st td sk le ot sn pk d1 d2 d3 d4 (shw a l0 n0 f0 l1 n1 f1 l2 n2 f2 l3 n3 f3 R)) (fun x w' => x = rOg (fun i => f0 (fr.toNat + i)) g m.toNat ∧ w' = P ++ shB a ik z y t so st td sk le ot sn pk d1 d2 d3 d4 (shw a l0 n0 f0 l1 n1 f1 l2 n2 f2 l3 n3 f3 R)) := by
  have h := k_onlyGap (lenS0 hP ik z y t so st td sk le ot sn pk d1 d2 d3 d4 ) l0 n0 f0 (sk2 (a + 28) l1 n1 f1 (sk2 (a + 30) l2 n2 f2 (sk2 (a + 32) l3 n3 f3 (R)))) hf fr m g h1 h2 h3 hg
  simp only [List.append_assoc] at h
  exact h
theorem lenS1 {P : AW} {a : Nat} (hP : P.length = a) (ik : Int) (z y t so st : Nat → Int) (td sk le ot sn pk : Int) (d1 d2 d3 d4 : AC) (l0 n0 : Int) (f0 : Nat → Int) : (P ++ shB a ik z y t so st td sk le ot sn pk d1 d2 d3 d4 (aR 4 (shA a) :: sk2 (a + 26) l0 n0 f0 ([]))).length = a + 28 := by rw [List.length_append, hP]; rfl
set_option maxRecDepth 100000 in
set_option maxHeartbeats 4000000 in
theorem s1_hold {P : AW} {a : Nat} (hP : P.length = a) (ik : Int) (z y t so st : Nat → Int) (td sk le ot sn pk : Int) (d1 d2 d3 d4 : AC) (l0 n0 : Int) (f0 : Nat → Int) (l1 n1 : Int) (f1 : Nat → Int) (l2 n2 : Int) (f2 : Nat → Int) (l3 n3 : Int) (f3 : Nat → Int) (R : AW) (l' n' : Int) : CTv I_X1_hold 0 0 [.ref (a + 28), .int (iI l'), .int (iI n')] (P ++ shB a ik z y t so st td sk le ot sn pk d1 d2 d3 d4 (shw a l0 n0 f0 l1 n1 f1 l2 n2 f2 l3 n3 f3 R)) (fun w' => w' = P ++ shB a ik z y t so st td sk le ot sn pk d1 d2 d3 d4 (shw a l0 n0 f0 (l') (n') (fun _ => 0) l2 n2 f2 l3 n3 f3 R)) := by
  have h := k_hold (lenS1 hP ik z y t so st td sk le ot sn pk d1 d2 d3 d4 l0 n0 f0) l1 n1 f1 (sk2 (a + 30) l2 n2 f2 (sk2 (a + 32) l3 n3 f3 (R))) l' n'
  simp only [List.append_assoc] at h
  exact h
set_option maxRecDepth 100000 in
set_option maxHeartbeats 4000000 in
theorem s1_refusalAs {P : AW} {a : Nat} (hP : P.length = a) (ik : Int) (z y t so st : Nat → Int) (td sk le ot sn pk : Int) (d1 d2 d3 d4 : AC) (l0 n0 : Int) (f0 : Nat → Int) (l1 n1 : Int) (f1 : Nat → Int) (l2 n2 : Int) (f2 : Nat → Int) (l3 n3 : Int) (f3 : Nat → Int) (R : AW) (hil : inR l1) (k : Int) (hik : inR k) : CTi I_X1_refusalAs 0 0 [.ref (a + 28), .int (iI k)] (P ++ shB a ik z y t so st td sk le ot sn pk d1 d2 d3 d4 (shw a l0 n0 f0 l1 n1 f1 l2 n2 f2 l3 n3 f3 R)) (fun x w' => x = (if l1 = -4 then -11 else if l1 = k then 0 else -12) ∧ w' = P ++ shB a ik z y t so st td sk le ot sn pk d1 d2 d3 d4 (shw a l0 n0 f0 l1 n1 f1 l2 n2 f2 l3 n3 f3 R)) := by
  have h := k_refusalAs (lenS1 hP ik z y t so st td sk le ot sn pk d1 d2 d3 d4 l0 n0 f0) l1 n1 f1 (sk2 (a + 30) l2 n2 f2 (sk2 (a + 32) l3 n3 f3 (R))) hil k hik
  simp only [List.append_assoc] at h
  exact h
set_option maxRecDepth 100000 in
set_option maxHeartbeats 4000000 in
theorem s1_write {P : AW} {a : Nat} (hP : P.length = a) (ik : Int) (z y t so st : Nat → Int) (td sk le ot sn pk : Int) (d1 d2 d3 d4 : AC) (l0 n0 : Int) (f0 : Nat → Int) (l1 n1 : Int) (f1 : Nat → Int) (l2 n2 : Int) (f2 : Nat → Int) (l3 n3 : Int) (f3 : Nat → Int) (R : AW) (hil : inR l1) (i v : Int) (hi : 0 ≤ i ∧ i ≤ 23) : CTv I_X1_write 0 0 [.ref (a + 28), .int (iI i), .int (iI v)] (P ++ shB a ik z y t so st td sk le ot sn pk d1 d2 d3 d4 (shw a l0 n0 f0 l1 n1 f1 l2 n2 f2 l3 n3 f3 R)) (fun w' => w' = P ++ shB a ik z y t so st td sk le ot sn pk d1 d2 d3 d4 (shw a l0 n0 f0 l1 n1 (updI f1 i.toNat (cutI l1 v)) l2 n2 f2 l3 n3 f3 R)) := by
  have h := k_write (lenS1 hP ik z y t so st td sk le ot sn pk d1 d2 d3 d4 l0 n0 f0) l1 n1 f1 (sk2 (a + 30) l2 n2 f2 (sk2 (a + 32) l3 n3 f3 (R))) hil i v hi
  simp only [List.append_assoc] at h
  exact h
set_option maxRecDepth 100000 in
set_option maxHeartbeats 4000000 in
theorem s1_areTimes {P : AW} {a : Nat} (hP : P.length = a) (ik : Int) (z y t so st : Nat → Int) (td sk le ot sn pk : Int) (d1 d2 d3 d4 : AC) (l0 n0 : Int) (f0 : Nat → Int) (l1 n1 : Int) (f1 : Nat → Int) (l2 n2 : Int) (f2 : Nat → Int) (l3 n3 : Int) (f3 : Nat → Int) (R : AW) (hf : ∀ i, inR (f1 i)) (fr m : Int) (h1 : 0 ≤ fr) (h2 : 1 ≤ m) (h3 : fr + m ≤ 24) : CTi I_X1_areTimes 0 0 [.ref (a + 28), .int (iI fr), .int (iI m)] (P ++ shB a ik z y t so st td sk le ot sn pk d1 d2 d3 d4 (shw a l0 n0 f0 l1 n1 f1 l2 n2 f2 l3 n3 f3 R)) (fun x w' => x = rgt (fun i => f1 (fr.toNat + i)) m.toNat ∧ w' = P ++ shB a ik z y t so st td sk le ot sn pk d1 d2 d3 d4 (shw a l0 n0 f0 l1 n1 f1 l2 n2 f2 l3 n3 f3 R)) := by
  have h := k_areTimes (lenS1 hP ik z y t so st td sk le ot sn pk d1 d2 d3 d4 l0 n0 f0) l1 n1 f1 (sk2 (a + 30) l2 n2 f2 (sk2 (a + 32) l3 n3 f3 (R))) hf fr m h1 h2 h3
  simp only [List.append_assoc] at h
  exact h
set_option maxRecDepth 100000 in
set_option maxHeartbeats 4000000 in
theorem s1_onlyGap {P : AW} {a : Nat} (hP : P.length = a) (ik : Int) (z y t so st : Nat → Int) (td sk le ot sn pk : Int) (d1 d2 d3 d4 : AC) (l0 n0 : Int) (f0 : Nat → Int) (l1 n1 : Int) (f1 : Nat → Int) (l2 n2 : Int) (f2 : Nat → Int) (l3 n3 : Int) (f3 : Nat → Int) (R : AW) (hf : ∀ i, inR (f1 i)) (fr m g : Int) (h1 : 0 ≤ fr) (h2 : 1 ≤ m) (h3 : fr + m ≤ 24) (hg : 1 ≤ g ∧ g ≤ 999) : CTi I_X1_onlyGap 0 0 [.ref (a + 28), .int (iI fr), .int (iI m), .int (iI g)] (P ++ shB a ik z y t so st td sk le ot sn pk d1 d2 d3 d4 (shw a l0 n0 f0 l1 n1 f1 l2 n2 f2 l3 n3 f3 R)) (fun x w' => x = rOg (fun i => f1 (fr.toNat + i)) g m.toNat ∧ w' = P ++ shB a ik z y t so st td sk le ot sn pk d1 d2 d3 d4 (shw a l0 n0 f0 l1 n1 f1 l2 n2 f2 l3 n3 f3 R)) := by
  have h := k_onlyGap (lenS1 hP ik z y t so st td sk le ot sn pk d1 d2 d3 d4 l0 n0 f0) l1 n1 f1 (sk2 (a + 30) l2 n2 f2 (sk2 (a + 32) l3 n3 f3 (R))) hf fr m g h1 h2 h3 hg
  simp only [List.append_assoc] at h
  exact h
theorem lenS2 {P : AW} {a : Nat} (hP : P.length = a) (ik : Int) (z y t so st : Nat → Int) (td sk le ot sn pk : Int) (d1 d2 d3 d4 : AC) (l0 n0 : Int) (f0 : Nat → Int) (l1 n1 : Int) (f1 : Nat → Int) : (P ++ shB a ik z y t so st td sk le ot sn pk d1 d2 d3 d4 (aR 4 (shA a) :: sk2 (a + 26) l0 n0 f0 (sk2 (a + 28) l1 n1 f1 ([])))).length = a + 30 := by rw [List.length_append, hP]; rfl
set_option maxRecDepth 100000 in
set_option maxHeartbeats 4000000 in
theorem s2_hold {P : AW} {a : Nat} (hP : P.length = a) (ik : Int) (z y t so st : Nat → Int) (td sk le ot sn pk : Int) (d1 d2 d3 d4 : AC) (l0 n0 : Int) (f0 : Nat → Int) (l1 n1 : Int) (f1 : Nat → Int) (l2 n2 : Int) (f2 : Nat → Int) (l3 n3 : Int) (f3 : Nat → Int) (R : AW) (l' n' : Int) : CTv I_X1_hold 0 0 [.ref (a + 30), .int (iI l'), .int (iI n')] (P ++ shB a ik z y t so st td sk le ot sn pk d1 d2 d3 d4 (shw a l0 n0 f0 l1 n1 f1 l2 n2 f2 l3 n3 f3 R)) (fun w' => w' = P ++ shB a ik z y t so st td sk le ot sn pk d1 d2 d3 d4 (shw a l0 n0 f0 l1 n1 f1 (l') (n') (fun _ => 0) l3 n3 f3 R)) := by
  have h := k_hold (lenS2 hP ik z y t so st td sk le ot sn pk d1 d2 d3 d4 l0 n0 f0 l1 n1 f1) l2 n2 f2 (sk2 (a + 32) l3 n3 f3 (R)) l' n'
  simp only [List.append_assoc] at h
  exact h
set_option maxRecDepth 100000 in
set_option maxHeartbeats 4000000 in
theorem s2_refusalAs {P : AW} {a : Nat} (hP : P.length = a) (ik : Int) (z y t so st : Nat → Int) (td sk le ot sn pk : Int) (d1 d2 d3 d4 : AC) (l0 n0 : Int) (f0 : Nat → Int) (l1 n1 : Int) (f1 : Nat → Int) (l2 n2 : Int) (f2 : Nat → Int) (l3 n3 : Int) (f3 : Nat → Int) (R : AW) (hil : inR l2) (k : Int) (hik : inR k) : CTi I_X1_refusalAs 0 0 [.ref (a + 30), .int (iI k)] (P ++ shB a ik z y t so st td sk le ot sn pk d1 d2 d3 d4 (shw a l0 n0 f0 l1 n1 f1 l2 n2 f2 l3 n3 f3 R)) (fun x w' => x = (if l2 = -4 then -11 else if l2 = k then 0 else -12) ∧ w' = P ++ shB a ik z y t so st td sk le ot sn pk d1 d2 d3 d4 (shw a l0 n0 f0 l1 n1 f1 l2 n2 f2 l3 n3 f3 R)) := by
  have h := k_refusalAs (lenS2 hP ik z y t so st td sk le ot sn pk d1 d2 d3 d4 l0 n0 f0 l1 n1 f1) l2 n2 f2 (sk2 (a + 32) l3 n3 f3 (R)) hil k hik
  simp only [List.append_assoc] at h
  exact h
set_option maxRecDepth 100000 in
set_option maxHeartbeats 4000000 in
theorem s2_write {P : AW} {a : Nat} (hP : P.length = a) (ik : Int) (z y t so st : Nat → Int) (td sk le ot sn pk : Int) (d1 d2 d3 d4 : AC) (l0 n0 : Int) (f0 : Nat → Int) (l1 n1 : Int) (f1 : Nat → Int) (l2 n2 : Int) (f2 : Nat → Int) (l3 n3 : Int) (f3 : Nat → Int) (R : AW) (hil : inR l2) (i v : Int) (hi : 0 ≤ i ∧ i ≤ 23) : CTv I_X1_write 0 0 [.ref (a + 30), .int (iI i), .int (iI v)] (P ++ shB a ik z y t so st td sk le ot sn pk d1 d2 d3 d4 (shw a l0 n0 f0 l1 n1 f1 l2 n2 f2 l3 n3 f3 R)) (fun w' => w' = P ++ shB a ik z y t so st td sk le ot sn pk d1 d2 d3 d4 (shw a l0 n0 f0 l1 n1 f1 l2 n2 (updI f2 i.toNat (cutI l2 v)) l3 n3 f3 R)) := by
  have h := k_write (lenS2 hP ik z y t so st td sk le ot sn pk d1 d2 d3 d4 l0 n0 f0 l1 n1 f1) l2 n2 f2 (sk2 (a + 32) l3 n3 f3 (R)) hil i v hi
  simp only [List.append_assoc] at h
  exact h
set_option maxRecDepth 100000 in
set_option maxHeartbeats 4000000 in
theorem s2_areTimes {P : AW} {a : Nat} (hP : P.length = a) (ik : Int) (z y t so st : Nat → Int) (td sk le ot sn pk : Int) (d1 d2 d3 d4 : AC) (l0 n0 : Int) (f0 : Nat → Int) (l1 n1 : Int) (f1 : Nat → Int) (l2 n2 : Int) (f2 : Nat → Int) (l3 n3 : Int) (f3 : Nat → Int) (R : AW) (hf : ∀ i, inR (f2 i)) (fr m : Int) (h1 : 0 ≤ fr) (h2 : 1 ≤ m) (h3 : fr + m ≤ 24) : CTi I_X1_areTimes 0 0 [.ref (a + 30), .int (iI fr), .int (iI m)] (P ++ shB a ik z y t so st td sk le ot sn pk d1 d2 d3 d4 (shw a l0 n0 f0 l1 n1 f1 l2 n2 f2 l3 n3 f3 R)) (fun x w' => x = rgt (fun i => f2 (fr.toNat + i)) m.toNat ∧ w' = P ++ shB a ik z y t so st td sk le ot sn pk d1 d2 d3 d4 (shw a l0 n0 f0 l1 n1 f1 l2 n2 f2 l3 n3 f3 R)) := by
  have h := k_areTimes (lenS2 hP ik z y t so st td sk le ot sn pk d1 d2 d3 d4 l0 n0 f0 l1 n1 f1) l2 n2 f2 (sk2 (a + 32) l3 n3 f3 (R)) hf fr m h1 h2 h3
  simp only [List.append_assoc] at h
  exact h
set_option maxRecDepth 100000 in
set_option maxHeartbeats 4000000 in
theorem s2_onlyGap {P : AW} {a : Nat} (hP : P.length = a) (ik : Int) (z y t so st : Nat → Int) (td sk le ot sn pk : Int) (d1 d2 d3 d4 : AC) (l0 n0 : Int) (f0 : Nat → Int) (l1 n1 : Int) (f1 : Nat → Int) (l2 n2 : Int) (f2 : Nat → Int) (l3 n3 : Int) (f3 : Nat → Int) (R : AW) (hf : ∀ i, inR (f2 i)) (fr m g : Int) (h1 : 0 ≤ fr) (h2 : 1 ≤ m) (h3 : fr + m ≤ 24) (hg : 1 ≤ g ∧ g ≤ 999) : CTi I_X1_onlyGap 0 0 [.ref (a + 30), .int (iI fr), .int (iI m), .int (iI g)] (P ++ shB a ik z y t so st td sk le ot sn pk d1 d2 d3 d4 (shw a l0 n0 f0 l1 n1 f1 l2 n2 f2 l3 n3 f3 R)) (fun x w' => x = rOg (fun i => f2 (fr.toNat + i)) g m.toNat ∧ w' = P ++ shB a ik z y t so st td sk le ot sn pk d1 d2 d3 d4 (shw a l0 n0 f0 l1 n1 f1 l2 n2 f2 l3 n3 f3 R)) := by
  have h := k_onlyGap (lenS2 hP ik z y t so st td sk le ot sn pk d1 d2 d3 d4 l0 n0 f0 l1 n1 f1) l2 n2 f2 (sk2 (a + 32) l3 n3 f3 (R)) hf fr m g h1 h2 h3 hg
  simp only [List.append_assoc] at h
  exact h
theorem lenS3 {P : AW} {a : Nat} (hP : P.length = a) (ik : Int) (z y t so st : Nat → Int) (td sk le ot sn pk : Int) (d1 d2 d3 d4 : AC) (l0 n0 : Int) (f0 : Nat → Int) (l1 n1 : Int) (f1 : Nat → Int) (l2 n2 : Int) (f2 : Nat → Int) : (P ++ shB a ik z y t so st td sk le ot sn pk d1 d2 d3 d4 (aR 4 (shA a) :: sk2 (a + 26) l0 n0 f0 (sk2 (a + 28) l1 n1 f1 (sk2 (a + 30) l2 n2 f2 ([]))))).length = a + 32 := by rw [List.length_append, hP]; rfl
set_option maxRecDepth 100000 in
set_option maxHeartbeats 4000000 in
theorem s3_hold {P : AW} {a : Nat} (hP : P.length = a) (ik : Int) (z y t so st : Nat → Int) (td sk le ot sn pk : Int) (d1 d2 d3 d4 : AC) (l0 n0 : Int) (f0 : Nat → Int) (l1 n1 : Int) (f1 : Nat → Int) (l2 n2 : Int) (f2 : Nat → Int) (l3 n3 : Int) (f3 : Nat → Int) (R : AW) (l' n' : Int) : CTv I_X1_hold 0 0 [.ref (a + 32), .int (iI l'), .int (iI n')] (P ++ shB a ik z y t so st td sk le ot sn pk d1 d2 d3 d4 (shw a l0 n0 f0 l1 n1 f1 l2 n2 f2 l3 n3 f3 R)) (fun w' => w' = P ++ shB a ik z y t so st td sk le ot sn pk d1 d2 d3 d4 (shw a l0 n0 f0 l1 n1 f1 l2 n2 f2 (l') (n') (fun _ => 0) R)) := by
  have h := k_hold (lenS3 hP ik z y t so st td sk le ot sn pk d1 d2 d3 d4 l0 n0 f0 l1 n1 f1 l2 n2 f2) l3 n3 f3 (R) l' n'
  simp only [List.append_assoc] at h
  exact h
set_option maxRecDepth 100000 in
set_option maxHeartbeats 4000000 in
theorem s3_refusalAs {P : AW} {a : Nat} (hP : P.length = a) (ik : Int) (z y t so st : Nat → Int) (td sk le ot sn pk : Int) (d1 d2 d3 d4 : AC) (l0 n0 : Int) (f0 : Nat → Int) (l1 n1 : Int) (f1 : Nat → Int) (l2 n2 : Int) (f2 : Nat → Int) (l3 n3 : Int) (f3 : Nat → Int) (R : AW) (hil : inR l3) (k : Int) (hik : inR k) : CTi I_X1_refusalAs 0 0 [.ref (a + 32), .int (iI k)] (P ++ shB a ik z y t so st td sk le ot sn pk d1 d2 d3 d4 (shw a l0 n0 f0 l1 n1 f1 l2 n2 f2 l3 n3 f3 R)) (fun x w' => x = (if l3 = -4 then -11 else if l3 = k then 0 else -12) ∧ w' = P ++ shB a ik z y t so st td sk le ot sn pk d1 d2 d3 d4 (shw a l0 n0 f0 l1 n1 f1 l2 n2 f2 l3 n3 f3 R)) := by
  have h := k_refusalAs (lenS3 hP ik z y t so st td sk le ot sn pk d1 d2 d3 d4 l0 n0 f0 l1 n1 f1 l2 n2 f2) l3 n3 f3 (R) hil k hik
  simp only [List.append_assoc] at h
  exact h
set_option maxRecDepth 100000 in
set_option maxHeartbeats 4000000 in
theorem s3_write {P : AW} {a : Nat} (hP : P.length = a) (ik : Int) (z y t so st : Nat → Int) (td sk le ot sn pk : Int) (d1 d2 d3 d4 : AC) (l0 n0 : Int) (f0 : Nat → Int) (l1 n1 : Int) (f1 : Nat → Int) (l2 n2 : Int) (f2 : Nat → Int) (l3 n3 : Int) (f3 : Nat → Int) (R : AW) (hil : inR l3) (i v : Int) (hi : 0 ≤ i ∧ i ≤ 23) : CTv I_X1_write 0 0 [.ref (a + 32), .int (iI i), .int (iI v)] (P ++ shB a ik z y t so st td sk le ot sn pk d1 d2 d3 d4 (shw a l0 n0 f0 l1 n1 f1 l2 n2 f2 l3 n3 f3 R)) (fun w' => w' = P ++ shB a ik z y t so st td sk le ot sn pk d1 d2 d3 d4 (shw a l0 n0 f0 l1 n1 f1 l2 n2 f2 l3 n3 (updI f3 i.toNat (cutI l3 v)) R)) := by
  have h := k_write (lenS3 hP ik z y t so st td sk le ot sn pk d1 d2 d3 d4 l0 n0 f0 l1 n1 f1 l2 n2 f2) l3 n3 f3 (R) hil i v hi
  simp only [List.append_assoc] at h
  exact h
set_option maxRecDepth 100000 in
set_option maxHeartbeats 4000000 in
theorem s3_areTimes {P : AW} {a : Nat} (hP : P.length = a) (ik : Int) (z y t so st : Nat → Int) (td sk le ot sn pk : Int) (d1 d2 d3 d4 : AC) (l0 n0 : Int) (f0 : Nat → Int) (l1 n1 : Int) (f1 : Nat → Int) (l2 n2 : Int) (f2 : Nat → Int) (l3 n3 : Int) (f3 : Nat → Int) (R : AW) (hf : ∀ i, inR (f3 i)) (fr m : Int) (h1 : 0 ≤ fr) (h2 : 1 ≤ m) (h3 : fr + m ≤ 24) : CTi I_X1_areTimes 0 0 [.ref (a + 32), .int (iI fr), .int (iI m)] (P ++ shB a ik z y t so st td sk le ot sn pk d1 d2 d3 d4 (shw a l0 n0 f0 l1 n1 f1 l2 n2 f2 l3 n3 f3 R)) (fun x w' => x = rgt (fun i => f3 (fr.toNat + i)) m.toNat ∧ w' = P ++ shB a ik z y t so st td sk le ot sn pk d1 d2 d3 d4 (shw a l0 n0 f0 l1 n1 f1 l2 n2 f2 l3 n3 f3 R)) := by
  have h := k_areTimes (lenS3 hP ik z y t so st td sk le ot sn pk d1 d2 d3 d4 l0 n0 f0 l1 n1 f1 l2 n2 f2) l3 n3 f3 (R) hf fr m h1 h2 h3
  simp only [List.append_assoc] at h
  exact h
set_option maxRecDepth 100000 in
set_option maxHeartbeats 4000000 in
theorem s3_onlyGap {P : AW} {a : Nat} (hP : P.length = a) (ik : Int) (z y t so st : Nat → Int) (td sk le ot sn pk : Int) (d1 d2 d3 d4 : AC) (l0 n0 : Int) (f0 : Nat → Int) (l1 n1 : Int) (f1 : Nat → Int) (l2 n2 : Int) (f2 : Nat → Int) (l3 n3 : Int) (f3 : Nat → Int) (R : AW) (hf : ∀ i, inR (f3 i)) (fr m g : Int) (h1 : 0 ≤ fr) (h2 : 1 ≤ m) (h3 : fr + m ≤ 24) (hg : 1 ≤ g ∧ g ≤ 999) : CTi I_X1_onlyGap 0 0 [.ref (a + 32), .int (iI fr), .int (iI m), .int (iI g)] (P ++ shB a ik z y t so st td sk le ot sn pk d1 d2 d3 d4 (shw a l0 n0 f0 l1 n1 f1 l2 n2 f2 l3 n3 f3 R)) (fun x w' => x = rOg (fun i => f3 (fr.toNat + i)) g m.toNat ∧ w' = P ++ shB a ik z y t so st td sk le ot sn pk d1 d2 d3 d4 (shw a l0 n0 f0 l1 n1 f1 l2 n2 f2 l3 n3 f3 R)) := by
  have h := k_onlyGap (lenS3 hP ik z y t so st td sk le ot sn pk d1 d2 d3 d4 l0 n0 f0 l1 n1 f1 l2 n2 f2) l3 n3 f3 (R) hf fr m g h1 h2 h3 hg
  simp only [List.append_assoc] at h
  exact h
set_option maxRecDepth 100000 in
set_option maxHeartbeats 4000000 in
theorem k_isSL (w : AW) (s l : Int) (his : inR s) (hil : inR l) : CTi I_X5_isSheetOfLane 0 0 [.int (iI s), .int (iI l)] (w) (fun x w' => x = (if 0 ≤ s ∧ s ≤ 3 ∧ 0 ≤ l ∧ l ≤ 2 then 1 else 0) ∧ w' = w) := by
  refine CT_of 0 rfl (Nat.le_of_ble_eq_true rfl) ?_
  show EX I_X5_isSheetOfLane 0 0 none _ 0 [some (.int (iI s)), some (.int (iI l))] [] _ 0 0
  refine x_iload_n dX5_isSheetOfLane_0 rfl ?_
  refine x_iconst dX5_isSheetOfLane_1 ?_
  refine x_iconst dX5_isSheetOfLane_2 ?_
  refine x_calliS dX5_isSheetOfLane_3 mk_X5_within ml_X5_54 (k_within _ s 0 3 his (by decide) (by decide)) rfl (fun x3 w3 h3 => ?_)
  obtain ⟨hb3, rfl⟩ := h3
  by_cases c3 : 0 ≤ s ∧ s ≤ 3
  · rw [if_pos c3] at hb3
    subst hb3
    refine x_if_eq 22 dX5_isSheetOfLane_6 (fun h6 => absurd h6 (by decide)) (fun h6 => ?_)
    refine x_iload_n dX5_isSheetOfLane_9 rfl ?_
    refine x_iconst dX5_isSheetOfLane_10 ?_
    refine x_iconst dX5_isSheetOfLane_11 ?_
    refine x_calliS dX5_isSheetOfLane_12 mk_X5_within ml_X5_54 (k_within _ l 0 2 hil (by decide) (by decide)) rfl (fun x12 w12 h12 => ?_)
    obtain ⟨hb12, rfl⟩ := h12
    by_cases c12 : 0 ≤ l ∧ l ≤ 2
    · rw [if_pos c12] at hb12
      subst hb12
      refine x_if_eq 22 dX5_isSheetOfLane_15 (fun h15 => absurd h15 (by decide)) (fun h15 => ?_)
      refine x_iconst dX5_isSheetOfLane_18 ?_
      refine x_goto 23 dX5_isSheetOfLane_19 ?_
      exact x_zret dX5_isSheetOfLane_23 (by omega) (⟨by (repeat' split) <;> omega, rfl⟩)
    · rw [if_neg c12] at hb12
      subst hb12
      refine x_if_eq 22 dX5_isSheetOfLane_15 (fun h15 => ?_) (fun h15 => absurd h15 (by decide))
      refine x_iconst dX5_isSheetOfLane_22 ?_
      exact x_zret dX5_isSheetOfLane_23 (by omega) (⟨by (repeat' split) <;> omega, rfl⟩)
  · rw [if_neg c3] at hb3
    subst hb3
    refine x_if_eq 22 dX5_isSheetOfLane_6 (fun h6 => ?_) (fun h6 => absurd h6 (by decide))
    refine x_iconst dX5_isSheetOfLane_22 ?_
    exact x_zret dX5_isSheetOfLane_23 (by omega) (⟨by (repeat' split) <;> omega, rfl⟩)
set_option maxRecDepth 100000 in
set_option maxHeartbeats 4000000 in
theorem b_drop0 {P : AW} {a : Nat} (hP : P.length = a) (ik : Int) (z y t so st : Nat → Int) (td sk le ot sn pk : Int) (d1 d2 d3 d4 : AC) (ln rs it : Nat → Int) (R : AW) (hSh : SH ln rs it) (hC : CI z td sk so st le ot sn pk)  : CTi I_X5_drop 0 0 [.ref (a + 0), .int (iI 0)] (P ++ bx a ik z y t so st td sk le ot sn pk (d1 :: d2 :: d3 :: d4 :: shF a (ln) (rs) (it) R)) (fun x w' => x = rDrop ln rs 0 ∧ BI P a ik z y (d1 :: d2 :: d3 :: d4 :: shF a (sDrop ln 0) (rs) (it) R) w') := by
  have hl := lq_b (hSh.1 0)
  have hln := hSh.1 0
  have hrs := hSh.2.1 0
  refine CT_of 0 rfl (Nat.le_of_ble_eq_true rfl) ?_
  show EX I_X5_drop 0 0 none _ 0 [some (.ref (a + 0)), some (.int (iI 0))] [] _ 0 0
  refine x_iload_n dX5_drop_0 rfl ?_
  refine x_iconst dX5_drop_1 ?_
  refine x_iconst dX5_drop_2 ?_
  refine x_calliS dX5_drop_3 mk_X5_within ml_X5_54 (k_within _ 0 0 3 (by decide) (by decide) (by decide)) rfl (fun x3 w3 h3 => ?_)
  obtain ⟨hb3, rfl⟩ := h3
  rw [if_pos (by decide)] at hb3
  subst hb3
  refine x_if_ne 11 dX5_drop_6 (fun h6 => ?_) (fun h6 => absurd h6 (by decide))
  refine x_aload_n dX5_drop_11 rfl ?_
  refine x_getfield 0 dX5_drop_12 fg_X5_49 hP rfl rfl ?_
  refine x_iload_n dX5_drop_15 rfl ?_
  refine x_aaload 25 (0) dX5_drop_16 hP rfl (rfl) ?_
  refine x_getfield 26 dX5_drop_17 fg_X5_262 hP rfl rfl ?_
  refine x_bipush dX5_drop_20 ?_
  refine x_icmp_ne 28 dX5_drop_22 (fun h22 => ?_) (fun h22 => ?_) (ha := by omega)
  · refine x_aload_n dX5_drop_28 rfl ?_
    refine x_getfield 0 dX5_drop_29 fg_X5_49 hP rfl rfl ?_
    refine x_iload_n dX5_drop_32 rfl ?_
    refine x_aaload 25 (0) dX5_drop_33 hP rfl (rfl) ?_
    refine x_bipush dX5_drop_34 ?_
    refine x_putfield 26 dX5_drop_36 fl_X5_262 hP rfl (fun _ _ => ⟨rfl, rfl⟩) ?_
    refine x_aload_n dX5_drop_39 rfl ?_
    refine x_getfield 0 dX5_drop_40 fg_X5_49 hP rfl rfl ?_
    refine x_iload_n dX5_drop_43 rfl ?_
    refine x_aaload 25 (0) dX5_drop_44 hP rfl (rfl) ?_
    refine x_getfield 26 dX5_drop_45 fg_X5_216 hP rfl rfl ?_
    exact x_iret dX5_drop_48 (⟨((if_pos (by decide)).trans (if_pos (show 0 ≤ ln 0 by omega))).symm, by rw [show sDrop ln 0 = updI ln 0 (-1) from if_pos ⟨by decide, show 0 ≤ ln 0 by omega⟩]; exact ⟨t, so, st, td, sk, le, ot, sn, pk, rfl, hC⟩⟩)
  · refine x_bipush dX5_drop_25 ?_
    exact x_iret dX5_drop_27 (⟨((if_pos (by decide)).trans (if_neg (show ¬ 0 ≤ ln 0 by omega))).symm, by rw [show sDrop ln 0 = ln from if_neg (fun h => (show ¬ 0 ≤ ln 0 by omega) h.2)]; exact ⟨t, so, st, td, sk, le, ot, sn, pk, rfl, hC⟩⟩)
theorem shF_hold0 (a : Nat) (ln rs it : Nat → Int) (l m : Int) (R : AW) (h : 0 ≤ l) : shF a (updI ln 0 l) (updI rs 0 m) it R = shw a l m (fun i => it (0 + i)) (lq (ln 1)) (rs 1) (fun i => it (24 + i)) (lq (ln 2)) (rs 2) (fun i => it (48 + i)) (lq (ln 3)) (rs 3) (fun i => it (72 + i)) R := by
  have e : lq (updI ln 0 l 0) = l := if_neg (show ¬ l < 0 by omega)
  show shw a (lq (updI ln 0 l 0)) (updI rs 0 m 0) (fun i => it (0 + i)) (lq (updI ln 0 l 1)) (updI rs 0 m 1) (fun i => it (24 + i)) (lq (updI ln 0 l 2)) (updI rs 0 m 2) (fun i => it (48 + i)) (lq (updI ln 0 l 3)) (updI rs 0 m 3) (fun i => it (72 + i)) R = _
  rw [e]
  rfl
set_option maxRecDepth 100000 in
set_option maxHeartbeats 4000000 in
theorem b_sheet0 {P : AW} {a : Nat} (hP : P.length = a) (ik : Int) (z y t so st : Nat → Int) (td sk le ot sn pk : Int) (d1 d2 d3 d4 : AC) (ln rs it : Nat → Int) (R : AW) (hSh : SH ln rs it) (hC : CI z td sk so st le ot sn pk) (l m : Int) (hil : inR l) (him : inR m)  : CTi I_X5_sheet 0 0 [.ref (a + 0), .int (iI 0), .int (iI l), .int (iI m)] (P ++ bx a ik z y t so st td sk le ot sn pk (d1 :: d2 :: d3 :: d4 :: shF a (ln) (rs) (it) R)) (fun x w' => x = rSh 0 l m ∧ (if 0 ≤ (0 : Int) ∧ (0 : Int) ≤ 3 ∧ 0 ≤ l ∧ l ≤ 2 ∧ 0 ≤ m ∧ m ≤ 24 then BI P a ik z y (d1 :: d2 :: d3 :: d4 :: shF a (updI ln 0 l) (updI rs 0 m) (zit it 0 24) R) w' else BI P a ik z y (d1 :: d2 :: d3 :: d4 :: shF a (ln) (rs) (it) R) w')) := by
  have hl := lq_b (hSh.1 0)
  have hln := hSh.1 0
  have hrs := hSh.2.1 0
  refine CT_of 0 rfl (Nat.le_of_ble_eq_true rfl) ?_
  show EX I_X5_sheet 0 0 none _ 0 [some (.ref (a + 0)), some (.int (iI 0)), some (.int (iI l)), some (.int (iI m))] [] _ 0 0
  refine x_iload_n dX5_sheet_0 rfl ?_
  refine x_iload_n dX5_sheet_1 rfl ?_
  refine x_calliS dX5_sheet_2 mk_X5_isSheetOfLane ml_X5_209 (k_isSL _ 0 l (by decide) hil) rfl (fun x2 w2 h2 => ?_)
  obtain ⟨hb2, rfl⟩ := h2
  by_cases c2 : 0 ≤ (0 : Int) ∧ (0 : Int) ≤ 3 ∧ 0 ≤ l ∧ l ≤ 2
  · rw [if_pos c2] at hb2
    subst hb2
    refine x_if_eq 14 dX5_sheet_5 (fun h5 => absurd h5 (by decide)) (fun h5 => ?_)
    refine x_iload_n dX5_sheet_8 rfl ?_
    refine x_bipush dX5_sheet_9 ?_
    refine x_icmp_le 16 dX5_sheet_11 (fun h11 => ?_) (fun h11 => ?_)
    · refine x_iload_n dX5_sheet_16 rfl ?_
      refine x_if_ge 23 dX5_sheet_17 (fun h17 => ?_) (fun h17 => ?_)
      · refine x_aload_n dX5_sheet_23 rfl ?_
        refine x_getfield 0 dX5_sheet_24 fg_X5_49 hP rfl rfl ?_
        refine x_iload_n dX5_sheet_27 rfl ?_
        refine x_aaload 25 (0) dX5_sheet_28 hP rfl (rfl) ?_
        refine x_iload_n dX5_sheet_29 rfl ?_
        refine x_iload_n dX5_sheet_30 rfl ?_
        refine x_callvV dX5_sheet_31 mk_X1_hold ml_X5_259 (s0_hold hP ik z y t so st td sk le ot sn pk d1 d2 d3 d4 (lq (ln 0)) (rs 0) (fun i => it (0 + i)) (lq (ln 1)) (rs 1) (fun i => it (24 + i)) (lq (ln 2)) (rs 2) (fun i => it (48 + i)) (lq (ln 3)) (rs 3) (fun i => it (72 + i)) R l m) ((wg_app hP 26).trans rfl) rfl (fun w31 h31 => ?_)
        subst h31
        refine x_ext 27 hP rfl (g := fun q => (zit it 0 24) (0 + q)) (fun j hj => by unfold zit; rw [if_pos (by omega)]) ?_
        refine x_ext 29 hP rfl (g := fun q => (zit it 0 24) (24 + q)) (fun j hj => by unfold zit; rw [if_neg (by omega)]) ?_
        refine x_ext 31 hP rfl (g := fun q => (zit it 0 24) (48 + q)) (fun j hj => by unfold zit; rw [if_neg (by omega)]) ?_
        refine x_ext 33 hP rfl (g := fun q => (zit it 0 24) (72 + q)) (fun j hj => by unfold zit; rw [if_neg (by omega)]) ?_
        refine x_iload_n dX5_sheet_34 rfl ?_
        exact x_iret dX5_sheet_35 (⟨by unfold rSh; (repeat' split) <;> first | rfl | omega | (exfalso; omega), by rw [if_pos (by omega)]; exact ⟨t, so, st, td, sk, le, ot, sn, pk, by rw [shF_hold0 a ln rs (zit it 0 24) l m R (by omega)]; rfl, hC⟩⟩)
      · refine x_bipush dX5_sheet_20 ?_
        exact x_iret dX5_sheet_22 (⟨by unfold rSh; (repeat' split) <;> first | rfl | omega | (exfalso; omega), by rw [if_neg (by omega)]; exact ⟨t, so, st, td, sk, le, ot, sn, pk, rfl, hC⟩⟩)
    · refine x_iconst dX5_sheet_14 ?_
      exact x_iret dX5_sheet_15 (⟨by unfold rSh; (repeat' split) <;> first | rfl | omega | (exfalso; omega), by rw [if_neg (by omega)]; exact ⟨t, so, st, td, sk, le, ot, sn, pk, rfl, hC⟩⟩)
  · rw [if_neg c2] at hb2
    subst hb2
    refine x_if_eq 14 dX5_sheet_5 (fun h5 => ?_) (fun h5 => absurd h5 (by decide))
    refine x_iconst dX5_sheet_14 ?_
    exact x_iret dX5_sheet_15 (⟨by unfold rSh; (repeat' split) <;> first | rfl | omega | (exfalso; omega), by rw [if_neg (by omega)]; exact ⟨t, so, st, td, sk, le, ot, sn, pk, rfl, hC⟩⟩)
set_option maxRecDepth 100000 in
set_option maxHeartbeats 4000000 in
theorem b_item0 {P : AW} {a : Nat} (hP : P.length = a) (ik : Int) (z y t so st : Nat → Int) (td sk le ot sn pk : Int) (d1 d2 d3 d4 : AC) (ln rs it : Nat → Int) (R : AW) (hSh : SH ln rs it) (hC : CI z td sk so st le ot sn pk) (l i v : Int) (hil : inR l) (hii : inR i) (hiv : inR v)  : CTi I_X5_item 0 0 [.ref (a + 0), .int (iI 0), .int (iI l), .int (iI i), .int (iI v)] (P ++ bx a ik z y t so st td sk le ot sn pk (d1 :: d2 :: d3 :: d4 :: shF a (ln) (rs) (it) R)) (fun x w' => x = rItem ln rs 0 l i ∧ BI P a ik z y (d1 :: d2 :: d3 :: d4 :: shF a (ln) (rs) (sItem ln rs it 0 l i v) R) w') := by
  have hl := lq_b (hSh.1 0)
  have hln := hSh.1 0
  have hrs := hSh.2.1 0
  refine CT_of 1 rfl (Nat.le_of_ble_eq_true rfl) ?_
  show EX I_X5_item 0 0 none _ 0 [some (.ref (a + 0)), some (.int (iI 0)), some (.int (iI l)), some (.int (iI i)), some (.int (iI v)), none] [] _ 0 0
  refine x_iload_n dX5_item_0 rfl ?_
  refine x_iload_n dX5_item_1 rfl ?_
  refine x_calliS dX5_item_2 mk_X5_isSheetOfLane ml_X5_209 (k_isSL _ 0 l (by decide) hil) rfl (fun x2 w2 h2 => ?_)
  obtain ⟨hb2, rfl⟩ := h2
  by_cases c2 : 0 ≤ (0 : Int) ∧ (0 : Int) ≤ 3 ∧ 0 ≤ l ∧ l ≤ 2
  · rw [if_pos c2] at hb2
    subst hb2
    refine x_if_ne 10 dX5_item_5 (fun h5 => ?_) (fun h5 => absurd h5 (by decide))
    refine x_aload_n dX5_item_10 rfl ?_
    refine x_getfield 0 dX5_item_11 fg_X5_49 hP rfl rfl ?_
    refine x_iload_n dX5_item_14 rfl ?_
    refine x_aaload 25 (0) dX5_item_15 hP rfl (rfl) ?_
    refine x_iload_n dX5_item_16 rfl ?_
    refine x_calliV dX5_item_17 mk_X1_refusalAs ml_X5_213 (s0_refusalAs hP ik z y t so st td sk le ot sn pk d1 d2 d3 d4 (lq (ln 0)) (rs 0) (fun i => it (0 + i)) (lq (ln 1)) (rs 1) (fun i => it (24 + i)) (lq (ln 2)) (rs 2) (fun i => it (48 + i)) (lq (ln 3)) (rs 3) (fun i => it (72 + i)) R (by omega) l hil) ((wg_app hP 26).trans rfl) rfl (fun x17 w17 h17 => ?_)
    obtain ⟨rfl, rfl⟩ := h17
    refine x_ist5 dX5_item_20 ?_
    refine x_iload dX5_item_22 rfl ?_
    refine x_if_eq 30 dX5_item_24 (fun h24 => ?_) (fun h24 => ?_) (ha := by (repeat' split) <;> omega)
    · have hll : lq (ln 0) = l ∧ ln 0 = l := by (repeat' split at h24) <;> omega
      refine x_iload_n dX5_item_30 rfl ?_
      refine x_if_lt 47 dX5_item_31 (fun h31 => ?_) (fun h31 => ?_)
      · refine x_bipush dX5_item_47 ?_
        exact x_iret dX5_item_49 (⟨by rw [show rItem ln rs 0 l i = (if 0 ≤ (0 : Int) ∧ (0 : Int) ≤ 3 ∧ 0 ≤ l ∧ l ≤ 2 then (if (if ln 0 = l then (if 0 ≤ i ∧ i ≤ rs 0 - 1 then (0 : Int) else -13) else (if 0 ≤ ln 0 then -12 else -11)) < 0 then (if ln 0 = l then (if 0 ≤ i ∧ i ≤ rs 0 - 1 then (0 : Int) else -13) else (if 0 ≤ ln 0 then -12 else -11)) else 1) else -1) from rfl]; (repeat' split) <;> first | rfl | omega | (exfalso; omega), by rw [show sItem ln rs it 0 l i v = it from if_neg (fun h => by have h2 := h.2; rw [show rLack ln rs 0 l i 1 = (if ln 0 = l then (if 0 ≤ i ∧ i ≤ rs 0 - 1 then (0 : Int) else -13) else (if 0 ≤ ln 0 then -12 else -11)) from rfl] at h2; have h1 := h.1; (repeat' split at h2) <;> omega)]; exact ⟨t, so, st, td, sk, le, ot, sn, pk, rfl, hC⟩⟩)
      · refine x_iload_n dX5_item_34 rfl ?_
        refine x_aload_n dX5_item_35 rfl ?_
        refine x_getfield 0 dX5_item_36 fg_X5_49 hP rfl rfl ?_
        refine x_iload_n dX5_item_39 rfl ?_
        refine x_aaload 25 (0) dX5_item_40 hP rfl (rfl) ?_
        refine x_getfield 26 dX5_item_41 fg_X5_216 hP rfl rfl ?_
        refine x_icmp_lt 50 dX5_item_44 (fun h44 => ?_) (fun h44 => ?_)
        · refine x_aload_n dX5_item_50 rfl ?_
          refine x_getfield 0 dX5_item_51 fg_X5_49 hP rfl rfl ?_
          refine x_iload_n dX5_item_54 rfl ?_
          refine x_aaload 25 (0) dX5_item_55 hP rfl (rfl) ?_
          refine x_iload_n dX5_item_56 rfl ?_
          refine x_iload dX5_item_57 rfl ?_
          refine x_callvV dX5_item_59 mk_X1_write ml_X5_265 (s0_write hP ik z y t so st td sk le ot sn pk d1 d2 d3 d4 (lq (ln 0)) (rs 0) (fun i => it (0 + i)) (lq (ln 1)) (rs 1) (fun i => it (24 + i)) (lq (ln 2)) (rs 2) (fun i => it (48 + i)) (lq (ln 3)) (rs 3) (fun i => it (72 + i)) R (by omega) i v (by omega)) ((wg_app hP 26).trans rfl) rfl (fun w59 h59 => ?_)
          subst h59
          refine x_ext 27 hP rfl (g := fun q => (updI it (0 + i.toNat) (cutI l v)) (0 + q)) (fun j hj => by rw [hll.1]; exact sl_upd it 0 i.toNat _ j) ?_
          refine x_ext 29 hP rfl (g := fun q => (updI it (0 + i.toNat) (cutI l v)) (24 + q)) (fun j hj => by rw [updI_n (by omega)]) ?_
          refine x_ext 31 hP rfl (g := fun q => (updI it (0 + i.toNat) (cutI l v)) (48 + q)) (fun j hj => by rw [updI_n (by omega)]) ?_
          refine x_ext 33 hP rfl (g := fun q => (updI it (0 + i.toNat) (cutI l v)) (72 + q)) (fun j hj => by rw [updI_n (by omega)]) ?_
          refine x_iconst dX5_item_62 ?_
          exact x_iret dX5_item_63 (⟨by rw [show rItem ln rs 0 l i = (if 0 ≤ (0 : Int) ∧ (0 : Int) ≤ 3 ∧ 0 ≤ l ∧ l ≤ 2 then (if (if ln 0 = l then (if 0 ≤ i ∧ i ≤ rs 0 - 1 then (0 : Int) else -13) else (if 0 ≤ ln 0 then -12 else -11)) < 0 then (if ln 0 = l then (if 0 ≤ i ∧ i ≤ rs 0 - 1 then (0 : Int) else -13) else (if 0 ≤ ln 0 then -12 else -11)) else 1) else -1) from rfl]; (repeat' split) <;> first | rfl | omega | (exfalso; omega), by rw [show sItem ln rs it 0 l i v = updI it (0 + i.toNat) (cutI l v) from if_pos ⟨by omega, by rw [show rLack ln rs 0 l i 1 = (if ln 0 = l then (if 0 ≤ i ∧ i ≤ rs 0 - 1 then (0 : Int) else -13) else (if 0 ≤ ln 0 then -12 else -11)) from rfl]; (repeat' split) <;> omega⟩]; exact ⟨t, so, st, td, sk, le, ot, sn, pk, rfl, hC⟩⟩)
        · refine x_bipush dX5_item_47 ?_
          exact x_iret dX5_item_49 (⟨by rw [show rItem ln rs 0 l i = (if 0 ≤ (0 : Int) ∧ (0 : Int) ≤ 3 ∧ 0 ≤ l ∧ l ≤ 2 then (if (if ln 0 = l then (if 0 ≤ i ∧ i ≤ rs 0 - 1 then (0 : Int) else -13) else (if 0 ≤ ln 0 then -12 else -11)) < 0 then (if ln 0 = l then (if 0 ≤ i ∧ i ≤ rs 0 - 1 then (0 : Int) else -13) else (if 0 ≤ ln 0 then -12 else -11)) else 1) else -1) from rfl]; (repeat' split) <;> first | rfl | omega | (exfalso; omega), by rw [show sItem ln rs it 0 l i v = it from if_neg (fun h => by have h2 := h.2; rw [show rLack ln rs 0 l i 1 = (if ln 0 = l then (if 0 ≤ i ∧ i ≤ rs 0 - 1 then (0 : Int) else -13) else (if 0 ≤ ln 0 then -12 else -11)) from rfl] at h2; have h1 := h.1; (repeat' split at h2) <;> omega)]; exact ⟨t, so, st, td, sk, le, ot, sn, pk, rfl, hC⟩⟩)
    · refine x_iload dX5_item_27 rfl ?_
      exact x_iret dX5_item_29 (⟨by rw [show rItem ln rs 0 l i = (if 0 ≤ (0 : Int) ∧ (0 : Int) ≤ 3 ∧ 0 ≤ l ∧ l ≤ 2 then (if (if ln 0 = l then (if 0 ≤ i ∧ i ≤ rs 0 - 1 then (0 : Int) else -13) else (if 0 ≤ ln 0 then -12 else -11)) < 0 then (if ln 0 = l then (if 0 ≤ i ∧ i ≤ rs 0 - 1 then (0 : Int) else -13) else (if 0 ≤ ln 0 then -12 else -11)) else 1) else -1) from rfl]; (repeat' split) <;> first | rfl | omega | (exfalso; omega), by rw [show sItem ln rs it 0 l i v = it from if_neg (fun h => by have h2 := h.2; rw [show rLack ln rs 0 l i 1 = (if ln 0 = l then (if 0 ≤ i ∧ i ≤ rs 0 - 1 then (0 : Int) else -13) else (if 0 ≤ ln 0 then -12 else -11)) from rfl] at h2; have h1 := h.1; (repeat' split at h2) <;> omega)]; exact ⟨t, so, st, td, sk, le, ot, sn, pk, rfl, hC⟩⟩)
  · rw [if_neg c2] at hb2
    subst hb2
    refine x_if_ne 10 dX5_item_5 (fun h5 => absurd h5 (by decide)) (fun h5 => ?_)
    refine x_iconst dX5_item_8 ?_
    exact x_iret dX5_item_9 (⟨by rw [show rItem ln rs 0 l i = (if 0 ≤ (0 : Int) ∧ (0 : Int) ≤ 3 ∧ 0 ≤ l ∧ l ≤ 2 then (if (if ln 0 = l then (if 0 ≤ i ∧ i ≤ rs 0 - 1 then (0 : Int) else -13) else (if 0 ≤ ln 0 then -12 else -11)) < 0 then (if ln 0 = l then (if 0 ≤ i ∧ i ≤ rs 0 - 1 then (0 : Int) else -13) else (if 0 ≤ ln 0 then -12 else -11)) else 1) else -1) from rfl]; (repeat' split) <;> first | rfl | omega | (exfalso; omega), by rw [show sItem ln rs it 0 l i v = it from if_neg (fun h => by have h2 := h.2; rw [show rLack ln rs 0 l i 1 = (if ln 0 = l then (if 0 ≤ i ∧ i ≤ rs 0 - 1 then (0 : Int) else -13) else (if 0 ≤ ln 0 then -12 else -11)) from rfl] at h2; have h1 := h.1; (repeat' split at h2) <;> omega)]; exact ⟨t, so, st, td, sk, le, ot, sn, pk, rfl, hC⟩⟩)
set_option maxRecDepth 100000 in
set_option maxHeartbeats 4000000 in
theorem b_drop1 {P : AW} {a : Nat} (hP : P.length = a) (ik : Int) (z y t so st : Nat → Int) (td sk le ot sn pk : Int) (d1 d2 d3 d4 : AC) (ln rs it : Nat → Int) (R : AW) (hSh : SH ln rs it) (hC : CI z td sk so st le ot sn pk)  : CTi I_X5_drop 0 0 [.ref (a + 0), .int (iI 1)] (P ++ bx a ik z y t so st td sk le ot sn pk (d1 :: d2 :: d3 :: d4 :: shF a (ln) (rs) (it) R)) (fun x w' => x = rDrop ln rs 1 ∧ BI P a ik z y (d1 :: d2 :: d3 :: d4 :: shF a (sDrop ln 1) (rs) (it) R) w') := by
  have hl := lq_b (hSh.1 1)
  have hln := hSh.1 1
  have hrs := hSh.2.1 1
  refine CT_of 0 rfl (Nat.le_of_ble_eq_true rfl) ?_
  show EX I_X5_drop 0 0 none _ 0 [some (.ref (a + 0)), some (.int (iI 1))] [] _ 0 0
  refine x_iload_n dX5_drop_0 rfl ?_
  refine x_iconst dX5_drop_1 ?_
  refine x_iconst dX5_drop_2 ?_
  refine x_calliS dX5_drop_3 mk_X5_within ml_X5_54 (k_within _ 1 0 3 (by decide) (by decide) (by decide)) rfl (fun x3 w3 h3 => ?_)
  obtain ⟨hb3, rfl⟩ := h3
  rw [if_pos (by decide)] at hb3
  subst hb3
  refine x_if_ne 11 dX5_drop_6 (fun h6 => ?_) (fun h6 => absurd h6 (by decide))
  refine x_aload_n dX5_drop_11 rfl ?_
  refine x_getfield 0 dX5_drop_12 fg_X5_49 hP rfl rfl ?_
  refine x_iload_n dX5_drop_15 rfl ?_
  refine x_aaload 25 (1) dX5_drop_16 hP rfl (rfl) ?_
  refine x_getfield 28 dX5_drop_17 fg_X5_262 hP rfl rfl ?_
  refine x_bipush dX5_drop_20 ?_
  refine x_icmp_ne 28 dX5_drop_22 (fun h22 => ?_) (fun h22 => ?_) (ha := by omega)
  · refine x_aload_n dX5_drop_28 rfl ?_
    refine x_getfield 0 dX5_drop_29 fg_X5_49 hP rfl rfl ?_
    refine x_iload_n dX5_drop_32 rfl ?_
    refine x_aaload 25 (1) dX5_drop_33 hP rfl (rfl) ?_
    refine x_bipush dX5_drop_34 ?_
    refine x_putfield 28 dX5_drop_36 fl_X5_262 hP rfl (fun _ _ => ⟨rfl, rfl⟩) ?_
    refine x_aload_n dX5_drop_39 rfl ?_
    refine x_getfield 0 dX5_drop_40 fg_X5_49 hP rfl rfl ?_
    refine x_iload_n dX5_drop_43 rfl ?_
    refine x_aaload 25 (1) dX5_drop_44 hP rfl (rfl) ?_
    refine x_getfield 28 dX5_drop_45 fg_X5_216 hP rfl rfl ?_
    exact x_iret dX5_drop_48 (⟨((if_pos (by decide)).trans (if_pos (show 0 ≤ ln 1 by omega))).symm, by rw [show sDrop ln 1 = updI ln 1 (-1) from if_pos ⟨by decide, show 0 ≤ ln 1 by omega⟩]; exact ⟨t, so, st, td, sk, le, ot, sn, pk, rfl, hC⟩⟩)
  · refine x_bipush dX5_drop_25 ?_
    exact x_iret dX5_drop_27 (⟨((if_pos (by decide)).trans (if_neg (show ¬ 0 ≤ ln 1 by omega))).symm, by rw [show sDrop ln 1 = ln from if_neg (fun h => (show ¬ 0 ≤ ln 1 by omega) h.2)]; exact ⟨t, so, st, td, sk, le, ot, sn, pk, rfl, hC⟩⟩)
theorem shF_hold1 (a : Nat) (ln rs it : Nat → Int) (l m : Int) (R : AW) (h : 0 ≤ l) : shF a (updI ln 1 l) (updI rs 1 m) it R = shw a (lq (ln 0)) (rs 0) (fun i => it (0 + i)) l m (fun i => it (24 + i)) (lq (ln 2)) (rs 2) (fun i => it (48 + i)) (lq (ln 3)) (rs 3) (fun i => it (72 + i)) R := by
  have e : lq (updI ln 1 l 1) = l := if_neg (show ¬ l < 0 by omega)
  show shw a (lq (updI ln 1 l 0)) (updI rs 1 m 0) (fun i => it (0 + i)) (lq (updI ln 1 l 1)) (updI rs 1 m 1) (fun i => it (24 + i)) (lq (updI ln 1 l 2)) (updI rs 1 m 2) (fun i => it (48 + i)) (lq (updI ln 1 l 3)) (updI rs 1 m 3) (fun i => it (72 + i)) R = _
  rw [e]
  rfl
set_option maxRecDepth 100000 in
set_option maxHeartbeats 4000000 in
theorem b_sheet1 {P : AW} {a : Nat} (hP : P.length = a) (ik : Int) (z y t so st : Nat → Int) (td sk le ot sn pk : Int) (d1 d2 d3 d4 : AC) (ln rs it : Nat → Int) (R : AW) (hSh : SH ln rs it) (hC : CI z td sk so st le ot sn pk) (l m : Int) (hil : inR l) (him : inR m)  : CTi I_X5_sheet 0 0 [.ref (a + 0), .int (iI 1), .int (iI l), .int (iI m)] (P ++ bx a ik z y t so st td sk le ot sn pk (d1 :: d2 :: d3 :: d4 :: shF a (ln) (rs) (it) R)) (fun x w' => x = rSh 1 l m ∧ (if 0 ≤ (1 : Int) ∧ (1 : Int) ≤ 3 ∧ 0 ≤ l ∧ l ≤ 2 ∧ 0 ≤ m ∧ m ≤ 24 then BI P a ik z y (d1 :: d2 :: d3 :: d4 :: shF a (updI ln 1 l) (updI rs 1 m) (zit it 24 24) R) w' else BI P a ik z y (d1 :: d2 :: d3 :: d4 :: shF a (ln) (rs) (it) R) w')) := by
  have hl := lq_b (hSh.1 1)
  have hln := hSh.1 1
  have hrs := hSh.2.1 1
  refine CT_of 0 rfl (Nat.le_of_ble_eq_true rfl) ?_
  show EX I_X5_sheet 0 0 none _ 0 [some (.ref (a + 0)), some (.int (iI 1)), some (.int (iI l)), some (.int (iI m))] [] _ 0 0
  refine x_iload_n dX5_sheet_0 rfl ?_
  refine x_iload_n dX5_sheet_1 rfl ?_
  refine x_calliS dX5_sheet_2 mk_X5_isSheetOfLane ml_X5_209 (k_isSL _ 1 l (by decide) hil) rfl (fun x2 w2 h2 => ?_)
  obtain ⟨hb2, rfl⟩ := h2
  by_cases c2 : 0 ≤ (1 : Int) ∧ (1 : Int) ≤ 3 ∧ 0 ≤ l ∧ l ≤ 2
  · rw [if_pos c2] at hb2
    subst hb2
    refine x_if_eq 14 dX5_sheet_5 (fun h5 => absurd h5 (by decide)) (fun h5 => ?_)
    refine x_iload_n dX5_sheet_8 rfl ?_
    refine x_bipush dX5_sheet_9 ?_
    refine x_icmp_le 16 dX5_sheet_11 (fun h11 => ?_) (fun h11 => ?_)
    · refine x_iload_n dX5_sheet_16 rfl ?_
      refine x_if_ge 23 dX5_sheet_17 (fun h17 => ?_) (fun h17 => ?_)
      · refine x_aload_n dX5_sheet_23 rfl ?_
        refine x_getfield 0 dX5_sheet_24 fg_X5_49 hP rfl rfl ?_
        refine x_iload_n dX5_sheet_27 rfl ?_
        refine x_aaload 25 (1) dX5_sheet_28 hP rfl (rfl) ?_
        refine x_iload_n dX5_sheet_29 rfl ?_
        refine x_iload_n dX5_sheet_30 rfl ?_
        refine x_callvV dX5_sheet_31 mk_X1_hold ml_X5_259 (s1_hold hP ik z y t so st td sk le ot sn pk d1 d2 d3 d4 (lq (ln 0)) (rs 0) (fun i => it (0 + i)) (lq (ln 1)) (rs 1) (fun i => it (24 + i)) (lq (ln 2)) (rs 2) (fun i => it (48 + i)) (lq (ln 3)) (rs 3) (fun i => it (72 + i)) R l m) ((wg_app hP 28).trans rfl) rfl (fun w31 h31 => ?_)
        subst h31
        refine x_ext 27 hP rfl (g := fun q => (zit it 24 24) (0 + q)) (fun j hj => by unfold zit; rw [if_neg (by omega)]) ?_
        refine x_ext 29 hP rfl (g := fun q => (zit it 24 24) (24 + q)) (fun j hj => by unfold zit; rw [if_pos (by omega)]) ?_
        refine x_ext 31 hP rfl (g := fun q => (zit it 24 24) (48 + q)) (fun j hj => by unfold zit; rw [if_neg (by omega)]) ?_
        refine x_ext 33 hP rfl (g := fun q => (zit it 24 24) (72 + q)) (fun j hj => by unfold zit; rw [if_neg (by omega)]) ?_
        refine x_iload_n dX5_sheet_34 rfl ?_
        exact x_iret dX5_sheet_35 (⟨by unfold rSh; (repeat' split) <;> first | rfl | omega | (exfalso; omega), by rw [if_pos (by omega)]; exact ⟨t, so, st, td, sk, le, ot, sn, pk, by rw [shF_hold1 a ln rs (zit it 24 24) l m R (by omega)]; rfl, hC⟩⟩)
      · refine x_bipush dX5_sheet_20 ?_
        exact x_iret dX5_sheet_22 (⟨by unfold rSh; (repeat' split) <;> first | rfl | omega | (exfalso; omega), by rw [if_neg (by omega)]; exact ⟨t, so, st, td, sk, le, ot, sn, pk, rfl, hC⟩⟩)
    · refine x_iconst dX5_sheet_14 ?_
      exact x_iret dX5_sheet_15 (⟨by unfold rSh; (repeat' split) <;> first | rfl | omega | (exfalso; omega), by rw [if_neg (by omega)]; exact ⟨t, so, st, td, sk, le, ot, sn, pk, rfl, hC⟩⟩)
  · rw [if_neg c2] at hb2
    subst hb2
    refine x_if_eq 14 dX5_sheet_5 (fun h5 => ?_) (fun h5 => absurd h5 (by decide))
    refine x_iconst dX5_sheet_14 ?_
    exact x_iret dX5_sheet_15 (⟨by unfold rSh; (repeat' split) <;> first | rfl | omega | (exfalso; omega), by rw [if_neg (by omega)]; exact ⟨t, so, st, td, sk, le, ot, sn, pk, rfl, hC⟩⟩)
set_option maxRecDepth 100000 in
set_option maxHeartbeats 4000000 in
theorem b_item1 {P : AW} {a : Nat} (hP : P.length = a) (ik : Int) (z y t so st : Nat → Int) (td sk le ot sn pk : Int) (d1 d2 d3 d4 : AC) (ln rs it : Nat → Int) (R : AW) (hSh : SH ln rs it) (hC : CI z td sk so st le ot sn pk) (l i v : Int) (hil : inR l) (hii : inR i) (hiv : inR v)  : CTi I_X5_item 0 0 [.ref (a + 0), .int (iI 1), .int (iI l), .int (iI i), .int (iI v)] (P ++ bx a ik z y t so st td sk le ot sn pk (d1 :: d2 :: d3 :: d4 :: shF a (ln) (rs) (it) R)) (fun x w' => x = rItem ln rs 1 l i ∧ BI P a ik z y (d1 :: d2 :: d3 :: d4 :: shF a (ln) (rs) (sItem ln rs it 1 l i v) R) w') := by
  have hl := lq_b (hSh.1 1)
  have hln := hSh.1 1
  have hrs := hSh.2.1 1
  refine CT_of 1 rfl (Nat.le_of_ble_eq_true rfl) ?_
  show EX I_X5_item 0 0 none _ 0 [some (.ref (a + 0)), some (.int (iI 1)), some (.int (iI l)), some (.int (iI i)), some (.int (iI v)), none] [] _ 0 0
  refine x_iload_n dX5_item_0 rfl ?_
  refine x_iload_n dX5_item_1 rfl ?_
  refine x_calliS dX5_item_2 mk_X5_isSheetOfLane ml_X5_209 (k_isSL _ 1 l (by decide) hil) rfl (fun x2 w2 h2 => ?_)
  obtain ⟨hb2, rfl⟩ := h2
  by_cases c2 : 0 ≤ (1 : Int) ∧ (1 : Int) ≤ 3 ∧ 0 ≤ l ∧ l ≤ 2
  · rw [if_pos c2] at hb2
    subst hb2
    refine x_if_ne 10 dX5_item_5 (fun h5 => ?_) (fun h5 => absurd h5 (by decide))
    refine x_aload_n dX5_item_10 rfl ?_
    refine x_getfield 0 dX5_item_11 fg_X5_49 hP rfl rfl ?_
    refine x_iload_n dX5_item_14 rfl ?_
    refine x_aaload 25 (1) dX5_item_15 hP rfl (rfl) ?_
    refine x_iload_n dX5_item_16 rfl ?_
    refine x_calliV dX5_item_17 mk_X1_refusalAs ml_X5_213 (s1_refusalAs hP ik z y t so st td sk le ot sn pk d1 d2 d3 d4 (lq (ln 0)) (rs 0) (fun i => it (0 + i)) (lq (ln 1)) (rs 1) (fun i => it (24 + i)) (lq (ln 2)) (rs 2) (fun i => it (48 + i)) (lq (ln 3)) (rs 3) (fun i => it (72 + i)) R (by omega) l hil) ((wg_app hP 28).trans rfl) rfl (fun x17 w17 h17 => ?_)
    obtain ⟨rfl, rfl⟩ := h17
    refine x_ist5 dX5_item_20 ?_
    refine x_iload dX5_item_22 rfl ?_
    refine x_if_eq 30 dX5_item_24 (fun h24 => ?_) (fun h24 => ?_) (ha := by (repeat' split) <;> omega)
    · have hll : lq (ln 1) = l ∧ ln 1 = l := by (repeat' split at h24) <;> omega
      refine x_iload_n dX5_item_30 rfl ?_
      refine x_if_lt 47 dX5_item_31 (fun h31 => ?_) (fun h31 => ?_)
      · refine x_bipush dX5_item_47 ?_
        exact x_iret dX5_item_49 (⟨by rw [show rItem ln rs 1 l i = (if 0 ≤ (1 : Int) ∧ (1 : Int) ≤ 3 ∧ 0 ≤ l ∧ l ≤ 2 then (if (if ln 1 = l then (if 0 ≤ i ∧ i ≤ rs 1 - 1 then (0 : Int) else -13) else (if 0 ≤ ln 1 then -12 else -11)) < 0 then (if ln 1 = l then (if 0 ≤ i ∧ i ≤ rs 1 - 1 then (0 : Int) else -13) else (if 0 ≤ ln 1 then -12 else -11)) else 1) else -1) from rfl]; (repeat' split) <;> first | rfl | omega | (exfalso; omega), by rw [show sItem ln rs it 1 l i v = it from if_neg (fun h => by have h2 := h.2; rw [show rLack ln rs 1 l i 1 = (if ln 1 = l then (if 0 ≤ i ∧ i ≤ rs 1 - 1 then (0 : Int) else -13) else (if 0 ≤ ln 1 then -12 else -11)) from rfl] at h2; have h1 := h.1; (repeat' split at h2) <;> omega)]; exact ⟨t, so, st, td, sk, le, ot, sn, pk, rfl, hC⟩⟩)
      · refine x_iload_n dX5_item_34 rfl ?_
        refine x_aload_n dX5_item_35 rfl ?_
        refine x_getfield 0 dX5_item_36 fg_X5_49 hP rfl rfl ?_
        refine x_iload_n dX5_item_39 rfl ?_
        refine x_aaload 25 (1) dX5_item_40 hP rfl (rfl) ?_
        refine x_getfield 28 dX5_item_41 fg_X5_216 hP rfl rfl ?_
        refine x_icmp_lt 50 dX5_item_44 (fun h44 => ?_) (fun h44 => ?_)
        · refine x_aload_n dX5_item_50 rfl ?_
          refine x_getfield 0 dX5_item_51 fg_X5_49 hP rfl rfl ?_
          refine x_iload_n dX5_item_54 rfl ?_
          refine x_aaload 25 (1) dX5_item_55 hP rfl (rfl) ?_
          refine x_iload_n dX5_item_56 rfl ?_
          refine x_iload dX5_item_57 rfl ?_
          refine x_callvV dX5_item_59 mk_X1_write ml_X5_265 (s1_write hP ik z y t so st td sk le ot sn pk d1 d2 d3 d4 (lq (ln 0)) (rs 0) (fun i => it (0 + i)) (lq (ln 1)) (rs 1) (fun i => it (24 + i)) (lq (ln 2)) (rs 2) (fun i => it (48 + i)) (lq (ln 3)) (rs 3) (fun i => it (72 + i)) R (by omega) i v (by omega)) ((wg_app hP 28).trans rfl) rfl (fun w59 h59 => ?_)
          subst h59
          refine x_ext 27 hP rfl (g := fun q => (updI it (24 + i.toNat) (cutI l v)) (0 + q)) (fun j hj => by rw [updI_n (by omega)]) ?_
          refine x_ext 29 hP rfl (g := fun q => (updI it (24 + i.toNat) (cutI l v)) (24 + q)) (fun j hj => by rw [hll.1]; exact sl_upd it 24 i.toNat _ j) ?_
          refine x_ext 31 hP rfl (g := fun q => (updI it (24 + i.toNat) (cutI l v)) (48 + q)) (fun j hj => by rw [updI_n (by omega)]) ?_
          refine x_ext 33 hP rfl (g := fun q => (updI it (24 + i.toNat) (cutI l v)) (72 + q)) (fun j hj => by rw [updI_n (by omega)]) ?_
          refine x_iconst dX5_item_62 ?_
          exact x_iret dX5_item_63 (⟨by rw [show rItem ln rs 1 l i = (if 0 ≤ (1 : Int) ∧ (1 : Int) ≤ 3 ∧ 0 ≤ l ∧ l ≤ 2 then (if (if ln 1 = l then (if 0 ≤ i ∧ i ≤ rs 1 - 1 then (0 : Int) else -13) else (if 0 ≤ ln 1 then -12 else -11)) < 0 then (if ln 1 = l then (if 0 ≤ i ∧ i ≤ rs 1 - 1 then (0 : Int) else -13) else (if 0 ≤ ln 1 then -12 else -11)) else 1) else -1) from rfl]; (repeat' split) <;> first | rfl | omega | (exfalso; omega), by rw [show sItem ln rs it 1 l i v = updI it (24 + i.toNat) (cutI l v) from if_pos ⟨by omega, by rw [show rLack ln rs 1 l i 1 = (if ln 1 = l then (if 0 ≤ i ∧ i ≤ rs 1 - 1 then (0 : Int) else -13) else (if 0 ≤ ln 1 then -12 else -11)) from rfl]; (repeat' split) <;> omega⟩]; exact ⟨t, so, st, td, sk, le, ot, sn, pk, rfl, hC⟩⟩)
        · refine x_bipush dX5_item_47 ?_
          exact x_iret dX5_item_49 (⟨by rw [show rItem ln rs 1 l i = (if 0 ≤ (1 : Int) ∧ (1 : Int) ≤ 3 ∧ 0 ≤ l ∧ l ≤ 2 then (if (if ln 1 = l then (if 0 ≤ i ∧ i ≤ rs 1 - 1 then (0 : Int) else -13) else (if 0 ≤ ln 1 then -12 else -11)) < 0 then (if ln 1 = l then (if 0 ≤ i ∧ i ≤ rs 1 - 1 then (0 : Int) else -13) else (if 0 ≤ ln 1 then -12 else -11)) else 1) else -1) from rfl]; (repeat' split) <;> first | rfl | omega | (exfalso; omega), by rw [show sItem ln rs it 1 l i v = it from if_neg (fun h => by have h2 := h.2; rw [show rLack ln rs 1 l i 1 = (if ln 1 = l then (if 0 ≤ i ∧ i ≤ rs 1 - 1 then (0 : Int) else -13) else (if 0 ≤ ln 1 then -12 else -11)) from rfl] at h2; have h1 := h.1; (repeat' split at h2) <;> omega)]; exact ⟨t, so, st, td, sk, le, ot, sn, pk, rfl, hC⟩⟩)
    · refine x_iload dX5_item_27 rfl ?_
      exact x_iret dX5_item_29 (⟨by rw [show rItem ln rs 1 l i = (if 0 ≤ (1 : Int) ∧ (1 : Int) ≤ 3 ∧ 0 ≤ l ∧ l ≤ 2 then (if (if ln 1 = l then (if 0 ≤ i ∧ i ≤ rs 1 - 1 then (0 : Int) else -13) else (if 0 ≤ ln 1 then -12 else -11)) < 0 then (if ln 1 = l then (if 0 ≤ i ∧ i ≤ rs 1 - 1 then (0 : Int) else -13) else (if 0 ≤ ln 1 then -12 else -11)) else 1) else -1) from rfl]; (repeat' split) <;> first | rfl | omega | (exfalso; omega), by rw [show sItem ln rs it 1 l i v = it from if_neg (fun h => by have h2 := h.2; rw [show rLack ln rs 1 l i 1 = (if ln 1 = l then (if 0 ≤ i ∧ i ≤ rs 1 - 1 then (0 : Int) else -13) else (if 0 ≤ ln 1 then -12 else -11)) from rfl] at h2; have h1 := h.1; (repeat' split at h2) <;> omega)]; exact ⟨t, so, st, td, sk, le, ot, sn, pk, rfl, hC⟩⟩)
  · rw [if_neg c2] at hb2
    subst hb2
    refine x_if_ne 10 dX5_item_5 (fun h5 => absurd h5 (by decide)) (fun h5 => ?_)
    refine x_iconst dX5_item_8 ?_
    exact x_iret dX5_item_9 (⟨by rw [show rItem ln rs 1 l i = (if 0 ≤ (1 : Int) ∧ (1 : Int) ≤ 3 ∧ 0 ≤ l ∧ l ≤ 2 then (if (if ln 1 = l then (if 0 ≤ i ∧ i ≤ rs 1 - 1 then (0 : Int) else -13) else (if 0 ≤ ln 1 then -12 else -11)) < 0 then (if ln 1 = l then (if 0 ≤ i ∧ i ≤ rs 1 - 1 then (0 : Int) else -13) else (if 0 ≤ ln 1 then -12 else -11)) else 1) else -1) from rfl]; (repeat' split) <;> first | rfl | omega | (exfalso; omega), by rw [show sItem ln rs it 1 l i v = it from if_neg (fun h => by have h2 := h.2; rw [show rLack ln rs 1 l i 1 = (if ln 1 = l then (if 0 ≤ i ∧ i ≤ rs 1 - 1 then (0 : Int) else -13) else (if 0 ≤ ln 1 then -12 else -11)) from rfl] at h2; have h1 := h.1; (repeat' split at h2) <;> omega)]; exact ⟨t, so, st, td, sk, le, ot, sn, pk, rfl, hC⟩⟩)
set_option maxRecDepth 100000 in
set_option maxHeartbeats 4000000 in
theorem b_drop2 {P : AW} {a : Nat} (hP : P.length = a) (ik : Int) (z y t so st : Nat → Int) (td sk le ot sn pk : Int) (d1 d2 d3 d4 : AC) (ln rs it : Nat → Int) (R : AW) (hSh : SH ln rs it) (hC : CI z td sk so st le ot sn pk)  : CTi I_X5_drop 0 0 [.ref (a + 0), .int (iI 2)] (P ++ bx a ik z y t so st td sk le ot sn pk (d1 :: d2 :: d3 :: d4 :: shF a (ln) (rs) (it) R)) (fun x w' => x = rDrop ln rs 2 ∧ BI P a ik z y (d1 :: d2 :: d3 :: d4 :: shF a (sDrop ln 2) (rs) (it) R) w') := by
  have hl := lq_b (hSh.1 2)
  have hln := hSh.1 2
  have hrs := hSh.2.1 2
  refine CT_of 0 rfl (Nat.le_of_ble_eq_true rfl) ?_
  show EX I_X5_drop 0 0 none _ 0 [some (.ref (a + 0)), some (.int (iI 2))] [] _ 0 0
  refine x_iload_n dX5_drop_0 rfl ?_
  refine x_iconst dX5_drop_1 ?_
  refine x_iconst dX5_drop_2 ?_
  refine x_calliS dX5_drop_3 mk_X5_within ml_X5_54 (k_within _ 2 0 3 (by decide) (by decide) (by decide)) rfl (fun x3 w3 h3 => ?_)
  obtain ⟨hb3, rfl⟩ := h3
  rw [if_pos (by decide)] at hb3
  subst hb3
  refine x_if_ne 11 dX5_drop_6 (fun h6 => ?_) (fun h6 => absurd h6 (by decide))
  refine x_aload_n dX5_drop_11 rfl ?_
  refine x_getfield 0 dX5_drop_12 fg_X5_49 hP rfl rfl ?_
  refine x_iload_n dX5_drop_15 rfl ?_
  refine x_aaload 25 (2) dX5_drop_16 hP rfl (rfl) ?_
  refine x_getfield 30 dX5_drop_17 fg_X5_262 hP rfl rfl ?_
  refine x_bipush dX5_drop_20 ?_
  refine x_icmp_ne 28 dX5_drop_22 (fun h22 => ?_) (fun h22 => ?_) (ha := by omega)
  · refine x_aload_n dX5_drop_28 rfl ?_
    refine x_getfield 0 dX5_drop_29 fg_X5_49 hP rfl rfl ?_
    refine x_iload_n dX5_drop_32 rfl ?_
    refine x_aaload 25 (2) dX5_drop_33 hP rfl (rfl) ?_
    refine x_bipush dX5_drop_34 ?_
    refine x_putfield 30 dX5_drop_36 fl_X5_262 hP rfl (fun _ _ => ⟨rfl, rfl⟩) ?_
    refine x_aload_n dX5_drop_39 rfl ?_
    refine x_getfield 0 dX5_drop_40 fg_X5_49 hP rfl rfl ?_
    refine x_iload_n dX5_drop_43 rfl ?_
    refine x_aaload 25 (2) dX5_drop_44 hP rfl (rfl) ?_
    refine x_getfield 30 dX5_drop_45 fg_X5_216 hP rfl rfl ?_
    exact x_iret dX5_drop_48 (⟨((if_pos (by decide)).trans (if_pos (show 0 ≤ ln 2 by omega))).symm, by rw [show sDrop ln 2 = updI ln 2 (-1) from if_pos ⟨by decide, show 0 ≤ ln 2 by omega⟩]; exact ⟨t, so, st, td, sk, le, ot, sn, pk, rfl, hC⟩⟩)
  · refine x_bipush dX5_drop_25 ?_
    exact x_iret dX5_drop_27 (⟨((if_pos (by decide)).trans (if_neg (show ¬ 0 ≤ ln 2 by omega))).symm, by rw [show sDrop ln 2 = ln from if_neg (fun h => (show ¬ 0 ≤ ln 2 by omega) h.2)]; exact ⟨t, so, st, td, sk, le, ot, sn, pk, rfl, hC⟩⟩)
theorem shF_hold2 (a : Nat) (ln rs it : Nat → Int) (l m : Int) (R : AW) (h : 0 ≤ l) : shF a (updI ln 2 l) (updI rs 2 m) it R = shw a (lq (ln 0)) (rs 0) (fun i => it (0 + i)) (lq (ln 1)) (rs 1) (fun i => it (24 + i)) l m (fun i => it (48 + i)) (lq (ln 3)) (rs 3) (fun i => it (72 + i)) R := by
  have e : lq (updI ln 2 l 2) = l := if_neg (show ¬ l < 0 by omega)
  show shw a (lq (updI ln 2 l 0)) (updI rs 2 m 0) (fun i => it (0 + i)) (lq (updI ln 2 l 1)) (updI rs 2 m 1) (fun i => it (24 + i)) (lq (updI ln 2 l 2)) (updI rs 2 m 2) (fun i => it (48 + i)) (lq (updI ln 2 l 3)) (updI rs 2 m 3) (fun i => it (72 + i)) R = _
  rw [e]
  rfl
set_option maxRecDepth 100000 in
set_option maxHeartbeats 4000000 in
theorem b_sheet2 {P : AW} {a : Nat} (hP : P.length = a) (ik : Int) (z y t so st : Nat → Int) (td sk le ot sn pk : Int) (d1 d2 d3 d4 : AC) (ln rs it : Nat → Int) (R : AW) (hSh : SH ln rs it) (hC : CI z td sk so st le ot sn pk) (l m : Int) (hil : inR l) (him : inR m)  : CTi I_X5_sheet 0 0 [.ref (a + 0), .int (iI 2), .int (iI l), .int (iI m)] (P ++ bx a ik z y t so st td sk le ot sn pk (d1 :: d2 :: d3 :: d4 :: shF a (ln) (rs) (it) R)) (fun x w' => x = rSh 2 l m ∧ (if 0 ≤ (2 : Int) ∧ (2 : Int) ≤ 3 ∧ 0 ≤ l ∧ l ≤ 2 ∧ 0 ≤ m ∧ m ≤ 24 then BI P a ik z y (d1 :: d2 :: d3 :: d4 :: shF a (updI ln 2 l) (updI rs 2 m) (zit it 48 24) R) w' else BI P a ik z y (d1 :: d2 :: d3 :: d4 :: shF a (ln) (rs) (it) R) w')) := by
  have hl := lq_b (hSh.1 2)
  have hln := hSh.1 2
  have hrs := hSh.2.1 2
  refine CT_of 0 rfl (Nat.le_of_ble_eq_true rfl) ?_
  show EX I_X5_sheet 0 0 none _ 0 [some (.ref (a + 0)), some (.int (iI 2)), some (.int (iI l)), some (.int (iI m))] [] _ 0 0
  refine x_iload_n dX5_sheet_0 rfl ?_
  refine x_iload_n dX5_sheet_1 rfl ?_
  refine x_calliS dX5_sheet_2 mk_X5_isSheetOfLane ml_X5_209 (k_isSL _ 2 l (by decide) hil) rfl (fun x2 w2 h2 => ?_)
  obtain ⟨hb2, rfl⟩ := h2
  by_cases c2 : 0 ≤ (2 : Int) ∧ (2 : Int) ≤ 3 ∧ 0 ≤ l ∧ l ≤ 2
  · rw [if_pos c2] at hb2
    subst hb2
    refine x_if_eq 14 dX5_sheet_5 (fun h5 => absurd h5 (by decide)) (fun h5 => ?_)
    refine x_iload_n dX5_sheet_8 rfl ?_
    refine x_bipush dX5_sheet_9 ?_
    refine x_icmp_le 16 dX5_sheet_11 (fun h11 => ?_) (fun h11 => ?_)
    · refine x_iload_n dX5_sheet_16 rfl ?_
      refine x_if_ge 23 dX5_sheet_17 (fun h17 => ?_) (fun h17 => ?_)
      · refine x_aload_n dX5_sheet_23 rfl ?_
        refine x_getfield 0 dX5_sheet_24 fg_X5_49 hP rfl rfl ?_
        refine x_iload_n dX5_sheet_27 rfl ?_
        refine x_aaload 25 (2) dX5_sheet_28 hP rfl (rfl) ?_
        refine x_iload_n dX5_sheet_29 rfl ?_
        refine x_iload_n dX5_sheet_30 rfl ?_
        refine x_callvV dX5_sheet_31 mk_X1_hold ml_X5_259 (s2_hold hP ik z y t so st td sk le ot sn pk d1 d2 d3 d4 (lq (ln 0)) (rs 0) (fun i => it (0 + i)) (lq (ln 1)) (rs 1) (fun i => it (24 + i)) (lq (ln 2)) (rs 2) (fun i => it (48 + i)) (lq (ln 3)) (rs 3) (fun i => it (72 + i)) R l m) ((wg_app hP 30).trans rfl) rfl (fun w31 h31 => ?_)
        subst h31
        refine x_ext 27 hP rfl (g := fun q => (zit it 48 24) (0 + q)) (fun j hj => by unfold zit; rw [if_neg (by omega)]) ?_
        refine x_ext 29 hP rfl (g := fun q => (zit it 48 24) (24 + q)) (fun j hj => by unfold zit; rw [if_neg (by omega)]) ?_
        refine x_ext 31 hP rfl (g := fun q => (zit it 48 24) (48 + q)) (fun j hj => by unfold zit; rw [if_pos (by omega)]) ?_
        refine x_ext 33 hP rfl (g := fun q => (zit it 48 24) (72 + q)) (fun j hj => by unfold zit; rw [if_neg (by omega)]) ?_
        refine x_iload_n dX5_sheet_34 rfl ?_
        exact x_iret dX5_sheet_35 (⟨by unfold rSh; (repeat' split) <;> first | rfl | omega | (exfalso; omega), by rw [if_pos (by omega)]; exact ⟨t, so, st, td, sk, le, ot, sn, pk, by rw [shF_hold2 a ln rs (zit it 48 24) l m R (by omega)]; rfl, hC⟩⟩)
      · refine x_bipush dX5_sheet_20 ?_
        exact x_iret dX5_sheet_22 (⟨by unfold rSh; (repeat' split) <;> first | rfl | omega | (exfalso; omega), by rw [if_neg (by omega)]; exact ⟨t, so, st, td, sk, le, ot, sn, pk, rfl, hC⟩⟩)
    · refine x_iconst dX5_sheet_14 ?_
      exact x_iret dX5_sheet_15 (⟨by unfold rSh; (repeat' split) <;> first | rfl | omega | (exfalso; omega), by rw [if_neg (by omega)]; exact ⟨t, so, st, td, sk, le, ot, sn, pk, rfl, hC⟩⟩)
  · rw [if_neg c2] at hb2
    subst hb2
    refine x_if_eq 14 dX5_sheet_5 (fun h5 => ?_) (fun h5 => absurd h5 (by decide))
    refine x_iconst dX5_sheet_14 ?_
    exact x_iret dX5_sheet_15 (⟨by unfold rSh; (repeat' split) <;> first | rfl | omega | (exfalso; omega), by rw [if_neg (by omega)]; exact ⟨t, so, st, td, sk, le, ot, sn, pk, rfl, hC⟩⟩)
set_option maxRecDepth 100000 in
set_option maxHeartbeats 4000000 in
theorem b_item2 {P : AW} {a : Nat} (hP : P.length = a) (ik : Int) (z y t so st : Nat → Int) (td sk le ot sn pk : Int) (d1 d2 d3 d4 : AC) (ln rs it : Nat → Int) (R : AW) (hSh : SH ln rs it) (hC : CI z td sk so st le ot sn pk) (l i v : Int) (hil : inR l) (hii : inR i) (hiv : inR v)  : CTi I_X5_item 0 0 [.ref (a + 0), .int (iI 2), .int (iI l), .int (iI i), .int (iI v)] (P ++ bx a ik z y t so st td sk le ot sn pk (d1 :: d2 :: d3 :: d4 :: shF a (ln) (rs) (it) R)) (fun x w' => x = rItem ln rs 2 l i ∧ BI P a ik z y (d1 :: d2 :: d3 :: d4 :: shF a (ln) (rs) (sItem ln rs it 2 l i v) R) w') := by
  have hl := lq_b (hSh.1 2)
  have hln := hSh.1 2
  have hrs := hSh.2.1 2
  refine CT_of 1 rfl (Nat.le_of_ble_eq_true rfl) ?_
  show EX I_X5_item 0 0 none _ 0 [some (.ref (a + 0)), some (.int (iI 2)), some (.int (iI l)), some (.int (iI i)), some (.int (iI v)), none] [] _ 0 0
  refine x_iload_n dX5_item_0 rfl ?_
  refine x_iload_n dX5_item_1 rfl ?_
  refine x_calliS dX5_item_2 mk_X5_isSheetOfLane ml_X5_209 (k_isSL _ 2 l (by decide) hil) rfl (fun x2 w2 h2 => ?_)
  obtain ⟨hb2, rfl⟩ := h2
  by_cases c2 : 0 ≤ (2 : Int) ∧ (2 : Int) ≤ 3 ∧ 0 ≤ l ∧ l ≤ 2
  · rw [if_pos c2] at hb2
    subst hb2
    refine x_if_ne 10 dX5_item_5 (fun h5 => ?_) (fun h5 => absurd h5 (by decide))
    refine x_aload_n dX5_item_10 rfl ?_
    refine x_getfield 0 dX5_item_11 fg_X5_49 hP rfl rfl ?_
    refine x_iload_n dX5_item_14 rfl ?_
    refine x_aaload 25 (2) dX5_item_15 hP rfl (rfl) ?_
    refine x_iload_n dX5_item_16 rfl ?_
    refine x_calliV dX5_item_17 mk_X1_refusalAs ml_X5_213 (s2_refusalAs hP ik z y t so st td sk le ot sn pk d1 d2 d3 d4 (lq (ln 0)) (rs 0) (fun i => it (0 + i)) (lq (ln 1)) (rs 1) (fun i => it (24 + i)) (lq (ln 2)) (rs 2) (fun i => it (48 + i)) (lq (ln 3)) (rs 3) (fun i => it (72 + i)) R (by omega) l hil) ((wg_app hP 30).trans rfl) rfl (fun x17 w17 h17 => ?_)
    obtain ⟨rfl, rfl⟩ := h17
    refine x_ist5 dX5_item_20 ?_
    refine x_iload dX5_item_22 rfl ?_
    refine x_if_eq 30 dX5_item_24 (fun h24 => ?_) (fun h24 => ?_) (ha := by (repeat' split) <;> omega)
    · have hll : lq (ln 2) = l ∧ ln 2 = l := by (repeat' split at h24) <;> omega
      refine x_iload_n dX5_item_30 rfl ?_
      refine x_if_lt 47 dX5_item_31 (fun h31 => ?_) (fun h31 => ?_)
      · refine x_bipush dX5_item_47 ?_
        exact x_iret dX5_item_49 (⟨by rw [show rItem ln rs 2 l i = (if 0 ≤ (2 : Int) ∧ (2 : Int) ≤ 3 ∧ 0 ≤ l ∧ l ≤ 2 then (if (if ln 2 = l then (if 0 ≤ i ∧ i ≤ rs 2 - 1 then (0 : Int) else -13) else (if 0 ≤ ln 2 then -12 else -11)) < 0 then (if ln 2 = l then (if 0 ≤ i ∧ i ≤ rs 2 - 1 then (0 : Int) else -13) else (if 0 ≤ ln 2 then -12 else -11)) else 1) else -1) from rfl]; (repeat' split) <;> first | rfl | omega | (exfalso; omega), by rw [show sItem ln rs it 2 l i v = it from if_neg (fun h => by have h2 := h.2; rw [show rLack ln rs 2 l i 1 = (if ln 2 = l then (if 0 ≤ i ∧ i ≤ rs 2 - 1 then (0 : Int) else -13) else (if 0 ≤ ln 2 then -12 else -11)) from rfl] at h2; have h1 := h.1; (repeat' split at h2) <;> omega)]; exact ⟨t, so, st, td, sk, le, ot, sn, pk, rfl, hC⟩⟩)
      · refine x_iload_n dX5_item_34 rfl ?_
        refine x_aload_n dX5_item_35 rfl ?_
        refine x_getfield 0 dX5_item_36 fg_X5_49 hP rfl rfl ?_
        refine x_iload_n dX5_item_39 rfl ?_
        refine x_aaload 25 (2) dX5_item_40 hP rfl (rfl) ?_
        refine x_getfield 30 dX5_item_41 fg_X5_216 hP rfl rfl ?_
        refine x_icmp_lt 50 dX5_item_44 (fun h44 => ?_) (fun h44 => ?_)
        · refine x_aload_n dX5_item_50 rfl ?_
          refine x_getfield 0 dX5_item_51 fg_X5_49 hP rfl rfl ?_
          refine x_iload_n dX5_item_54 rfl ?_
          refine x_aaload 25 (2) dX5_item_55 hP rfl (rfl) ?_
          refine x_iload_n dX5_item_56 rfl ?_
          refine x_iload dX5_item_57 rfl ?_
          refine x_callvV dX5_item_59 mk_X1_write ml_X5_265 (s2_write hP ik z y t so st td sk le ot sn pk d1 d2 d3 d4 (lq (ln 0)) (rs 0) (fun i => it (0 + i)) (lq (ln 1)) (rs 1) (fun i => it (24 + i)) (lq (ln 2)) (rs 2) (fun i => it (48 + i)) (lq (ln 3)) (rs 3) (fun i => it (72 + i)) R (by omega) i v (by omega)) ((wg_app hP 30).trans rfl) rfl (fun w59 h59 => ?_)
          subst h59
          refine x_ext 27 hP rfl (g := fun q => (updI it (48 + i.toNat) (cutI l v)) (0 + q)) (fun j hj => by rw [updI_n (by omega)]) ?_
          refine x_ext 29 hP rfl (g := fun q => (updI it (48 + i.toNat) (cutI l v)) (24 + q)) (fun j hj => by rw [updI_n (by omega)]) ?_
          refine x_ext 31 hP rfl (g := fun q => (updI it (48 + i.toNat) (cutI l v)) (48 + q)) (fun j hj => by rw [hll.1]; exact sl_upd it 48 i.toNat _ j) ?_
          refine x_ext 33 hP rfl (g := fun q => (updI it (48 + i.toNat) (cutI l v)) (72 + q)) (fun j hj => by rw [updI_n (by omega)]) ?_
          refine x_iconst dX5_item_62 ?_
          exact x_iret dX5_item_63 (⟨by rw [show rItem ln rs 2 l i = (if 0 ≤ (2 : Int) ∧ (2 : Int) ≤ 3 ∧ 0 ≤ l ∧ l ≤ 2 then (if (if ln 2 = l then (if 0 ≤ i ∧ i ≤ rs 2 - 1 then (0 : Int) else -13) else (if 0 ≤ ln 2 then -12 else -11)) < 0 then (if ln 2 = l then (if 0 ≤ i ∧ i ≤ rs 2 - 1 then (0 : Int) else -13) else (if 0 ≤ ln 2 then -12 else -11)) else 1) else -1) from rfl]; (repeat' split) <;> first | rfl | omega | (exfalso; omega), by rw [show sItem ln rs it 2 l i v = updI it (48 + i.toNat) (cutI l v) from if_pos ⟨by omega, by rw [show rLack ln rs 2 l i 1 = (if ln 2 = l then (if 0 ≤ i ∧ i ≤ rs 2 - 1 then (0 : Int) else -13) else (if 0 ≤ ln 2 then -12 else -11)) from rfl]; (repeat' split) <;> omega⟩]; exact ⟨t, so, st, td, sk, le, ot, sn, pk, rfl, hC⟩⟩)
        · refine x_bipush dX5_item_47 ?_
          exact x_iret dX5_item_49 (⟨by rw [show rItem ln rs 2 l i = (if 0 ≤ (2 : Int) ∧ (2 : Int) ≤ 3 ∧ 0 ≤ l ∧ l ≤ 2 then (if (if ln 2 = l then (if 0 ≤ i ∧ i ≤ rs 2 - 1 then (0 : Int) else -13) else (if 0 ≤ ln 2 then -12 else -11)) < 0 then (if ln 2 = l then (if 0 ≤ i ∧ i ≤ rs 2 - 1 then (0 : Int) else -13) else (if 0 ≤ ln 2 then -12 else -11)) else 1) else -1) from rfl]; (repeat' split) <;> first | rfl | omega | (exfalso; omega), by rw [show sItem ln rs it 2 l i v = it from if_neg (fun h => by have h2 := h.2; rw [show rLack ln rs 2 l i 1 = (if ln 2 = l then (if 0 ≤ i ∧ i ≤ rs 2 - 1 then (0 : Int) else -13) else (if 0 ≤ ln 2 then -12 else -11)) from rfl] at h2; have h1 := h.1; (repeat' split at h2) <;> omega)]; exact ⟨t, so, st, td, sk, le, ot, sn, pk, rfl, hC⟩⟩)
    · refine x_iload dX5_item_27 rfl ?_
      exact x_iret dX5_item_29 (⟨by rw [show rItem ln rs 2 l i = (if 0 ≤ (2 : Int) ∧ (2 : Int) ≤ 3 ∧ 0 ≤ l ∧ l ≤ 2 then (if (if ln 2 = l then (if 0 ≤ i ∧ i ≤ rs 2 - 1 then (0 : Int) else -13) else (if 0 ≤ ln 2 then -12 else -11)) < 0 then (if ln 2 = l then (if 0 ≤ i ∧ i ≤ rs 2 - 1 then (0 : Int) else -13) else (if 0 ≤ ln 2 then -12 else -11)) else 1) else -1) from rfl]; (repeat' split) <;> first | rfl | omega | (exfalso; omega), by rw [show sItem ln rs it 2 l i v = it from if_neg (fun h => by have h2 := h.2; rw [show rLack ln rs 2 l i 1 = (if ln 2 = l then (if 0 ≤ i ∧ i ≤ rs 2 - 1 then (0 : Int) else -13) else (if 0 ≤ ln 2 then -12 else -11)) from rfl] at h2; have h1 := h.1; (repeat' split at h2) <;> omega)]; exact ⟨t, so, st, td, sk, le, ot, sn, pk, rfl, hC⟩⟩)
  · rw [if_neg c2] at hb2
    subst hb2
    refine x_if_ne 10 dX5_item_5 (fun h5 => absurd h5 (by decide)) (fun h5 => ?_)
    refine x_iconst dX5_item_8 ?_
    exact x_iret dX5_item_9 (⟨by rw [show rItem ln rs 2 l i = (if 0 ≤ (2 : Int) ∧ (2 : Int) ≤ 3 ∧ 0 ≤ l ∧ l ≤ 2 then (if (if ln 2 = l then (if 0 ≤ i ∧ i ≤ rs 2 - 1 then (0 : Int) else -13) else (if 0 ≤ ln 2 then -12 else -11)) < 0 then (if ln 2 = l then (if 0 ≤ i ∧ i ≤ rs 2 - 1 then (0 : Int) else -13) else (if 0 ≤ ln 2 then -12 else -11)) else 1) else -1) from rfl]; (repeat' split) <;> first | rfl | omega | (exfalso; omega), by rw [show sItem ln rs it 2 l i v = it from if_neg (fun h => by have h2 := h.2; rw [show rLack ln rs 2 l i 1 = (if ln 2 = l then (if 0 ≤ i ∧ i ≤ rs 2 - 1 then (0 : Int) else -13) else (if 0 ≤ ln 2 then -12 else -11)) from rfl] at h2; have h1 := h.1; (repeat' split at h2) <;> omega)]; exact ⟨t, so, st, td, sk, le, ot, sn, pk, rfl, hC⟩⟩)
set_option maxRecDepth 100000 in
set_option maxHeartbeats 4000000 in
theorem b_drop3 {P : AW} {a : Nat} (hP : P.length = a) (ik : Int) (z y t so st : Nat → Int) (td sk le ot sn pk : Int) (d1 d2 d3 d4 : AC) (ln rs it : Nat → Int) (R : AW) (hSh : SH ln rs it) (hC : CI z td sk so st le ot sn pk)  : CTi I_X5_drop 0 0 [.ref (a + 0), .int (iI 3)] (P ++ bx a ik z y t so st td sk le ot sn pk (d1 :: d2 :: d3 :: d4 :: shF a (ln) (rs) (it) R)) (fun x w' => x = rDrop ln rs 3 ∧ BI P a ik z y (d1 :: d2 :: d3 :: d4 :: shF a (sDrop ln 3) (rs) (it) R) w') := by
  have hl := lq_b (hSh.1 3)
  have hln := hSh.1 3
  have hrs := hSh.2.1 3
  refine CT_of 0 rfl (Nat.le_of_ble_eq_true rfl) ?_
  show EX I_X5_drop 0 0 none _ 0 [some (.ref (a + 0)), some (.int (iI 3))] [] _ 0 0
  refine x_iload_n dX5_drop_0 rfl ?_
  refine x_iconst dX5_drop_1 ?_
  refine x_iconst dX5_drop_2 ?_
  refine x_calliS dX5_drop_3 mk_X5_within ml_X5_54 (k_within _ 3 0 3 (by decide) (by decide) (by decide)) rfl (fun x3 w3 h3 => ?_)
  obtain ⟨hb3, rfl⟩ := h3
  rw [if_pos (by decide)] at hb3
  subst hb3
  refine x_if_ne 11 dX5_drop_6 (fun h6 => ?_) (fun h6 => absurd h6 (by decide))
  refine x_aload_n dX5_drop_11 rfl ?_
  refine x_getfield 0 dX5_drop_12 fg_X5_49 hP rfl rfl ?_
  refine x_iload_n dX5_drop_15 rfl ?_
  refine x_aaload 25 (3) dX5_drop_16 hP rfl (rfl) ?_
  refine x_getfield 32 dX5_drop_17 fg_X5_262 hP rfl rfl ?_
  refine x_bipush dX5_drop_20 ?_
  refine x_icmp_ne 28 dX5_drop_22 (fun h22 => ?_) (fun h22 => ?_) (ha := by omega)
  · refine x_aload_n dX5_drop_28 rfl ?_
    refine x_getfield 0 dX5_drop_29 fg_X5_49 hP rfl rfl ?_
    refine x_iload_n dX5_drop_32 rfl ?_
    refine x_aaload 25 (3) dX5_drop_33 hP rfl (rfl) ?_
    refine x_bipush dX5_drop_34 ?_
    refine x_putfield 32 dX5_drop_36 fl_X5_262 hP rfl (fun _ _ => ⟨rfl, rfl⟩) ?_
    refine x_aload_n dX5_drop_39 rfl ?_
    refine x_getfield 0 dX5_drop_40 fg_X5_49 hP rfl rfl ?_
    refine x_iload_n dX5_drop_43 rfl ?_
    refine x_aaload 25 (3) dX5_drop_44 hP rfl (rfl) ?_
    refine x_getfield 32 dX5_drop_45 fg_X5_216 hP rfl rfl ?_
    exact x_iret dX5_drop_48 (⟨((if_pos (by decide)).trans (if_pos (show 0 ≤ ln 3 by omega))).symm, by rw [show sDrop ln 3 = updI ln 3 (-1) from if_pos ⟨by decide, show 0 ≤ ln 3 by omega⟩]; exact ⟨t, so, st, td, sk, le, ot, sn, pk, rfl, hC⟩⟩)
  · refine x_bipush dX5_drop_25 ?_
    exact x_iret dX5_drop_27 (⟨((if_pos (by decide)).trans (if_neg (show ¬ 0 ≤ ln 3 by omega))).symm, by rw [show sDrop ln 3 = ln from if_neg (fun h => (show ¬ 0 ≤ ln 3 by omega) h.2)]; exact ⟨t, so, st, td, sk, le, ot, sn, pk, rfl, hC⟩⟩)
theorem shF_hold3 (a : Nat) (ln rs it : Nat → Int) (l m : Int) (R : AW) (h : 0 ≤ l) : shF a (updI ln 3 l) (updI rs 3 m) it R = shw a (lq (ln 0)) (rs 0) (fun i => it (0 + i)) (lq (ln 1)) (rs 1) (fun i => it (24 + i)) (lq (ln 2)) (rs 2) (fun i => it (48 + i)) l m (fun i => it (72 + i)) R := by
  have e : lq (updI ln 3 l 3) = l := if_neg (show ¬ l < 0 by omega)
  show shw a (lq (updI ln 3 l 0)) (updI rs 3 m 0) (fun i => it (0 + i)) (lq (updI ln 3 l 1)) (updI rs 3 m 1) (fun i => it (24 + i)) (lq (updI ln 3 l 2)) (updI rs 3 m 2) (fun i => it (48 + i)) (lq (updI ln 3 l 3)) (updI rs 3 m 3) (fun i => it (72 + i)) R = _
  rw [e]
  rfl
set_option maxRecDepth 100000 in
set_option maxHeartbeats 4000000 in
theorem b_sheet3 {P : AW} {a : Nat} (hP : P.length = a) (ik : Int) (z y t so st : Nat → Int) (td sk le ot sn pk : Int) (d1 d2 d3 d4 : AC) (ln rs it : Nat → Int) (R : AW) (hSh : SH ln rs it) (hC : CI z td sk so st le ot sn pk) (l m : Int) (hil : inR l) (him : inR m)  : CTi I_X5_sheet 0 0 [.ref (a + 0), .int (iI 3), .int (iI l), .int (iI m)] (P ++ bx a ik z y t so st td sk le ot sn pk (d1 :: d2 :: d3 :: d4 :: shF a (ln) (rs) (it) R)) (fun x w' => x = rSh 3 l m ∧ (if 0 ≤ (3 : Int) ∧ (3 : Int) ≤ 3 ∧ 0 ≤ l ∧ l ≤ 2 ∧ 0 ≤ m ∧ m ≤ 24 then BI P a ik z y (d1 :: d2 :: d3 :: d4 :: shF a (updI ln 3 l) (updI rs 3 m) (zit it 72 24) R) w' else BI P a ik z y (d1 :: d2 :: d3 :: d4 :: shF a (ln) (rs) (it) R) w')) := by
  have hl := lq_b (hSh.1 3)
  have hln := hSh.1 3
  have hrs := hSh.2.1 3
  refine CT_of 0 rfl (Nat.le_of_ble_eq_true rfl) ?_
  show EX I_X5_sheet 0 0 none _ 0 [some (.ref (a + 0)), some (.int (iI 3)), some (.int (iI l)), some (.int (iI m))] [] _ 0 0
  refine x_iload_n dX5_sheet_0 rfl ?_
  refine x_iload_n dX5_sheet_1 rfl ?_
  refine x_calliS dX5_sheet_2 mk_X5_isSheetOfLane ml_X5_209 (k_isSL _ 3 l (by decide) hil) rfl (fun x2 w2 h2 => ?_)
  obtain ⟨hb2, rfl⟩ := h2
  by_cases c2 : 0 ≤ (3 : Int) ∧ (3 : Int) ≤ 3 ∧ 0 ≤ l ∧ l ≤ 2
  · rw [if_pos c2] at hb2
    subst hb2
    refine x_if_eq 14 dX5_sheet_5 (fun h5 => absurd h5 (by decide)) (fun h5 => ?_)
    refine x_iload_n dX5_sheet_8 rfl ?_
    refine x_bipush dX5_sheet_9 ?_
    refine x_icmp_le 16 dX5_sheet_11 (fun h11 => ?_) (fun h11 => ?_)
    · refine x_iload_n dX5_sheet_16 rfl ?_
      refine x_if_ge 23 dX5_sheet_17 (fun h17 => ?_) (fun h17 => ?_)
      · refine x_aload_n dX5_sheet_23 rfl ?_
        refine x_getfield 0 dX5_sheet_24 fg_X5_49 hP rfl rfl ?_
        refine x_iload_n dX5_sheet_27 rfl ?_
        refine x_aaload 25 (3) dX5_sheet_28 hP rfl (rfl) ?_
        refine x_iload_n dX5_sheet_29 rfl ?_
        refine x_iload_n dX5_sheet_30 rfl ?_
        refine x_callvV dX5_sheet_31 mk_X1_hold ml_X5_259 (s3_hold hP ik z y t so st td sk le ot sn pk d1 d2 d3 d4 (lq (ln 0)) (rs 0) (fun i => it (0 + i)) (lq (ln 1)) (rs 1) (fun i => it (24 + i)) (lq (ln 2)) (rs 2) (fun i => it (48 + i)) (lq (ln 3)) (rs 3) (fun i => it (72 + i)) R l m) ((wg_app hP 32).trans rfl) rfl (fun w31 h31 => ?_)
        subst h31
        refine x_ext 27 hP rfl (g := fun q => (zit it 72 24) (0 + q)) (fun j hj => by unfold zit; rw [if_neg (by omega)]) ?_
        refine x_ext 29 hP rfl (g := fun q => (zit it 72 24) (24 + q)) (fun j hj => by unfold zit; rw [if_neg (by omega)]) ?_
        refine x_ext 31 hP rfl (g := fun q => (zit it 72 24) (48 + q)) (fun j hj => by unfold zit; rw [if_neg (by omega)]) ?_
        refine x_ext 33 hP rfl (g := fun q => (zit it 72 24) (72 + q)) (fun j hj => by unfold zit; rw [if_pos (by omega)]) ?_
        refine x_iload_n dX5_sheet_34 rfl ?_
        exact x_iret dX5_sheet_35 (⟨by unfold rSh; (repeat' split) <;> first | rfl | omega | (exfalso; omega), by rw [if_pos (by omega)]; exact ⟨t, so, st, td, sk, le, ot, sn, pk, by rw [shF_hold3 a ln rs (zit it 72 24) l m R (by omega)]; rfl, hC⟩⟩)
      · refine x_bipush dX5_sheet_20 ?_
        exact x_iret dX5_sheet_22 (⟨by unfold rSh; (repeat' split) <;> first | rfl | omega | (exfalso; omega), by rw [if_neg (by omega)]; exact ⟨t, so, st, td, sk, le, ot, sn, pk, rfl, hC⟩⟩)
    · refine x_iconst dX5_sheet_14 ?_
      exact x_iret dX5_sheet_15 (⟨by unfold rSh; (repeat' split) <;> first | rfl | omega | (exfalso; omega), by rw [if_neg (by omega)]; exact ⟨t, so, st, td, sk, le, ot, sn, pk, rfl, hC⟩⟩)
  · rw [if_neg c2] at hb2
    subst hb2
    refine x_if_eq 14 dX5_sheet_5 (fun h5 => ?_) (fun h5 => absurd h5 (by decide))
    refine x_iconst dX5_sheet_14 ?_
    exact x_iret dX5_sheet_15 (⟨by unfold rSh; (repeat' split) <;> first | rfl | omega | (exfalso; omega), by rw [if_neg (by omega)]; exact ⟨t, so, st, td, sk, le, ot, sn, pk, rfl, hC⟩⟩)
set_option maxRecDepth 100000 in
set_option maxHeartbeats 4000000 in
theorem b_item3 {P : AW} {a : Nat} (hP : P.length = a) (ik : Int) (z y t so st : Nat → Int) (td sk le ot sn pk : Int) (d1 d2 d3 d4 : AC) (ln rs it : Nat → Int) (R : AW) (hSh : SH ln rs it) (hC : CI z td sk so st le ot sn pk) (l i v : Int) (hil : inR l) (hii : inR i) (hiv : inR v)  : CTi I_X5_item 0 0 [.ref (a + 0), .int (iI 3), .int (iI l), .int (iI i), .int (iI v)] (P ++ bx a ik z y t so st td sk le ot sn pk (d1 :: d2 :: d3 :: d4 :: shF a (ln) (rs) (it) R)) (fun x w' => x = rItem ln rs 3 l i ∧ BI P a ik z y (d1 :: d2 :: d3 :: d4 :: shF a (ln) (rs) (sItem ln rs it 3 l i v) R) w') := by
  have hl := lq_b (hSh.1 3)
  have hln := hSh.1 3
  have hrs := hSh.2.1 3
  refine CT_of 1 rfl (Nat.le_of_ble_eq_true rfl) ?_
  show EX I_X5_item 0 0 none _ 0 [some (.ref (a + 0)), some (.int (iI 3)), some (.int (iI l)), some (.int (iI i)), some (.int (iI v)), none] [] _ 0 0
  refine x_iload_n dX5_item_0 rfl ?_
  refine x_iload_n dX5_item_1 rfl ?_
  refine x_calliS dX5_item_2 mk_X5_isSheetOfLane ml_X5_209 (k_isSL _ 3 l (by decide) hil) rfl (fun x2 w2 h2 => ?_)
  obtain ⟨hb2, rfl⟩ := h2
  by_cases c2 : 0 ≤ (3 : Int) ∧ (3 : Int) ≤ 3 ∧ 0 ≤ l ∧ l ≤ 2
  · rw [if_pos c2] at hb2
    subst hb2
    refine x_if_ne 10 dX5_item_5 (fun h5 => ?_) (fun h5 => absurd h5 (by decide))
    refine x_aload_n dX5_item_10 rfl ?_
    refine x_getfield 0 dX5_item_11 fg_X5_49 hP rfl rfl ?_
    refine x_iload_n dX5_item_14 rfl ?_
    refine x_aaload 25 (3) dX5_item_15 hP rfl (rfl) ?_
    refine x_iload_n dX5_item_16 rfl ?_
    refine x_calliV dX5_item_17 mk_X1_refusalAs ml_X5_213 (s3_refusalAs hP ik z y t so st td sk le ot sn pk d1 d2 d3 d4 (lq (ln 0)) (rs 0) (fun i => it (0 + i)) (lq (ln 1)) (rs 1) (fun i => it (24 + i)) (lq (ln 2)) (rs 2) (fun i => it (48 + i)) (lq (ln 3)) (rs 3) (fun i => it (72 + i)) R (by omega) l hil) ((wg_app hP 32).trans rfl) rfl (fun x17 w17 h17 => ?_)
    obtain ⟨rfl, rfl⟩ := h17
    refine x_ist5 dX5_item_20 ?_
    refine x_iload dX5_item_22 rfl ?_
    refine x_if_eq 30 dX5_item_24 (fun h24 => ?_) (fun h24 => ?_) (ha := by (repeat' split) <;> omega)
    · have hll : lq (ln 3) = l ∧ ln 3 = l := by (repeat' split at h24) <;> omega
      refine x_iload_n dX5_item_30 rfl ?_
      refine x_if_lt 47 dX5_item_31 (fun h31 => ?_) (fun h31 => ?_)
      · refine x_bipush dX5_item_47 ?_
        exact x_iret dX5_item_49 (⟨by rw [show rItem ln rs 3 l i = (if 0 ≤ (3 : Int) ∧ (3 : Int) ≤ 3 ∧ 0 ≤ l ∧ l ≤ 2 then (if (if ln 3 = l then (if 0 ≤ i ∧ i ≤ rs 3 - 1 then (0 : Int) else -13) else (if 0 ≤ ln 3 then -12 else -11)) < 0 then (if ln 3 = l then (if 0 ≤ i ∧ i ≤ rs 3 - 1 then (0 : Int) else -13) else (if 0 ≤ ln 3 then -12 else -11)) else 1) else -1) from rfl]; (repeat' split) <;> first | rfl | omega | (exfalso; omega), by rw [show sItem ln rs it 3 l i v = it from if_neg (fun h => by have h2 := h.2; rw [show rLack ln rs 3 l i 1 = (if ln 3 = l then (if 0 ≤ i ∧ i ≤ rs 3 - 1 then (0 : Int) else -13) else (if 0 ≤ ln 3 then -12 else -11)) from rfl] at h2; have h1 := h.1; (repeat' split at h2) <;> omega)]; exact ⟨t, so, st, td, sk, le, ot, sn, pk, rfl, hC⟩⟩)
      · refine x_iload_n dX5_item_34 rfl ?_
        refine x_aload_n dX5_item_35 rfl ?_
        refine x_getfield 0 dX5_item_36 fg_X5_49 hP rfl rfl ?_
        refine x_iload_n dX5_item_39 rfl ?_
        refine x_aaload 25 (3) dX5_item_40 hP rfl (rfl) ?_
        refine x_getfield 32 dX5_item_41 fg_X5_216 hP rfl rfl ?_
        refine x_icmp_lt 50 dX5_item_44 (fun h44 => ?_) (fun h44 => ?_)
        · refine x_aload_n dX5_item_50 rfl ?_
          refine x_getfield 0 dX5_item_51 fg_X5_49 hP rfl rfl ?_
          refine x_iload_n dX5_item_54 rfl ?_
          refine x_aaload 25 (3) dX5_item_55 hP rfl (rfl) ?_
          refine x_iload_n dX5_item_56 rfl ?_
          refine x_iload dX5_item_57 rfl ?_
          refine x_callvV dX5_item_59 mk_X1_write ml_X5_265 (s3_write hP ik z y t so st td sk le ot sn pk d1 d2 d3 d4 (lq (ln 0)) (rs 0) (fun i => it (0 + i)) (lq (ln 1)) (rs 1) (fun i => it (24 + i)) (lq (ln 2)) (rs 2) (fun i => it (48 + i)) (lq (ln 3)) (rs 3) (fun i => it (72 + i)) R (by omega) i v (by omega)) ((wg_app hP 32).trans rfl) rfl (fun w59 h59 => ?_)
          subst h59
          refine x_ext 27 hP rfl (g := fun q => (updI it (72 + i.toNat) (cutI l v)) (0 + q)) (fun j hj => by rw [updI_n (by omega)]) ?_
          refine x_ext 29 hP rfl (g := fun q => (updI it (72 + i.toNat) (cutI l v)) (24 + q)) (fun j hj => by rw [updI_n (by omega)]) ?_
          refine x_ext 31 hP rfl (g := fun q => (updI it (72 + i.toNat) (cutI l v)) (48 + q)) (fun j hj => by rw [updI_n (by omega)]) ?_
          refine x_ext 33 hP rfl (g := fun q => (updI it (72 + i.toNat) (cutI l v)) (72 + q)) (fun j hj => by rw [hll.1]; exact sl_upd it 72 i.toNat _ j) ?_
          refine x_iconst dX5_item_62 ?_
          exact x_iret dX5_item_63 (⟨by rw [show rItem ln rs 3 l i = (if 0 ≤ (3 : Int) ∧ (3 : Int) ≤ 3 ∧ 0 ≤ l ∧ l ≤ 2 then (if (if ln 3 = l then (if 0 ≤ i ∧ i ≤ rs 3 - 1 then (0 : Int) else -13) else (if 0 ≤ ln 3 then -12 else -11)) < 0 then (if ln 3 = l then (if 0 ≤ i ∧ i ≤ rs 3 - 1 then (0 : Int) else -13) else (if 0 ≤ ln 3 then -12 else -11)) else 1) else -1) from rfl]; (repeat' split) <;> first | rfl | omega | (exfalso; omega), by rw [show sItem ln rs it 3 l i v = updI it (72 + i.toNat) (cutI l v) from if_pos ⟨by omega, by rw [show rLack ln rs 3 l i 1 = (if ln 3 = l then (if 0 ≤ i ∧ i ≤ rs 3 - 1 then (0 : Int) else -13) else (if 0 ≤ ln 3 then -12 else -11)) from rfl]; (repeat' split) <;> omega⟩]; exact ⟨t, so, st, td, sk, le, ot, sn, pk, rfl, hC⟩⟩)
        · refine x_bipush dX5_item_47 ?_
          exact x_iret dX5_item_49 (⟨by rw [show rItem ln rs 3 l i = (if 0 ≤ (3 : Int) ∧ (3 : Int) ≤ 3 ∧ 0 ≤ l ∧ l ≤ 2 then (if (if ln 3 = l then (if 0 ≤ i ∧ i ≤ rs 3 - 1 then (0 : Int) else -13) else (if 0 ≤ ln 3 then -12 else -11)) < 0 then (if ln 3 = l then (if 0 ≤ i ∧ i ≤ rs 3 - 1 then (0 : Int) else -13) else (if 0 ≤ ln 3 then -12 else -11)) else 1) else -1) from rfl]; (repeat' split) <;> first | rfl | omega | (exfalso; omega), by rw [show sItem ln rs it 3 l i v = it from if_neg (fun h => by have h2 := h.2; rw [show rLack ln rs 3 l i 1 = (if ln 3 = l then (if 0 ≤ i ∧ i ≤ rs 3 - 1 then (0 : Int) else -13) else (if 0 ≤ ln 3 then -12 else -11)) from rfl] at h2; have h1 := h.1; (repeat' split at h2) <;> omega)]; exact ⟨t, so, st, td, sk, le, ot, sn, pk, rfl, hC⟩⟩)
    · refine x_iload dX5_item_27 rfl ?_
      exact x_iret dX5_item_29 (⟨by rw [show rItem ln rs 3 l i = (if 0 ≤ (3 : Int) ∧ (3 : Int) ≤ 3 ∧ 0 ≤ l ∧ l ≤ 2 then (if (if ln 3 = l then (if 0 ≤ i ∧ i ≤ rs 3 - 1 then (0 : Int) else -13) else (if 0 ≤ ln 3 then -12 else -11)) < 0 then (if ln 3 = l then (if 0 ≤ i ∧ i ≤ rs 3 - 1 then (0 : Int) else -13) else (if 0 ≤ ln 3 then -12 else -11)) else 1) else -1) from rfl]; (repeat' split) <;> first | rfl | omega | (exfalso; omega), by rw [show sItem ln rs it 3 l i v = it from if_neg (fun h => by have h2 := h.2; rw [show rLack ln rs 3 l i 1 = (if ln 3 = l then (if 0 ≤ i ∧ i ≤ rs 3 - 1 then (0 : Int) else -13) else (if 0 ≤ ln 3 then -12 else -11)) from rfl] at h2; have h1 := h.1; (repeat' split at h2) <;> omega)]; exact ⟨t, so, st, td, sk, le, ot, sn, pk, rfl, hC⟩⟩)
  · rw [if_neg c2] at hb2
    subst hb2
    refine x_if_ne 10 dX5_item_5 (fun h5 => absurd h5 (by decide)) (fun h5 => ?_)
    refine x_iconst dX5_item_8 ?_
    exact x_iret dX5_item_9 (⟨by rw [show rItem ln rs 3 l i = (if 0 ≤ (3 : Int) ∧ (3 : Int) ≤ 3 ∧ 0 ≤ l ∧ l ≤ 2 then (if (if ln 3 = l then (if 0 ≤ i ∧ i ≤ rs 3 - 1 then (0 : Int) else -13) else (if 0 ≤ ln 3 then -12 else -11)) < 0 then (if ln 3 = l then (if 0 ≤ i ∧ i ≤ rs 3 - 1 then (0 : Int) else -13) else (if 0 ≤ ln 3 then -12 else -11)) else 1) else -1) from rfl]; (repeat' split) <;> first | rfl | omega | (exfalso; omega), by rw [show sItem ln rs it 3 l i v = it from if_neg (fun h => by have h2 := h.2; rw [show rLack ln rs 3 l i 1 = (if ln 3 = l then (if 0 ≤ i ∧ i ≤ rs 3 - 1 then (0 : Int) else -13) else (if 0 ≤ ln 3 then -12 else -11)) from rfl] at h2; have h1 := h.1; (repeat' split at h2) <;> omega)]; exact ⟨t, so, st, td, sk, le, ot, sn, pk, rfl, hC⟩⟩)
