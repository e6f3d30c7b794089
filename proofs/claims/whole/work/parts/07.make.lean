theorem ac_int : Cond.arrayClass .int ∈ TB := TB_m 123 (by decide +kernel) (by decide +kernel)
theorem ac_byte : Cond.arrayClass .byte ∈ TB := TB_m 229 (by decide +kernel) (by decide +kernel)
theorem oi_inst : Cond.instanceMethod objectInit ∈ TB := TB_m 49 (by decide +kernel) (by decide +kernel)
theorem oi_code : Cond.code objectInit ⟨#[0xb1]⟩ 1 none ∈ TB := TB_m 50 (by decide +kernel) (by decide +kernel)
theorem cp_nat : Cond.native arraycopyName ∈ TB := TB_m 430 (by decide +kernel) (by decide +kernel)
theorem cp_st : Cond.static arraycopyName ∈ TB := TB_m 429 (by decide +kernel) (by decide +kernel)
theorem cp_ini : Cond.initialized "java/lang/System" ∈ TB := TB_m 42 (by decide +kernel) (by decide +kernel)
theorem ma_ini : Cond.initialized "java/lang/Math" ∈ TB := TB_m 40 (by decide +kernel) (by decide +kernel)
theorem mx_st : Cond.static Lib.Math.max.name ∈ TB := TB_m 346 (by decide +kernel) (by decide +kernel)
theorem mn_st : Cond.static Lib.Math.min.name ∈ TB := TB_m 386 (by decide +kernel) (by decide +kernel)
theorem mx_code : Cond.code Lib.Math.max.name Lib.Math.max.code 2 (some .int) ∈ TB := TB_m 347 (by decide +kernel) (by decide +kernel)
theorem mn_code : Cond.code Lib.Math.min.name Lib.Math.min.code 2 (some .int) ∈ TB := TB_m 387 (by decide +kernel) (by decide +kernel)
section RULES4
variable {mi : MI} {mc ms : Nat} {SC : Option (Nat × (Nat → Int32))} {Z : Zt} {pc : Nat} {ls : List (Option Value)} {st : List Value} {w : AW} {k n : Nat} {P L : AW} {a : Nat}
theorem h_push {D : va_G} {dA : Nat → ClassId} {S b : Nat} {w : AW} {H H1 : Heap} {c : AC} (hw : HW D dA S b w H) (hz : H.size = S + w.length) (hk : ∀ q, q < S + w.length → H1[q]? = H[q]?) (hc : va_at D vwCl (S + w.length, ce dA S b c) H1) : HW D dA S b (w ++ [c]) H1 := by
  show va_P D vwCl (cw dA S b _) H1
  rw [cw_push]
  refine va_P.app (va_P.kept hw (fun j q hq => hk q.1 (by rw [← hz]; exact (hw j q hq).lt))) (fun j q hq => ?_)
  have hj : j < 1 := (List.getElem?_eq_some_iff.mp hq).1
  rw [show j = 0 by omega] at hq
  cases hq
  exact hc
theorem s_push {S : Nat} {H0 H H1 : Heap} {locs : List Loc} {z : Nat} (hS : va_S (fun q => S ≤ q) H0 H locs) (hz : H.size = z) (h1 : H1.size = z + 1) (hk : ∀ q, q < z → H1[q]? = H[q]?) : va_S (fun q => S ≤ q) H0 H1 locs :=
  ⟨by have := hS.1; omega, fun q g1 g2 => by rw [hk q (by have := hS.1; omega)]; exact hS.2.1 q g1 g2, hS.2.2⟩
def NewOk (own : String) (idx ci N : Nat) (fs : List Value) : Prop := ∃ (C : String) (T : u_T) (ty0 : Nat → FieldType), vwCl[ci]? = some (C, T, N) ∧ (∀ w ∈ u_ws C T N, w ∈ TB) ∧ (∀ j, j < N → parseFieldDescriptor (T j).2.2.1 = some (ty0 j)) ∧ Cond.classLink own idx C ∈ TB ∧ Cond.instantiable C N ∈ TB ∧ Cond.initialized C ∈ TB ∧ ∀ S b j, j < N → defaultValue (ty0 j) = vp_V (fs.map (cv S b)) j
theorem x_new {idx ci N j : Nat} {fs : List Value} (hd : decode mi.2.1 pc = .ok (.new idx, 3)) (hN : NewOk mi.1.cls idx ci N fs) (hP : P.length = a) (hj : L.length = j) (kk : EX mi mc ms SC Z (pc + 3) ls (.ref (a + j) :: st) (P ++ (L ++ [.inr (ci, fs)])) (k + 1) (n + N)) (h1 : k + 1 ≤ mc := by omega) (h2 : n + N ≤ ms := by omega) : EX mi mc ms SC Z pc ls st (P ++ L) k n := by
  intro p l e s m args below meth c D dA S b H locs la hk hE hw hS hl
  refine W_sized (fun hz => ?_)
  have hlow := HW_low hw hS hk.2.2.2.2.2.2.2.2.2.1
  have hH : H.size = S + (P ++ L).length := by omega
  have hlen : (P ++ L).length = a + j := by rw [List.length_append, hP, hj]
  rw [← List.append_assoc] at kk
  have kk := fun H1 => kk p l e s m args below meth c D dA S b H1 locs la hk (by rw [List.length_append]; simp only [List.length_cons, List.length_nil]; omega)
  obtain ⟨hx, hb, hr, hml, hlk, hown, hin, hts, hG, hS0, hsc⟩ := hk
  obtain ⟨C, T, ty0, hcl, hinw, hty, hlink, hinst, hini, hfs⟩ := hN
  have hKn := hG.1.1 ci _ hcl
  refine W.newcK hx hb hown (hts _ hlink) (hts _ hinst) (hts _ hini) rfl hd h1 h2 hKn.2.1 hH fun H1 kC hkC e1 z1 o1 => ?_
  have hat : va_at D vwCl (S + (P ++ L).length, ce dA S b (.inr (ci, fs))) H1 := ⟨_, hcl, (u_born ty0 hts hinw hKn hkC e1 hty).to (hfs S b)⟩
  have := kk H1 (h_push hw hH (fun q hq => o1 q hq) hat) (s_push hS hH z1 (fun q hq => o1 q hq)) hl
  rw [← hlen] at this
  exact this
theorem x_newi {x : Int} {j N : Nat} (hd : decode mi.2.1 pc = .ok (.newarray .int, 2)) (hx : x = (N : Int)) (hP : P.length = a) (hj : L.length = j) (kk : EX mi mc ms SC Z (pc + 2) ls (.ref (a + j) :: st) (P ++ (L ++ [aI 0 N (fun _ => 0)])) (k + 1) (n + N)) (hN : N < 100000000 := by decide) (h1 : k + 1 ≤ mc := by omega) (h2 : n + N ≤ ms := by omega) (hac : Cond.arrayClass .int ∈ TB := by exact ac_int) : EX mi mc ms SC Z pc ls (.int (iI x) :: st) (P ++ L) k n := by
  subst hx
  intro p l e s m args below meth c D dA S b H locs la hk hE hw hS hl
  refine W_sized (fun hz => ?_)
  have hlow := HW_low hw hS hk.2.2.2.2.2.2.2.2.2.1
  have hH : H.size = S + (P ++ L).length := by omega
  have hlen : (P ++ L).length = a + j := by rw [List.length_append, hP, hj]
  rw [← List.append_assoc] at kk
  have kk := fun H1 => kk p l e s m args below meth c D dA S b H1 locs la hk (by rw [List.length_append]; simp only [List.length_cons, List.length_nil]; omega)
  obtain ⟨hx, hb, hr, hml, hlk, hown, hin, hts, hG, hS0, hsc⟩ := hk
  refine va_newaK (atype := .int) hx hb (hts _ hac) rfl hd rfl (fun h => by rw [iI_lt0 ⟨by omega, by omega⟩] at h; omega) (iI_cl (by omega)) (by show N * 4 ≤ _; omega) h1 h2 hH fun H1 cA e1 z1 o1 hAr hNm => ?_
  have hcA : cA = dA 0 := by
    have h0 := (hG.1.2 0 _ rfl).2
    exact Option.some.inj (hNm.symm.trans h0)
  subst hcA
  have hat : va_at D vwCl (S + (P ++ L).length, ce dA S b (aI 0 N (fun _ => 0))) H1 := e1
  have := kk H1 (h_push hw hH (fun q hq => o1 q hq) hat) (s_push hS hH z1 (fun q hq => o1 q hq)) hl
  rw [← hlen] at this
  exact this
theorem x_newb {x : Int} {j N : Nat} (hd : decode mi.2.1 pc = .ok (.newarray .byte, 2)) (hx : x = (N : Int)) (hP : P.length = a) (hj : L.length = j) (kk : EX mi mc ms SC Z (pc + 2) ls (.ref (a + j) :: st) (P ++ (L ++ [aI 1 N (fun _ => 0)])) (k + 1) (n + N)) (hN : N < 100000000 := by decide) (h1 : k + 1 ≤ mc := by omega) (h2 : n + N ≤ ms := by omega) (hac : Cond.arrayClass .byte ∈ TB := by exact ac_byte) : EX mi mc ms SC Z pc ls (.int (iI x) :: st) (P ++ L) k n := by
  subst hx
  intro p l e s m args below meth c D dA S b H locs la hk hE hw hS hl
  refine W_sized (fun hz => ?_)
  have hlow := HW_low hw hS hk.2.2.2.2.2.2.2.2.2.1
  have hH : H.size = S + (P ++ L).length := by omega
  have hlen : (P ++ L).length = a + j := by rw [List.length_append, hP, hj]
  rw [← List.append_assoc] at kk
  have kk := fun H1 => kk p l e s m args below meth c D dA S b H1 locs la hk (by rw [List.length_append]; simp only [List.length_cons, List.length_nil]; omega)
  obtain ⟨hx, hb, hr, hml, hlk, hown, hin, hts, hG, hS0, hsc⟩ := hk
  refine va_newaK (atype := .byte) hx hb (hts _ hac) rfl hd rfl (fun h => by rw [iI_lt0 ⟨by omega, by omega⟩] at h; omega) (iI_cl (by omega)) (by show N * 1 ≤ _; omega) h1 h2 hH fun H1 cA e1 z1 o1 hAr hNm => ?_
  have hcA : cA = dA 1 := by
    have h0 := (hG.1.2 1 _ rfl).2
    exact Option.some.inj (hNm.symm.trans h0)
  subst hcA
  have hat : va_at D vwCl (S + (P ++ L).length, ce dA S b (aI 1 N (fun _ => 0))) H1 := e1
  have := kk H1 (h_push hw hH (fun q hq => o1 q hq) hat) (s_push hS hH z1 (fun q hq => o1 q hq)) hl
  rw [← hlen] at this
  exact this
theorem x_newq {x : Int} {idx j N : Nat} (hd : decode mi.2.1 pc = .ok (.anewarray idx, 3)) (hcl : Cond.classLink mi.1.cls idx RX1 ∈ TB) (hx : x = (N : Int)) (hP : P.length = a) (hj : L.length = j) (kk : EX mi mc ms SC Z (pc + 3) ls (.ref (a + j) :: st) (P ++ (L ++ [aR N (fun _ => none)])) (k + 1) (n + N)) (hN : N < 100000000 := by decide) (h1 : k + 1 ≤ mc := by omega) (h2 : n + N ≤ ms := by omega) : EX mi mc ms SC Z pc ls (.int (iI x) :: st) (P ++ L) k n := by
  subst hx
  intro p l e s m args below meth c D dA S b H locs la hk hE hw hS hl
  refine W_sized (fun hz => ?_)
  have hlow := HW_low hw hS hk.2.2.2.2.2.2.2.2.2.1
  have hH : H.size = S + (P ++ L).length := by omega
  have hlen : (P ++ L).length = a + j := by rw [List.length_append, hP, hj]
  rw [← List.append_assoc] at kk
  have kk := fun H1 => kk p l e s m args below meth c D dA S b H1 locs la hk (by rw [List.length_append]; simp only [List.length_cons, List.length_nil]; omega)
  obtain ⟨hx, hb, hr, hml, hlk, hown, hin, hts, hG, hS0, hsc⟩ := hk
  have hcN : (iI (N : Int)).toNatClampNeg = N := iI_cl (by omega)
  refine W.anew hx hb hown (hts _ hcl) (va_AO.use hG.2.1) rfl hd rfl (fun h => by rw [iI_lt0 ⟨by omega, by omega⟩] at h; omega) (by rw [hcN]; omega) h1 (by rw [hcN]; exact h2) fun cA kA comp f1 f2 f3 f4 => ?_
  rw [hcN]
  obtain ⟨kA', comp', g1, g2, g3, g4⟩ := (hG.1.2 2 _ rfl).2
  have hcA : cA = dA 2 := Option.some.inj (f1.symm.trans g4)
  subst hcA
  generalize hH1 : H.push ({ cls := dA 2, slots := Array.replicate N .null, vm := .none } : Cell) = H1
  have z1 : H1.size = S + (P ++ L).length + 1 := by rw [← hH1, Array.size_push, hH]
  have e1 : H1[S + (P ++ L).length]? = some (arrV (dA 2) N (fun _ => .null)) := by rw [← hH1, ← hH, Array.getElem?_push_size, ← arrV_new]
  have o1 : ∀ q : Nat, q < S + (P ++ L).length → H1[q]? = H[q]? := fun q hq => by rw [← hH1, Array.getElem?_push, if_neg (by omega)]
  have hat : va_at D vwCl (S + (P ++ L).length, ce dA S b (aR N (fun _ => none))) H1 := e1
  have := kk H1 (h_push hw hH (fun q hq => o1 q hq) hat) (s_push hS hH z1 (fun q hq => o1 q hq)) hl
  rw [← hlen, ] at this
  rw [hH]
  exact this
theorem x_oinit {idx r : Nat} (hd : decode mi.2.1 pc = .ok (.invokespecial idx, 3)) (hm : Cond.methodLink mi.1.cls idx objectInit ∈ TB) (kk : EX mi mc ms SC Z (pc + 3) ls st w k n) (hf : 1 ≤ mi.2.2.2.2.1 := by decide) (hloc : (st.map fun v => v.category).sum + 12 ≤ mi.2.2.2.2.2 := by exact Nat.le_of_ble_eq_true rfl) (hi : Cond.instanceMethod objectInit ∈ TB := by exact oi_inst) (hcd : Cond.code objectInit ⟨#[0xb1]⟩ 1 none ∈ TB := by exact oi_code) : EX mi mc ms SC Z pc ls (.ref r :: st) w k n := by
  intro p l e s m args below meth c D dA S b H locs la hk hE hw hS hl
  have kk := kk p l e s m args below meth c D dA S b H locs la hk hE hw hS hl
  obtain ⟨hx, hb, hr, hml, hlk, hown, hin, hts, hG, hS0, hsc⟩ := hk
  exact W.objInit hx hb hown (hts _ hm) (hts _ hi) (hts _ hcd) rfl (by rw [hml]; exact hl.1) rfl hd hf (by show 2 * 0 + _ + 12 ≤ mi.2.2.2.2.2; rw [cv_cats, Nat.mul_zero, Nat.zero_add]; exact hloc) kk
theorem x_ext (i : Nat) {t N : Nat} {f g : Nat → Int} (hP : P.length = a) (hc : wg L i = some (aI t N f)) (hfg : ∀ j, j < N → f j = g j) (kk : EX mi mc ms SC Z pc ls st (P ++ wp L i (aI t N g)) k n) : EX mi mc ms SC Z pc ls st (P ++ L) k n := by
  intro p l e s m args below meth c D dA S b H locs la hk hE hw hS hl
  refine kk p l e s m args below meth c D dA S b H locs la hk (by rw [lenset]; exact hE) (HWset hP ?_) hS hl
  have he := cw_get (dA := dA) (S := S) (b := b) ((wg_app (L := L) hP i).trans hc)
  refine va_P.set hw (cw_D dA S b _) he ?_ (fun _ _ => rfl)
  have h0 : H[S + (a + i)]? = some (vp_cell (dA t) (N, .inl (fun j => iI (f j)))) := hw _ _ he
  show H[S + (a + i)]? = some (vp_cell (dA t) (N, .inl (fun j => iI (g j))))
  rw [h0, vp_cell_i, vp_cell_i]
  congr 1
  unfold arrV
  congr 1
  apply Array.ext
  · simp
  · intro j h1 h2
    simp only [Array.size_ofFn] at h1
    simp [hfg j h1]
theorem x_copy (i i' : Nat) {N N' idx : Nat} {x0 x1 x2 : Int} {f g : Nat → Int} (hd : decode mi.2.1 pc = .ok (.invokestatic idx, 3)) (hm : Cond.methodLink mi.1.cls idx arraycopyName ∈ TB) (hP : P.length = a) (hc : wg L i = some (aI 0 N f)) (hc' : wg L i' = some (aI 0 N g)) (h0 : x0 = 0) (h1 : x1 = 0) (h2 : x2 = (N : Int)) (kk : EX mi mc ms SC Z (pc + 3) ls st (P ++ wp L i' (aI 0 N f)) k n) (hN : N < 2147483648 := by decide) (hf : 1 ≤ mi.2.2.2.2.1 := by decide) (hloc : (st.map fun v => v.category).sum + (nativeFrameWords "java/lang/System" "arraycopy" 5 + 11) ≤ mi.2.2.2.2.2 := by exact Nat.le_of_ble_eq_true rfl) (hnat : Cond.native arraycopyName ∈ TB := by exact cp_nat) (hst : Cond.static arraycopyName ∈ TB := by exact cp_st) (hini : Cond.initialized "java/lang/System" ∈ TB := by exact cp_ini) :
    EX mi mc ms SC Z pc ls (.int (iI x2) :: .int (iI x1) :: .ref (a + i') :: .int (iI x0) :: .ref (a + i) :: st) (P ++ L) k n := by
  subst h0; subst h1; subst h2
  intro p l e s m args below meth c D dA S b H locs la hk hE hw hS hl
  have kk := fun H1 locs1 => kk p l e s m args below meth c D dA S b H1 locs1 la hk (by rw [lenset]; exact hE)
  obtain ⟨hx, hb, hr, hml, hlk, hown, hin, hts, hG, hS0, hsc⟩ := hk
  have he := cw_get (dA := dA) (S := S) (b := b) ((wg_app (L := L) hP i).trans hc)
  have he' := cw_get (dA := dA) (S := S) (b := b) ((wg_app (L := L) hP i').trans hc')
  have z0 : (iI 0).toNatClampNeg = 0 := iI_cl (j := 0) (by decide)
  have zN : (iI (N : Int)).toNatClampNeg = N := iI_cl hN
  refine va_copyi hx hb (by rw [hml]; exact hl.1.symm) hown (hts _ hm) (hts _ hnat) (hts _ hst) (hts _ hini) hG.1 hw (cw_D dA S b _) hS (a + i) (a + i') 0 0 he he' rfl rfl rfl (fun h => by rw [iI_lt0 R0] at h; omega) (fun h => by rw [iI_lt0 R0] at h; omega) (fun h => by rw [iI_lt0 ⟨by omega, by omega⟩] at h; omega) (by rw [z0, zN]; omega) (by rw [z0, zN]; omega) (fun _ _ => rfl) hf (by rw [cv_cats]; exact hloc) hd (fun H1 locs1 g1 g2 g3 => ?_)
  rw [z0, zN] at g1
  refine kk H1 locs1 (HWset hP ?_) g3 hl
  have q1 : ((cw dA S b (P ++ L)).set (a + i') (S + (a + i'), Sum.inl (dA 0, N, Sum.inl (va_cpy (fun j => iI (f j)) (fun j => iI (g j)) 0 0 N))))[a + i']? = some (S + (a + i'), Sum.inl (dA 0, N, Sum.inl (va_cpy (fun j => iI (f j)) (fun j => iI (g j)) 0 0 N))) := by
    rw [List.getElem?_set_self]
    exact (List.getElem?_eq_some_iff.mp he').1
  have r1 := g1 _ _ q1
  have r2 := va_P.set g1 (va_D.set (cw_D dA S b _) he') q1 (e := ce dA S b (aI 0 N f)) (H1 := H1) ?_ (fun _ _ => rfl)
  · rw [List.set_set] at r2
    exact r2
  · have r1' : H1[S + (a + i')]? = some (vp_cell (dA 0) (N, .inl (va_cpy (fun j => iI (f j)) (fun j => iI (g j)) 0 0 N))) := r1
    show H1[S + (a + i')]? = some (vp_cell (dA 0) (N, .inl (fun j => iI (f j))))
    rw [r1', vp_cell_i, vp_cell_i]
    congr 1
    unfold arrV
    congr 1
    apply Array.ext
    · simp
    · intro j h1 h2
      simp only [Array.size_ofFn] at h1
      simp only [Array.getElem_ofFn]
      rw [pk_cpy_in (Nat.zero_le _) (by omega)]
      simp
theorem x_max {x y : Int} {idx : Nat} (hd : decode mi.2.1 pc = .ok (.invokestatic idx, 3)) (hm : Cond.methodLink mi.1.cls idx Lib.Math.max.name ∈ TB) (kk : EX mi mc ms SC Z (pc + 3) ls (.int (iI (max x y)) :: st) w k n) (hx : inR x := by omega) (hy : inR y := by omega) (hf : 1 ≤ mi.2.2.2.2.1 := by decide) (hloc : (st.map fun v => v.category).sum + 13 ≤ mi.2.2.2.2.2 := by exact Nat.le_of_ble_eq_true rfl) (hkc : k ≤ mc := by omega) (hnc : n ≤ ms := by omega) (h1 : Cond.static Lib.Math.max.name ∈ TB := by exact mx_st) (h2 : Cond.initialized "java/lang/Math" ∈ TB := by exact ma_ini) (h3 : Cond.code Lib.Math.max.name Lib.Math.max.code 2 (some .int) ∈ TB := by exact mx_code) : EX mi mc ms SC Z pc ls (.int (iI y) :: .int (iI x) :: st) w k n := by
  intro p l e s m args below meth c D dA S b H locs la hk hE hw hS hl
  have kk := kk p l e s m args below meth c D dA S b H locs la hk hE hw hS hl
  obtain ⟨hx', hb, hr, hml, hlk, hown, hin, hts, hG, hS0, hsc⟩ := hk
  refine va_mmax hx' hb (by rw [hml]; exact hl.1.symm) hown (hts _ hm) (hts _ h1) (hts _ h2) (hts _ h3) hf (by rw [cv_cats]; exact hloc) hkc hnc hd ?_
  have e1 : (if iI x < iI y then iI y else iI x) = iI (max x y) := by
    by_cases h : x < y
    · rw [if_pos ((iI_lt hx hy).mpr h), Int.max_eq_right (by omega)]
    · rw [if_neg (fun q => h ((iI_lt hx hy).mp q)), Int.max_eq_left (by omega)]
  rw [e1]
  exact kk
theorem x_min {x y : Int} {idx : Nat} (hd : decode mi.2.1 pc = .ok (.invokestatic idx, 3)) (hm : Cond.methodLink mi.1.cls idx Lib.Math.min.name ∈ TB) (kk : EX mi mc ms SC Z (pc + 3) ls (.int (iI (min x y)) :: st) w k n) (hx : inR x := by omega) (hy : inR y := by omega) (hf : 1 ≤ mi.2.2.2.2.1 := by decide) (hloc : (st.map fun v => v.category).sum + 13 ≤ mi.2.2.2.2.2 := by exact Nat.le_of_ble_eq_true rfl) (hkc : k ≤ mc := by omega) (hnc : n ≤ ms := by omega) (h1 : Cond.static Lib.Math.min.name ∈ TB := by exact mn_st) (h2 : Cond.initialized "java/lang/Math" ∈ TB := by exact ma_ini) (h3 : Cond.code Lib.Math.min.name Lib.Math.min.code 2 (some .int) ∈ TB := by exact mn_code) : EX mi mc ms SC Z pc ls (.int (iI y) :: .int (iI x) :: st) w k n := by
  intro p l e s m args below meth c D dA S b H locs la hk hE hw hS hl
  have kk := kk p l e s m args below meth c D dA S b H locs la hk hE hw hS hl
  obtain ⟨hx', hb, hr, hml, hlk, hown, hin, hts, hG, hS0, hsc⟩ := hk
  refine va_mmin hx' hb (by rw [hml]; exact hl.1.symm) hown (hts _ hm) (hts _ h1) (hts _ h2) (hts _ h3) hf (by rw [cv_cats]; exact hloc) hkc hnc hd ?_
  have e1 : (if iI y < iI x then iI y else iI x) = iI (min x y) := by
    by_cases h : y < x
    · rw [if_pos ((iI_lt hy hx).mpr h), Int.min_eq_right (by omega)]
    · rw [if_neg (fun q => h ((iI_lt hy hx).mp q)), Int.min_eq_left (by omega)]
  rw [e1]
  exact kk
/-- calls -/
theorem x_callS {mi' : MI} {mc' ms' na idx : Nat} {As st0 : List Value} {Q : Option Value → AW → Prop} (hd : decode mi.2.1 pc = .ok (.invokestatic idx, 3)) (hM : MSt mi' na) (hL : MLk mi.1.cls idx mi'.1) (hct : CT mi' mc' ms' As w Q) (hst : st0 = As.reverse ++ st) (kk : ∀ (r : Option Value) (w' : AW), Q r w' → EX mi mc ms SC Z (pc + 3) ls (r.toList ++ st) w' (k + mc') (n + ms')) (hna : As.length = na) (hcat : (st.map fun v => v.category).sum ≤ 8) (hroom : mi'.2.2.2.2.1 + 1 ≤ mi.2.2.2.2.1 ∧ 8 + (mi'.2.2.1 + 11) + mi'.2.2.2.2.2 ≤ mi.2.2.2.2.2) (hcs : k + mc' ≤ mc ∧ n + ms' ≤ ms) : EX mi mc ms SC Z pc ls st0 w k n := by
  subst hst
  intro p l e s m args below meth c D dA S b H locs la hk hE hw hS hl
  refine W_sized (fun hz => ?_)
  have hlow := HW_low hw hS hk.2.2.2.2.2.2.2.2.2.1
  have hH : H.size = S + w.length := by omega
  have kk := fun r w' H1 locs1 hq => kk r w' hq p l e s m args below meth c D dA S b H1 locs1 la hk
  obtain ⟨hx, hb, hr, hml, hlk, hown, hin, hts, hG, hS0, hsc⟩ := hk
  have hpre : PreS s H (fun args U => args = (As.map (cv S b)).toArray ∧ GK D dA U ∧ HW D dA S b w U.heap ∧ U.heap.size = S + w.length) (As.map (cv S b)) :=
    ⟨fun a U g mk q => ⟨q.1, GK.call g mk a q.2.1, q.2.2.1, q.2.2.2⟩, fun U hU hW => ⟨rfl, hG.warm hW, by rw [hU]; exact hw, by rw [hU]; exact hH⟩⟩
  have hrest : 2 * (F0 m pc la ((As.reverse ++ st).map (cv S b))).monitorRoom + ((st.map (cv S b)).map fun v => v.category).sum ≤ 8 := lv_room (by rw [cv_cats]; exact hcat)
  have hstk : (As.reverse ++ st).map (cv S b) = (As.map (cv S b)).reverse ++ st.map (cv S b) := by rw [List.map_append, List.map_reverse]
  have hn : (As.map (cv S b)).length = na := by rw [List.length_map]; exact hna
  have hrun : va_Run p l e (RM mi mc ms) s m args below meth c H locs k n mc' ms' (F0 m pc la ((As.reverse ++ st).map (cv S b))) (st.map (cv S b)) (QC D dA S b mc' Q (As.map (cv S b)).toArray) (fun q => S ≤ q) := by
    rcases hL with h | ⟨host, h⟩
    · exact va_runS ⟨hx, hb, hml, hown, hts⟩ (hct l D dA S b) ⟨callB_of na hts hM.1.good rfl rfl rfl (hts _ hM.1.2.1) (hts _ h) hM.1.2.2 hroom, hts _ hM.2⟩ hpre rfl hn hl.1 hstk hrest hd hcs
    · exact va_runSN ⟨hx, hb, hml, hown, hts⟩ (hct l D dA S b) ⟨va_cnB na hts hM.1.good rfl rfl rfl (hG.2.2.2 _ h) (hts _ hM.1.2.1) hM.1.2.2 hroom, hts _ hM.2, trivial⟩ hpre rfl hn hl.1 hstk hrest hd hcs
  refine w_call hrun hS (fun r w' H1 locs1 hq hw1 hz1 hS1 => ?_)
  have := kk r w' H1 locs1 hq (by omega) hw1 hS1 hl
  rw [List.map_append] at this
  cases r with
  | none => exact this
  | some v => exact this
theorem x_callV {mi' : MI} {mc' ms' na idx ci r0 : Nat} {As st0 fs : List Value} {Q : Option Value → AW → Prop} (hd : decode mi.2.1 pc = .ok (.invokevirtual idx, 3)) (hM : MVt mi' na ci) (hL : MLk mi.1.cls idx mi'.1) (hct : CT mi' mc' ms' (.ref r0 :: As) w Q) (hrc : wg w r0 = some (.inr (ci, fs))) (hst : st0 = As.reverse ++ .ref r0 :: st) (kk : ∀ (r : Option Value) (w' : AW), Q r w' → EX mi mc ms SC Z (pc + 3) ls (r.toList ++ st) w' (k + mc') (n + ms')) (hna : As.length = na) (hcat : (st.map fun v => v.category).sum ≤ 8) (hroom : mi'.2.2.2.2.1 + 1 ≤ mi.2.2.2.2.1 ∧ 8 + (mi'.2.2.1 + 11) + mi'.2.2.2.2.2 ≤ mi.2.2.2.2.2) (hcs : k + mc' ≤ mc ∧ n + ms' ≤ ms) : EX mi mc ms SC Z pc ls st0 w k n := by
  subst hst
  intro p l e s m args below meth c D dA S b H locs la hk hE hw hS hl
  refine W_sized (fun hz => ?_)
  have hlow := HW_low hw hS hk.2.2.2.2.2.2.2.2.2.1
  have hH : H.size = S + w.length := by omega
  have kk := fun r w' H1 locs1 hq => kk r w' hq p l e s m args below meth c D dA S b H1 locs1 la hk
  obtain ⟨hx, hb, hr, hml, hlk, hown, hin, hts, hG, hS0, hsc⟩ := hk
  obtain ⟨hMo, hMi, hMs, T, N, hcl⟩ := hM
  have he := cw_get (dA := dA) (S := S) (b := b) hrc
  have hpre : PreV s H mi'.1.cls (S + r0) (fun args U => args = ((Value.ref r0 :: As).map (cv S b)).toArray ∧ GK D dA U ∧ HW D dA S b w U.heap ∧ U.heap.size = S + w.length) (As.map (cv S b)) :=
    ⟨fun a U g mk q => ⟨q.1, GK.call g mk a q.2.1, q.2.2.1, q.2.2.2⟩, va_recv hG.1 hw hcl he, fun U hU hW => ⟨rfl, hG.warm hW, by rw [hU]; exact hw, by rw [hU]; exact hH⟩⟩
  have hrest : 2 * (F0 m pc la ((As.reverse ++ .ref r0 :: st).map (cv S b))).monitorRoom + ((st.map (cv S b)).map fun v => v.category).sum ≤ 8 := lv_room (by rw [cv_cats]; exact hcat)
  have hstk : (As.reverse ++ .ref r0 :: st).map (cv S b) = (As.map (cv S b)).reverse ++ .ref (S + r0) :: st.map (cv S b) := by rw [List.map_append, List.map_reverse]; rfl
  have hn : (As.map (cv S b)).length = na := by rw [List.length_map]; exact hna
  have hrun : va_Run p l e (RM mi mc ms) s m args below meth c H locs k n mc' ms' (F0 m pc la ((As.reverse ++ .ref r0 :: st).map (cv S b))) (st.map (cv S b)) (QC D dA S b mc' Q (Value.ref (S + r0) :: As.map (cv S b)).toArray) (fun q => S ≤ q) := by
    rcases hL with h | ⟨host, h⟩
    · exact va_runV ⟨hx, hb, hml, hown, hts⟩ (hct l D dA S b) ⟨callB_of na hts hMo.good rfl rfl rfl (hts _ hMo.2.1) (hts _ h) hMo.2.2 hroom, hts _ hMi, hts _ hMs⟩ hpre rfl hn hl.1 hstk hrest hd hcs
    · exact va_runVN ⟨hx, hb, hml, hown, hts⟩ (hct l D dA S b) ⟨va_cnB na hts hMo.good rfl rfl rfl (hG.2.2.2 _ h) (hts _ hMo.2.1) hMo.2.2 hroom, hts _ hMi, hts _ hMs⟩ hpre rfl hn hl.1 hstk hrest hd hcs
  refine w_call hrun hS (fun r w' H1 locs1 hq hw1 hz1 hS1 => ?_)
  have := kk r w' H1 locs1 hq (by omega) hw1 hS1 hl
  rw [List.map_append] at this
  cases r with
  | none => exact this
  | some v => exact this
theorem x_callI {mi' : MI} {mc' ms' na idx r0 : Nat} {As st0 : List Value} {Q : Option Value → AW → Prop} (hd : decode mi.2.1 pc = .ok (.invokespecial idx, 3)) (hM : MIt mi' na) (hL : MLk mi.1.cls idx mi'.1) (hct : CT mi' mc' ms' (.ref r0 :: As) w Q) (hst : st0 = As.reverse ++ .ref r0 :: st) (kk : ∀ (r : Option Value) (w' : AW), Q r w' → EX mi mc ms SC Z (pc + 3) ls (r.toList ++ st) w' (k + mc') (n + ms')) (hna : As.length = na) (hcat : (st.map fun v => v.category).sum ≤ 8) (hroom : mi'.2.2.2.2.1 + 1 ≤ mi.2.2.2.2.1 ∧ 8 + (mi'.2.2.1 + 11) + mi'.2.2.2.2.2 ≤ mi.2.2.2.2.2) (hcs : k + mc' ≤ mc ∧ n + ms' ≤ ms) : EX mi mc ms SC Z pc ls st0 w k n := by
  subst hst
  intro p l e s m args below meth c D dA S b H locs la hk hE hw hS hl
  refine W_sized (fun hz => ?_)
  have hlow := HW_low hw hS hk.2.2.2.2.2.2.2.2.2.1
  have hH : H.size = S + w.length := by omega
  have kk := fun r w' H1 locs1 hq => kk r w' hq p l e s m args below meth c D dA S b H1 locs1 la hk
  obtain ⟨hx, hb, hr, hml, hlk, hown, hin, hts, hG, hS0, hsc⟩ := hk
  obtain ⟨hMo, hMi, hMn, hMr⟩ := hM
  obtain ⟨y, cd, maxL, ret, fr, lc⟩ := mi'
  simp only at hMr
  subst hMr
  have hpre : PreS s H (fun args U => args = ((Value.ref r0 :: As).map (cv S b)).toArray ∧ GK D dA U ∧ HW D dA S b w U.heap ∧ U.heap.size = S + w.length) (.ref (S + r0) :: As.map (cv S b)) :=
    ⟨fun a U g mk q => ⟨q.1, GK.call g mk a q.2.1, q.2.2.1, q.2.2.2⟩, fun U hU hW => ⟨rfl, hG.warm hW, by rw [hU]; exact hw, by rw [hU]; exact hH⟩⟩
  have hrest : 2 * (F0 m pc la ((As.reverse ++ .ref r0 :: st).map (cv S b))).monitorRoom + ((st.map (cv S b)).map fun v => v.category).sum ≤ 8 := lv_room (by rw [cv_cats]; exact hcat)
  have hstk : (As.reverse ++ .ref r0 :: st).map (cv S b) = (As.map (cv S b)).reverse ++ .ref (S + r0) :: st.map (cv S b) := by rw [List.map_append, List.map_reverse]; rfl
  have hn : (As.map (cv S b)).length = na := by rw [List.length_map]; exact hna
  have hrun : va_Run p l e (RM mi mc ms) s m args below meth c H locs k n mc' ms' (F0 m pc la ((As.reverse ++ .ref r0 :: st).map (cv S b))) (st.map (cv S b)) (QC D dA S b mc' Q (Value.ref (S + r0) :: As.map (cv S b)).toArray) (fun q => S ≤ q) := by
    rcases hL with h | ⟨host, h⟩
    · exact va_runI ⟨hx, hb, hml, hown, hts⟩ (hct l D dA S b) ⟨callB_of na hts hMo.good rfl rfl rfl (hts _ hMo.2.1) (hts _ h) hMo.2.2 hroom, hMn, hts _ hMi⟩ hpre rfl hn hl.1 hstk hrest hd hcs
    · exact va_runIN ⟨hx, hb, hml, hown, hts⟩ (hct l D dA S b) ⟨va_cnB na hts hMo.good rfl rfl rfl (hG.2.2.2 _ h) (hts _ hMo.2.1) hMo.2.2 hroom, hMn, hts _ hMi⟩ hpre rfl hn hl.1 hstk hrest hd hcs
  refine w_call hrun hS (fun r w' H1 locs1 hq hw1 hz1 hS1 => ?_)
  have := kk r w' H1 locs1 hq (by omega) hw1 hS1 hl
  rw [List.map_append] at this
  cases r with
  | none => exact this
  | some v => exact this
theorem x_calliS {mi' : MI} {mc' ms' na idx : Nat} {As st0 : List Value} {R : Int → AW → Prop} (hd : decode mi.2.1 pc = .ok (.invokestatic idx, 3)) (hM : MSt mi' na) (hL : MLk mi.1.cls idx mi'.1) (hct : CTi mi' mc' ms' As w R) (hst : st0 = As.reverse ++ st) (kk : ∀ (x : Int) (w' : AW), R x w' → EX mi mc ms SC Z (pc + 3) ls (.int (iI x) :: st) w' (k + mc') (n + ms')) (hna : As.length = na := by rfl) (hcat : (st.map fun v => v.category).sum ≤ 8 := by exact Nat.le_of_ble_eq_true rfl) (hroom : mi'.2.2.2.2.1 + 1 ≤ mi.2.2.2.2.1 ∧ 8 + (mi'.2.2.1 + 11) + mi'.2.2.2.2.2 ≤ mi.2.2.2.2.2 := by decide) (hcs : k + mc' ≤ mc ∧ n + ms' ≤ ms := by omega) : EX mi mc ms SC Z pc ls st0 w k n :=
  x_callS hd hM hL hct hst (fun r w' h => by obtain ⟨x, rfl, h⟩ := h; exact kk x w' h) hna hcat hroom hcs
theorem x_calliV {mi' : MI} {mc' ms' na idx ci r0 : Nat} {As st0 fs : List Value} {R : Int → AW → Prop} (hd : decode mi.2.1 pc = .ok (.invokevirtual idx, 3)) (hM : MVt mi' na ci) (hL : MLk mi.1.cls idx mi'.1) (hct : CTi mi' mc' ms' (.ref r0 :: As) w R) (hrc : wg w r0 = some (.inr (ci, fs))) (hst : st0 = As.reverse ++ .ref r0 :: st) (kk : ∀ (x : Int) (w' : AW), R x w' → EX mi mc ms SC Z (pc + 3) ls (.int (iI x) :: st) w' (k + mc') (n + ms')) (hna : As.length = na := by rfl) (hcat : (st.map fun v => v.category).sum ≤ 8 := by exact Nat.le_of_ble_eq_true rfl) (hroom : mi'.2.2.2.2.1 + 1 ≤ mi.2.2.2.2.1 ∧ 8 + (mi'.2.2.1 + 11) + mi'.2.2.2.2.2 ≤ mi.2.2.2.2.2 := by decide) (hcs : k + mc' ≤ mc ∧ n + ms' ≤ ms := by omega) : EX mi mc ms SC Z pc ls st0 w k n :=
  x_callV hd hM hL hct hrc hst (fun r w' h => by obtain ⟨x, rfl, h⟩ := h; exact kk x w' h) hna hcat hroom hcs
theorem x_callvV {mi' : MI} {mc' ms' na idx ci r0 : Nat} {As st0 fs : List Value} {R : AW → Prop} (hd : decode mi.2.1 pc = .ok (.invokevirtual idx, 3)) (hM : MVt mi' na ci) (hL : MLk mi.1.cls idx mi'.1) (hct : CTv mi' mc' ms' (.ref r0 :: As) w R) (hrc : wg w r0 = some (.inr (ci, fs))) (hst : st0 = As.reverse ++ .ref r0 :: st) (kk : ∀ (w' : AW), R w' → EX mi mc ms SC Z (pc + 3) ls st w' (k + mc') (n + ms')) (hna : As.length = na := by rfl) (hcat : (st.map fun v => v.category).sum ≤ 8 := by exact Nat.le_of_ble_eq_true rfl) (hroom : mi'.2.2.2.2.1 + 1 ≤ mi.2.2.2.2.1 ∧ 8 + (mi'.2.2.1 + 11) + mi'.2.2.2.2.2 ≤ mi.2.2.2.2.2 := by decide) (hcs : k + mc' ≤ mc ∧ n + ms' ≤ ms := by omega) : EX mi mc ms SC Z pc ls st0 w k n :=
  x_callV hd hM hL hct hrc hst (fun r w' h => by obtain ⟨rfl, h⟩ := h; exact kk w' h) hna hcat hroom hcs
theorem x_callvI {mi' : MI} {mc' ms' na idx r0 : Nat} {As st0 : List Value} {R : AW → Prop} (hd : decode mi.2.1 pc = .ok (.invokespecial idx, 3)) (hM : MIt mi' na) (hL : MLk mi.1.cls idx mi'.1) (hct : CTv mi' mc' ms' (.ref r0 :: As) w R) (hst : st0 = As.reverse ++ .ref r0 :: st) (kk : ∀ (w' : AW), R w' → EX mi mc ms SC Z (pc + 3) ls st w' (k + mc') (n + ms')) (hna : As.length = na := by rfl) (hcat : (st.map fun v => v.category).sum ≤ 8 := by exact Nat.le_of_ble_eq_true rfl) (hroom : mi'.2.2.2.2.1 + 1 ≤ mi.2.2.2.2.1 ∧ 8 + (mi'.2.2.1 + 11) + mi'.2.2.2.2.2 ≤ mi.2.2.2.2.2 := by decide) (hcs : k + mc' ≤ mc ∧ n + ms' ≤ ms := by omega) : EX mi mc ms SC Z pc ls st0 w k n :=
  x_callI hd hM hL hct hst (fun r w' h => by obtain ⟨rfl, h⟩ := h; exact kk w' h) hna hcat hroom hcs
end RULES4
