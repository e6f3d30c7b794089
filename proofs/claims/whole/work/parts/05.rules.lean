section RULES
variable {mi : MI} {mc ms : Nat} {SC : Option (Nat × (Nat → Int32))} {Z : Zt} {pc : Nat} {ls : List (Option Value)} {st : List Value} {w : AW} {k n : Nat}
theorem x_iconst {i : Int} (hd : decode mi.2.1 pc = .ok (.iconst i, 1)) (kk : EX mi mc ms SC Z (pc + 1) ls (.int (iI i) :: st) w k n) : EX mi mc ms SC Z pc ls st w k n := by
  intro p l e s m args below meth c D dA S b H locs la hk hE hw hS hl
  exact lv_iconst hk.1 hk.2.1 hd rfl (kk p l e s m args below meth c D dA S b H locs la hk hE hw hS hl)
theorem x_bipush {i : Int} (hd : decode mi.2.1 pc = .ok (.bipush i, 2)) (kk : EX mi mc ms SC Z (pc + 2) ls (.int (iI i) :: st) w k n) (h1 : -128 ≤ i := by decide) (h2 : i ≤ 127 := by decide) : EX mi mc ms SC Z pc ls st w k n := by
  intro p l e s m args below meth c D dA S b H locs la hk hE hw hS hl
  exact lv_bipush hk.1 hk.2.1 hd (iI_bip h1 h2) (kk p l e s m args below meth c D dA S b H locs la hk hE hw hS hl)
theorem x_sipush {i : Int} (hd : decode mi.2.1 pc = .ok (.sipush i, 3)) (kk : EX mi mc ms SC Z (pc + 3) ls (.int (iI i) :: st) w k n) (h1 : -32768 ≤ i := by decide) (h2 : i ≤ 32767 := by decide) : EX mi mc ms SC Z pc ls st w k n := by
  intro p l e s m args below meth c D dA S b H locs la hk hE hw hS hl
  exact lv_sipush hk.1 hk.2.1 hd (iI_sip h1 h2) (kk p l e s m args below meth c D dA S b H locs la hk hE hw hS hl)
theorem x_lconst {i : Fin 2} (hd : decode mi.2.1 pc = .ok (.lconst i, 1)) (kk : EX mi mc ms SC Z (pc + 1) ls (.long (lI (i.val : Int)) :: st) w k n) : EX mi mc ms SC Z pc ls st w k n := by
  intro p l e s m args below meth c D dA S b H locs la hk hE hw hS hl
  exact lv_lconst hk.1 hk.2.1 hd (by match i with | 0 => decide | 1 => decide) (kk p l e s m args below meth c D dA S b H locs la hk hE hw hS hl)
theorem x_ldc {idx : Nat} {i : Int} (hd : decode mi.2.1 pc = .ok (.ldc idx, 2)) (hc : Cond.constant mi.1.cls idx (iI i) ∈ TB) (kk : EX mi mc ms SC Z (pc + 2) ls (.int (iI i) :: st) w k n) : EX mi mc ms SC Z pc ls st w k n := by
  intro p l e s m args below meth c D dA S b H locs la hk hE hw hS hl
  exact W.ldc hk.1 hk.2.1 hk.2.2.2.2.2.1 (hk.2.2.2.2.2.2.2.1 _ hc) rfl hd (kk p l e s m args below meth c D dA S b H locs la hk hE hw hS hl)
theorem x_ldcw {idx : Nat} {i : Int} (hd : decode mi.2.1 pc = .ok (.ldc_w idx, 3)) (hc : Cond.constant mi.1.cls idx (iI i) ∈ TB) (kk : EX mi mc ms SC Z (pc + 3) ls (.int (iI i) :: st) w k n) : EX mi mc ms SC Z pc ls st w k n := by
  intro p l e s m args below meth c D dA S b H locs la hk hE hw hS hl
  exact lv_ldcw hk.1 hk.2.1 hk.2.2.2.2.2.1 (hk.2.2.2.2.2.2.2.1 _ hc) hd (kk p l e s m args below meth c D dA S b H locs la hk hE hw hS hl)
theorem x_ldc2 {idx : Nat} {i : Int} (hd : decode mi.2.1 pc = .ok (.ldc2_w idx, 3)) (hc : Cond.constantLong mi.1.cls idx (lI i) ∈ TB) (kk : EX mi mc ms SC Z (pc + 3) ls (.long (lI i) :: st) w k n) : EX mi mc ms SC Z pc ls st w k n := by
  intro p l e s m args below meth c D dA S b H locs la hk hE hw hS hl
  exact W.ldc2 hk.1 hk.2.1 hk.2.2.2.2.2.1 (hk.2.2.2.2.2.2.2.1 _ hc) rfl hd (kk p l e s m args below meth c D dA S b H locs la hk hE hw hS hl)
theorem x_iload_n {q : Fin 4} {x : Int32} (hd : decode mi.2.1 pc = .ok (.iload_n q, 1)) (h : lk ls q.val = some (.int x)) (kk : EX mi mc ms SC Z (pc + 1) ls (.int x :: st) w k n) : EX mi mc ms SC Z pc ls st w k n := by
  intro p l e s m args below meth c D dA S b H locs la hk hE hw hS hl
  exact lv_iload_n hk.1 hk.2.1 hd rfl (hl.2.2 _ _ h) (kk p l e s m args below meth c D dA S b H locs la hk hE hw hS hl)
theorem x_iload {q : Nat} {x : Int32} (hd : decode mi.2.1 pc = .ok (.iload q, 2)) (h : lk ls q = some (.int x)) (kk : EX mi mc ms SC Z (pc + 2) ls (.int x :: st) w k n) : EX mi mc ms SC Z pc ls st w k n := by
  intro p l e s m args below meth c D dA S b H locs la hk hE hw hS hl
  exact lv_iload hk.1 hk.2.1 hd (hl.2.2 _ _ h) (kk p l e s m args below meth c D dA S b H locs la hk hE hw hS hl)
theorem x_lload_n {q : Fin 4} {x : Int64} (hd : decode mi.2.1 pc = .ok (.lload_n q, 1)) (h : lk ls q.val = some (.long x)) (kk : EX mi mc ms SC Z (pc + 1) ls (.long x :: st) w k n) : EX mi mc ms SC Z pc ls st w k n := by
  intro p l e s m args below meth c D dA S b H locs la hk hE hw hS hl
  exact lv_lload_n hk.1 hk.2.1 hd rfl (hl.2.2 _ _ h) (kk p l e s m args below meth c D dA S b H locs la hk hE hw hS hl)
theorem x_lload {q : Nat} {x : Int64} (hd : decode mi.2.1 pc = .ok (.lload q, 2)) (h : lk ls q = some (.long x)) (kk : EX mi mc ms SC Z (pc + 2) ls (.long x :: st) w k n) : EX mi mc ms SC Z pc ls st w k n := by
  intro p l e s m args below meth c D dA S b H locs la hk hE hw hS hl
  exact lv_lload hk.1 hk.2.1 hd (hl.2.2 _ _ h) (kk p l e s m args below meth c D dA S b H locs la hk hE hw hS hl)
theorem x_aload_n {q : Fin 4} {x : Nat} (hd : decode mi.2.1 pc = .ok (.aload_n q, 1)) (h : lk ls q.val = some (.ref x)) (kk : EX mi mc ms SC Z (pc + 1) ls (.ref x :: st) w k n) : EX mi mc ms SC Z pc ls st w k n := by
  intro p l e s m args below meth c D dA S b H locs la hk hE hw hS hl
  exact lv_aload_n hk.1 hk.2.1 hd rfl (hl.2.2 _ _ h) (kk p l e s m args below meth c D dA S b H locs la hk hE hw hS hl)
theorem x_aload_s {q : Fin 4} {x : Nat} (hd : decode mi.2.1 pc = .ok (.aload_n q, 1)) (h : lk ls q.val = some (.retAddr x)) (kk : EX mi mc ms SC Z (pc + 1) ls (.retAddr x :: st) w k n) : EX mi mc ms SC Z pc ls st w k n := by
  intro p l e s m args below meth c D dA S b H locs la hk hE hw hS hl
  exact lv_aload_n hk.1 hk.2.1 hd rfl (hl.2.2 _ _ h) (kk p l e s m args below meth c D dA S b H locs la hk hE hw hS hl)
theorem x_istore_n {q : Fin 4} {x : Int32} {ls' : List (Option Value)} (hd : decode mi.2.1 pc = .ok (.istore_n q, 1)) (hn : q.val < mi.2.2.1) (hc : okb ls q.val = true) (hs : sk ls q.val (some (.int x)) = ls') (kk : EX mi mc ms SC Z (pc + 1) ls' st w k n) : EX mi mc ms SC Z pc ls (.int x :: st) w k n := by
  subst hs
  intro p l e s m args below meth c D dA S b H locs la hk hE hw hS hl
  exact lv_istore_n hk.1 hk.2.1 hd rfl hl.has hn rfl (fun la' h' => kk p l e s m args below meth c D dA S b H locs la' hk hE hw hS (lo.st hc h'))
theorem x_istore {q : Nat} {x : Int32} {ls' : List (Option Value)} (hd : decode mi.2.1 pc = .ok (.istore q, 2)) (hn : q < mi.2.2.1) (hc : okb ls q = true) (hs : sk ls q (some (.int x)) = ls') (kk : EX mi mc ms SC Z (pc + 2) ls' st w k n) : EX mi mc ms SC Z pc ls (.int x :: st) w k n := by
  subst hs
  intro p l e s m args below meth c D dA S b H locs la hk hE hw hS hl
  exact lv_istore hk.1 hk.2.1 hd hl.has hn rfl (fun la' h' => kk p l e s m args below meth c D dA S b H locs la' hk hE hw hS (lo.st hc h'))
theorem x_astore_n {q : Fin 4} {x : Nat} {ls' : List (Option Value)} (hd : decode mi.2.1 pc = .ok (.astore_n q, 1)) (hn : q.val < mi.2.2.1) (hc : okb ls q.val = true) (hs : sk ls q.val (some (.ref x)) = ls') (kk : EX mi mc ms SC Z (pc + 1) ls' st w k n) : EX mi mc ms SC Z pc ls (.ref x :: st) w k n := by
  subst hs
  intro p l e s m args below meth c D dA S b H locs la hk hE hw hS hl
  exact lv_astore_n hk.1 hk.2.1 hd rfl hl.has hn rfl (fun la' h' => kk p l e s m args below meth c D dA S b H locs la' hk hE hw hS (lo.st hc h'))
theorem x_iinc {q : Nat} {d x : Int} {ls' : List (Option Value)} (hd : decode mi.2.1 pc = .ok (.iinc q d, 3)) (h : lk ls q = some (.int (iI x))) (hn : q < mi.2.2.1) (hc : okb ls q = true) (hs : sk ls q (some (.int (iI (x + d)))) = ls') (kk : EX mi mc ms SC Z (pc + 3) ls' st w k n) : EX mi mc ms SC Z pc ls st w k n := by
  subst hs
  intro p l e s m args below meth c D dA S b H locs la hk hE hw hS hl
  obtain ⟨j, hj⟩ := List.getElem?_of_mem (lAs_mem (S := S) (b := b) h)
  exact lv_iinc hk.1 hk.2.1 hd hl.has hj (iI_add x d) hn rfl (fun la' h' => kk p l e s m args below meth c D dA S b H locs la' hk hE hw hS (lo.st hc h'))
theorem x_ist0 {a0 : Option Value} {r : List (Option Value)} {x : Int32} (hd : decode mi.2.1 pc = .ok (.istore_n 0, 1)) (kk : EX mi mc ms SC Z (pc + 1) (some (.int x) :: r) st w k n) (hn : 0 < mi.2.2.1 := by decide) (hc : okb (a0 :: r) 0 = true := by rfl) : EX mi mc ms SC Z pc (a0 :: r) (.int x :: st) w k n := x_istore_n hd hn hc rfl kk
theorem x_inc0 {r : List (Option Value)} {x d : Int} (hd : decode mi.2.1 pc = .ok (.iinc 0 d, 3)) (kk : EX mi mc ms SC Z (pc + 3) (some (.int (iI (x + d))) :: r) st w k n) (hn : 0 < mi.2.2.1 := by decide) (hc : okb (some (.int (iI x)) :: r) 0 = true := by rfl) : EX mi mc ms SC Z pc (some (.int (iI x)) :: r) st w k n := x_iinc hd rfl hn hc rfl kk
theorem x_ist1 {a0 a1 : Option Value} {r : List (Option Value)} {x : Int32} (hd : decode mi.2.1 pc = .ok (.istore_n 1, 1)) (kk : EX mi mc ms SC Z (pc + 1) (a0 :: some (.int x) :: r) st w k n) (hn : 1 < mi.2.2.1 := by decide) (hc : okb (a0 :: a1 :: r) 1 = true := by rfl) : EX mi mc ms SC Z pc (a0 :: a1 :: r) (.int x :: st) w k n := x_istore_n hd hn hc rfl kk
theorem x_inc1 {a0 : Option Value} {r : List (Option Value)} {x d : Int} (hd : decode mi.2.1 pc = .ok (.iinc 1 d, 3)) (kk : EX mi mc ms SC Z (pc + 3) (a0 :: some (.int (iI (x + d))) :: r) st w k n) (hn : 1 < mi.2.2.1 := by decide) (hc : okb (a0 :: some (.int (iI x)) :: r) 1 = true := by rfl) : EX mi mc ms SC Z pc (a0 :: some (.int (iI x)) :: r) st w k n := x_iinc hd rfl hn hc rfl kk
theorem x_ast1 {a0 a1 : Option Value} {r : List (Option Value)} {x : Nat} (hd : decode mi.2.1 pc = .ok (.astore_n 1, 1)) (kk : EX mi mc ms SC Z (pc + 1) (a0 :: some (.ref x) :: r) st w k n) (hn : 1 < mi.2.2.1 := by decide) (hc : okb (a0 :: a1 :: r) 1 = true := by rfl) : EX mi mc ms SC Z pc (a0 :: a1 :: r) (.ref x :: st) w k n := x_astore_n hd hn hc rfl kk
theorem x_ist2 {a0 a1 a2 : Option Value} {r : List (Option Value)} {x : Int32} (hd : decode mi.2.1 pc = .ok (.istore_n 2, 1)) (kk : EX mi mc ms SC Z (pc + 1) (a0 :: a1 :: some (.int x) :: r) st w k n) (hn : 2 < mi.2.2.1 := by decide) (hc : okb (a0 :: a1 :: a2 :: r) 2 = true := by rfl) : EX mi mc ms SC Z pc (a0 :: a1 :: a2 :: r) (.int x :: st) w k n := x_istore_n hd hn hc rfl kk
theorem x_inc2 {a0 a1 : Option Value} {r : List (Option Value)} {x d : Int} (hd : decode mi.2.1 pc = .ok (.iinc 2 d, 3)) (kk : EX mi mc ms SC Z (pc + 3) (a0 :: a1 :: some (.int (iI (x + d))) :: r) st w k n) (hn : 2 < mi.2.2.1 := by decide) (hc : okb (a0 :: a1 :: some (.int (iI x)) :: r) 2 = true := by rfl) : EX mi mc ms SC Z pc (a0 :: a1 :: some (.int (iI x)) :: r) st w k n := x_iinc hd rfl hn hc rfl kk
theorem x_ast2 {a0 a1 a2 : Option Value} {r : List (Option Value)} {x : Nat} (hd : decode mi.2.1 pc = .ok (.astore_n 2, 1)) (kk : EX mi mc ms SC Z (pc + 1) (a0 :: a1 :: some (.ref x) :: r) st w k n) (hn : 2 < mi.2.2.1 := by decide) (hc : okb (a0 :: a1 :: a2 :: r) 2 = true := by rfl) : EX mi mc ms SC Z pc (a0 :: a1 :: a2 :: r) (.ref x :: st) w k n := x_astore_n hd hn hc rfl kk
theorem x_ist3 {a0 a1 a2 a3 : Option Value} {r : List (Option Value)} {x : Int32} (hd : decode mi.2.1 pc = .ok (.istore_n 3, 1)) (kk : EX mi mc ms SC Z (pc + 1) (a0 :: a1 :: a2 :: some (.int x) :: r) st w k n) (hn : 3 < mi.2.2.1 := by decide) (hc : okb (a0 :: a1 :: a2 :: a3 :: r) 3 = true := by rfl) : EX mi mc ms SC Z pc (a0 :: a1 :: a2 :: a3 :: r) (.int x :: st) w k n := x_istore_n hd hn hc rfl kk
theorem x_inc3 {a0 a1 a2 : Option Value} {r : List (Option Value)} {x d : Int} (hd : decode mi.2.1 pc = .ok (.iinc 3 d, 3)) (kk : EX mi mc ms SC Z (pc + 3) (a0 :: a1 :: a2 :: some (.int (iI (x + d))) :: r) st w k n) (hn : 3 < mi.2.2.1 := by decide) (hc : okb (a0 :: a1 :: a2 :: some (.int (iI x)) :: r) 3 = true := by rfl) : EX mi mc ms SC Z pc (a0 :: a1 :: a2 :: some (.int (iI x)) :: r) st w k n := x_iinc hd rfl hn hc rfl kk
theorem x_ist4 {a0 a1 a2 a3 a4 : Option Value} {r : List (Option Value)} {x : Int32} (hd : decode mi.2.1 pc = .ok (.istore 4, 2)) (kk : EX mi mc ms SC Z (pc + 2) (a0 :: a1 :: a2 :: a3 :: some (.int x) :: r) st w k n) (hn : 4 < mi.2.2.1 := by decide) (hc : okb (a0 :: a1 :: a2 :: a3 :: a4 :: r) 4 = true := by rfl) : EX mi mc ms SC Z pc (a0 :: a1 :: a2 :: a3 :: a4 :: r) (.int x :: st) w k n := x_istore hd hn hc rfl kk
theorem x_inc4 {a0 a1 a2 a3 : Option Value} {r : List (Option Value)} {x d : Int} (hd : decode mi.2.1 pc = .ok (.iinc 4 d, 3)) (kk : EX mi mc ms SC Z (pc + 3) (a0 :: a1 :: a2 :: a3 :: some (.int (iI (x + d))) :: r) st w k n) (hn : 4 < mi.2.2.1 := by decide) (hc : okb (a0 :: a1 :: a2 :: a3 :: some (.int (iI x)) :: r) 4 = true := by rfl) : EX mi mc ms SC Z pc (a0 :: a1 :: a2 :: a3 :: some (.int (iI x)) :: r) st w k n := x_iinc hd rfl hn hc rfl kk
theorem x_ist5 {a0 a1 a2 a3 a4 a5 : Option Value} {r : List (Option Value)} {x : Int32} (hd : decode mi.2.1 pc = .ok (.istore 5, 2)) (kk : EX mi mc ms SC Z (pc + 2) (a0 :: a1 :: a2 :: a3 :: a4 :: some (.int x) :: r) st w k n) (hn : 5 < mi.2.2.1 := by decide) (hc : okb (a0 :: a1 :: a2 :: a3 :: a4 :: a5 :: r) 5 = true := by rfl) : EX mi mc ms SC Z pc (a0 :: a1 :: a2 :: a3 :: a4 :: a5 :: r) (.int x :: st) w k n := x_istore hd hn hc rfl kk
theorem x_inc5 {a0 a1 a2 a3 a4 : Option Value} {r : List (Option Value)} {x d : Int} (hd : decode mi.2.1 pc = .ok (.iinc 5 d, 3)) (kk : EX mi mc ms SC Z (pc + 3) (a0 :: a1 :: a2 :: a3 :: a4 :: some (.int (iI (x + d))) :: r) st w k n) (hn : 5 < mi.2.2.1 := by decide) (hc : okb (a0 :: a1 :: a2 :: a3 :: a4 :: some (.int (iI x)) :: r) 5 = true := by rfl) : EX mi mc ms SC Z pc (a0 :: a1 :: a2 :: a3 :: a4 :: some (.int (iI x)) :: r) st w k n := x_iinc hd rfl hn hc rfl kk
theorem x_ist6 {a0 a1 a2 a3 a4 a5 a6 : Option Value} {r : List (Option Value)} {x : Int32} (hd : decode mi.2.1 pc = .ok (.istore 6, 2)) (kk : EX mi mc ms SC Z (pc + 2) (a0 :: a1 :: a2 :: a3 :: a4 :: a5 :: some (.int x) :: r) st w k n) (hn : 6 < mi.2.2.1 := by decide) (hc : okb (a0 :: a1 :: a2 :: a3 :: a4 :: a5 :: a6 :: r) 6 = true := by rfl) : EX mi mc ms SC Z pc (a0 :: a1 :: a2 :: a3 :: a4 :: a5 :: a6 :: r) (.int x :: st) w k n := x_istore hd hn hc rfl kk
theorem x_inc6 {a0 a1 a2 a3 a4 a5 : Option Value} {r : List (Option Value)} {x d : Int} (hd : decode mi.2.1 pc = .ok (.iinc 6 d, 3)) (kk : EX mi mc ms SC Z (pc + 3) (a0 :: a1 :: a2 :: a3 :: a4 :: a5 :: some (.int (iI (x + d))) :: r) st w k n) (hn : 6 < mi.2.2.1 := by decide) (hc : okb (a0 :: a1 :: a2 :: a3 :: a4 :: a5 :: some (.int (iI x)) :: r) 6 = true := by rfl) : EX mi mc ms SC Z pc (a0 :: a1 :: a2 :: a3 :: a4 :: a5 :: some (.int (iI x)) :: r) st w k n := x_iinc hd rfl hn hc rfl kk
theorem x_ist7 {a0 a1 a2 a3 a4 a5 a6 a7 : Option Value} {r : List (Option Value)} {x : Int32} (hd : decode mi.2.1 pc = .ok (.istore 7, 2)) (kk : EX mi mc ms SC Z (pc + 2) (a0 :: a1 :: a2 :: a3 :: a4 :: a5 :: a6 :: some (.int x) :: r) st w k n) (hn : 7 < mi.2.2.1 := by decide) (hc : okb (a0 :: a1 :: a2 :: a3 :: a4 :: a5 :: a6 :: a7 :: r) 7 = true := by rfl) : EX mi mc ms SC Z pc (a0 :: a1 :: a2 :: a3 :: a4 :: a5 :: a6 :: a7 :: r) (.int x :: st) w k n := x_istore hd hn hc rfl kk
theorem x_inc7 {a0 a1 a2 a3 a4 a5 a6 : Option Value} {r : List (Option Value)} {x d : Int} (hd : decode mi.2.1 pc = .ok (.iinc 7 d, 3)) (kk : EX mi mc ms SC Z (pc + 3) (a0 :: a1 :: a2 :: a3 :: a4 :: a5 :: a6 :: some (.int (iI (x + d))) :: r) st w k n) (hn : 7 < mi.2.2.1 := by decide) (hc : okb (a0 :: a1 :: a2 :: a3 :: a4 :: a5 :: a6 :: some (.int (iI x)) :: r) 7 = true := by rfl) : EX mi mc ms SC Z pc (a0 :: a1 :: a2 :: a3 :: a4 :: a5 :: a6 :: some (.int (iI x)) :: r) st w k n := x_iinc hd rfl hn hc rfl kk
theorem x_ist8 {a0 a1 a2 a3 a4 a5 a6 a7 a8 : Option Value} {r : List (Option Value)} {x : Int32} (hd : decode mi.2.1 pc = .ok (.istore 8, 2)) (kk : EX mi mc ms SC Z (pc + 2) (a0 :: a1 :: a2 :: a3 :: a4 :: a5 :: a6 :: a7 :: some (.int x) :: r) st w k n) (hn : 8 < mi.2.2.1 := by decide) (hc : okb (a0 :: a1 :: a2 :: a3 :: a4 :: a5 :: a6 :: a7 :: a8 :: r) 8 = true := by rfl) : EX mi mc ms SC Z pc (a0 :: a1 :: a2 :: a3 :: a4 :: a5 :: a6 :: a7 :: a8 :: r) (.int x :: st) w k n := x_istore hd hn hc rfl kk
theorem x_inc8 {a0 a1 a2 a3 a4 a5 a6 a7 : Option Value} {r : List (Option Value)} {x d : Int} (hd : decode mi.2.1 pc = .ok (.iinc 8 d, 3)) (kk : EX mi mc ms SC Z (pc + 3) (a0 :: a1 :: a2 :: a3 :: a4 :: a5 :: a6 :: a7 :: some (.int (iI (x + d))) :: r) st w k n) (hn : 8 < mi.2.2.1 := by decide) (hc : okb (a0 :: a1 :: a2 :: a3 :: a4 :: a5 :: a6 :: a7 :: some (.int (iI x)) :: r) 8 = true := by rfl) : EX mi mc ms SC Z pc (a0 :: a1 :: a2 :: a3 :: a4 :: a5 :: a6 :: a7 :: some (.int (iI x)) :: r) st w k n := x_iinc hd rfl hn hc rfl kk
theorem x_ist9 {a0 a1 a2 a3 a4 a5 a6 a7 a8 a9 : Option Value} {r : List (Option Value)} {x : Int32} (hd : decode mi.2.1 pc = .ok (.istore 9, 2)) (kk : EX mi mc ms SC Z (pc + 2) (a0 :: a1 :: a2 :: a3 :: a4 :: a5 :: a6 :: a7 :: a8 :: some (.int x) :: r) st w k n) (hn : 9 < mi.2.2.1 := by decide) (hc : okb (a0 :: a1 :: a2 :: a3 :: a4 :: a5 :: a6 :: a7 :: a8 :: a9 :: r) 9 = true := by rfl) : EX mi mc ms SC Z pc (a0 :: a1 :: a2 :: a3 :: a4 :: a5 :: a6 :: a7 :: a8 :: a9 :: r) (.int x :: st) w k n := x_istore hd hn hc rfl kk
theorem x_inc9 {a0 a1 a2 a3 a4 a5 a6 a7 a8 : Option Value} {r : List (Option Value)} {x d : Int} (hd : decode mi.2.1 pc = .ok (.iinc 9 d, 3)) (kk : EX mi mc ms SC Z (pc + 3) (a0 :: a1 :: a2 :: a3 :: a4 :: a5 :: a6 :: a7 :: a8 :: some (.int (iI (x + d))) :: r) st w k n) (hn : 9 < mi.2.2.1 := by decide) (hc : okb (a0 :: a1 :: a2 :: a3 :: a4 :: a5 :: a6 :: a7 :: a8 :: some (.int (iI x)) :: r) 9 = true := by rfl) : EX mi mc ms SC Z pc (a0 :: a1 :: a2 :: a3 :: a4 :: a5 :: a6 :: a7 :: a8 :: some (.int (iI x)) :: r) st w k n := x_iinc hd rfl hn hc rfl kk
theorem x_iadd {x y : Int} (hd : decode mi.2.1 pc = .ok (.iadd, 1)) (kk : EX mi mc ms SC Z (pc + 1) ls (.int (iI (x + y)) :: st) w k n) : EX mi mc ms SC Z pc ls (.int (iI y) :: .int (iI x) :: st) w k n := by
  intro p l e s m args below meth c D dA S b H locs la hk hE hw hS hl
  have k1 := kk p l e s m args below meth c D dA S b H locs la hk hE hw hS hl
  rw [← iI_add] at k1
  exact lv_iadd hk.1 hk.2.1 hd k1
theorem x_isub {x y : Int} (hd : decode mi.2.1 pc = .ok (.isub, 1)) (kk : EX mi mc ms SC Z (pc + 1) ls (.int (iI (x - y)) :: st) w k n) : EX mi mc ms SC Z pc ls (.int (iI y) :: .int (iI x) :: st) w k n := by
  intro p l e s m args below meth c D dA S b H locs la hk hE hw hS hl
  have k1 := kk p l e s m args below meth c D dA S b H locs la hk hE hw hS hl
  rw [← iI_sub] at k1
  exact lv_isub hk.1 hk.2.1 hd k1
theorem x_imul {x y : Int} (hd : decode mi.2.1 pc = .ok (.imul, 1)) (kk : EX mi mc ms SC Z (pc + 1) ls (.int (iI (x * y)) :: st) w k n) : EX mi mc ms SC Z pc ls (.int (iI y) :: .int (iI x) :: st) w k n := by
  intro p l e s m args below meth c D dA S b H locs la hk hE hw hS hl
  have k1 := kk p l e s m args below meth c D dA S b H locs la hk hE hw hS hl
  rw [← iI_mul] at k1
  exact lv_imul hk.1 hk.2.1 hd k1
theorem x_idiv {x y : Int} (hd : decode mi.2.1 pc = .ok (.idiv, 1)) (kk : EX mi mc ms SC Z (pc + 1) ls (.int (iI (x / y)) :: st) w k n) (h1 : 0 ≤ x := by omega) (h2 : x ≤ 2147483647 := by omega) (h3 : 0 < y := by omega) (h4 : y ≤ 2147483647 := by omega) : EX mi mc ms SC Z pc ls (.int (iI y) :: .int (iI x) :: st) w k n := by
  intro p l e s m args below meth c D dA S b H locs la hk hE hw hS hl
  have k1 := kk p l e s m args below meth c D dA S b H locs la hk hE hw hS hl
  rw [← iI_div ⟨by omega, h2⟩ h1 ⟨by omega, h4⟩ h3] at k1
  exact lv_idiv hk.1 hk.2.1 hd (fun h => by rw [iI_eq0 ⟨by omega, h4⟩] at h; omega) k1
theorem x_irem {x y : Int} (hd : decode mi.2.1 pc = .ok (.irem, 1)) (kk : EX mi mc ms SC Z (pc + 1) ls (.int (iI (x % y)) :: st) w k n) (h1 : 0 ≤ x := by omega) (h2 : x ≤ 2147483647 := by omega) (h3 : 0 < y := by omega) (h4 : y ≤ 2147483647 := by omega) : EX mi mc ms SC Z pc ls (.int (iI y) :: .int (iI x) :: st) w k n := by
  intro p l e s m args below meth c D dA S b H locs la hk hE hw hS hl
  have k1 := kk p l e s m args below meth c D dA S b H locs la hk hE hw hS hl
  rw [← iI_rem ⟨by omega, h2⟩ h1 ⟨by omega, h4⟩ h3] at k1
  exact lv_irem hk.1 hk.2.1 hd (fun h => by rw [iI_eq0 ⟨by omega, h4⟩] at h; omega) k1
theorem x_iand {x y : Int32} {v : Int} (hd : decode mi.2.1 pc = .ok (.iand, 1)) (hv : x &&& y = iI v) (kk : EX mi mc ms SC Z (pc + 1) ls (.int (iI v) :: st) w k n) : EX mi mc ms SC Z pc ls (.int y :: .int x :: st) w k n := by
  intro p l e s m args below meth c D dA S b H locs la hk hE hw hS hl
  have k1 := kk p l e s m args below meth c D dA S b H locs la hk hE hw hS hl
  rw [← hv] at k1
  exact lv_iand hk.1 hk.2.1 hd k1
theorem x_ior {x y : Int32} {v : Int} (hd : decode mi.2.1 pc = .ok (.ior, 1)) (hv : x ||| y = iI v) (kk : EX mi mc ms SC Z (pc + 1) ls (.int (iI v) :: st) w k n) : EX mi mc ms SC Z pc ls (.int y :: .int x :: st) w k n := by
  intro p l e s m args below meth c D dA S b H locs la hk hE hw hS hl
  have k1 := kk p l e s m args below meth c D dA S b H locs la hk hE hw hS hl
  rw [← hv] at k1
  exact lv_ior hk.1 hk.2.1 hd k1
theorem x_ixor {x y : Int32} {v : Int} (hd : decode mi.2.1 pc = .ok (.ixor, 1)) (hv : x ^^^ y = iI v) (kk : EX mi mc ms SC Z (pc + 1) ls (.int (iI v) :: st) w k n) : EX mi mc ms SC Z pc ls (.int y :: .int x :: st) w k n := by
  intro p l e s m args below meth c D dA S b H locs la hk hE hw hS hl
  have k1 := kk p l e s m args below meth c D dA S b H locs la hk hE hw hS hl
  rw [← hv] at k1
  exact lv_ixor hk.1 hk.2.1 hd k1
theorem x_ishl {x y : Int32} {v : Int} (hd : decode mi.2.1 pc = .ok (.ishl, 1)) (hv : x <<< (y &&& 31) = iI v) (kk : EX mi mc ms SC Z (pc + 1) ls (.int (iI v) :: st) w k n) : EX mi mc ms SC Z pc ls (.int y :: .int x :: st) w k n := by
  intro p l e s m args below meth c D dA S b H locs la hk hE hw hS hl
  have k1 := kk p l e s m args below meth c D dA S b H locs la hk hE hw hS hl
  rw [← hv] at k1
  exact lv_ishl hk.1 hk.2.1 hd k1
theorem x_ishr {x y : Int32} {v : Int} (hd : decode mi.2.1 pc = .ok (.ishr, 1)) (hv : x >>> (y &&& 31) = iI v) (kk : EX mi mc ms SC Z (pc + 1) ls (.int (iI v) :: st) w k n) : EX mi mc ms SC Z pc ls (.int y :: .int x :: st) w k n := by
  intro p l e s m args below meth c D dA S b H locs la hk hE hw hS hl
  have k1 := kk p l e s m args below meth c D dA S b H locs la hk hE hw hS hl
  rw [← hv] at k1
  exact lv_ishr hk.1 hk.2.1 hd k1
theorem x_iushr {x y : Int32} {v : Int} (hd : decode mi.2.1 pc = .ok (.iushr, 1)) (hv : (x.toUInt32 >>> (y.toUInt32 &&& Int32.toUInt32 31)).toInt32 = iI v) (kk : EX mi mc ms SC Z (pc + 1) ls (.int (iI v) :: st) w k n) : EX mi mc ms SC Z pc ls (.int y :: .int x :: st) w k n := by
  intro p l e s m args below meth c D dA S b H locs la hk hE hw hS hl
  exact lv_iushr hk.1 hk.2.1 hd hv (kk p l e s m args below meth c D dA S b H locs la hk hE hw hS hl)
theorem x_i2b {x : Int32} {v : Int} (hd : decode mi.2.1 pc = .ok (.i2b, 1)) (hv : x.toInt8.toInt32 = iI v) (kk : EX mi mc ms SC Z (pc + 1) ls (.int (iI v) :: st) w k n) : EX mi mc ms SC Z pc ls (.int x :: st) w k n := by
  intro p l e s m args below meth c D dA S b H locs la hk hE hw hS hl
  exact lv_i2b hk.1 hk.2.1 hd hv (kk p l e s m args below meth c D dA S b H locs la hk hE hw hS hl)
theorem x_i2s {x : Int32} {v : Int} (hd : decode mi.2.1 pc = .ok (.i2s, 1)) (hv : x.toInt16.toInt32 = iI v) (kk : EX mi mc ms SC Z (pc + 1) ls (.int (iI v) :: st) w k n) : EX mi mc ms SC Z pc ls (.int x :: st) w k n := by
  intro p l e s m args below meth c D dA S b H locs la hk hE hw hS hl
  exact lv_i2s hk.1 hk.2.1 hd hv (kk p l e s m args below meth c D dA S b H locs la hk hE hw hS hl)
theorem x_i2l {x : Int} (hd : decode mi.2.1 pc = .ok (.i2l, 1)) (kk : EX mi mc ms SC Z (pc + 1) ls (.long (lI x) :: st) w k n) (hx : inR x := by omega) : EX mi mc ms SC Z pc ls (.int (iI x) :: st) w k n := by
  intro p l e s m args below meth c D dA S b H locs la hk hE hw hS hl
  exact lv_i2l hk.1 hk.2.1 hd (iI_64 hx) (kk p l e s m args below meth c D dA S b H locs la hk hE hw hS hl)
theorem x_i2lr {x : Int32} (hd : decode mi.2.1 pc = .ok (.i2l, 1)) (kk : EX mi mc ms SC Z (pc + 1) ls (.long x.toInt64 :: st) w k n) : EX mi mc ms SC Z pc ls (.int x :: st) w k n := by
  intro p l e s m args below meth c D dA S b H locs la hk hE hw hS hl
  exact lv_i2l hk.1 hk.2.1 hd rfl (kk p l e s m args below meth c D dA S b H locs la hk hE hw hS hl)
theorem x_l2i {x : Int64} {v : Int} (hd : decode mi.2.1 pc = .ok (.l2i, 1)) (hv : x.toInt32 = iI v) (kk : EX mi mc ms SC Z (pc + 1) ls (.int (iI v) :: st) w k n) : EX mi mc ms SC Z pc ls (.long x :: st) w k n := by
  intro p l e s m args below meth c D dA S b H locs la hk hE hw hS hl
  exact lv_l2i hk.1 hk.2.1 hd hv (kk p l e s m args below meth c D dA S b H locs la hk hE hw hS hl)
theorem x_l2ir {x : Int64} (hd : decode mi.2.1 pc = .ok (.l2i, 1)) (kk : EX mi mc ms SC Z (pc + 1) ls (.int x.toInt32 :: st) w k n) : EX mi mc ms SC Z pc ls (.long x :: st) w k n := by
  intro p l e s m args below meth c D dA S b H locs la hk hE hw hS hl
  exact lv_l2i hk.1 hk.2.1 hd rfl (kk p l e s m args below meth c D dA S b H locs la hk hE hw hS hl)
theorem x_land {x y : Int64} (hd : decode mi.2.1 pc = .ok (.land, 1)) (kk : EX mi mc ms SC Z (pc + 1) ls (.long (x &&& y) :: st) w k n) : EX mi mc ms SC Z pc ls (.long y :: .long x :: st) w k n := by
  intro p l e s m args below meth c D dA S b H locs la hk hE hw hS hl
  exact lv_land hk.1 hk.2.1 hd (kk p l e s m args below meth c D dA S b H locs la hk hE hw hS hl)
theorem x_lor {x y : Int64} (hd : decode mi.2.1 pc = .ok (.lor, 1)) (kk : EX mi mc ms SC Z (pc + 1) ls (.long (x ||| y) :: st) w k n) : EX mi mc ms SC Z pc ls (.long y :: .long x :: st) w k n := by
  intro p l e s m args below meth c D dA S b H locs la hk hE hw hS hl
  exact lv_lor hk.1 hk.2.1 hd (kk p l e s m args below meth c D dA S b H locs la hk hE hw hS hl)
theorem x_lshl {x : Int64} {y : Int32} (hd : decode mi.2.1 pc = .ok (.lshl, 1)) (kk : EX mi mc ms SC Z (pc + 1) ls (.long (x <<< (y.toInt64 &&& 63)) :: st) w k n) : EX mi mc ms SC Z pc ls (.int y :: .long x :: st) w k n := by
  intro p l e s m args below meth c D dA S b H locs la hk hE hw hS hl
  exact lv_lshl hk.1 hk.2.1 hd rfl (kk p l e s m args below meth c D dA S b H locs la hk hE hw hS hl)
theorem x_lshr {x : Int64} {y : Int32} (hd : decode mi.2.1 pc = .ok (.lshr, 1)) (kk : EX mi mc ms SC Z (pc + 1) ls (.long (x >>> (y.toInt64 &&& 63)) :: st) w k n) : EX mi mc ms SC Z pc ls (.int y :: .long x :: st) w k n := by
  intro p l e s m args below meth c D dA S b H locs la hk hE hw hS hl
  exact lv_lshr hk.1 hk.2.1 hd rfl (kk p l e s m args below meth c D dA S b H locs la hk hE hw hS hl)
theorem x_lushr {x : Int64} {y : Int32} (hd : decode mi.2.1 pc = .ok (.lushr, 1)) (kk : EX mi mc ms SC Z (pc + 1) ls (.long ((x.toUInt64 >>> (y.toInt64.toUInt64 &&& Int64.toUInt64 63)).toInt64) :: st) w k n) : EX mi mc ms SC Z pc ls (.int y :: .long x :: st) w k n := by
  intro p l e s m args below meth c D dA S b H locs la hk hE hw hS hl
  exact lv_lushr hk.1 hk.2.1 hd rfl (kk p l e s m args below meth c D dA S b H locs la hk hE hw hS hl)
theorem x_lcmp {x y : Int} (hd : decode mi.2.1 pc = .ok (.lcmp, 1)) (kk : EX mi mc ms SC Z (pc + 1) ls (.int (iI (cmpI x y)) :: st) w k n) (hx : inR x := by omega) (hy : inR y := by omega) : EX mi mc ms SC Z pc ls (.long (lI y) :: .long (lI x) :: st) w k n := by
  intro p l e s m args below meth c D dA S b H locs la hk hE hw hS hl
  have k1 := kk p l e s m args below meth c D dA S b H locs la hk hE hw hS hl
  rw [← lI_cmp hx hy] at k1
  exact W.lcmp hk.1 hk.2.1 hd k1
theorem x_dup {v : Value} (hd : decode mi.2.1 pc = .ok (.dup, 1)) (kk : EX mi mc ms SC Z (pc + 1) ls (v :: v :: st) w k n) (h1 : v.category = 1 := by rfl) : EX mi mc ms SC Z pc ls (v :: st) w k n := by
  intro p l e s m args below meth c D dA S b H locs la hk hE hw hS hl
  exact lv_dup hk.1 hk.2.1 hd (by rw [cv_cat]; exact h1) (kk p l e s m args below meth c D dA S b H locs la hk hE hw hS hl)
theorem x_pop {v : Value} (hd : decode mi.2.1 pc = .ok (.pop, 1)) (kk : EX mi mc ms SC Z (pc + 1) ls st w k n) (h1 : v.category = 1 := by rfl) : EX mi mc ms SC Z pc ls (v :: st) w k n := by
  intro p l e s m args below meth c D dA S b H locs la hk hE hw hS hl
  exact lv_pop hk.1 hk.2.1 hd (by rw [cv_cat]; exact h1) (kk p l e s m args below meth c D dA S b H locs la hk hE hw hS hl)
theorem x_dup2 {v u : Value} (hd : decode mi.2.1 pc = .ok (.dup2, 1)) (kk : EX mi mc ms SC Z (pc + 1) ls (v :: u :: v :: u :: st) w k n) (h1 : v.category = 1 := by rfl) (h2 : u.category = 1 := by rfl) : EX mi mc ms SC Z pc ls (v :: u :: st) w k n := by
  intro p l e s m args below meth c D dA S b H locs la hk hE hw hS hl
  exact lv_dup2_11 hk.1 hk.2.1 hd (by rw [cv_cat]; exact h1) (by rw [cv_cat]; exact h2) (kk p l e s m args below meth c D dA S b H locs la hk hE hw hS hl)
theorem x_if_eq {x off : Int} (tgt : Nat) (hd : decode mi.2.1 pc = .ok (.ifCond .eq off, 3)) (kt : x = 0 → EX mi mc ms SC Z tgt ls st w k n) (kf : ¬ x = 0 → EX mi mc ms SC Z (pc + 3) ls st w k n) (ht : (pc : Int) + off = (tgt : Int) := by decide) (ha : inR x := by omega) : EX mi mc ms SC Z pc ls (.int (iI x) :: st) w k n := by
  intro p l e s m args below meth c D dA S b H locs la hk hE hw hS hl
  exact lv_if_eq hk.1 hk.2.1 hd ht (fun h => kt ((iI_eq0 ha).mp h) p l e s m args below meth c D dA S b H locs la hk hE hw hS hl) (fun h => kf (fun q => h ((iI_eq0 ha).mpr q)) p l e s m args below meth c D dA S b H locs la hk hE hw hS hl)
theorem x_icmp_eq {x y off : Int} (tgt : Nat) (hd : decode mi.2.1 pc = .ok (.if_icmp .eq off, 3)) (kt : x = y → EX mi mc ms SC Z tgt ls st w k n) (kf : ¬ x = y → EX mi mc ms SC Z (pc + 3) ls st w k n) (ht : (pc : Int) + off = (tgt : Int) := by decide) (ha : inR x := by omega) (hb : inR y := by omega) : EX mi mc ms SC Z pc ls (.int (iI y) :: .int (iI x) :: st) w k n := by
  intro p l e s m args below meth c D dA S b H locs la hk hE hw hS hl
  exact lv_icmp_eq hk.1 hk.2.1 hd ht (fun h => kt ((iI_eq ha hb).mp h) p l e s m args below meth c D dA S b H locs la hk hE hw hS hl) (fun h => kf (fun q => h ((iI_eq ha hb).mpr q)) p l e s m args below meth c D dA S b H locs la hk hE hw hS hl)
theorem x_if_lt {x off : Int} (tgt : Nat) (hd : decode mi.2.1 pc = .ok (.ifCond .lt off, 3)) (kt : x < 0 → EX mi mc ms SC Z tgt ls st w k n) (kf : ¬ x < 0 → EX mi mc ms SC Z (pc + 3) ls st w k n) (ht : (pc : Int) + off = (tgt : Int) := by decide) (ha : inR x := by omega) : EX mi mc ms SC Z pc ls (.int (iI x) :: st) w k n := by
  intro p l e s m args below meth c D dA S b H locs la hk hE hw hS hl
  exact lv_if_lt hk.1 hk.2.1 hd ht (fun h => kt ((iI_lt0 ha).mp h) p l e s m args below meth c D dA S b H locs la hk hE hw hS hl) (fun h => kf (fun q => h ((iI_lt0 ha).mpr q)) p l e s m args below meth c D dA S b H locs la hk hE hw hS hl)
theorem x_icmp_lt {x y off : Int} (tgt : Nat) (hd : decode mi.2.1 pc = .ok (.if_icmp .lt off, 3)) (kt : x < y → EX mi mc ms SC Z tgt ls st w k n) (kf : ¬ x < y → EX mi mc ms SC Z (pc + 3) ls st w k n) (ht : (pc : Int) + off = (tgt : Int) := by decide) (ha : inR x := by omega) (hb : inR y := by omega) : EX mi mc ms SC Z pc ls (.int (iI y) :: .int (iI x) :: st) w k n := by
  intro p l e s m args below meth c D dA S b H locs la hk hE hw hS hl
  exact lv_icmp_lt hk.1 hk.2.1 hd ht (fun h => kt ((iI_lt ha hb).mp h) p l e s m args below meth c D dA S b H locs la hk hE hw hS hl) (fun h => kf (fun q => h ((iI_lt ha hb).mpr q)) p l e s m args below meth c D dA S b H locs la hk hE hw hS hl)
theorem x_if_ge {x off : Int} (tgt : Nat) (hd : decode mi.2.1 pc = .ok (.ifCond .ge off, 3)) (kt : 0 ≤ x → EX mi mc ms SC Z tgt ls st w k n) (kf : ¬ 0 ≤ x → EX mi mc ms SC Z (pc + 3) ls st w k n) (ht : (pc : Int) + off = (tgt : Int) := by decide) (ha : inR x := by omega) : EX mi mc ms SC Z pc ls (.int (iI x) :: st) w k n := by
  intro p l e s m args below meth c D dA S b H locs la hk hE hw hS hl
  exact lv_if_ge hk.1 hk.2.1 hd ht (fun h => kt ((iI_0le ha).mp h) p l e s m args below meth c D dA S b H locs la hk hE hw hS hl) (fun h => kf (fun q => h ((iI_0le ha).mpr q)) p l e s m args below meth c D dA S b H locs la hk hE hw hS hl)
theorem x_icmp_ge {x y off : Int} (tgt : Nat) (hd : decode mi.2.1 pc = .ok (.if_icmp .ge off, 3)) (kt : y ≤ x → EX mi mc ms SC Z tgt ls st w k n) (kf : ¬ y ≤ x → EX mi mc ms SC Z (pc + 3) ls st w k n) (ht : (pc : Int) + off = (tgt : Int) := by decide) (ha : inR x := by omega) (hb : inR y := by omega) : EX mi mc ms SC Z pc ls (.int (iI y) :: .int (iI x) :: st) w k n := by
  intro p l e s m args below meth c D dA S b H locs la hk hE hw hS hl
  exact lv_icmp_ge hk.1 hk.2.1 hd ht (fun h => kt ((iI_le hb ha).mp h) p l e s m args below meth c D dA S b H locs la hk hE hw hS hl) (fun h => kf (fun q => h ((iI_le hb ha).mpr q)) p l e s m args below meth c D dA S b H locs la hk hE hw hS hl)
theorem x_if_gt {x off : Int} (tgt : Nat) (hd : decode mi.2.1 pc = .ok (.ifCond .gt off, 3)) (kt : 0 < x → EX mi mc ms SC Z tgt ls st w k n) (kf : ¬ 0 < x → EX mi mc ms SC Z (pc + 3) ls st w k n) (ht : (pc : Int) + off = (tgt : Int) := by decide) (ha : inR x := by omega) : EX mi mc ms SC Z pc ls (.int (iI x) :: st) w k n := by
  intro p l e s m args below meth c D dA S b H locs la hk hE hw hS hl
  exact lv_if_gt hk.1 hk.2.1 hd ht (fun h => kt ((iI_0lt ha).mp h) p l e s m args below meth c D dA S b H locs la hk hE hw hS hl) (fun h => kf (fun q => h ((iI_0lt ha).mpr q)) p l e s m args below meth c D dA S b H locs la hk hE hw hS hl)
theorem x_icmp_gt {x y off : Int} (tgt : Nat) (hd : decode mi.2.1 pc = .ok (.if_icmp .gt off, 3)) (kt : y < x → EX mi mc ms SC Z tgt ls st w k n) (kf : ¬ y < x → EX mi mc ms SC Z (pc + 3) ls st w k n) (ht : (pc : Int) + off = (tgt : Int) := by decide) (ha : inR x := by omega) (hb : inR y := by omega) : EX mi mc ms SC Z pc ls (.int (iI y) :: .int (iI x) :: st) w k n := by
  intro p l e s m args below meth c D dA S b H locs la hk hE hw hS hl
  exact lv_icmp_gt hk.1 hk.2.1 hd ht (fun h => kt ((iI_lt hb ha).mp h) p l e s m args below meth c D dA S b H locs la hk hE hw hS hl) (fun h => kf (fun q => h ((iI_lt hb ha).mpr q)) p l e s m args below meth c D dA S b H locs la hk hE hw hS hl)
theorem x_if_le {x off : Int} (tgt : Nat) (hd : decode mi.2.1 pc = .ok (.ifCond .le off, 3)) (kt : x ≤ 0 → EX mi mc ms SC Z tgt ls st w k n) (kf : ¬ x ≤ 0 → EX mi mc ms SC Z (pc + 3) ls st w k n) (ht : (pc : Int) + off = (tgt : Int) := by decide) (ha : inR x := by omega) : EX mi mc ms SC Z pc ls (.int (iI x) :: st) w k n := by
  intro p l e s m args below meth c D dA S b H locs la hk hE hw hS hl
  exact lv_if_le hk.1 hk.2.1 hd ht (fun h => kt ((iI_le0 ha).mp h) p l e s m args below meth c D dA S b H locs la hk hE hw hS hl) (fun h => kf (fun q => h ((iI_le0 ha).mpr q)) p l e s m args below meth c D dA S b H locs la hk hE hw hS hl)
theorem x_icmp_le {x y off : Int} (tgt : Nat) (hd : decode mi.2.1 pc = .ok (.if_icmp .le off, 3)) (kt : x ≤ y → EX mi mc ms SC Z tgt ls st w k n) (kf : ¬ x ≤ y → EX mi mc ms SC Z (pc + 3) ls st w k n) (ht : (pc : Int) + off = (tgt : Int) := by decide) (ha : inR x := by omega) (hb : inR y := by omega) : EX mi mc ms SC Z pc ls (.int (iI y) :: .int (iI x) :: st) w k n := by
  intro p l e s m args below meth c D dA S b H locs la hk hE hw hS hl
  exact lv_icmp_le hk.1 hk.2.1 hd ht (fun h => kt ((iI_le ha hb).mp h) p l e s m args below meth c D dA S b H locs la hk hE hw hS hl) (fun h => kf (fun q => h ((iI_le ha hb).mpr q)) p l e s m args below meth c D dA S b H locs la hk hE hw hS hl)
theorem x_if_ne {x off : Int} (tgt : Nat) (hd : decode mi.2.1 pc = .ok (.ifCond .ne off, 3)) (kt : ¬ x = 0 → EX mi mc ms SC Z tgt ls st w k n) (kf : x = 0 → EX mi mc ms SC Z (pc + 3) ls st w k n) (ht : (pc : Int) + off = (tgt : Int) := by decide) (ha : inR x := by omega) : EX mi mc ms SC Z pc ls (.int (iI x) :: st) w k n := by
  intro p l e s m args below meth c D dA S b H locs la hk hE hw hS hl
  exact lv_if_ne hk.1 hk.2.1 hd ht (fun h => kt (fun q => h ((iI_eq0 ha).mpr q)) p l e s m args below meth c D dA S b H locs la hk hE hw hS hl) (fun h => kf ((iI_eq0 ha).mp h) p l e s m args below meth c D dA S b H locs la hk hE hw hS hl)
theorem x_icmp_ne {x y off : Int} (tgt : Nat) (hd : decode mi.2.1 pc = .ok (.if_icmp .ne off, 3)) (kt : ¬ x = y → EX mi mc ms SC Z tgt ls st w k n) (kf : x = y → EX mi mc ms SC Z (pc + 3) ls st w k n) (ht : (pc : Int) + off = (tgt : Int) := by decide) (ha : inR x := by omega) (hb : inR y := by omega) : EX mi mc ms SC Z pc ls (.int (iI y) :: .int (iI x) :: st) w k n := by
  intro p l e s m args below meth c D dA S b H locs la hk hE hw hS hl
  exact lv_icmp_ne hk.1 hk.2.1 hd ht (fun h => kt (fun q => h ((iI_eq ha hb).mpr q)) p l e s m args below meth c D dA S b H locs la hk hE hw hS hl) (fun h => kf ((iI_eq ha hb).mp h) p l e s m args below meth c D dA S b H locs la hk hE hw hS hl)
theorem x_goto {off : Int} (tgt : Nat) (hd : decode mi.2.1 pc = .ok (.goto off, 3)) (kk : EX mi mc ms SC Z tgt ls st w k n) (ht : (pc : Int) + off = (tgt : Int) := by decide) : EX mi mc ms SC Z pc ls st w k n := by
  intro p l e s m args below meth c D dA S b H locs la hk hE hw hS hl
  exact lv_goto hk.1 hk.2.1 hd ht (kk p l e s m args below meth c D dA S b H locs la hk hE hw hS hl)
theorem x_tsOut {dflt lo hi : Int} {offs : Array Int} {len : Nat} {x : Int} (tgt : Nat) (hd : decode mi.2.1 pc = .ok (.tableswitch dflt lo hi offs, len)) (h : x < lo ∨ hi < x) (kk : EX mi mc ms SC Z tgt ls st w k n) (ht : (pc : Int) + dflt = (tgt : Int) := by decide) (ha : inR x := by omega) : EX mi mc ms SC Z pc ls (.int (iI x) :: st) w k n := by
  intro p l e s m args below meth c D dA S b H locs la hk hE hw hS hl
  exact lv_tableOut hk.1 hk.2.1 hd (by rw [iI_t ha]; exact h) ht (kk p l e s m args below meth c D dA S b H locs la hk hE hw hS hl)
theorem x_tsIn {dflt lo hi off : Int} {offs : Array Int} {len : Nat} {x : Int} (j tgt : Nat) (hd : decode mi.2.1 pc = .ok (.tableswitch dflt lo hi offs, len)) (hx : x = lo + (j : Int)) (kk : EX mi mc ms SC Z tgt ls st w k n) (h2 : lo + (j : Int) ≤ hi := by decide) (ho : offs[j]? = some off := by rfl) (ht : (pc : Int) + off = (tgt : Int) := by decide) (ha : inR x := by omega) : EX mi mc ms SC Z pc ls (.int (iI x) :: st) w k n := by
  intro p l e s m args below meth c D dA S b H locs la hk hE hw hS hl
  exact lv_tableIn hk.1 hk.2.1 hd (by rw [iI_t ha]; omega) (by rw [iI_t ha]; omega) (by rw [iI_t ha, hx, show lo + (j : Int) - lo = (j : Int) by omega]; exact ho) ht (kk p l e s m args below meth c D dA S b H locs la hk hE hw hS hl)
theorem x_lookup {dflt : Int} {ps : Array (Int × Int)} {len : Nat} {x off : Int} (tgt : Nat) (hd : decode mi.2.1 pc = .ok (.lookupswitch dflt ps, len)) (ho : Op.lookupswitch.offset ps.toList dflt x = off) (kk : EX mi mc ms SC Z tgt ls st w k n) (hp : (ps.toList.zip (ps.toList.drop 1)).all (fun (a, next) => a.1 < next.1) = true := by decide) (ht : (pc : Int) + off = (tgt : Int) := by decide) (ha : inR x := by omega) : EX mi mc ms SC Z pc ls (.int (iI x) :: st) w k n := by
  intro p l e s m args below meth c D dA S b H locs la hk hE hw hS hl
  exact lv_lookup hk.1 hk.2.1 hd hp (by rw [iI_t ha]; exact ho) ht (kk p l e s m args below meth c D dA S b H locs la hk hE hw hS hl)
end RULES
section RULES2
variable {mi : MI} {mc ms : Nat} {SC : Option (Nat × (Nat → Int32))} {Z : Zt} {pc : Nat} {ls : List (Option Value)} {st : List Value} {w : AW} {k n : Nat}
theorem x_iret {R : Int → AW → Prop} {x : Int} (hd : decode mi.2.1 pc = .ok (.ireturn, 1)) (hq : R x w) (hr : mi.2.2.2.1 = some .int := by rfl) (hkm : k = mc := by rfl) (hnm : n ≤ ms := by omega) : EX mi mc ms SC (ZM mc ms (fun r w' => ∃ x : Int, r = some (.int (iI x)) ∧ R x w')) pc ls [.int (iI x)] w k n := by
  intro p l e s m args below meth c D dA S b H locs la hk hE hw hS hl
  refine W.widen (k := mc) (n := ms) (by omega) hnm ?_
  have hlk : meth.locks = false := hk.2.2.2.2.1
  exact W.iret (v := iI x) hk.1 hk.2.1 (hk.2.2.1.trans hr) (fun t ht hW => ⟨⟨some (.int (iI x)), w, rfl, ⟨x, rfl, hq⟩, by rw [ht]; exact hw, by rw [hkm] at hE; exact hE.symm⟩, hS.F ht⟩) hS.2.2 hd hlk
theorem nar_z {x : Int} (h : x = 0 ∨ x = 1) : narrow .boolean (.int (iI x)) = .int (iI x) := by
  rcases h with rfl | rfl <;> rfl
theorem x_zret {R : Int → AW → Prop} {x : Int} (hd : decode mi.2.1 pc = .ok (.ireturn, 1)) (hx : x = 0 ∨ x = 1) (hq : R x w) (hr : mi.2.2.2.1 = some .boolean := by rfl) (hkm : k = mc := by rfl) (hnm : n ≤ ms := by omega) : EX mi mc ms SC (ZM mc ms (fun r w' => ∃ x : Int, r = some (.int (iI x)) ∧ R x w')) pc ls [.int (iI x)] w k n := by
  intro p l e s m args below meth c D dA S b H locs la hk hE hw hS hl
  refine W.widen (k := mc) (n := ms) (by omega) hnm ?_
  have hlk : meth.locks = false := hk.2.2.2.2.1
  exact W.zret (v := iI x) hk.1 hk.2.1 (hk.2.2.1.trans hr) (nar_z hx) (fun t ht hW => ⟨⟨some (.int (iI x)), w, rfl, ⟨x, rfl, hq⟩, by rw [ht]; exact hw, by rw [hkm] at hE; exact hE.symm⟩, hS.F ht⟩) hS.2.2 hd hlk
theorem x_vret {R : AW → Prop} (hd : decode mi.2.1 pc = .ok (.return_, 1)) (hq : R w) (hr : mi.2.2.2.1 = none := by rfl) (hkm : k = mc := by rfl) (hnm : n ≤ ms := by omega) : EX mi mc ms SC (ZM mc ms (fun r w' => r = none ∧ R w')) pc ls [] w k n := by
  intro p l e s m args below meth c D dA S b H locs la hk hE hw hS hl
  refine W.widen (k := mc) (n := ms) (by omega) hnm ?_
  have hlk : meth.locks = false := hk.2.2.2.2.1
  exact W.vret hk.1 hk.2.1 (hk.2.2.1.trans hr) (fun t ht hW => ⟨⟨none, w, rfl, ⟨rfl, hq⟩, by rw [ht]; exact hw, by rw [hkm] at hE; exact hE.symm⟩, hS.F ht⟩) hS.2.2 hd hlk
end RULES2
