/-! ===== the law: class and reference side by side ===== -/
abbrev lB (ik : Int) (z y t so st : Nat → Int) (td sk le ot sn pk : Int) (tp : Nat → Int) (tl ta ac : Nat) (kd nb ln rs it : Nat → Int) (M : AW) : AW := ([] : AW) ++ bx 0 ik z y t so st td sk le ot sn pk (tw (0 + 21) tp tl ta ac kd nb (shF 0 ln rs it M))
theorem lB_app (ik : Int) (z y t so st : Nat → Int) (td sk le ot sn pk : Int) (tp : Nat → Int) (tl ta ac : Nat) (kd nb ln rs it : Nat → Int) (M : AW) : lB ik z y t so st td sk le ot sn pk tp tl ta ac kd nb ln rs it M = lB ik z y t so st td sk le ot sn pk tp tl ta ac kd nb ln rs it [] ++ M := rfl
theorem lB_len (ik : Int) (z y t so st : Nat → Int) (td sk le ot sn pk : Int) (tp : Nat → Int) (tl ta ac : Nat) (kd nb ln rs it : Nat → Int) : (lB ik z y t so st td sk le ot sn pk tp tl ta ac kd nb ln rs it []).length = 34 := rfl
def LC (c ik : Int) (z y so st : Nat → Int) (td sk le ot sn pk : Int) (tp : Nat → Int) (tl : Nat) (ln rs it im : Nat → Int) : Prop :=
  CI z td sk so st le ot sn pk ∧ GA c z ∧ GA c y ∧ (ik = 0 ∨ (ik = 1 ∧ im = y)) ∧ SH ln rs it ∧ tl ≤ 80 ∧ ∀ i, i < tl → 32 ≤ tp i ∧ tp i ≤ 126
def LI (c : Int) (w : AW) : Prop := ∃ (ik : Int) (z y t so st : Nat → Int) (td sk le ot sn pk : Int) (tp : Nat → Int) (tl ta ac : Nat) (kd nb ln rs it : Nat → Int) (sp : Nat → Int) (n : Nat) (sa ba : Nat → Int) (dn ah be : Int) (ta' ac' : Nat) (kd' nb' im : Nat → Int),
  w = lB ik z y t so st td sk le ot sn pk tp tl ta ac kd nb ln rs it (mw 34 z sp n sa ba dn ah be tp tl ta' ac' kd' nb' ik im ln rs it []) ∧ LC c ik z y so st td sk le ot sn pk tp tl ln rs it im
set_option maxRecDepth 100000 in
set_option maxHeartbeats 4000000 in
theorem LI_0 {c : Int} {w : AW} (hI : LI c w) : (∃ fs, wg w 0 = some (.inr (5, fs))) ∧ w.length = 46 := by
  obtain ⟨ik, z, y, t, so, st, td, sk, le, ot, sn, pk, tp, tl, ta, ac, kd, nb, ln, rs, it, sp, n, sa, ba, dn, ah, be, ta', ac', kd', nb', im, rfl, hC, hz, hy, hk, hS, htl, hT⟩ := hI
  exact ⟨⟨_, rfl⟩, rfl⟩
theorem LI_up {c d : Int} {w : AW} (hI : LI c w) (h : c ≤ d) : LI d w := by
  obtain ⟨ik, z, y, t, so, st, td, sk, le, ot, sn, pk, tp, tl, ta, ac, kd, nb, ln, rs, it, sp, n, sa, ba, dn, ah, be, ta', ac', kd', nb', im, rfl, hC, hz, hy, hk, hS, htl, hT⟩ := hI
  exact ⟨ik, z, y, t, so, st, td, sk, le, ot, sn, pk, tp, tl, ta, ac, kd, nb, ln, rs, it, sp, n, sa, ba, dn, ah, be, ta', ac', kd', nb', im, rfl, hC, GA_up hz h, GA_up hy h, hk, hS, htl, hT⟩
def Two (mx mm : MI) (As : List Value) : Prop := ∀ (c : Int) (w : AW), 0 ≤ c → c ≤ 30000 → LI c w → ∃ R1 : Int → AW → Prop, CTi mx 0 0 (.ref (0 + 0) :: As) w R1 ∧
  ∀ x1 w1, R1 x1 w1 → (∃ fs, wg w1 34 = some (.inr (6, fs))) ∧ ∃ R2 : Int → AW → Prop, CTi mm 0 0 (.ref (34 + 0) :: As) w1 R2 ∧ ∀ x2 w2, R2 x2 w2 → x2 = x1 ∧ LI (c + 41) w2
set_option maxRecDepth 100000 in
set_option maxHeartbeats 4000000 in
theorem two_z {mx mm : MI} {As : List Value} (r : (Nat → Int) → Int) (sf : (Nat → Int) → Nat → Int)
    (hx : ∀ (ik : Int) (z y t so st : Nat → Int) (td sk le ot sn pk : Int) (R : AW) (c : Int), GA c z → 0 ≤ c → c ≤ 30000 → CI z td sk so st le ot sn pk → CTi mx 0 0 (.ref (0 + 0) :: As) (([] : AW) ++ bx 0 ik z y t so st td sk le ot sn pk R) (fun x w' => x = r z ∧ BI [] 0 ik (sf z) y R w'))
    (hm : ∀ (P : AW), P.length = 34 → ∀ (fr : List Value) (z : Nat → Int) (R : AW) (c : Int), GA c z → 0 ≤ c → c ≤ 30000 → CTi mm 0 0 (.ref (34 + 0) :: As) (P ++ mz 34 fr z R) (fun x w' => x = r z ∧ w' = P ++ mz 34 fr (sf z) R))
    (hg : ∀ (c : Int) (z : Nat → Int), 0 ≤ c → c ≤ 30000 → GA c z → GA (c + 41) (sf z)) : Two mx mm As := by
  intro c w h0 h1 hI
  obtain ⟨ik, z, y, t, so, st, td, sk, le, ot, sn, pk, tp, tl, ta, ac, kd, nb, ln, rs, it, sp, n, sa, ba, dn, ah, be, ta', ac', kd', nb', im, rfl, hC, hz, hy, hk, hS, htl, hT⟩ := hI
  refine ⟨_, hx ik z y t so st td sk le ot sn pk (tw (0 + 21) tp tl ta ac kd nb (shF 0 ln rs it (mw 34 z sp n sa ba dn ah be tp tl ta' ac' kd' nb' ik im ln rs it []))) c hz h0 h1 hC, fun x1 w1 hw1 => ?_⟩
  obtain ⟨rfl, t1, so1, st1, td1, sk1, le1, ot1, sn1, pk1, rfl, hC1⟩ := hw1
  have h2 := hm (lB ik (sf z) y (t1) (so1) (st1) (td1) (sk1) (le1) (ot1) (sn1) (pk1) tp tl ta ac kd nb ln rs it []) rfl (.ref (34 + 2) :: .int (iI (n : Int)) :: .ref (34 + 3) :: .ref (34 + 4) :: .int (iI dn) :: [.int (iI ah), .int (iI be), .ref (34 + 5), .int (iI (tl : Int)), .int (iI (ta' : Int)), .int (iI (ac' : Int)), .ref (34 + 6), .ref (34 + 7), .int (iI ik), .ref (34 + 8), .ref (34 + 9), .ref (34 + 10), .ref (34 + 11)]) z (aI 0 154 sp :: aI 0 64 sa :: aI 0 64 ba :: aI 0 80 tp :: aI 0 80 kd' :: aI 0 80 nb' :: aI 0 154 im :: aI 0 4 ln :: aI 0 4 rs :: aI 0 96 it :: []) c hz h0 h1
  refine ⟨⟨_, rfl⟩, _, h2, fun x2 w2 hw2 => ?_⟩
  obtain ⟨rfl, rfl⟩ := hw2
  exact ⟨rfl, ik, sf z, y, t1, so1, st1, td1, sk1, le1, ot1, sn1, pk1, tp, tl, ta, ac, kd, nb, ln, rs, it, sp, n, sa, ba, dn, ah, be, ta', ac', kd', nb', im, rfl, hC1, hg c z h0 h1 hz, GA_up hy (by omega), hk, hS, htl, hT⟩
set_option maxRecDepth 100000 in
set_option maxHeartbeats 4000000 in
theorem two_f {mx mm : MI} {As : List Value} (r : (Nat → Int) → Int)
    (hx : ∀ (ik : Int) (z y t so st : Nat → Int) (td sk le ot sn pk : Int) (R : AW) (c : Int), GA c z → 0 ≤ c → c ≤ 30000 → CI z td sk so st le ot sn pk → CTi mx 0 0 (.ref (0 + 0) :: As) (([] : AW) ++ bx 0 ik z y t so st td sk le ot sn pk R) (fun x w' => x = r z ∧ BI [] 0 ik z y R w'))
    (hm : ∀ (P : AW), P.length = 34 → ∀ (fr : List Value) (z sp : Nat → Int) (n : Nat) (sa ba : Nat → Int) (dn : Int) (R : AW) (c : Int), GA c z → ∃ R2 : Int → AW → Prop, CTi mm 0 0 (.ref (34 + 0) :: As) (P ++ mf 34 fr z sp n sa ba dn R) R2 ∧ ∀ x w', R2 x w' → x = r z ∧ ∃ (sp : Nat → Int) (n : Nat) (sa ba : Nat → Int) (dn : Int), w' = P ++ mf 34 fr z sp n sa ba dn R) : Two mx mm As := by
  intro c w h0 h1 hI
  obtain ⟨ik, z, y, t, so, st, td, sk, le, ot, sn, pk, tp, tl, ta, ac, kd, nb, ln, rs, it, sp, n, sa, ba, dn, ah, be, ta', ac', kd', nb', im, rfl, hC, hz, hy, hk, hS, htl, hT⟩ := hI
  refine ⟨_, hx ik z y t so st td sk le ot sn pk (tw (0 + 21) tp tl ta ac kd nb (shF 0 ln rs it (mw 34 z sp n sa ba dn ah be tp tl ta' ac' kd' nb' ik im ln rs it []))) c hz h0 h1 hC, fun x1 w1 hw1 => ?_⟩
  obtain ⟨rfl, t1, so1, st1, td1, sk1, le1, ot1, sn1, pk1, rfl, hC1⟩ := hw1
  obtain ⟨R2, h2, h3⟩ := hm (lB ik z y (t1) (so1) (st1) (td1) (sk1) (le1) (ot1) (sn1) (pk1) tp tl ta ac kd nb ln rs it []) rfl [.int (iI ah), .int (iI be), .ref (34 + 5), .int (iI (tl : Int)), .int (iI (ta' : Int)), .int (iI (ac' : Int)), .ref (34 + 6), .ref (34 + 7), .int (iI ik), .ref (34 + 8), .ref (34 + 9), .ref (34 + 10), .ref (34 + 11)] z sp n sa ba dn (aI 0 80 tp :: aI 0 80 kd' :: aI 0 80 nb' :: aI 0 154 im :: aI 0 4 ln :: aI 0 4 rs :: aI 0 96 it :: []) c hz
  refine ⟨⟨_, rfl⟩, R2, h2, fun x2 w2 hw2 => ?_⟩
  obtain ⟨rfl, sp2, n2, sa2, ba2, dn2, rfl⟩ := h3 x2 w2 hw2
  exact ⟨rfl, ik, z, y, t1, so1, st1, td1, sk1, le1, ot1, sn1, pk1, tp, tl, ta, ac, kd, nb, ln, rs, it, sp2, n2, sa2, ba2, dn2, ah, be, ta', ac', kd', nb', im, rfl, hC1, GA_up hz (by omega), GA_up hy (by omega), hk, hS, htl, hT⟩
set_option maxRecDepth 100000 in
set_option maxHeartbeats 4000000 in
theorem two_s {mx mm : MI} {As : List Value} (r : (Nat → Int) → (Nat → Int) → (Nat → Int) → Int) (fl fr fi : (Nat → Int) → (Nat → Int) → (Nat → Int) → Nat → Int)
    (hx : ∀ (ik : Int) (z y t so st : Nat → Int) (td sk le ot sn pk : Int) (d1 d2 d3 d4 : AC) (ln rs it : Nat → Int) (R : AW), SH ln rs it → CI z td sk so st le ot sn pk → ∃ R1 : Int → AW → Prop, CTi mx 0 0 (.ref (0 + 0) :: As) (([] : AW) ++ bx 0 ik z y t so st td sk le ot sn pk (d1 :: d2 :: d3 :: d4 :: shF 0 ln rs it R)) R1 ∧ ∀ x w', R1 x w' → x = r ln rs it ∧ BI [] 0 ik z y (d1 :: d2 :: d3 :: d4 :: shF 0 (fl ln rs it) (fr ln rs it) (fi ln rs it) R) w')
    (hm : ∀ (P : AW), P.length = 34 → ∀ (z sp : Nat → Int) (n : Nat) (sa ba : Nat → Int) (dn ah be : Int) (tp : Nat → Int) (tl ta ac : Nat) (kd nb : Nat → Int) (ik : Int) (im ln rs it : Nat → Int), SH ln rs it → ∃ R2 : Int → AW → Prop, CTi mm 0 0 (.ref (34 + 0) :: As) (P ++ mw 34 z sp n sa ba dn ah be tp tl ta ac kd nb ik im ln rs it []) R2 ∧ ∀ x w', R2 x w' → x = r ln rs it ∧ ∃ (ah be : Int), w' = P ++ mw 34 z sp n sa ba dn ah be tp tl ta ac kd nb ik im (fl ln rs it) (fr ln rs it) (fi ln rs it) [])
    (hg : ∀ (ln rs it : Nat → Int), SH ln rs it → SH (fl ln rs it) (fr ln rs it) (fi ln rs it)) : Two mx mm As := by
  intro c w h0 h1 hI
  obtain ⟨ik, z, y, t, so, st, td, sk, le, ot, sn, pk, tp, tl, ta, ac, kd, nb, ln, rs, it, sp, n, sa, ba, dn, ah, be, ta', ac', kd', nb', im, rfl, hC, hz, hy, hk, hS, htl, hT⟩ := hI
  obtain ⟨R1, g1, g2⟩ := hx ik z y t so st td sk le ot sn pk (.inr (2, [.ref (0 + 21 + 1), .int (iI (tl : Int)), .int (iI (ta : Int)), .ref (0 + 21 + 2), .ref (0 + 21 + 3), .int (iI (ac : Int))])) (aI 1 80 tp) (aI 0 40 kd) (aI 0 40 nb) ln rs it (mw 34 z sp n sa ba dn ah be tp tl ta' ac' kd' nb' ik im ln rs it []) hS hC
  refine ⟨R1, g1, fun x1 w1 hw1 => ?_⟩
  obtain ⟨rfl, t1, so1, st1, td1, sk1, le1, ot1, sn1, pk1, rfl, hC1⟩ := g2 x1 w1 hw1
  obtain ⟨R2, h2, h3⟩ := hm (lB ik z y (t1) (so1) (st1) (td1) (sk1) (le1) (ot1) (sn1) (pk1) tp tl ta ac kd nb (fl ln rs it) (fr ln rs it) (fi ln rs it) []) rfl z sp n sa ba dn ah be tp tl ta' ac' kd' nb' ik im ln rs it hS
  refine ⟨⟨_, rfl⟩, R2, h2, fun x2 w2 hw2 => ?_⟩
  obtain ⟨rfl, ah2, be2, rfl⟩ := h3 x2 w2 hw2
  exact ⟨rfl, ik, z, y, t1, so1, st1, td1, sk1, le1, ot1, sn1, pk1, tp, tl, ta, ac, kd, nb, fl ln rs it, fr ln rs it, fi ln rs it, sp, n, sa, ba, dn, ah2, be2, ta', ac', kd', nb', im, rfl, hC1, GA_up hz (by omega), GA_up hy (by omega), hk, hg ln rs it hS, htl, hT⟩
theorem two_record (u v : Int) (hiu : inR u) (hiv : inR v) : Two I_X5_record I_X6_record [.int (iI u), .int (iI v)] := two_z (fun z => rRec z u v) (fun z => sRec z u v)
  (fun ik z y t so st td sk le ot sn pk R c hz h0 h1 hC => b_record (P := []) (a := 0) rfl ik z y t so st td sk le ot sn pk R hz.1 hz.2.1 hC u v hiu hiv )
  (fun P hP fr z R c hz h0 h1 => c_record hP fr z R hz.1.1 u v hiu hiv hz.1.2.1.2.2.2.1)
  (fun c z h0 h1 hz => GA_up (GA_rec hz) (by omega))
theorem two_change (p r : Int) (hip : inR p) (hir : inR r) : Two I_X5_change I_X6_change [.int (iI p), .int (iI r)] := two_z (fun z => rChg z p r) (fun z => sChg z p r)
  (fun ik z y t so st td sk le ot sn pk R c hz h0 h1 hC => b_change (P := []) (a := 0) rfl ik z y t so st td sk le ot sn pk R hz.1 hz.2.1 hC p r hip hir )
  (fun P hP fr z R c hz h0 h1 => c_change hP fr z R hz.1.1 p r hip hir hz.1.2.1.2.2.2.1)
  (fun c z h0 h1 hz => GA_up (GA_chg hz) (by omega))
theorem two_told (r h : Int) (hir : inR r) (hih : inR h) : Two I_X5_told I_X6_told [.int (iI r), .int (iI h)] := two_z (fun z => rTold z r h) (fun z => z)
  (fun ik z y t so st td sk le ot sn pk R c hz h0 h1 hC => b_told (P := []) (a := 0) rfl ik z y t so st td sk le ot sn pk R hz.1 hz.2.1 hC r h hir hih )
  (fun P hP fr z R c hz h0 h1 => c_told hP fr z R hz.1.1 r h hir hih hz.1.2.1.2.2.2.1)
  (fun c z h0 h1 hz => GA_up hz (by omega))
theorem two_song (s h : Int) (his : inR s) (hih : inR h) : Two I_X5_song I_X6_song [.int (iI s), .int (iI h)] := two_z (fun z => rSong z s h) (fun z => z)
  (fun ik z y t so st td sk le ot sn pk R c hz h0 h1 hC => b_song (P := []) (a := 0) rfl ik z y t so st td sk le ot sn pk R hz.1 hz.2.1 hC s h his hih )
  (fun P hP fr z R c hz h0 h1 => c_song hP fr z R hz.1.1 s h his hih )
  (fun c z h0 h1 hz => GA_up hz (by omega))
theorem two_stick (s h : Int) (his : inR s) (hih : inR h) : Two I_X5_stick I_X6_stick [.int (iI s), .int (iI h)] := two_z (fun z => rStk z s h) (fun z => sStk z s h)
  (fun ik z y t so st td sk le ot sn pk R c hz h0 h1 hC => b_stick (P := []) (a := 0) rfl ik z y t so st td sk le ot sn pk R hz.1 hz.2.1 hC s h his hih )
  (fun P hP fr z R c hz h0 h1 => c_stick hP fr z R hz.1.1 s h his hih )
  (fun c z h0 h1 hz => GA_up (GA_stk hz) (by omega))
theorem two_prices (p q m : Int) (hip : inR p) (hiq : inR q) (him : inR m) : Two I_X5_prices I_X6_prices [.int (iI p), .int (iI q), .int (iI m)] := two_z (fun z => rPri p q m) (fun z => sPri z p q m)
  (fun ik z y t so st td sk le ot sn pk R c hz h0 h1 hC => b_prices (P := []) (a := 0) rfl ik z y t so st td sk le ot sn pk R hz.1 hz.2.1 hC p q m hip hiq him )
  (fun P hP fr z R c hz h0 h1 => c_prices hP fr z R hz.1.1 p q m hip hiq him )
  (fun c z h0 h1 hz => GA_up (GA_pri hz) (by omega))
theorem two_coin (v : Int) (hiv : inR v) : Two I_X5_coin I_X6_coin [.int (iI v)] := two_z (fun z => rCoin z v) (fun z => sCoin z v)
  (fun ik z y t so st td sk le ot sn pk R c hz h0 h1 hC => b_coin (P := []) (a := 0) rfl ik z y t so st td sk le ot sn pk R hz.1 hz.2.1 hC v hiv (by have hq := hz.2.2; obtain ⟨m7, m8, m9, m10, m11, m12, m13, m14⟩ := hq; omega) hz.2.2.2.2.2.2.1 hz.2.2.2.2.2.2.2.1 hz.2.2.2.2.2.2.2.2.1)
  (fun P hP fr z R c hz h0 h1 => c_coin hP fr z R hz.1.1 v hiv (by have hq := hz.2.2; obtain ⟨m7, m8, m9, m10, m11, m12, m13, m14⟩ := hq; omega) hz.2.2.2.2.2.2.1 hz.2.2.2.2.2.2.2.1 hz.2.2.2.2.2.2.2.2.1 (by have hq := hz.2.2; obtain ⟨m7, m8, m9, m10, m11, m12, m13, m14⟩ := hq; omega) (by have hq := hz.2.2; obtain ⟨m7, m8, m9, m10, m11, m12, m13, m14⟩ := hq; omega) (fun hv => by have := mDue_b hz.2.2.2.2.1.1 hz.2.2.2.2.2.2.1 hz.2.2.2.2.2.2.2.1 hz.2.2.2.2.2.2.2.2.1 hv; omega))
  (fun c z h0 h1 hz => GA_up (GA_coin hz (by omega)) (by omega))
theorem two_set (h v : Int) (hih : inR h) (hiv : inR v) : Two I_X5_set I_X6_set [.int (iI h), .int (iI v)] := two_z (fun z => rSet z h v) (fun z => sSet z h v)
  (fun ik z y t so st td sk le ot sn pk R c hz h0 h1 hC => b_set (P := []) (a := 0) rfl ik z y t so st td sk le ot sn pk R hz.1 hz.2.1 hC h v hih hiv )
  (fun P hP fr z R c hz h0 h1 => c_set hP fr z R hz.1.1 h v hih hiv )
  (fun c z h0 h1 hz => GA_up (GA_set hz) (by omega))
theorem two_key (s : Int) (his : inR s) : Two I_X5_key I_X6_key [.int (iI s)] := two_z (fun z => rKey z s) (fun z => sKey z s)
  (fun ik z y t so st td sk le ot sn pk R c hz h0 h1 hC => b_key (P := []) (a := 0) rfl ik z y t so st td sk le ot sn pk R hz.1 hz.2.1 hC s his hz.2.2.1.1)
  (fun P hP fr z R c hz h0 h1 => c_key hP fr z R hz.1.1 s his hz.2.2.1.1 (by have hq := hz.2.2; obtain ⟨m7, m8, m9, m10, m11, m12, m13, m14⟩ := hq; omega))
  (fun c z h0 h1 hz => GA_up (GA_key hz (by omega) h0) (by omega))
theorem two_ticks (n : Int) (hin : inR n) : Two I_X5_ticks I_X6_ticks [.int (iI n)] := two_z (fun z => rTks z n) (fun z => sTks z n)
  (fun ik z y t so st td sk le ot sn pk R c hz h0 h1 hC => b_ticks (P := []) (a := 0) rfl ik z y t so st td sk le ot sn pk R hz.1 hz.2.1 hC n hin )
  (fun P hP fr z R c hz h0 h1 => c_ticks hP fr z R hz.1 hz.2.1 n hin )
  (fun c z h0 h1 hz => GA_up (GA_tks hz) (by omega))
theorem two_carriage (h : Int) (hih : inR h) : Two I_X5_carriage I_X6_carriage [.int (iI h)] := two_z (fun z => rCar z h) (fun z => z)
  (fun ik z y t so st td sk le ot sn pk R c hz h0 h1 hC => b_carriage (P := []) (a := 0) rfl ik z y t so st td sk le ot sn pk R hz.1 hz.2.1 hC h hih )
  (fun P hP fr z R c hz h0 h1 => c_carriage hP fr z R hz.1.1 h hih )
  (fun c z h0 h1 hz => GA_up hz (by omega))
theorem two_count (h : Int) (hih : inR h) : Two I_X5_count I_X6_count [.int (iI h)] := two_z (fun z => rCnt z h) (fun z => z)
  (fun ik z y t so st td sk le ot sn pk R c hz h0 h1 hC => b_count (P := []) (a := 0) rfl ik z y t so st td sk le ot sn pk R hz.1 hz.2.1 hC h hih )
  (fun P hP fr z R c hz h0 h1 => c_count hP fr z R hz.1.1 h hih )
  (fun c z h0 h1 hz => GA_up hz (by omega))
theorem two_next (i : Int) (hii : inR i) : Two I_X5_next I_X6_next [.int (iI i)] := two_f (fun z => rNext z i)
  (fun ik z y t so st td sk le ot sn pk R c hz h0 h1 hC => b_next (P := []) (a := 0) rfl ik z y t so st td sk le ot sn pk R hz.1 hz.2.1 hC i hii)
  (fun P hP fr z sp n sa ba dn R c hz => ⟨_, c_next hP fr z sp n sa ba dn R hz.1 hz.2.1 i hii, fun x w' h => ⟨h.1, by obtain ⟨-, hw⟩ := h; split at hw <;> exact ⟨_, _, _, _, _, hw.symm⟩⟩⟩)
theorem two_when (s : Int) (his : inR s) : Two I_X5_when I_X6_when [.int (iI s)] := two_f (fun z => rWhen z s)
  (fun ik z y t so st td sk le ot sn pk R c hz h0 h1 hC => b_when (P := []) (a := 0) rfl ik z y t so st td sk le ot sn pk R hz.1 hz.2.1 hC s his)
  (fun P hP fr z sp n sa ba dn R c hz => ⟨_, c_when hP fr z sp n sa ba dn R hz.1 hz.2.1 s his, fun x w' h => ⟨h.1, by obtain ⟨-, hw⟩ := h; split at hw <;> exact ⟨_, _, _, _, _, hw.symm⟩⟩⟩)
theorem two_done  : Two I_X5_done I_X6_done [] := two_f (fun z => rDone z)
  (fun ik z y t so st td sk le ot sn pk R c hz h0 h1 hC => b_done (P := []) (a := 0) rfl ik z y t so st td sk le ot sn pk R hz.1 hz.2.1 hC  )
  (fun P hP fr z sp n sa ba dn R c hz => ⟨_, c_done hP fr z sp n sa ba dn R hz.1 hz.2.1  , fun x w' h => ⟨h.1, by obtain ⟨-, hw⟩ := h; split at hw <;> exact ⟨_, _, _, _, _, hw.symm⟩⟩⟩)
theorem two_better (h : Int) (hih : inR h) : Two I_X5_better I_X6_better [.int (iI h)] := two_f (fun z => rBet z h)
  (fun ik z y t so st td sk le ot sn pk R c hz h0 h1 hC => b_better (P := []) (a := 0) rfl ik z y t so st td sk le ot sn pk R hz.1 hz.2.1 hC h hih)
  (fun P hP fr z sp n sa ba dn R c hz => ⟨_, c_better hP fr z sp n sa ba dn R hz.1 hz.2.1 h hih, fun x w' h => h⟩)
