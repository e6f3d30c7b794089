theorem cut8 (v : Int) : inR (sx8 v) := by have := sx8_R v; omega
theorem cut16 (v : Int) : inR (sx16 v) := by have := sx16_R v; omega
theorem cutI_R {l v : Int} (h : inR v) : inR (cutI l v) := by
  unfold cutI
  split
  · exact cut8 v
  · split
    · exact cut16 v
    · exact h
theorem SH_l {ln rs it : Nat → Int} {j : Nat} {v : Int} (h : SH ln rs it) (hv : -1 ≤ v ∧ v ≤ 2) : SH (updI ln j v) rs it := ⟨fun i => by unfold updI; split; { exact hv }; { exact h.1 i }, h.2.1, h.2.2⟩
theorem SH_r {ln rs it : Nat → Int} {j : Nat} {v : Int} (h : SH ln rs it) (hv : 0 ≤ v ∧ v ≤ 24) : SH ln (updI rs j v) it := ⟨h.1, fun i => by unfold updI; split; { exact hv }; { exact h.2.1 i }, h.2.2⟩
theorem SH_i {ln rs it : Nat → Int} {j : Nat} {v : Int} (h : SH ln rs it) (hv : inR v) : SH ln rs (updI it j v) := ⟨h.1, h.2.1, fun i => by unfold updI; split; { exact hv }; { exact h.2.2 i }⟩
theorem SH_z {ln rs it : Nat → Int} {o k : Nat} (h : SH ln rs it) : SH ln rs (zit it o k) := ⟨h.1, h.2.1, fun i => by unfold zit; split; { exact R0 }; { exact h.2.2 i }⟩
theorem two_drop (s : Int) (his : inR s) : Two I_X5_drop I_X6_drop [.int (iI s)] := two_s (fun ln rs it => rDrop ln rs s) (fun ln rs it => sDrop ln s) (fun ln rs it => rs) (fun ln rs it => it)
  (fun ik z y t so st td sk le ot sn pk d1 d2 d3 d4 ln rs it R hS hC => ⟨_, b_drop (P := []) (a := 0) rfl ik z y t so st td sk le ot sn pk d1 d2 d3 d4 ln rs it R hS hC s his  , fun x w' h => h⟩)
  (fun P hP z sp n sa ba dn ah be tp tl ta ac kd nb ik im ln rs it hS => ⟨_, c_drop hP z sp n sa ba dn ah be tp tl ta ac kd nb ik im ln rs it [] hS s his, fun x w' h => ⟨h.1, _, _, h.2⟩⟩)
  (fun ln rs it hS => by unfold sDrop; split; { exact SH_l hS (by decide) }; { exact hS })
theorem two_sheet (s l m : Int) (his : inR s) (hil : inR l) (him : inR m) : Two I_X5_sheet I_X6_sheet [.int (iI s), .int (iI l), .int (iI m)] := two_s (fun ln rs it => rSh s l m) (fun ln rs it => if 0 ≤ s ∧ s ≤ 3 ∧ 0 ≤ l ∧ l ≤ 2 ∧ 0 ≤ m ∧ m ≤ 24 then updI ln s.toNat l else ln) (fun ln rs it => if 0 ≤ s ∧ s ≤ 3 ∧ 0 ≤ l ∧ l ≤ 2 ∧ 0 ≤ m ∧ m ≤ 24 then updI rs s.toNat m else rs) (fun ln rs it => if 0 ≤ s ∧ s ≤ 3 ∧ 0 ≤ l ∧ l ≤ 2 ∧ 0 ≤ m ∧ m ≤ 24 then zit it (24 * s).toNat 24 else it)
  (fun ik z y t so st td sk le ot sn pk d1 d2 d3 d4 ln rs it R hS hC => ⟨_, b_sheet (P := []) (a := 0) rfl ik z y t so st td sk le ot sn pk d1 d2 d3 d4 ln rs it R hS hC s his l m hil him, fun x w' h => ⟨h.1, by obtain ⟨-, hw⟩ := h; by_cases hc : 0 ≤ s ∧ s ≤ 3 ∧ 0 ≤ l ∧ l ≤ 2 ∧ 0 ≤ m ∧ m ≤ 24; { rw [if_pos hc] at hw; simp only [if_pos hc]; exact hw }; { rw [if_neg hc] at hw; simp only [if_neg hc]; exact hw }⟩⟩)
  (fun P hP z sp n sa ba dn ah be tp tl ta ac kd nb ik im ln rs it hS => ⟨_, c_sheet hP z sp n sa ba dn ah be tp tl ta ac kd nb ik im ln rs it [] s l m his hil him, fun x w' h => ⟨h.1, ah, be, by obtain ⟨-, hw⟩ := h; by_cases hc : 0 ≤ s ∧ s ≤ 3 ∧ 0 ≤ l ∧ l ≤ 2 ∧ 0 ≤ m ∧ m ≤ 24; { rw [if_pos hc] at hw; simp only [if_pos hc]; exact hw.symm }; { rw [if_neg hc] at hw; simp only [if_neg hc]; exact hw.symm }⟩⟩)
  (fun ln rs it hS => by by_cases hc : 0 ≤ s ∧ s ≤ 3 ∧ 0 ≤ l ∧ l ≤ 2 ∧ 0 ≤ m ∧ m ≤ 24; { simp only [if_pos hc]; exact SH_z (SH_r (SH_l hS (by omega)) (by omega)) }; { simp only [if_neg hc]; exact hS })
theorem two_item (s l i v : Int) (his : inR s) (hil : inR l) (hii : inR i) (hiv : inR v) : Two I_X5_item I_X6_item [.int (iI s), .int (iI l), .int (iI i), .int (iI v)] := two_s (fun ln rs it => rItem ln rs s l i) (fun ln rs it => ln) (fun ln rs it => rs) (fun ln rs it => sItem ln rs it s l i v)
  (fun ik z y t so st td sk le ot sn pk d1 d2 d3 d4 ln rs it R hS hC => ⟨_, b_item (P := []) (a := 0) rfl ik z y t so st td sk le ot sn pk d1 d2 d3 d4 ln rs it R hS hC s his l i v hil hii hiv, fun x w' h => h⟩)
  (fun P hP z sp n sa ba dn ah be tp tl ta ac kd nb ik im ln rs it hS => ⟨_, c_item hP z sp n sa ba dn ah be tp tl ta ac kd nb ik im ln rs it [] hS s l i v his hil hii, fun x w' h => ⟨h.1, _, _, h.2⟩⟩)
  (fun ln rs it hS => by unfold sItem; split; { exact SH_i hS (cutI_R hiv) }; { exact hS })
theorem two_heard (s l f m g : Int) (his : inR s) (hil : inR l) (hif : inR f) (him : inR m) (hig : inR g) : Two I_X5_heard I_X6_heard [.int (iI s), .int (iI l), .int (iI f), .int (iI m), .int (iI g)] := two_s (fun ln rs it => rHeard ln rs it s l f m g) (fun ln rs it => ln) (fun ln rs it => rs) (fun ln rs it => it)
  (fun ik z y t so st td sk le ot sn pk d1 d2 d3 d4 ln rs it R hS hC => ⟨_, b_heard (P := []) (a := 0) rfl ik z y t so st td sk le ot sn pk d1 d2 d3 d4 ln rs it R hS hC s his l f m g hil hif him hig, fun x w' h => h⟩)
  (fun P hP z sp n sa ba dn ah be tp tl ta ac kd nb ik im ln rs it hS => ⟨_, c_heard hP z sp n sa ba dn ah be tp tl ta ac kd nb ik im ln rs it [] hS s l f m g his hil hif him hig, fun x w' h => h⟩)
  (fun ln rs it hS => hS)
theorem two_mayBe (s l f m g : Int) (his : inR s) (hil : inR l) (hif : inR f) (him : inR m) (hig : inR g) : Two I_X5_mayBe I_X6_mayBe [.int (iI s), .int (iI l), .int (iI f), .int (iI m), .int (iI g)] := two_s (fun ln rs it => rMay ln rs it s l f m g) (fun ln rs it => ln) (fun ln rs it => rs) (fun ln rs it => it)
  (fun ik z y t so st td sk le ot sn pk d1 d2 d3 d4 ln rs it R hS hC => ⟨_, b_mayBe (P := []) (a := 0) rfl ik z y t so st td sk le ot sn pk d1 d2 d3 d4 ln rs it R hS hC s his l f m g hil hif him hig, fun x w' h => h⟩)
  (fun P hP z sp n sa ba dn ah be tp tl ta ac kd nb ik im ln rs it hS => ⟨_, c_mayBe hP z sp n sa ba dn ah be tp tl ta ac kd nb ik im ln rs it [] hS s l f m g his hil hif him hig, fun x w' h => h⟩)
  (fun ln rs it hS => hS)
set_option maxRecDepth 100000 in
set_option maxHeartbeats 4000000 in
theorem two_image : Two I_X5_image I_X6_image [] := by
  intro c w h0 h1 hI
  obtain ⟨ik, z, y, t, so, st, td, sk, le, ot, sn, pk, tp, tl, ta, ac, kd, nb, ln, rs, it, sp, n, sa, ba, dn, ah, be, ta', ac', kd', nb', im, rfl, hC, hz, hy, hk, hS, htl, hT⟩ := hI
  refine ⟨_, b_image (P := []) (a := 0) rfl ik z y t so st td sk le ot sn pk (tw (0 + 21) tp tl ta ac kd nb (shF 0 ln rs it (mw 34 z sp n sa ba dn ah be tp tl ta' ac' kd' nb' ik im ln rs it []))) hz.1 hz.2.1 hC, fun x1 w1 hw1 => ?_⟩
  obtain ⟨rfl, t1, so1, st1, td1, sk1, le1, ot1, sn1, pk1, rfl, hC1⟩ := hw1
  have h2 := c_image (P := lB (1) z (z) (t1) (so1) (st1) (td1) (sk1) (le1) (ot1) (sn1) (pk1) tp tl ta ac kd nb ln rs it []) (a := 34) rfl z sp n sa ba dn ah be tp tl ta' ac' kd' nb' ik im ln rs it []
  refine ⟨⟨_, rfl⟩, _, h2, fun x2 w2 hw2 => ?_⟩
  obtain ⟨rfl, rfl⟩ := hw2
  exact ⟨rfl, 1, z, z, t1, so1, st1, td1, sk1, le1, ot1, sn1, pk1, tp, tl, ta, ac, kd, nb, ln, rs, it, sp, n, sa, ba, dn, ah, be, ta', ac', kd', nb', z, rfl, hC1, GA_up hz (by omega), GA_up hz (by omega), Or.inr ⟨rfl, rfl⟩, hS, htl, hT⟩
set_option maxRecDepth 100000 in
set_option maxHeartbeats 4000000 in
theorem two_restore : Two I_X5_restore I_X6_restore [] := by
  intro c w h0 h1 hI
  obtain ⟨ik, z, y, t, so, st, td, sk, le, ot, sn, pk, tp, tl, ta, ac, kd, nb, ln, rs, it, sp, n, sa, ba, dn, ah, be, ta', ac', kd', nb', im, rfl, hC, hz, hy, hk, hS, htl, hT⟩ := hI
  have hik : ik = 0 ∨ ik = 1 := by rcases hk with h | h; { exact Or.inl h }; { exact Or.inr h.1 }
  refine ⟨_, b_restore (P := []) (a := 0) rfl ik z y t so st td sk le ot sn pk (tw (0 + 21) tp tl ta ac kd nb (shF 0 ln rs it (mw 34 z sp n sa ba dn ah be tp tl ta' ac' kd' nb' ik im ln rs it []))) hz.1 hz.2.1 hC hik hy.1.2.1.2.1, fun x1 w1 hw1 => ?_⟩
  obtain ⟨rfl, t1, so1, st1, td1, sk1, le1, ot1, sn1, pk1, rfl, hC1⟩ := hw1
  have h2 := c_restore (P := lB ik (if ik = 0 then z else y) y (t1) (so1) (st1) (td1) (sk1) (le1) (ot1) (sn1) (pk1) tp tl ta ac kd nb ln rs it []) (a := 34) rfl z sp n sa ba dn ah be tp tl ta' ac' kd' nb' ik im ln rs it [] hik
  refine ⟨⟨_, rfl⟩, _, h2, fun x2 w2 hw2 => ?_⟩
  obtain ⟨rfl, hw⟩ := hw2
  refine ⟨rfl, ?_⟩
  rcases hk with h | ⟨h, rfl⟩
  · subst h
    rw [if_pos rfl] at hw hC1
    simp only [if_pos] at hw
    subst hw
    exact ⟨0, z, y, t1, so1, st1, td1, sk1, le1, ot1, sn1, pk1, tp, tl, ta, ac, kd, nb, ln, rs, it, sp, n, sa, ba, dn, ah, be, ta', ac', kd', nb', im, rfl, hC1, GA_up hz (by omega), GA_up hy (by omega), Or.inl rfl, hS, htl, hT⟩
  · subst h
    rw [if_neg (by decide)] at hw hC1
    rw [if_neg (by decide)] at hw
    subst hw
    exact ⟨1, im, im, t1, so1, st1, td1, sk1, le1, ot1, sn1, pk1, tp, tl, ta, ac, kd, nb, ln, rs, it, sp, n, sa, ba, dn, ah, be, ta', ac', kd', nb', im, rfl, hC1, GA_up hy (by omega), GA_up hy (by omega), Or.inr ⟨rfl, rfl⟩, hS, htl, hT⟩
set_option maxRecDepth 100000 in
set_option maxHeartbeats 4000000 in
theorem two_evening : Two I_X5_evening I_X6_evening [] := by
  intro c w h0 h1 hI
  obtain ⟨ik, z, y, t, so, st, td, sk, le, ot, sn, pk, tp, tl, ta, ac, kd, nb, ln, rs, it, sp, n, sa, ba, dn, ah, be, ta', ac', kd', nb', im, rfl, hC, hz, hy, hk, hS, htl, hT⟩ := hI
  refine ⟨_, b_evening (P := []) (a := 0) rfl ik z y t so st td sk le ot sn pk tp tl ta ac kd nb (shF 0 ln rs it (mw 34 z sp n sa ba dn ah be tp tl ta' ac' kd' nb' ik im ln rs it [])) hC htl hT c h0 (by omega) hz, fun x1 w1 hw1 => ?_⟩
  obtain ⟨rfl, ta1, ac1, kd1, nb1, t1, so1, st1, td1, sk1, le1, ot1, sn1, pk1, rfl, hC1⟩ := hw1
  have h2 := c_evening (P := lB ik (sEve z tp tl) y (t1) (so1) (st1) (td1) (sk1) (le1) (ot1) (sn1) (pk1) tp (0) (ta1) (ac1) (kd1) (nb1) ln rs it []) (a := 34) rfl z sp n sa ba dn ah be tp tl ta' ac' kd' nb' ik im ln rs it [] htl hT c h0 (by omega) hz
  refine ⟨⟨_, rfl⟩, _, h2, fun x2 w2 hw2 => ?_⟩
  obtain ⟨rfl, ta2, ac2, kd2, nb2, rfl⟩ := hw2
  exact ⟨rfl, ik, sEve z tp tl, y, t1, so1, st1, td1, sk1, le1, ot1, sn1, pk1, tp, 0, ta1, ac1, kd1, nb1, ln, rs, it, sp, n, sa, ba, dn, ah, be, ta2, ac2, kd2, nb2, im, rfl, hC1, GA_eve htl hT hz h0 (by omega), GA_up hy (by omega), hk, hS, by omega, fun i hi => absurd hi (by omega)⟩
set_option maxRecDepth 100000 in
set_option maxHeartbeats 4000000 in
theorem two_type (w : Int64) (m : Int) (him : inR m) : Two I_X5_type I_X6_type [.long w, .int (iI m)] := by
  intro c w0 h0 h1 hI
  obtain ⟨ik, z, y, t, so, st, td, sk, le, ot, sn, pk, tp, tl, ta, ac, kd, nb, ln, rs, it, sp, n, sa, ba, dn, ah, be, ta', ac', kd', nb', im, rfl, hC, hz, hy, hk, hS, htl, hT⟩ := hI
  refine ⟨_, b_type (P := []) (a := 0) rfl ik z y t so st td sk le ot sn pk tp tl ta ac kd nb (shF 0 ln rs it (mw 34 z sp n sa ba dn ah be tp tl ta' ac' kd' nb' ik im ln rs it [])) hC htl w m him, fun x1 w1 hw1 => ?_⟩
  obtain ⟨rfl, hw1⟩ := hw1
  by_cases hc : ((1 ≤ m ∧ m ≤ 8) ∧ tB w m.toNat = 1 ∧ (tl : Int) + m ≤ 80)
  · rw [if_pos hc] at hw1
    have htb : ∀ i, i < m.toNat → 32 ≤ bI w i ∧ bI w i ≤ 126 := by rcases tB_b w m.toNat with h | h; { exact h.2 }; { have := hc.2.1; omega }
    obtain ⟨t1, so1, st1, td1, sk1, le1, ot1, sn1, pk1, rfl, hC1⟩ := hw1
    have h2 := c_type (P := lB ik z y (t1) (so1) (st1) (td1) (sk1) (le1) (ot1) (sn1) (pk1) (wrT w m.toNat tp tl) (tl + m.toNat) ta ac kd nb ln rs it []) (a := 34) rfl z sp n sa ba dn ah be tp tl ta' ac' kd' nb' ik im ln rs it [] htl w m him
    refine ⟨⟨_, rfl⟩, _, h2, fun x2 w2 hw2 => ?_⟩
    obtain ⟨rfl, hw⟩ := hw2
    rw [if_pos hc] at hw
    subst hw
    exact ⟨rfl, ik, z, y, t1, so1, st1, td1, sk1, le1, ot1, sn1, pk1, wrT w m.toNat tp tl, tl + m.toNat, ta, ac, kd, nb, ln, rs, it, sp, n, sa, ba, dn, ah, be, ta', ac', kd', nb', im, rfl, hC1, GA_up hz (by omega), GA_up hy (by omega), hk, hS, by omega, wrT_b w m.toNat tp tl htb hT⟩
  · rw [if_neg hc] at hw1
    obtain ⟨t1, so1, st1, td1, sk1, le1, ot1, sn1, pk1, rfl, hC1⟩ := hw1
    have h2 := c_type (P := lB ik z y (t1) (so1) (st1) (td1) (sk1) (le1) (ot1) (sn1) (pk1) tp tl ta ac kd nb ln rs it []) (a := 34) rfl z sp n sa ba dn ah be tp tl ta' ac' kd' nb' ik im ln rs it [] htl w m him
    refine ⟨⟨_, rfl⟩, _, h2, fun x2 w2 hw2 => ?_⟩
    obtain ⟨rfl, hw⟩ := hw2
    rw [if_neg hc] at hw
    subst hw
    exact ⟨rfl, ik, z, y, t1, so1, st1, td1, sk1, le1, ot1, sn1, pk1, tp, tl, ta, ac, kd, nb, ln, rs, it, sp, n, sa, ba, dn, ah, be, ta', ac', kd', nb', im, rfl, hC1, GA_up hz (by omega), GA_up hy (by omega), hk, hS, htl, hT⟩
