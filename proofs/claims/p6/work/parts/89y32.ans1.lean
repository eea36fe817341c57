-- answers: peas, now
def pesA (l : List Int32) (a1 : Int32) : Int32 := if 0 ≤ a1 ∧ a1 < l.getD 2 0 then dpF l (iN a1) else -1000000001
theorem pesA_n {l : List Int32} {a1 : Int32} {n : Nat} (en : l.getD 2 0 = nI n) (h : ¬ (0 ≤ a1 ∧ a1 < nI n)) : pesA l a1 = -1000000001 := by
  unfold pesA
  rw [en, if_neg h]
theorem pesA_y {l : List Int32} {n x : Nat} (en : l.getD 2 0 = nI n) (hx : x < 2 ^ 31) (h : 0 ≤ nI x ∧ nI x < nI n) : pesA l (nI x) = dpF l x := by
  unfold pesA
  rw [en, if_pos h, iN_n hx]
def nowA (l : List Int32) (a1 : Int32) : Int32 := if a1 = 0 then l.getD 0 0 else (if a1 = 1 then lfF l 0 (iN (l.getD 1 0)) else (if a1 = 2 then lfF l 1 (iN (l.getD 1 0)) else (if a1 = 3 then l.getD 3 0 else -1000000001)))
set_option maxRecDepth 20000 in
set_option maxHeartbeats 4000000 in
theorem A67 {xs : Option (List Int32)} {d : Nat} {w : List sx_C} (hI : WI w) (l : List Int32) (hR : rel w 1 l) (hK : SK w) (a1 : Int32) : sx_RP xs (d + 7) 67 0 (lv_args 0 [.ref 0, .int a1]) [] w (fun r w2 => r = some (.int (pesA l a1)) ∧ WI w2) := by
  obtain ⟨n, hn, en⟩ := hR.m9 hI (Or.inl rfl)
  have en0 := hR.dished.trans en
  refine sx_RP.step (pc2 := 1) (ls2 := [(0, .ref 0), (1, .int a1)]) (st2 := [.ref 0]) (w3 := w) rfl rfl ?_
  refine sx_RP.gf (v := .ref 1) rfl rfl hI.1.o0 rfl rfl (show _ = 4 from rfl) ?_
  refine sx_RP.step (pc2 := 5) (ls2 := [(0, .ref 0), (1, .int a1)]) (st2 := [.int a1, .ref 1]) (w3 := w) rfl rfl ?_
  rcases Decidable.em (0 ≤ a1 ∧ a1 < nI n) with c1 | c1
  · obtain ⟨x2, hx3, rfl⟩ := idx_get c1 (by omega)
    refine sx_RP.cu (as := [.ref 1, .int (nI x2)]) (rest2 := []) (st3 := [.int 1]) rfl rfl (sx_inv_v2 (mi := 67) (k := 225) (st := [.int (nI x2), .ref 1]) (w := w) rfl rfl (hI.1.oC (Or.inl rfl)) rfl rfl rfl) rfl rfl (p66y hI (Or.inl rfl) en0 hn c1) rfl ?_
    refine sx_RP.step (pc2 := 18) (ls2 := [(0, .ref 0), (1, .int (nI x2))]) (st2 := []) (w3 := w) rfl rfl ?_
    refine sx_RP.step (pc2 := 19) (ls2 := [(0, .ref 0), (1, .int (nI x2))]) (st2 := [.ref 0]) (w3 := w) rfl rfl ?_
    refine sx_RP.gf (v := .ref 44) rfl rfl hI.1.o0 rfl rfl (show _ = 22 from rfl) ?_
    refine sx_RP.step (pc2 := 23) (ls2 := [(0, .ref 0), (1, .int (nI x2))]) (st2 := [.ref 0, .ref 44]) (w3 := w) rfl rfl ?_
    refine sx_RP.gf (v := .ref 1) rfl rfl hI.1.o0 rfl rfl (show _ = 26 from rfl) ?_
    refine sx_RP.gref (k := 0) (b := 2) hI (Or.inl rfl) rfl rfl (by omega) (show _ = 29 from rfl) ?_
    refine sx_RP.callp (as2 := [.ref 44, .ref 2]) (rest2 := []) rfl rfl (sx_inv_v2 (mi := 67) (k := 95) (st := [.ref 2, .ref 44]) (w := w) rfl rfl hI.1.o44 rfl rfl rfl) rfl rfl rfl (G16 (A := 1) hI (Or.inl rfl)) (show _ = 32 from rfl) ?_
    rintro r4 w7 ⟨rfl, hI8, hS4, hF5, hf6⟩
    show sx_RP _ _ _ _ _ [] _ _
    have hR1 : rel w7 1 l := hR.same hI (Or.inl rfl) (fun a h1 h2 => hf6 a (by omega))
    refine sx_RP.step (pc2 := 33) (ls2 := [(0, .ref 0), (1, .int (nI x2))]) (st2 := [.ref 0]) (w3 := w7) rfl rfl ?_
    refine sx_RP.step (pc2 := 34) (ls2 := [(0, .ref 0), (1, .int (nI x2))]) (st2 := [.ref 0, .ref 0]) (w3 := w7) rfl rfl ?_
    refine sx_RP.gf (v := .ref 1) rfl rfl hI8.1.o0 rfl rfl (show _ = 37 from rfl) ?_
    refine sx_RP.step (pc2 := 38) (ls2 := [(0, .ref 0), (1, .int (nI x2))]) (st2 := [.ref 0, .ref 1, .ref 0]) (w3 := w7) rfl rfl ?_
    refine sx_RP.gf (v := .ref 1) rfl rfl hI8.1.o0 rfl rfl (show _ = 41 from rfl) ?_
    refine sx_RP.gref (k := 4) (b := 4) hI8 (Or.inl rfl) rfl rfl (by omega) (show _ = 44 from rfl) ?_
    refine sx_RP.step (pc2 := 45) (ls2 := [(0, .ref 0), (1, .int (nI x2))]) (st2 := [.int (nI x2), .ref 4, .ref 1, .ref 0]) (w3 := w7) rfl rfl ?_
    refine sx_RP.ild (c := x2) rfl (hI8.1.aD (Or.inl rfl)).1 (hI8.1.aD (Or.inl rfl)).2 (sx_in_nI (show x2 < 9 by omega) (by decide)) (show (nI x2).toNatClampNeg = x2 from nI_clamp (by omega)) (show _ = 46 from rfl) ?_
    obtain ⟨x9, hx10, ex11⟩ : inR ((ia w7 4).getD x2 0) 47 := hI8.di (Or.inl rfl) (show x2 < 9 by omega)
    rw [ex11]
    have ed : l.getD (163 + x2) 0 = nI x9 := (hR1.di (by rw [en, iN_n (by omega)]; omega)).symm.trans ex11
    refine sx_RP.callp (as2 := [.ref 0, .ref 1, .int (nI x9)]) (rest2 := []) rfl rfl (sx_inv_v2 (mi := 67) (k := 231) (st := [.int (nI x9), .ref 1, .ref 0]) (w := w7) rfl rfl hI8.1.o0 rfl rfl rfl) rfl rfl rfl (X68 hI8 l hR1 hF5 (hS4.2 hK) (show x9 < 48 by omega)) (show _ = 49 from rfl) ?_
    rintro r4 w14 ⟨rfl, hI15, hS12, hf13⟩
    show sx_RP _ _ _ _ _ [.int (pesF l x9)] _ _
    refine sx_RP.ret (r := (some (.int (pesF l x9)))) rfl rfl ?_
    exact ⟨by rw [pesA_y en (by omega) c1, dp_n (by omega) ed], hI15⟩
  · refine sx_RP.cu (as := [.ref 1, .int a1]) (rest2 := []) (st3 := [.int 0]) rfl rfl (sx_inv_v2 (mi := 67) (k := 225) (st := [.int a1, .ref 1]) (w := w) rfl rfl (hI.1.oC (Or.inl rfl)) rfl rfl rfl) rfl rfl (p66n hI (Or.inl rfl) en0 hn c1) rfl ?_
    refine sx_RP.step (pc2 := 11) (ls2 := [(0, .ref 0), (1, .int a1)]) (st2 := []) (w3 := w) rfl rfl ?_
    refine sx_RP.step (pc2 := 12) (ls2 := [(0, .ref 0), (1, .int a1)]) (st2 := [.ref 0]) (w3 := w) rfl rfl ?_
    refine sx_RP.step (pc2 := 14) (ls2 := [(0, .ref 0), (1, .int a1)]) (st2 := [.int (-1000000001), .ref 0]) (w3 := w) rfl rfl ?_
    refine sx_RP.callp (as2 := [.ref 0, .int (-1000000001)]) (rest2 := []) rfl rfl (sx_inv_v2 (mi := 67) (k := 78) (st := [.int (-1000000001), .ref 0]) (w := w) rfl rfl hI.1.o0 rfl rfl rfl) rfl rfl rfl (S9_0 hI) (show _ = 17 from rfl) ?_
    rintro r4 w17 ⟨rfl, hI18, hs16⟩
    show sx_RP _ _ _ _ _ [.int (-1000000001)] _ _
    refine sx_RP.ret (r := (some (.int (-1000000001)))) rfl rfl ?_
    exact ⟨by rw [pesA_n en c1], hI18⟩
set_option maxRecDepth 20000 in
set_option maxHeartbeats 4000000 in
theorem A187 {xs : Option (List Int32)} {d : Nat} {w : List sx_C} (hI : WI w) (a1 : Int32) : sx_RP xs (d + 7) 187 0 (lv_args 0 [.ref 111, .int a1]) [] w (fun r w2 => r = some (.int (pesA (ia w 112) a1)) ∧ WI w2) := by
  obtain ⟨n, hn, en⟩ := (hI.sA (a := 112) (by decide) 2 (by decide)).2.1 rfl
  refine sx_RP.step (pc2 := 1) (ls2 := [(0, .ref 111), (1, .int a1)]) (st2 := [.ref 111]) (w3 := w) rfl rfl ?_
  refine sx_RP.step (pc2 := 2) (ls2 := [(0, .ref 111), (1, .int a1)]) (st2 := [.int a1, .ref 111]) (w3 := w) rfl rfl ?_
  rcases Decidable.em (0 ≤ a1 ∧ a1 < nI n) with c1 | c1
  · obtain ⟨x2, hx3, rfl⟩ := idx_get c1 (by omega)
    refine sx_RP.cu (as := [.ref 111, .int (nI x2)]) (rest2 := []) (st3 := [.int 1]) rfl rfl (sx_inv_v2 (mi := 187) (k := 171) (st := [.int (nI x2), .ref 111]) (w := w) rfl rfl hI.1.o111 rfl rfl rfl) rfl rfl (p186y hI en hn c1) rfl ?_
    refine sx_RP.step (pc2 := 8) (ls2 := [(0, .ref 111), (1, .int (nI x2))]) (st2 := []) (w3 := w) rfl rfl ?_
    refine sx_RP.step (pc2 := 9) (ls2 := [(0, .ref 111), (1, .int (nI x2))]) (st2 := [.ref 111]) (w3 := w) rfl rfl ?_
    refine sx_RP.step (pc2 := 10) (ls2 := [(0, .ref 111), (1, .int (nI x2))]) (st2 := [.int (nI x2), .ref 111]) (w3 := w) rfl rfl ?_
    refine sx_RP.callp (as2 := [.ref 111, .int (nI x2)]) (rest2 := []) rfl rfl (sx_inv_v2 (mi := 187) (k := 180) (st := [.int (nI x2), .ref 111]) (w := w) rfl rfl hI.1.o111 rfl rfl rfl) rfl rfl rfl (X188 (d := d + 1) hI (show x2 < 9 by omega)) (show _ = 13 from rfl) ?_
    rintro r4 w5 ⟨rfl, hI6, hf4⟩
    show sx_RP _ _ _ _ _ [.int (dpF (ia w 112) x2)] _ _
    refine sx_RP.step (pc2 := 21) (ls2 := [(0, .ref 111), (1, .int (nI x2))]) (st2 := [.int (dpF (ia w 112) x2)]) (w3 := w5) rfl rfl ?_
    refine sx_RP.ret (r := (some (.int (dpF (ia w 112) x2)))) rfl rfl ?_
    exact ⟨by rw [pesA_y en (by omega) c1], hI6⟩
  · refine sx_RP.cu (as := [.ref 111, .int a1]) (rest2 := []) (st3 := [.int 0]) rfl rfl (sx_inv_v2 (mi := 187) (k := 171) (st := [.int a1, .ref 111]) (w := w) rfl rfl hI.1.o111 rfl rfl rfl) rfl rfl (p186n hI en hn c1) rfl ?_
    refine sx_RP.step (pc2 := 16) (ls2 := [(0, .ref 111), (1, .int a1)]) (st2 := []) (w3 := w) rfl rfl ?_
    refine sx_RP.step (pc2 := 17) (ls2 := [(0, .ref 111), (1, .int a1)]) (st2 := [.ref 111]) (w3 := w) rfl rfl ?_
    refine sx_RP.step (pc2 := 18) (ls2 := [(0, .ref 111), (1, .int a1)]) (st2 := [.int 0, .ref 111]) (w3 := w) rfl rfl ?_
    refine sx_RP.callp (as2 := [.ref 111, .int 0]) (rest2 := []) rfl rfl (sx_inv_v2 (mi := 187) (k := 70) (st := [.int 0, .ref 111]) (w := w) rfl rfl hI.1.o111 rfl rfl rfl) rfl rfl rfl (S133_0 hI) (show _ = 21 from rfl) ?_
    rintro r4 w8 ⟨rfl, hI9, hs7⟩
    show sx_RP _ _ _ _ _ [.int (-1000000001)] _ _
    refine sx_RP.ret (r := (some (.int (-1000000001)))) rfl rfl ?_
    exact ⟨by rw [pesA_n en c1], hI9⟩
theorem a67 {xs : Option (List Int32)} {d : Nat} {w : List sx_C} {s : ST} (hI : WI w) (hC : CLS w s) (a1 : Int32) : sx_RP xs (d + 7) 67 0 (lv_args 0 [.ref 0, .int a1]) [] w (fun r w2 => r = some (.int (pesA s.1 a1)) ∧ WI w2 ∧ CLS w2 (s) ∧ ∀ a, 111 ≤ a → w2[a]? = w[a]?) :=
  ((c67 (xs := xs) (d := d) hI hC a1).and (A67 hI s.1 hC.1.1 hC.2.2 a1)).mono9 (fun r w2 z => ⟨z.2.1, z.1.2.1, z.1.2.2.1, z.1.2.2.2⟩)
theorem a187 {xs : Option (List Int32)} {d : Nat} {w : List sx_C} {s : ST} (hI : WI w) (hR : REF w s) (a1 : Int32) : sx_RP xs (d + 7) 187 0 (lv_args 0 [.ref 111, .int a1]) [] w (fun r w2 => r = some (.int (pesA s.1 a1)) ∧ WI w2 ∧ REF w2 (s) ∧ ∀ a, a < 111 → w2[a]? = w[a]?) := by
  refine ((r187 (xs := xs) (d := d) hI hR a1).and (A187 hI a1)).mono9 (fun r w2 z => ⟨?_, z.1.2.1, z.1.2.2.1, z.1.2.2.2⟩)
  rw [z.2.1, hR.1.1]
