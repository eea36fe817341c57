-- far, heard, peas, book
set_option maxRecDepth 20000 in
set_option maxHeartbeats 4000000 in
theorem x69 {xs : Option (List Int32)} {d : Nat} {w : List sx_C} (hI : WI w) {k h t F : Nat} (hk : k ≤ 5) (hh : h < 48) (ht : t < 48) (hF : F ≤ 3000) (eF : (ia w (47 + t)).getD h 0 = nI F) : sx_RU xs (d + 2) 69 0 (lv_args 0 [.ref 0, .int (nI k), .int (nI h), .ref (47 + t)]) [] w (some (.int (ldV k (iN ((ia w (1 + 1)).getD h 0)) / nI (1 + F)))) w := by
  have h : sx_RP xs (d + 2) 69 0 (lv_args 0 [.ref 0, .int (nI k), .int (nI h), .ref (47 + t)]) [] w (fun r9 w2 => r9 = some (.int (ldV k (iN ((ia w (1 + 1)).getD h 0)) / nI (1 + F))) ∧ w2 = w) := by
    refine sx_RP.step (pc2 := 1) (ls2 := [(0, .ref 0), (1, .int (nI k)), (2, .int (nI h)), (3, .ref (47 + t))]) (st2 := [.int 1]) (w3 := w) rfl rfl ?_
    refine sx_RP.step (pc2 := 2) (ls2 := [(0, .ref 0), (1, .int (nI k)), (2, .int (nI h)), (3, .ref (47 + t))]) (st2 := [.ref (47 + t), .int 1]) (w3 := w) rfl rfl ?_
    refine sx_RP.step (pc2 := 3) (ls2 := [(0, .ref 0), (1, .int (nI k)), (2, .int (nI h)), (3, .ref (47 + t))]) (st2 := [.int (nI h), .ref (47 + t), .int 1]) (w3 := w) rfl rfl ?_
    refine sx_RP.ild (c := h) rfl (hI.1.aR (show t < 48 by omega)).1 (hI.1.aR (show t < 48 by omega)).2 (sx_in_nI (show h < 48 by omega) (by decide)) (show (nI h).toNatClampNeg = h from nI_clamp (by omega)) (show _ = 4 from rfl) ?_
    rw [eF]
    refine sx_RP.step (pc2 := 5) (ls2 := [(0, .ref 0), (1, .int (nI k)), (2, .int (nI h)), (3, .ref (47 + t))]) (st2 := [.int (1 + (nI F))]) (w3 := w) rfl rfl ?_
    rw [show (1 + (nI F) : Int32) = nI (1 + F) from nI_add 1 F]
    refine sx_RP.step (pc2 := 7) (ls2 := [(4, .int (nI (1 + F))), (0, .ref 0), (1, .int (nI k)), (2, .int (nI h)), (3, .ref (47 + t))]) (st2 := []) (w3 := w) rfl rfl ?_
    refine sx_RP.step (pc2 := 9) (ls2 := [(4, .int (nI (1 + F))), (0, .ref 0), (1, .int (nI k)), (2, .int (nI h)), (3, .ref (47 + t))]) (st2 := [.int (nI (1 + F))]) (w3 := w) rfl rfl ?_
    refine sx_RP.step (pc2 := 10) (ls2 := [(4, .int (nI (1 + F))), (0, .ref 0), (1, .int (nI k)), (2, .int (nI h)), (3, .ref (47 + t))]) (st2 := [.int 1, .int (nI (1 + F))]) (w3 := w) rfl rfl ?_
    refine sx_RP.br (p1 := 17) (l1 := [(4, .int (nI (1 + F))), (0, .ref 0), (1, .int (nI k)), (2, .int (nI h)), (3, .ref (47 + t))]) (s1 := []) (v1 := w) rfl rfl (fun _ => ?_) (fun q => absurd (nI_le (a := 1) (b := 1 + F) (by omega) (by omega)) (of_decide_eq_false q))
    refine sx_RP.step (pc2 := 18) (ls2 := [(4, .int (nI (1 + F))), (0, .ref 0), (1, .int (nI k)), (2, .int (nI h)), (3, .ref (47 + t))]) (st2 := [.ref 0]) (w3 := w) rfl rfl ?_
    refine sx_RP.gf (v := .ref 1) rfl rfl hI.1.o0 rfl rfl (show _ = 21 from rfl) ?_
    refine sx_RP.step (pc2 := 22) (ls2 := [(4, .int (nI (1 + F))), (0, .ref 0), (1, .int (nI k)), (2, .int (nI h)), (3, .ref (47 + t))]) (st2 := [.int (nI k), .ref 1]) (w3 := w) rfl rfl ?_
    refine sx_RP.step (pc2 := 23) (ls2 := [(4, .int (nI (1 + F))), (0, .ref 0), (1, .int (nI k)), (2, .int (nI h)), (3, .ref (47 + t))]) (st2 := [.int (nI h), .int (nI k), .ref 1]) (w3 := w) rfl rfl ?_
    refine sx_RP.cu (as := [.ref 1, .int (nI k), .int (nI h)]) (rest2 := []) (st3 := [.int (ldV k (iN ((ia w (1 + 1)).getD h 0)))]) rfl rfl (sx_inv_v2 (mi := 69) (k := 157) (st := [.int (nI h), .int (nI k), .ref 1]) (w := w) rfl rfl (hI.1.oC (Or.inl rfl)) rfl rfl rfl) rfl rfl (x35 hI (Or.inl rfl) hk hh) rfl ?_
    refine sx_RP.step (pc2 := 28) (ls2 := [(4, .int (nI (1 + F))), (0, .ref 0), (1, .int (nI k)), (2, .int (nI h)), (3, .ref (47 + t))]) (st2 := [.int (nI (1 + F)), .int (ldV k (iN ((ia w (1 + 1)).getD h 0)))]) (w3 := w) rfl rfl ?_
    refine sx_RP.idiv (pc2 := 29) rfl (fun z => absurd ((nI_eq (a := 1 + F) (b := 0) (by omega) (by decide)).mp z) (by omega)) rfl ?_
    refine sx_RP.ret (r := (some (.int ((ldV k (iN ((ia w (1 + 1)).getD h 0))) / (nI (1 + F)))))) rfl rfl ?_
    exact ⟨rfl, rfl⟩
  obtain ⟨r9, w2, h1, rfl, rfl⟩ := h
  exact h1
set_option maxRecDepth 20000 in
set_option maxHeartbeats 4000000 in
theorem x68L {xs : Option (List Int32)} {d c n : Nat} {w : List sx_C} {l : List Int32} (hI : WI w) (hR : rel w 1 l) (hc : c < 48) (hn : n ≤ 10) (en : l.getD 1 0 = nI n) (hw : ∀ f, f < 48 → (ia w (47 + c)).getD f 0 = nI (farN (gdR l) f c)) : ∀ (q j : Nat), j + q = n → sx_RP xs (d + 4) 68 15 [(0, .ref 0), (1, .ref 1), (2, .int (nI c)), (3, .ref (47 + c)), (4, .int (peF l c j)), (5, .int (nI j))] [] w (fun r w2 => r = some (.int (peF l c n)) ∧ w2 = w)
  | 0, j, hj => by
    obtain rfl : j = n := by omega
    refine sx_RP.step (pc2 := 17) (ls2 := [(0, .ref 0), (1, .ref 1), (2, .int (nI c)), (3, .ref (47 + c)), (4, .int (peF l c j)), (5, .int (nI j))]) (st2 := [.int (nI j)]) (w3 := w) rfl rfl ?_
    refine sx_RP.step (pc2 := 18) (ls2 := [(0, .ref 0), (1, .ref 1), (2, .int (nI c)), (3, .ref (47 + c)), (4, .int (peF l c j)), (5, .int (nI j))]) (st2 := [.ref 1, .int (nI j)]) (w3 := w) rfl rfl ?_
    refine sx_RP.gc (k := 3) hI (Or.inl rfl) rfl rfl (by omega) (show _ = 21 from rfl) ?_
    rw [(hR.many.trans en)]
    refine sx_RP.br (p1 := 68) (l1 := [(0, .ref 0), (1, .ref 1), (2, .int (nI c)), (3, .ref (47 + c)), (4, .int (peF l c j)), (5, .int (nI j))]) (s1 := []) (v1 := w) rfl rfl (fun _ => ?_) (fun q => absurd (nI_le (a := j) (b := j) (by omega) (by omega)) (of_decide_eq_false q))
    refine sx_RP.step (pc2 := 70) (ls2 := [(0, .ref 0), (1, .ref 1), (2, .int (nI c)), (3, .ref (47 + c)), (4, .int (peF l c j)), (5, .int (nI j))]) (st2 := [.int (peF l c j)]) (w3 := w) rfl rfl ?_
    refine sx_RP.ret (r := (some (.int (peF l c j)))) rfl rfl ?_
    exact ⟨rfl, rfl⟩
  | q + 1, j, hj => by
    refine sx_RP.step (pc2 := 17) (ls2 := [(0, .ref 0), (1, .ref 1), (2, .int (nI c)), (3, .ref (47 + c)), (4, .int (peF l c j)), (5, .int (nI j))]) (st2 := [.int (nI j)]) (w3 := w) rfl rfl ?_
    refine sx_RP.step (pc2 := 18) (ls2 := [(0, .ref 0), (1, .ref 1), (2, .int (nI c)), (3, .ref (47 + c)), (4, .int (peF l c j)), (5, .int (nI j))]) (st2 := [.ref 1, .int (nI j)]) (w3 := w) rfl rfl ?_
    refine sx_RP.gc (k := 3) hI (Or.inl rfl) rfl rfl (by omega) (show _ = 21 from rfl) ?_
    rw [(hR.many.trans en)]
    refine sx_RP.br (p2 := 24) (l2 := [(0, .ref 0), (1, .ref 1), (2, .int (nI c)), (3, .ref (47 + c)), (4, .int (peF l c j)), (5, .int (nI j))]) (s2 := []) (v2 := w) rfl rfl (fun q => absurd (of_decide_eq_true q) (fun z => absurd ((nI_leI (a := n) (b := j) (by omega) (by omega)).mp z) (by omega))) (fun _ => ?_)
    refine sx_RP.step (pc2 := 25) (ls2 := [(0, .ref 0), (1, .ref 1), (2, .int (nI c)), (3, .ref (47 + c)), (4, .int (peF l c j)), (5, .int (nI j))]) (st2 := [.ref 1]) (w3 := w) rfl rfl ?_
    refine sx_RP.gref (k := 2) (b := 3) hI (Or.inl rfl) rfl rfl (by omega) (show _ = 28 from rfl) ?_
    refine sx_RP.step (pc2 := 30) (ls2 := [(0, .ref 0), (1, .ref 1), (2, .int (nI c)), (3, .ref (47 + c)), (4, .int (peF l c j)), (5, .int (nI j))]) (st2 := [.int (nI j), .ref 3]) (w3 := w) rfl rfl ?_
    refine sx_RP.ald (v := .ref (1 + 4 + j)) rfl (hI.1.aG (Or.inl rfl)) rfl (grA_at (show j < 10 by omega)) (show _ = 31 from rfl) ?_
    refine sx_RP.step (pc2 := 33) (ls2 := [(6, .ref (1 + 4 + j)), (0, .ref 0), (1, .ref 1), (2, .int (nI c)), (3, .ref (47 + c)), (4, .int (peF l c j)), (5, .int (nI j))]) (st2 := []) (w3 := w) rfl rfl ?_
    refine sx_RP.step (pc2 := 35) (ls2 := [(6, .ref (1 + 4 + j)), (0, .ref 0), (1, .ref 1), (2, .int (nI c)), (3, .ref (47 + c)), (4, .int (peF l c j)), (5, .int (nI j))]) (st2 := [.ref (1 + 4 + j)]) (w3 := w) rfl rfl ?_
    refine sx_RP.step (pc2 := 36) (ls2 := [(6, .ref (1 + 4 + j)), (0, .ref 0), (1, .ref 1), (2, .int (nI c)), (3, .ref (47 + c)), (4, .int (peF l c j)), (5, .int (nI j))]) (st2 := [.int 0, .ref (1 + 4 + j)]) (w3 := w) rfl rfl ?_
    rcases Decidable.em (gF l j 1 = 0 ∧ gF l j 5 = 0) with hc2 | hc2
    · refine sx_RP.cu (as := [.ref (1 + 4 + j), .int 0]) (rest2 := []) (st3 := [.int 1]) rfl rfl (sx_inv_v2 (mi := 68) (k := 186) (st := [.int 0, .ref (1 + 4 + j)]) (w := w) rfl rfl (hI.1.oG (gAd.of (Or.inl rfl) (show j < 10 by omega))) rfl rfl rfl) rfl rfl (x43y hI (gAd.of (Or.inl rfl) (show j < 10 by omega)) ⟨(hR.ga (by rw [en, iN_n (by omega)]; omega) (by decide)).trans hc2.1, (hR.ga (by rw [en, iN_n (by omega)]; omega) (by decide)).trans hc2.2⟩) rfl ?_
      refine sx_RP.step (pc2 := 42) (ls2 := [(6, .ref (1 + 4 + j)), (0, .ref 0), (1, .ref 1), (2, .int (nI c)), (3, .ref (47 + c)), (4, .int (peF l c j)), (5, .int (nI j))]) (st2 := []) (w3 := w) rfl rfl ?_
      refine sx_RP.step (pc2 := 44) (ls2 := [(6, .ref (1 + 4 + j)), (0, .ref 0), (1, .ref 1), (2, .int (nI c)), (3, .ref (47 + c)), (4, .int (peF l c j)), (5, .int (nI j))]) (st2 := [.int (peF l c j)]) (w3 := w) rfl rfl ?_
      refine sx_RP.step (pc2 := 45) (ls2 := [(6, .ref (1 + 4 + j)), (0, .ref 0), (1, .ref 1), (2, .int (nI c)), (3, .ref (47 + c)), (4, .int (peF l c j)), (5, .int (nI j))]) (st2 := [.ref 0, .int (peF l c j)]) (w3 := w) rfl rfl ?_
      refine sx_RP.step (pc2 := 47) (ls2 := [(6, .ref (1 + 4 + j)), (0, .ref 0), (1, .ref 1), (2, .int (nI c)), (3, .ref (47 + c)), (4, .int (peF l c j)), (5, .int (nI j))]) (st2 := [.ref (1 + 4 + j), .ref 0, .int (peF l c j)]) (w3 := w) rfl rfl ?_
      refine sx_RP.gg (k := 0) hI (gAd.of (Or.inl rfl) (show j < 10 by omega)) rfl rfl (by decide) (show _ = 50 from rfl) ?_
      obtain ⟨x1, hx2, ex3⟩ : inR (fi w (1 + 4 + j) 0) 5 := hI.gk (k := 0) (gAd.of (Or.inl rfl) (show j < 10 by omega)) (by decide)
      rw [ex3]
      refine sx_RP.step (pc2 := 52) (ls2 := [(6, .ref (1 + 4 + j)), (0, .ref 0), (1, .ref 1), (2, .int (nI c)), (3, .ref (47 + c)), (4, .int (peF l c j)), (5, .int (nI j))]) (st2 := [.ref (1 + 4 + j), .int (nI x1), .ref 0, .int (peF l c j)]) (w3 := w) rfl rfl ?_
      refine sx_RP.gg (k := 2) hI (gAd.of (Or.inl rfl) (show j < 10 by omega)) rfl rfl (by decide) (show _ = 55 from rfl) ?_
      obtain ⟨x4, hx5, ex6⟩ : inR (fi w (1 + 4 + j) 2) 47 := hI.gk (k := 2) (gAd.of (Or.inl rfl) (show j < 10 by omega)) (by decide)
      rw [ex6]
      refine sx_RP.step (pc2 := 56) (ls2 := [(6, .ref (1 + 4 + j)), (0, .ref 0), (1, .ref 1), (2, .int (nI c)), (3, .ref (47 + c)), (4, .int (peF l c j)), (5, .int (nI j))]) (st2 := [.ref (47 + c), .int (nI x4), .int (nI x1), .ref 0, .int (peF l c j)]) (w3 := w) rfl rfl ?_
      refine sx_RP.cu (as := [.ref 0, .int (nI x1), .int (nI x4), .ref (47 + c)]) (rest2 := [.int (peF l c j)]) (st3 := [.int (ldV x1 (iN ((ia w (1 + 1)).getD x4 0)) / nI (1 + farN (gdR l) x4 c)), .int (peF l c j)]) rfl rfl (sx_inv_v2 (mi := 68) (k := 235) (st := [.ref (47 + c), .int (nI x4), .int (nI x1), .ref 0, .int (peF l c j)]) (w := w) rfl rfl hI.1.o0 rfl rfl rfl) rfl rfl (x69 hI (show x1 ≤ 5 by omega) (show x4 < 48 by omega) hc (far_fin _ (show x4 < 48 by omega) hc) (hw x4 (by omega))) rfl ?_
      refine sx_RP.step (pc2 := 60) (ls2 := [(6, .ref (1 + 4 + j)), (0, .ref 0), (1, .ref 1), (2, .int (nI c)), (3, .ref (47 + c)), (4, .int (peF l c j)), (5, .int (nI j))]) (st2 := [.int ((peF l c j) + (ldV x1 (iN ((ia w (1 + 1)).getD x4 0)) / nI (1 + farN (gdR l) x4 c)))]) (w3 := w) rfl rfl ?_
      refine sx_RP.step (pc2 := 62) (ls2 := [(4, .int ((peF l c j) + (ldV x1 (iN ((ia w (1 + 1)).getD x4 0)) / nI (1 + farN (gdR l) x4 c)))), (6, .ref (1 + 4 + j)), (0, .ref 0), (1, .ref 1), (2, .int (nI c)), (3, .ref (47 + c)), (5, .int (nI j))]) (st2 := []) (w3 := w) rfl rfl ?_
      refine sx_RP.step (pc2 := 65) (ls2 := [(5, .int ((nI j) + 1)), (4, .int ((peF l c j) + (ldV x1 (iN ((ia w (1 + 1)).getD x4 0)) / nI (1 + farN (gdR l) x4 c)))), (6, .ref (1 + 4 + j)), (0, .ref 0), (1, .ref 1), (2, .int (nI c)), (3, .ref (47 + c))]) (st2 := []) (w3 := w) rfl rfl ?_
      rw [nI_1 j]
      refine sx_RP.step (pc2 := 15) (ls2 := [(5, .int (nI (j + 1))), (4, .int ((peF l c j) + (ldV x1 (iN ((ia w (1 + 1)).getD x4 0)) / nI (1 + farN (gdR l) x4 c)))), (6, .ref (1 + 4 + j)), (0, .ref 0), (1, .ref 1), (2, .int (nI c)), (3, .ref (47 + c))]) (st2 := []) (w3 := w) rfl rfl ?_
      have es := hR.gr (show x4 < 48 by omega)
      obtain ⟨s9, hs9, es9⟩ : inR ((ia w 2).getD x4 0) 3 := hI.st (Or.inl rfl) (show x4 < 48 by omega)
      have e9 : peF l c j + ldV x1 (iN ((ia w (1 + 1)).getD x4 0)) / nI (1 + farN (gdR l) x4 c) = peF l c (j + 1) := by
        show _ = peF l c j + heF l c j
        rw [he_y (k := x1) (h := x4) (s := s9) hc2 (by omega) (by omega) (by omega) ((hR.ga (by rw [en, iN_n (by omega)]; omega) (by decide)).symm.trans ex3) ((hR.ga (by rw [en, iN_n (by omega)]; omega) (by decide)).symm.trans ex6) (es.symm.trans es9), show (ia w (1 + 1)).getD x4 0 = nI s9 from es9, iN_n (by omega)]
      rw [e9]
      exact sx_RP.ls (sx_lr.cons rfl (sx_lr.cons rfl (sx_lr.cons rfl (sx_lr.cons rfl (sx_lr.cons rfl (sx_lr.cons rfl sx_lr.nil)))))) (x68L hI hR hc hn en hw q (j + 1) (by omega))
    · refine sx_RP.cu (as := [.ref (1 + 4 + j), .int 0]) (rest2 := []) (st3 := [.int 0]) rfl rfl (sx_inv_v2 (mi := 68) (k := 186) (st := [.int 0, .ref (1 + 4 + j)]) (w := w) rfl rfl (hI.1.oG (gAd.of (Or.inl rfl) (show j < 10 by omega))) rfl rfl rfl) rfl rfl (x43n hI (gAd.of (Or.inl rfl) (show j < 10 by omega)) (fun z => hc2 ⟨(hR.ga (by rw [en, iN_n (by omega)]; omega) (by decide)).symm.trans z.1, (hR.ga (by rw [en, iN_n (by omega)]; omega) (by decide)).symm.trans z.2⟩)) rfl ?_
      refine sx_RP.step (pc2 := 62) (ls2 := [(6, .ref (1 + 4 + j)), (0, .ref 0), (1, .ref 1), (2, .int (nI c)), (3, .ref (47 + c)), (4, .int (peF l c j)), (5, .int (nI j))]) (st2 := []) (w3 := w) rfl rfl ?_
      refine sx_RP.step (pc2 := 65) (ls2 := [(5, .int ((nI j) + 1)), (6, .ref (1 + 4 + j)), (0, .ref 0), (1, .ref 1), (2, .int (nI c)), (3, .ref (47 + c)), (4, .int (peF l c j))]) (st2 := []) (w3 := w) rfl rfl ?_
      rw [nI_1 j]
      refine sx_RP.step (pc2 := 15) (ls2 := [(5, .int (nI (j + 1))), (6, .ref (1 + 4 + j)), (0, .ref 0), (1, .ref 1), (2, .int (nI c)), (3, .ref (47 + c)), (4, .int (peF l c j))]) (st2 := []) (w3 := w) rfl rfl ?_
      have e9 : peF l c j = peF l c (j + 1) := by show _ = peF l c j + heF l c j; rw [he_n hc2, Int32.add_zero]
      rw [e9]
      exact sx_RP.ls (sx_lr.cons rfl (sx_lr.cons rfl (sx_lr.cons rfl (sx_lr.cons rfl (sx_lr.cons rfl (sx_lr.cons rfl sx_lr.nil)))))) (x68L hI hR hc hn en hw q (j + 1) (by omega))
set_option maxRecDepth 20000 in
set_option maxHeartbeats 4000000 in
theorem X68 {xs : Option (List Int32)} {d : Nat} {w : List sx_C} (hI : WI w) (l : List Int32) (hR : rel w 1 l) (hF : FIT w 1) (hK : SK w) {c : Nat} (hc : c < 48) : sx_RP xs (d + 4) 68 0 (lv_args 0 [.ref 0, .ref 1, .int (nI c)]) [] w (fun r w2 => r = some (.int (pesF l c)) ∧ WI w2 ∧ (FIT w2 1 ∧ SK w2) ∧ ∀ a, (a < 44 ∨ 96 ≤ a) → w2[a]? = w[a]?) := by
  obtain ⟨n, hn, en⟩ := hR.n10 hI (Or.inl rfl)
  refine sx_RP.step (pc2 := 1) (ls2 := [(0, .ref 0), (1, .ref 1), (2, .int (nI c))]) (st2 := [.ref 0]) (w3 := w) rfl rfl ?_
  refine sx_RP.gf (v := .ref 44) rfl rfl hI.1.o0 rfl rfl (show _ = 4 from rfl) ?_
  refine sx_RP.step (pc2 := 5) (ls2 := [(0, .ref 0), (1, .ref 1), (2, .int (nI c))]) (st2 := [.int (nI c), .ref 44]) (w3 := w) rfl rfl ?_
  refine sx_RP.callp (as2 := [.ref 44, .int (nI c)]) (rest2 := []) rfl rfl (sx_inv_v2 (mi := 68) (k := 99) (st := [.int (nI c), .ref 44]) (w := w) rfl rfl hI.1.o44 rfl rfl rfl) rfl rfl rfl (G17 hI (show c < 48 by omega)) (show _ = 8 from rfl) ?_
  rintro r4 w4 ⟨rfl, hI5, hS1, hx2, hf3⟩
  show sx_RP _ _ _ _ _ [.ref (47 + c)] _ _
  have hR2 : rel w4 1 l := hR.same hI (Or.inl rfl) (fun a h1 h2 => hf3 a (by omega))
  have hF2 : FIT w4 1 := fun c hc => by rw [hx2.1, ia_of (hf3 (1 + 1) (by omega))]; exact hF c hc
  have hw2 : ∀ f, f < 48 → (ia w4 (47 + c)).getD f 0 = nI (farN (gdR l) f c) := fun f hf => by rw [hx2.2 hK hF.ls f hf, fit_far hF hR hf (by omega)]
  refine sx_RP.step (pc2 := 9) (ls2 := [(3, .ref (47 + c)), (0, .ref 0), (1, .ref 1), (2, .int (nI c))]) (st2 := []) (w3 := w4) rfl rfl ?_
  refine sx_RP.step (pc2 := 10) (ls2 := [(3, .ref (47 + c)), (0, .ref 0), (1, .ref 1), (2, .int (nI c))]) (st2 := [.int 0]) (w3 := w4) rfl rfl ?_
  refine sx_RP.step (pc2 := 12) (ls2 := [(4, .int 0), (3, .ref (47 + c)), (0, .ref 0), (1, .ref 1), (2, .int (nI c))]) (st2 := []) (w3 := w4) rfl rfl ?_
  refine sx_RP.step (pc2 := 13) (ls2 := [(4, .int 0), (3, .ref (47 + c)), (0, .ref 0), (1, .ref 1), (2, .int (nI c))]) (st2 := [.int 0]) (w3 := w4) rfl rfl ?_
  refine sx_RP.step (pc2 := 15) (ls2 := [(5, .int 0), (4, .int 0), (3, .ref (47 + c)), (0, .ref 0), (1, .ref 1), (2, .int (nI c))]) (st2 := []) (w3 := w4) rfl rfl ?_
  refine (sx_RP.ls (sx_lr.cons rfl (sx_lr.cons rfl (sx_lr.cons rfl (sx_lr.cons rfl (sx_lr.cons rfl (sx_lr.cons rfl sx_lr.nil)))))) (x68L hI5 hR2 hc hn en hw2 n 0 (by omega))).mono9 (fun r w2 z => ?_)
  obtain ⟨z1, z2⟩ := z
  rw [z2]
  exact ⟨by rw [z1]; unfold pesF; rw [en, iN_n (by omega)], hI5, ⟨hF2, hS1.2 hK⟩, hf3⟩
def farA (l : List Int32) (a1 a2 : Int32) : Int32 := if (0 ≤ a1 ∧ a1 ≤ 47) ∧ (0 ≤ a2 ∧ a2 ≤ 47) then nI (farN (gdR l) (iN a1) (iN a2)) else -1000000001
theorem farA_n {l : List Int32} {a1 a2 : Int32} (h : ¬ ((0 ≤ a1 ∧ a1 ≤ 47) ∧ (0 ≤ a2 ∧ a2 ≤ 47))) : farA l a1 a2 = -1000000001 := if_neg h
theorem farA_y {l : List Int32} {f t : Nat} (hf : f < 48) (ht : t < 48) : farA l (nI f) (nI t) = nI (farN (gdR l) f t) := by
  unfold farA
  rw [if_pos ⟨⟨nI_le (a := 0) (Nat.zero_le _) (by omega), nI_le (b := 47) (by omega) (by decide)⟩, nI_le (a := 0) (Nat.zero_le _) (by omega), nI_le (b := 47) (by omega) (by decide)⟩, iN_n (by omega), iN_n (by omega)]
set_option maxRecDepth 20000 in
set_option maxHeartbeats 4000000 in
theorem A15 {xs : Option (List Int32)} {d : Nat} {w : List sx_C} (hI : WI w) (l : List Int32) (hR : rel w 1 l) (hK : SK w) (a1 a2 : Int32) : sx_RP xs (d + 7) 15 0 (lv_args 0 [.ref 0, .int a1, .int a2]) [] w (fun r w2 => r = some (.int (farA l a1 a2)) ∧ WI w2) := by
  refine sx_RP.step (pc2 := 1) (ls2 := [(0, .ref 0), (1, .int a1), (2, .int a2)]) (st2 := [.int a1]) (w3 := w) rfl rfl ?_
  rcases in_cases a1 0 47 (m := 0) (n := 47) rfl rfl (by decide) (by decide) with q1 | ⟨x2, hx3, hx4, rfl⟩
  · refine sx_RP.cu (as := [.int a1]) (rest2 := []) (st3 := [.int 0]) rfl rfl rfl rfl rfl (cx_7n q1) rfl ?_
    refine sx_RP.step (pc2 := 14) (ls2 := [(0, .ref 0), (1, .int a1), (2, .int a2)]) (st2 := []) (w3 := w) rfl rfl ?_
    refine sx_RP.step (pc2 := 15) (ls2 := [(0, .ref 0), (1, .int a1), (2, .int a2)]) (st2 := [.ref 0]) (w3 := w) rfl rfl ?_
    refine sx_RP.step (pc2 := 17) (ls2 := [(0, .ref 0), (1, .int a1), (2, .int a2)]) (st2 := [.int (-1000000001), .ref 0]) (w3 := w) rfl rfl ?_
    refine sx_RP.callp (as2 := [.ref 0, .int (-1000000001)]) (rest2 := []) rfl rfl (sx_inv_v2 (mi := 15) (k := 78) (st := [.int (-1000000001), .ref 0]) (w := w) rfl rfl hI.1.o0 rfl rfl rfl) rfl rfl rfl (S9_0 hI) (show _ = 20 from rfl) ?_
    rintro r4 w7 ⟨rfl, hI8, hs6⟩
    show sx_RP _ _ _ _ _ [.int (-1000000001)] _ _
    refine sx_RP.ret (r := (some (.int (-1000000001)))) rfl rfl ?_
    exact ⟨by rw [farA_n (fun z => q1 z.1)], hI8⟩
  · refine sx_RP.cu (as := [.int (nI x2)]) (rest2 := []) (st3 := [.int 1]) rfl rfl rfl rfl rfl (cx_7p ⟨nI_le (a := 0) hx3 (by omega), nI_le (b := 47) hx4 (by decide)⟩) rfl ?_
    refine sx_RP.step (pc2 := 7) (ls2 := [(0, .ref 0), (1, .int (nI x2)), (2, .int a2)]) (st2 := []) (w3 := w) rfl rfl ?_
    refine sx_RP.step (pc2 := 8) (ls2 := [(0, .ref 0), (1, .int (nI x2)), (2, .int a2)]) (st2 := [.int a2]) (w3 := w) rfl rfl ?_
    rcases in_cases a2 0 47 (m := 0) (n := 47) rfl rfl (by decide) (by decide) with q9 | ⟨x10, hx11, hx12, rfl⟩
    · refine sx_RP.cu (as := [.int a2]) (rest2 := []) (st3 := [.int 0]) rfl rfl rfl rfl rfl (cx_7n q9) rfl ?_
      refine sx_RP.step (pc2 := 14) (ls2 := [(0, .ref 0), (1, .int (nI x2)), (2, .int a2)]) (st2 := []) (w3 := w) rfl rfl ?_
      refine sx_RP.step (pc2 := 15) (ls2 := [(0, .ref 0), (1, .int (nI x2)), (2, .int a2)]) (st2 := [.ref 0]) (w3 := w) rfl rfl ?_
      refine sx_RP.step (pc2 := 17) (ls2 := [(0, .ref 0), (1, .int (nI x2)), (2, .int a2)]) (st2 := [.int (-1000000001), .ref 0]) (w3 := w) rfl rfl ?_
      refine sx_RP.callp (as2 := [.ref 0, .int (-1000000001)]) (rest2 := []) rfl rfl (sx_inv_v2 (mi := 15) (k := 78) (st := [.int (-1000000001), .ref 0]) (w := w) rfl rfl hI.1.o0 rfl rfl rfl) rfl rfl rfl (S9_0 hI) (show _ = 20 from rfl) ?_
      rintro r4 w15 ⟨rfl, hI16, hs14⟩
      show sx_RP _ _ _ _ _ [.int (-1000000001)] _ _
      refine sx_RP.ret (r := (some (.int (-1000000001)))) rfl rfl ?_
      exact ⟨by rw [farA_n (fun z => q9 z.2)], hI16⟩
    · refine sx_RP.cu (as := [.int (nI x10)]) (rest2 := []) (st3 := [.int 1]) rfl rfl rfl rfl rfl (cx_7p ⟨nI_le (a := 0) hx11 (by omega), nI_le (b := 47) hx12 (by decide)⟩) rfl ?_
      refine sx_RP.step (pc2 := 21) (ls2 := [(0, .ref 0), (1, .int (nI x2)), (2, .int (nI x10))]) (st2 := []) (w3 := w) rfl rfl ?_
      refine sx_RP.step (pc2 := 22) (ls2 := [(0, .ref 0), (1, .int (nI x2)), (2, .int (nI x10))]) (st2 := [.ref 0]) (w3 := w) rfl rfl ?_
      refine sx_RP.gf (v := .ref 44) rfl rfl hI.1.o0 rfl rfl (show _ = 25 from rfl) ?_
      refine sx_RP.step (pc2 := 26) (ls2 := [(0, .ref 0), (1, .int (nI x2)), (2, .int (nI x10))]) (st2 := [.ref 0, .ref 44]) (w3 := w) rfl rfl ?_
      refine sx_RP.gf (v := .ref 1) rfl rfl hI.1.o0 rfl rfl (show _ = 29 from rfl) ?_
      refine sx_RP.gref (k := 0) (b := 2) hI (Or.inl rfl) rfl rfl (by omega) (show _ = 32 from rfl) ?_
      refine sx_RP.callp (as2 := [.ref 44, .ref 2]) (rest2 := []) rfl rfl (sx_inv_v2 (mi := 15) (k := 95) (st := [.ref 2, .ref 44]) (w := w) rfl rfl hI.1.o44 rfl rfl rfl) rfl rfl rfl (G16 (A := 1) hI (Or.inl rfl)) (show _ = 35 from rfl) ?_
      rintro r4 w20 ⟨rfl, hI21, hS17, hF18, hf19⟩
      show sx_RP _ _ _ _ _ [] _ _
      have hR1 : rel w20 1 l := hR.same hI (Or.inl rfl) (fun a h1 h2 => hf19 a (by omega))
      refine sx_RP.step (pc2 := 36) (ls2 := [(0, .ref 0), (1, .int (nI x2)), (2, .int (nI x10))]) (st2 := [.ref 0]) (w3 := w20) rfl rfl ?_
      refine sx_RP.gf (v := .ref 44) rfl rfl hI21.1.o0 rfl rfl (show _ = 39 from rfl) ?_
      refine sx_RP.step (pc2 := 40) (ls2 := [(0, .ref 0), (1, .int (nI x2)), (2, .int (nI x10))]) (st2 := [.int (nI x10), .ref 44]) (w3 := w20) rfl rfl ?_
      refine sx_RP.callp (as2 := [.ref 44, .int (nI x10)]) (rest2 := []) rfl rfl (sx_inv_v2 (mi := 15) (k := 99) (st := [.int (nI x10), .ref 44]) (w := w20) rfl rfl hI21.1.o44 rfl rfl rfl) rfl rfl rfl (G17 hI21 (show x10 < 48 by omega)) (show _ = 43 from rfl) ?_
      rintro r4 w25 ⟨rfl, hI26, hS22, hx23, hf24⟩
      show sx_RP _ _ _ _ _ [.ref (47 + x10)] _ _
      refine sx_RP.step (pc2 := 44) (ls2 := [(0, .ref 0), (1, .int (nI x2)), (2, .int (nI x10))]) (st2 := [.int (nI x2), .ref (47 + x10)]) (w3 := w25) rfl rfl ?_
      refine sx_RP.ild (c := x2) rfl (hI26.1.aR (show x10 < 48 by omega)).1 (hI26.1.aR (show x10 < 48 by omega)).2 (sx_in_nI (show x2 < 48 by omega) (by decide)) (show (nI x2).toNatClampNeg = x2 from nI_clamp (by omega)) (show _ = 45 from rfl) ?_
      refine sx_RP.ret (r := (some (.int ((ia w25 (47 + x10)).getD x2 0)))) rfl rfl ?_
      exact ⟨by rw [farA_y (by omega) (by omega), hx23.2 (hS17.2 hK) hF18.ls _ (by omega), fit_far hF18 hR1 (by omega) (by omega)], hI26⟩
set_option maxRecDepth 20000 in
set_option maxHeartbeats 4000000 in
theorem A140 {xs : Option (List Int32)} {d : Nat} {w : List sx_C} (hI : WI w) (a1 a2 : Int32) : sx_RP xs (d + 7) 140 0 (lv_args 0 [.ref 111, .int a1, .int a2]) [] w (fun r w2 => r = some (.int (farA (ia w 112) a1 a2)) ∧ WI w2) := by
  refine sx_RP.step (pc2 := 1) (ls2 := [(0, .ref 111), (1, .int a1), (2, .int a2)]) (st2 := [.int a1]) (w3 := w) rfl rfl ?_
  rcases in_cases a1 0 47 (m := 0) (n := 47) rfl rfl (by decide) (by decide) with q1 | ⟨x2, hx3, hx4, rfl⟩
  · refine sx_RP.cu (as := [.int a1]) (rest2 := []) (st3 := [.int 0]) rfl rfl rfl rfl rfl (cx_131n q1) rfl ?_
    refine sx_RP.step (pc2 := 14) (ls2 := [(0, .ref 111), (1, .int a1), (2, .int a2)]) (st2 := []) (w3 := w) rfl rfl ?_
    refine sx_RP.step (pc2 := 15) (ls2 := [(0, .ref 111), (1, .int a1), (2, .int a2)]) (st2 := [.ref 111]) (w3 := w) rfl rfl ?_
    refine sx_RP.step (pc2 := 16) (ls2 := [(0, .ref 111), (1, .int a1), (2, .int a2)]) (st2 := [.int 0, .ref 111]) (w3 := w) rfl rfl ?_
    refine sx_RP.callp (as2 := [.ref 111, .int 0]) (rest2 := []) rfl rfl (sx_inv_v2 (mi := 140) (k := 70) (st := [.int 0, .ref 111]) (w := w) rfl rfl hI.1.o111 rfl rfl rfl) rfl rfl rfl (S133_0 hI) (show _ = 19 from rfl) ?_
    rintro r4 w7 ⟨rfl, hI8, hs6⟩
    show sx_RP _ _ _ _ _ [.int (-1000000001)] _ _
    refine sx_RP.ret (r := (some (.int (-1000000001)))) rfl rfl ?_
    exact ⟨by rw [farA_n (fun z => q1 z.1)], hI8⟩
  · refine sx_RP.cu (as := [.int (nI x2)]) (rest2 := []) (st3 := [.int 1]) rfl rfl rfl rfl rfl (cx_131p ⟨nI_le (a := 0) hx3 (by omega), nI_le (b := 47) hx4 (by decide)⟩) rfl ?_
    refine sx_RP.step (pc2 := 7) (ls2 := [(0, .ref 111), (1, .int (nI x2)), (2, .int a2)]) (st2 := []) (w3 := w) rfl rfl ?_
    refine sx_RP.step (pc2 := 8) (ls2 := [(0, .ref 111), (1, .int (nI x2)), (2, .int a2)]) (st2 := [.int a2]) (w3 := w) rfl rfl ?_
    rcases in_cases a2 0 47 (m := 0) (n := 47) rfl rfl (by decide) (by decide) with q9 | ⟨x10, hx11, hx12, rfl⟩
    · refine sx_RP.cu (as := [.int a2]) (rest2 := []) (st3 := [.int 0]) rfl rfl rfl rfl rfl (cx_131n q9) rfl ?_
      refine sx_RP.step (pc2 := 14) (ls2 := [(0, .ref 111), (1, .int (nI x2)), (2, .int a2)]) (st2 := []) (w3 := w) rfl rfl ?_
      refine sx_RP.step (pc2 := 15) (ls2 := [(0, .ref 111), (1, .int (nI x2)), (2, .int a2)]) (st2 := [.ref 111]) (w3 := w) rfl rfl ?_
      refine sx_RP.step (pc2 := 16) (ls2 := [(0, .ref 111), (1, .int (nI x2)), (2, .int a2)]) (st2 := [.int 0, .ref 111]) (w3 := w) rfl rfl ?_
      refine sx_RP.callp (as2 := [.ref 111, .int 0]) (rest2 := []) rfl rfl (sx_inv_v2 (mi := 140) (k := 70) (st := [.int 0, .ref 111]) (w := w) rfl rfl hI.1.o111 rfl rfl rfl) rfl rfl rfl (S133_0 hI) (show _ = 19 from rfl) ?_
      rintro r4 w15 ⟨rfl, hI16, hs14⟩
      show sx_RP _ _ _ _ _ [.int (-1000000001)] _ _
      refine sx_RP.ret (r := (some (.int (-1000000001)))) rfl rfl ?_
      exact ⟨by rw [farA_n (fun z => q9 z.2)], hI16⟩
    · refine sx_RP.cu (as := [.int (nI x10)]) (rest2 := []) (st3 := [.int 1]) rfl rfl rfl rfl rfl (cx_131p ⟨nI_le (a := 0) hx11 (by omega), nI_le (b := 47) hx12 (by decide)⟩) rfl ?_
      refine sx_RP.step (pc2 := 20) (ls2 := [(0, .ref 111), (1, .int (nI x2)), (2, .int (nI x10))]) (st2 := []) (w3 := w) rfl rfl ?_
      refine sx_RP.step (pc2 := 21) (ls2 := [(0, .ref 111), (1, .int (nI x2)), (2, .int (nI x10))]) (st2 := [.ref 111]) (w3 := w) rfl rfl ?_
      refine sx_RP.step (pc2 := 22) (ls2 := [(0, .ref 111), (1, .int (nI x2)), (2, .int (nI x10))]) (st2 := [.int (nI x2), .ref 111]) (w3 := w) rfl rfl ?_
      refine sx_RP.step (pc2 := 23) (ls2 := [(0, .ref 111), (1, .int (nI x2)), (2, .int (nI x10))]) (st2 := [.int (-1), .int (nI x2), .ref 111]) (w3 := w) rfl rfl ?_
      refine sx_RP.callp (as2 := [.ref 111, .int (nI x2), .int (-1)]) (rest2 := []) rfl rfl (sx_inv_v2 (mi := 140) (k := 94) (st := [.int (-1), .int (nI x2), .ref 111]) (w := w) rfl rfl hI.1.o111 rfl rfl rfl) rfl rfl rfl (X141s hI (show x2 < 48 by omega)) (show _ = 26 from rfl) ?_
      rintro r4 w19 ⟨⟨rfl, hw17⟩, hI20, hf18⟩
      show sx_RP _ _ _ _ _ [] _ _
      refine sx_RP.step (pc2 := 27) (ls2 := [(0, .ref 111), (1, .int (nI x2)), (2, .int (nI x10))]) (st2 := [.ref 111]) (w3 := w19) rfl rfl ?_
      refine sx_RP.gf (v := .ref 117) rfl rfl hI20.1.o111 rfl rfl (show _ = 30 from rfl) ?_
      refine sx_RP.step (pc2 := 31) (ls2 := [(0, .ref 111), (1, .int (nI x2)), (2, .int (nI x10))]) (st2 := [.int (nI x10), .ref 117]) (w3 := w19) rfl rfl ?_
      refine sx_RP.ild (c := x10) rfl hI20.1.a117.1 hI20.1.a117.2 (sx_in_nI (show x10 < 48 by omega) (by decide)) (show (nI x10).toNatClampNeg = x10 from nI_clamp (by omega)) (show _ = 32 from rfl) ?_
      refine sx_RP.ret (r := (some (.int ((ia w19 117).getD x10 0)))) rfl rfl ?_
      exact ⟨by rw [farA_y (by omega) (by omega), hw17 _ (by omega)], hI20⟩
