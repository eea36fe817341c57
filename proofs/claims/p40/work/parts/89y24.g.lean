-- 89y24.peas1.lean.txt
section
set_option maxRecDepth 20000 in
set_option maxHeartbeats 4000000 in
theorem x69 {xs : Option (List Int32)} {d : Nat} {w : List sx_C} (hI : WI w) {k h t F : Nat} (hk : k ≤ 5) (hh : h < 48) (ht : t < 48) (hF : F ≤ 3000) (eF : (ia w (47 + t)).getD h 0 = nI F) : sx_RU xs (d + 2) 69 0 (lv_args 0 [.ref 0, .int (nI k), .int (nI h), .ref (47 + t)]) [] w (some (.int (ldV k (iN ((ia w (1 + 1)).getD h 0)) / nI (1 + F)))) w := by
  have h : sx_RP xs (d + 2) 69 0 (lv_args 0 [.ref 0, .int (nI k), .int (nI h), .ref (47 + t)]) [] w (fun r9 w2 => r9 = some (.int (ldV k (iN ((ia w (1 + 1)).getD h 0)) / nI (1 + F))) ∧ w2 = w) := by
    refine sx_RP.step (pc2 := 1) (ls2 := [(0, .ref 0), (1, .int (nI k)), (2, .int (nI h)), (3, .ref (47 + t))]) (st2 := [.int 1]) (w3 := w) rfl rfl ?_
    refine sx_RP.step (pc2 := 2) (ls2 := [(0, .ref 0), (1, .int (nI k)), (2, .int (nI h)), (3, .ref (47 + t))]) (st2 := [.ref (47 + t), .int 1]) (w3 := w) rfl rfl ?_
    refine sx_RP.step (pc2 := 3) (ls2 := [(0, .ref 0), (1, .int (nI k)), (2, .int (nI h)), (3, .ref (47 + t))]) (st2 := [.int (nI h), .ref (47 + t), .int 1]) (w3 := w) rfl rfl ?_
    refine sx_RP.ild (c := h) rfl (hI.1.aR (show t < 48 by omega)).1 (hI.1.aR (show t < 48 by omega)).2 (sx_in_nI (show h < 48 by omega) (by decide)) (show (nI h).toNatClampNeg = h from nI_clamp (by omega)) (show _ = 4 from rfl) ?_
    rw [eF]
    refine sx_RP.step (pc2 := 5) (ls2 := [(0, .ref 0), (1, .int (nI k)), (2, .int (nI h)), (3, .ref (47 + t))]) (st2 := [.int (1 + (nI F))]) (w3 := w) rfl rfl ?_
    rw [show (1 + (nI F) : Int32) = nI (1 + F) from nI_add 1 F]
    refine sx_RP.step (pc2 := 7) (ls2 := [(4, .int (nI (1 + F))), (0, .ref 0), (1, .int (nI k)), (2, .int (nI h)), (3, .ref (47 + t))]) (st2 := []) (w3 := w) rfl rfl ?_
    refine sx_RP.step (pc2 := 9) (ls2 := [(4, .int (nI (1 + F))), (0, .ref 0), (1, .int (nI k)), (2, .int (nI h)), (3, .ref (47 + t))]) (st2 := [.int (nI (1 + F))]) (w3 := w) rfl rfl ?_
    refine sx_RP.step (pc2 := 10) (ls2 := [(4, .int (nI (1 + F))), (0, .ref 0), (1, .int (nI k)), (2, .int (nI h)), (3, .ref (47 + t))]) (st2 := [.int 1, .int (nI (1 + F))]) (w3 := w) rfl rfl ?_
    refine sx_RP.br (p1 := 17) (l1 := [(4, .int (nI (1 + F))), (0, .ref 0), (1, .int (nI k)), (2, .int (nI h)), (3, .ref (47 + t))]) (s1 := []) (v1 := w) rfl rfl (fun _ => ?_) (fun q => absurd (nI_le (a := 1) (b := 1 + F) (by omega) (by omega)) (of_decide_eq_false q))
    refine sx_RP.step (pc2 := 18) (ls2 := [(4, .int (nI (1 + F))), (0, .ref 0), (1, .int (nI k)), (2, .int (nI h)), (3, .ref (47 + t))]) (st2 := [.ref 0]) (w3 := w) rfl rfl ?_
    refine sx_RP.gf (v := .ref 1) rfl rfl hI.1.o0 rfl rfl (show _ = 21 from rfl) ?_
    refine sx_RP.step (pc2 := 22) (ls2 := [(4, .int (nI (1 + F))), (0, .ref 0), (1, .int (nI k)), (2, .int (nI h)), (3, .ref (47 + t))]) (st2 := [.int (nI k), .ref 1]) (w3 := w) rfl rfl ?_
    refine sx_RP.step (pc2 := 23) (ls2 := [(4, .int (nI (1 + F))), (0, .ref 0), (1, .int (nI k)), (2, .int (nI h)), (3, .ref (47 + t))]) (st2 := [.int (nI h), .int (nI k), .ref 1]) (w3 := w) rfl rfl ?_
    refine sx_RP.cu (as := [.ref 1, .int (nI k), .int (nI h)]) (rest2 := []) (st3 := [.int (ldV k (iN ((ia w (1 + 1)).getD h 0)))]) rfl rfl (sx_inv_v2 (mi := 69) (k := 157) (st := [.int (nI h), .int (nI k), .ref 1]) (w := w) rfl rfl (hI.1.oC (Or.inl rfl)) rfl rfl rfl) rfl rfl (x35 hI (Or.inl rfl) hk hh) rfl ?_
    refine sx_RP.step (pc2 := 28) (ls2 := [(4, .int (nI (1 + F))), (0, .ref 0), (1, .int (nI k)), (2, .int (nI h)), (3, .ref (47 + t))]) (st2 := [.int (nI (1 + F)), .int (ldV k (iN ((ia w (1 + 1)).getD h 0)))]) (w3 := w) rfl rfl ?_
    refine sx_RP.idiv (pc2 := 29) rfl (fun z => absurd ((nI_eq (a := 1 + F) (b := 0) (by omega) (by decide)).mp z) (by omega)) rfl ?_
    refine sx_RP.ret (r := (some (.int ((ldV k (iN ((ia w (1 + 1)).getD h 0))) / (nI (1 + F)))))) rfl rfl ?_
    exact ⟨rfl, rfl⟩
  obtain ⟨r9, w2, h1, rfl, rfl⟩ := h
  exact h1
set_option maxRecDepth 20000 in
set_option maxHeartbeats 4000000 in
theorem x68L {xs : Option (List Int32)} {d c n : Nat} {w : List sx_C} {l : List Int32} (hI : WI w) (hR : rel w 1 l) (hc : c < 48) (hn : n ≤ 10) (en : l.getD 1 0 = nI n) (hw : ∀ f, f < 48 → (ia w (47 + c)).getD f 0 = nI (farN (gdR l) f c)) : ∀ (q j : Nat), j + q = n → sx_RP xs (d + 4) 68 15 [(0, .ref 0), (1, .ref 1), (2, .int (nI c)), (3, .ref (47 + c)), (4, .int (peF l c j)), (5, .int (nI j))] [] w (fun r w2 => r = some (.int (peF l c n)) ∧ w2 = w)
  | 0, j, hj => by
    obtain rfl : j = n := by omega
    refine sx_RP.step (pc2 := 17) (ls2 := [(0, .ref 0), (1, .ref 1), (2, .int (nI c)), (3, .ref (47 + c)), (4, .int (peF l c j)), (5, .int (nI j))]) (st2 := [.int (nI j)]) (w3 := w) rfl rfl ?_
    refine sx_RP.step (pc2 := 18) (ls2 := [(0, .ref 0), (1, .ref 1), (2, .int (nI c)), (3, .ref (47 + c)), (4, .int (peF l c j)), (5, .int (nI j))]) (st2 := [.ref 1, .int (nI j)]) (w3 := w) rfl rfl ?_
    refine sx_RP.gc (k := 3) hI (Or.inl rfl) rfl rfl (by omega) (show _ = 21 from rfl) ?_
    rw [(hR.many.trans en)]
    refine sx_RP.br (p1 := 68) (l1 := [(0, .ref 0), (1, .ref 1), (2, .int (nI c)), (3, .ref (47 + c)), (4, .int (peF l c j)), (5, .int (nI j))]) (s1 := []) (v1 := w) rfl rfl (fun _ => ?_) (fun q => absurd (nI_le (a := j) (b := j) (by omega) (by omega)) (of_decide_eq_false q))
    refine sx_RP.step (pc2 := 70) (ls2 := [(0, .ref 0), (1, .ref 1), (2, .int (nI c)), (3, .ref (47 + c)), (4, .int (peF l c j)), (5, .int (nI j))]) (st2 := [.int (peF l c j)]) (w3 := w) rfl rfl ?_
    refine sx_RP.ret (r := (some (.int (peF l c j)))) rfl rfl ?_
    exact ⟨rfl, rfl⟩
  | q + 1, j, hj => by
    refine sx_RP.step (pc2 := 17) (ls2 := [(0, .ref 0), (1, .ref 1), (2, .int (nI c)), (3, .ref (47 + c)), (4, .int (peF l c j)), (5, .int (nI j))]) (st2 := [.int (nI j)]) (w3 := w) rfl rfl ?_
    refine sx_RP.step (pc2 := 18) (ls2 := [(0, .ref 0), (1, .ref 1), (2, .int (nI c)), (3, .ref (47 + c)), (4, .int (peF l c j)), (5, .int (nI j))]) (st2 := [.ref 1, .int (nI j)]) (w3 := w) rfl rfl ?_
    refine sx_RP.gc (k := 3) hI (Or.inl rfl) rfl rfl (by omega) (show _ = 21 from rfl) ?_
    rw [(hR.many.trans en)]
    refine sx_RP.br (p2 := 24) (l2 := [(0, .ref 0), (1, .ref 1), (2, .int (nI c)), (3, .ref (47 + c)), (4, .int (peF l c j)), (5, .int (nI j))]) (s2 := []) (v2 := w) rfl rfl (fun q => absurd (of_decide_eq_true q) (fun z => absurd ((nI_leI (a := n) (b := j) (by omega) (by omega)).mp z) (by omega))) (fun _ => ?_)
    refine sx_RP.step (pc2 := 25) (ls2 := [(0, .ref 0), (1, .ref 1), (2, .int (nI c)), (3, .ref (47 + c)), (4, .int (peF l c j)), (5, .int (nI j))]) (st2 := [.ref 1]) (w3 := w) rfl rfl ?_
    refine sx_RP.gref (k := 2) (b := 3) hI (Or.inl rfl) rfl rfl (by omega) (show _ = 28 from rfl) ?_
    refine sx_RP.step (pc2 := 30) (ls2 := [(0, .ref 0), (1, .ref 1), (2, .int (nI c)), (3, .ref (47 + c)), (4, .int (peF l c j)), (5, .int (nI j))]) (st2 := [.int (nI j), .ref 3]) (w3 := w) rfl rfl ?_
    refine sx_RP.ald (v := .ref (1 + 4 + j)) rfl (hI.1.aG (Or.inl rfl)) rfl (grA_at (show j < 10 by omega)) (show _ = 31 from rfl) ?_
    refine sx_RP.step (pc2 := 33) (ls2 := [(6, .ref (1 + 4 + j)), (0, .ref 0), (1, .ref 1), (2, .int (nI c)), (3, .ref (47 + c)), (4, .int (peF l c j)), (5, .int (nI j))]) (st2 := []) (w3 := w) rfl rfl ?_
    refine sx_RP.step (pc2 := 35) (ls2 := [(6, .ref (1 + 4 + j)), (0, .ref 0), (1, .ref 1), (2, .int (nI c)), (3, .ref (47 + c)), (4, .int (peF l c j)), (5, .int (nI j))]) (st2 := [.ref (1 + 4 + j)]) (w3 := w) rfl rfl ?_
    refine sx_RP.step (pc2 := 36) (ls2 := [(6, .ref (1 + 4 + j)), (0, .ref 0), (1, .ref 1), (2, .int (nI c)), (3, .ref (47 + c)), (4, .int (peF l c j)), (5, .int (nI j))]) (st2 := [.int 0, .ref (1 + 4 + j)]) (w3 := w) rfl rfl ?_
    rcases Decidable.em (gF l j 1 = 0 ∧ gF l j 5 = 0) with hc2 | hc2
    · refine sx_RP.cu (as := [.ref (1 + 4 + j), .int 0]) (rest2 := []) (st3 := [.int 1]) rfl rfl (sx_inv_v2 (mi := 68) (k := 186) (st := [.int 0, .ref (1 + 4 + j)]) (w := w) rfl rfl (hI.1.oG (gAd.of (Or.inl rfl) (show j < 10 by omega))) rfl rfl rfl) rfl rfl (x43y hI (gAd.of (Or.inl rfl) (show j < 10 by omega)) ⟨(hR.ga (by rw [en, iN_n (by omega)]; omega) (by decide)).trans hc2.1, (hR.ga (by rw [en, iN_n (by omega)]; omega) (by decide)).trans hc2.2⟩) rfl ?_
      refine sx_RP.step (pc2 := 42) (ls2 := [(6, .ref (1 + 4 + j)), (0, .ref 0), (1, .ref 1), (2, .int (nI c)), (3, .ref (47 + c)), (4, .int (peF l c j)), (5, .int (nI j))]) (st2 := []) (w3 := w) rfl rfl ?_
      refine sx_RP.step (pc2 := 44) (ls2 := [(6, .ref (1 + 4 + j)), (0, .ref 0), (1, .ref 1), (2, .int (nI c)), (3, .ref (47 + c)), (4, .int (peF l c j)), (5, .int (nI j))]) (st2 := [.int (peF l c j)]) (w3 := w) rfl rfl ?_
      refine sx_RP.step (pc2 := 45) (ls2 := [(6, .ref (1 + 4 + j)), (0, .ref 0), (1, .ref 1), (2, .int (nI c)), (3, .ref (47 + c)), (4, .int (peF l c j)), (5, .int (nI j))]) (st2 := [.ref 0, .int (peF l c j)]) (w3 := w) rfl rfl ?_
      refine sx_RP.step (pc2 := 47) (ls2 := [(6, .ref (1 + 4 + j)), (0, .ref 0), (1, .ref 1), (2, .int (nI c)), (3, .ref (47 + c)), (4, .int (peF l c j)), (5, .int (nI j))]) (st2 := [.ref (1 + 4 + j), .ref 0, .int (peF l c j)]) (w3 := w) rfl rfl ?_
      refine sx_RP.gg (k := 0) hI (gAd.of (Or.inl rfl) (show j < 10 by omega)) rfl rfl (by decide) (show _ = 50 from rfl) ?_
      obtain ⟨x1, hx2, ex3⟩ : inR (fi w (1 + 4 + j) 0) 5 := hI.gk (k := 0) (gAd.of (Or.inl rfl) (show j < 10 by omega)) (by decide)
      rw [ex3]
      refine sx_RP.step (pc2 := 52) (ls2 := [(6, .ref (1 + 4 + j)), (0, .ref 0), (1, .ref 1), (2, .int (nI c)), (3, .ref (47 + c)), (4, .int (peF l c j)), (5, .int (nI j))]) (st2 := [.ref (1 + 4 + j), .int (nI x1), .ref 0, .int (peF l c j)]) (w3 := w) rfl rfl ?_
      refine sx_RP.gg (k := 2) hI (gAd.of (Or.inl rfl) (show j < 10 by omega)) rfl rfl (by decide) (show _ = 55 from rfl) ?_
      obtain ⟨x4, hx5, ex6⟩ : inR (fi w (1 + 4 + j) 2) 47 := hI.gk (k := 2) (gAd.of (Or.inl rfl) (show j < 10 by omega)) (by decide)
      rw [ex6]
      refine sx_RP.step (pc2 := 56) (ls2 := [(6, .ref (1 + 4 + j)), (0, .ref 0), (1, .ref 1), (2, .int (nI c)), (3, .ref (47 + c)), (4, .int (peF l c j)), (5, .int (nI j))]) (st2 := [.ref (47 + c), .int (nI x4), .int (nI x1), .ref 0, .int (peF l c j)]) (w3 := w) rfl rfl ?_
      refine sx_RP.cu (as := [.ref 0, .int (nI x1), .int (nI x4), .ref (47 + c)]) (rest2 := [.int (peF l c j)]) (st3 := [.int (ldV x1 (iN ((ia w (1 + 1)).getD x4 0)) / nI (1 + farN (gdR l) x4 c)), .int (peF l c j)]) rfl rfl (sx_inv_v2 (mi := 68) (k := 235) (st := [.ref (47 + c), .int (nI x4), .int (nI x1), .ref 0, .int (peF l c j)]) (w := w) rfl rfl hI.1.o0 rfl rfl rfl) rfl rfl (x69 hI (show x1 ≤ 5 by omega) (show x4 < 48 by omega) hc (far_fin _ (show x4 < 48 by omega) hc) (hw x4 (by omega))) rfl ?_
      refine sx_RP.step (pc2 := 60) (ls2 := [(6, .ref (1 + 4 + j)), (0, .ref 0), (1, .ref 1), (2, .int (nI c)), (3, .ref (47 + c)), (4, .int (peF l c j)), (5, .int (nI j))]) (st2 := [.int ((peF l c j) + (ldV x1 (iN ((ia w (1 + 1)).getD x4 0)) / nI (1 + farN (gdR l) x4 c)))]) (w3 := w) rfl rfl ?_
      refine sx_RP.step (pc2 := 62) (ls2 := [(4, .int ((peF l c j) + (ldV x1 (iN ((ia w (1 + 1)).getD x4 0)) / nI (1 + farN (gdR l) x4 c)))), (6, .ref (1 + 4 + j)), (0, .ref 0), (1, .ref 1), (2, .int (nI c)), (3, .ref (47 + c)), (5, .int (nI j))]) (st2 := []) (w3 := w) rfl rfl ?_
      refine sx_RP.step (pc2 := 65) (ls2 := [(5, .int ((nI j) + 1)), (4, .int ((peF l c j) + (ldV x1 (iN ((ia w (1 + 1)).getD x4 0)) / nI (1 + farN (gdR l) x4 c)))), (6, .ref (1 + 4 + j)), (0, .ref 0), (1, .ref 1), (2, .int (nI c)), (3, .ref (47 + c))]) (st2 := []) (w3 := w) rfl rfl ?_
      rw [nI_1 j]
      refine sx_RP.step (pc2 := 15) (ls2 := [(5, .int (nI (j + 1))), (4, .int ((peF l c j) + (ldV x1 (iN ((ia w (1 + 1)).getD x4 0)) / nI (1 + farN (gdR l) x4 c)))), (6, .ref (1 + 4 + j)), (0, .ref 0), (1, .ref 1), (2, .int (nI c)), (3, .ref (47 + c))]) (st2 := []) (w3 := w) rfl rfl ?_
      have es := hR.gr (show x4 < 48 by omega)
      obtain ⟨s9, hs9, es9⟩ : inR ((ia w 2).getD x4 0) 3 := hI.st (Or.inl rfl) (show x4 < 48 by omega)
      have e9 : peF l c j + ldV x1 (iN ((ia w (1 + 1)).getD x4 0)) / nI (1 + farN (gdR l) x4 c) = peF l c (j + 1) := by
        show _ = peF l c j + heF l c j
        rw [he_y (k := x1) (h := x4) (s := s9) hc2 (by omega) (by omega) (by omega) ((hR.ga (by rw [en, iN_n (by omega)]; omega) (by decide)).symm.trans ex3) ((hR.ga (by rw [en, iN_n (by omega)]; omega) (by decide)).symm.trans ex6) (es.symm.trans es9), show (ia w (1 + 1)).getD x4 0 = nI s9 from es9, iN_n (by omega)]
      rw [e9]
      exact sx_RP.ls (sx_lr.cons rfl (sx_lr.cons rfl (sx_lr.cons rfl (sx_lr.cons rfl (sx_lr.cons rfl (sx_lr.cons rfl sx_lr.nil)))))) (x68L hI hR hc hn en hw q (j + 1) (by omega))
    · refine sx_RP.cu (as := [.ref (1 + 4 + j), .int 0]) (rest2 := []) (st3 := [.int 0]) rfl rfl (sx_inv_v2 (mi := 68) (k := 186) (st := [.int 0, .ref (1 + 4 + j)]) (w := w) rfl rfl (hI.1.oG (gAd.of (Or.inl rfl) (show j < 10 by omega))) rfl rfl rfl) rfl rfl (x43n hI (gAd.of (Or.inl rfl) (show j < 10 by omega)) (fun z => hc2 ⟨(hR.ga (by rw [en, iN_n (by omega)]; omega) (by decide)).symm.trans z.1, (hR.ga (by rw [en, iN_n (by omega)]; omega) (by decide)).symm.trans z.2⟩)) rfl ?_
      refine sx_RP.step (pc2 := 62) (ls2 := [(6, .ref (1 + 4 + j)), (0, .ref 0), (1, .ref 1), (2, .int (nI c)), (3, .ref (47 + c)), (4, .int (peF l c j)), (5, .int (nI j))]) (st2 := []) (w3 := w) rfl rfl ?_
      refine sx_RP.step (pc2 := 65) (ls2 := [(5, .int ((nI j) + 1)), (6, .ref (1 + 4 + j)), (0, .ref 0), (1, .ref 1), (2, .int (nI c)), (3, .ref (47 + c)), (4, .int (peF l c j))]) (st2 := []) (w3 := w) rfl rfl ?_
      rw [nI_1 j]
      refine sx_RP.step (pc2 := 15) (ls2 := [(5, .int (nI (j + 1))), (6, .ref (1 + 4 + j)), (0, .ref 0), (1, .ref 1), (2, .int (nI c)), (3, .ref (47 + c)), (4, .int (peF l c j))]) (st2 := []) (w3 := w) rfl rfl ?_
      have e9 : peF l c j = peF l c (j + 1) := by show _ = peF l c j + heF l c j; rw [he_n hc2, Int32.add_zero]
      rw [e9]
      exact sx_RP.ls (sx_lr.cons rfl (sx_lr.cons rfl (sx_lr.cons rfl (sx_lr.cons rfl (sx_lr.cons rfl (sx_lr.cons rfl sx_lr.nil)))))) (x68L hI hR hc hn en hw q (j + 1) (by omega))
set_option maxRecDepth 20000 in
set_option maxHeartbeats 4000000 in
theorem X68 {xs : Option (List Int32)} {d : Nat} {w : List sx_C} (hI : WI w) (l : List Int32) (hR : rel w 1 l) (hF : FIT w 1) (hK : SK w) {c : Nat} (hc : c < 48) : sx_RP xs (d + 4) 68 0 (lv_args 0 [.ref 0, .ref 1, .int (nI c)]) [] w (fun r w2 => r = some (.int (pesF l c)) ∧ WI w2 ∧ (FIT w2 1 ∧ SK w2) ∧ ∀ a, (a < 44 ∨ 96 ≤ a) → w2[a]? = w[a]?) := by
  obtain ⟨n, hn, en⟩ := hR.n10 hI (Or.inl rfl)
  refine sx_RP.step (pc2 := 1) (ls2 := [(0, .ref 0), (1, .ref 1), (2, .int (nI c))]) (st2 := [.ref 0]) (w3 := w) rfl rfl ?_
  refine sx_RP.gf (v := .ref 44) rfl rfl hI.1.o0 rfl rfl (show _ = 4 from rfl) ?_
  refine sx_RP.step (pc2 := 5) (ls2 := [(0, .ref 0), (1, .ref 1), (2, .int (nI c))]) (st2 := [.int (nI c), .ref 44]) (w3 := w) rfl rfl ?_
  refine sx_RP.callp (as2 := [.ref 44, .int (nI c)]) (rest2 := []) rfl rfl (sx_inv_v2 (mi := 68) (k := 99) (st := [.int (nI c), .ref 44]) (w := w) rfl rfl hI.1.o44 rfl rfl rfl) rfl rfl rfl (G17 hI (show c < 48 by omega)) (show _ = 8 from rfl) ?_
  rintro r4 w4 ⟨rfl, hI5, hS1, hx2, hf3⟩
  show sx_RP _ _ _ _ _ [.ref (47 + c)] _ _
  have hR2 : rel w4 1 l := hR.same hI (Or.inl rfl) (fun a h1 h2 => hf3 a (by omega))
  have hF2 : FIT w4 1 := fun c hc => by rw [hx2.1, ia_of (hf3 (1 + 1) (by omega))]; exact hF c hc
  have hw2 : ∀ f, f < 48 → (ia w4 (47 + c)).getD f 0 = nI (farN (gdR l) f c) := fun f hf => by rw [hx2.2 hK hF.ls f hf, fit_far hF hR hf (by omega)]
  refine sx_RP.step (pc2 := 9) (ls2 := [(3, .ref (47 + c)), (0, .ref 0), (1, .ref 1), (2, .int (nI c))]) (st2 := []) (w3 := w4) rfl rfl ?_
  refine sx_RP.step (pc2 := 10) (ls2 := [(3, .ref (47 + c)), (0, .ref 0), (1, .ref 1), (2, .int (nI c))]) (st2 := [.int 0]) (w3 := w4) rfl rfl ?_
  refine sx_RP.step (pc2 := 12) (ls2 := [(4, .int 0), (3, .ref (47 + c)), (0, .ref 0), (1, .ref 1), (2, .int (nI c))]) (st2 := []) (w3 := w4) rfl rfl ?_
  refine sx_RP.step (pc2 := 13) (ls2 := [(4, .int 0), (3, .ref (47 + c)), (0, .ref 0), (1, .ref 1), (2, .int (nI c))]) (st2 := [.int 0]) (w3 := w4) rfl rfl ?_
  refine sx_RP.step (pc2 := 15) (ls2 := [(5, .int 0), (4, .int 0), (3, .ref (47 + c)), (0, .ref 0), (1, .ref 1), (2, .int (nI c))]) (st2 := []) (w3 := w4) rfl rfl ?_
  refine (sx_RP.ls (sx_lr.cons rfl (sx_lr.cons rfl (sx_lr.cons rfl (sx_lr.cons rfl (sx_lr.cons rfl (sx_lr.cons rfl sx_lr.nil)))))) (x68L hI5 hR2 hc hn en hw2 n 0 (by omega))).mono9 (fun r w2 z => ?_)
  obtain ⟨z1, z2⟩ := z
  rw [z2]
  exact ⟨by rw [z1]; unfold pesF; rw [en, iN_n (by omega)], hI5, ⟨hF2, hS1.2 hK⟩, hf3⟩
end
-- 89y25.book.lean.txt
section
def bkN (N : Nat → Nat → Int64) (s : Nat) (b : Int32) (p : Nat → Int32) (n : Nat) : Nat → Nat → Int64 := fun s2 i => if s2 = s ∧ i < n then ptF b (p i).toInt64 else N s2 i
theorem bkN_0 {N : Nat → Nat → Int64} {s : Nat} {b : Int32} {p : Nat → Int32} : bkN N s b p 0 = N := by
  funext s2 i
  exact if_neg (by omega)
theorem bkN_s {N : Nat → Nat → Int64} {s j : Nat} {b : Int32} {p : Nat → Int32} : wrN (bkN N s b p j) s j (ptF b (p j).toInt64) = bkN N s b p (j + 1) := by
  funext s2 i
  unfold wrN bkN
  by_cases h : s2 = s ∧ i = j
  · rw [if_pos h, if_pos (by omega), h.2]
  · rw [if_neg h]
    by_cases h2 : s2 = s ∧ i < j
    · rw [if_pos h2, if_pos (by omega)]
    · rw [if_neg h2, if_neg (by omega)]
def dpF (l : List Int32) (d : Nat) : Int32 := pesF l (iN (l.getD (163 + d) 0))
theorem dp_n {l : List Int32} {d x : Nat} (hx : x < 48) (e : l.getD (163 + d) 0 = nI x) : dpF l d = pesF l x := by
  unfold dpF
  rw [e, iN_n (by omega)]
def bokA (F : Nat → Int32 × Int32) (l : List Int32) (a1 : Int32) : Int32 := if 0 ≤ a1 ∧ a1 ≤ 3 then (if (F (iN a1)).1 = 0 then -1000000006 else nI (min (iN (F (iN a1)).2) (iN (l.getD 2 0)))) else -1000000001
def bokR (F : Nat → Int32 × Int32) (N : Nat → Nat → Int64) (l : List Int32) (a1 : Int32) : Nat → Nat → Int64 := if 0 ≤ a1 ∧ a1 ≤ 3 then (if (F (iN a1)).1 = 0 then N else bkN N (iN a1) (F (iN a1)).1 (dpF l) (min (iN (F (iN a1)).2) (iN (l.getD 2 0)))) else N
section SXBK
variable {F : Nat → Int32 × Int32} {N : Nat → Nat → Int64} {l : List Int32} {a1 b : Int32} {s z m : Nat}
theorem bok_1 (h : ¬ (0 ≤ a1 ∧ a1 ≤ 3)) : bokA F l a1 = -1000000001 ∧ bokR F N l a1 = N := ⟨if_neg h, if_neg h⟩
theorem bok_2 {y : Int32} (hs : s < 4) (e : F s = (b, y)) (h : b = 0) : bokA F l (nI s) = -1000000006 ∧ bokR F N l (nI s) = N := by
  unfold bokA bokR
  rw [iN_n (by omega), e, if_pos (cp_r hs), if_pos (cp_r hs), if_pos h, if_pos h]
  exact ⟨rfl, rfl⟩
theorem bok_3 (hs : s < 4) (hz : z ≤ 40) (hm : m ≤ 9) (e : F s = (b, nI z)) (h : ¬ b = 0) (em : l.getD 2 0 = nI m) : bokA F l (nI s) = nI (min z m) ∧ bokR F N l (nI s) = bkN N s b (dpF l) (min z m) := by
  unfold bokA bokR
  rw [iN_n (by omega), e, if_pos (cp_r hs), if_pos (cp_r hs), if_neg h, if_neg h, em, iN_n (by omega), iN_n (by omega)]
  exact ⟨rfl, rfl⟩
end SXBK
set_option maxRecDepth 20000 in
set_option maxHeartbeats 4000000 in
theorem x97m {xs : Option (List Int32)} {d : Nat} {w : List sx_C} (hI : WI w) {a b : Nat} (ha : a < 2 ^ 31) (hb : b < 2 ^ 31) : sx_RU xs d 97 0 (lv_args 0 [.int (nI a), .int (nI b)]) [] w (some (.int (nI (min a b)))) w := by
  have h : sx_RP xs d 97 0 (lv_args 0 [.int (nI a), .int (nI b)]) [] w (fun r9 w2 => r9 = some (.int (nI (min a b))) ∧ w2 = w) := by
    refine sx_RP.step (pc2 := 1) (ls2 := [(0, .int (nI a)), (1, .int (nI b))]) (st2 := [.int (nI a)]) (w3 := w) rfl rfl ?_
    refine sx_RP.step (pc2 := 2) (ls2 := [(0, .int (nI a)), (1, .int (nI b))]) (st2 := [.int (nI b), .int (nI a)]) (w3 := w) rfl rfl ?_
    refine sx_RP.br (p1 := 9) (l1 := [(0, .int (nI a)), (1, .int (nI b))]) (s1 := []) (v1 := w) (p2 := 5) (l2 := [(0, .int (nI a)), (1, .int (nI b))]) (s2 := []) (v2 := w) rfl rfl (fun q1 => ?_) (fun q1 => ?_)
    · replace q1 := of_decide_eq_true q1
      replace q1 := (nI_ltI (a := b) (b := a) (by omega) (by omega)).mp q1
      refine sx_RP.step (pc2 := 10) (ls2 := [(0, .int (nI a)), (1, .int (nI b))]) (st2 := [.int (nI b)]) (w3 := w) rfl rfl ?_
      refine sx_RP.ret (r := (some (.int (nI b)))) rfl rfl ?_
      exact ⟨by rw [show min a b = b by omega], rfl⟩
    · replace q1 := of_decide_eq_false q1
      replace q1 := mt (nI_ltI (a := b) (b := a) (by omega) (by omega)).mpr q1
      refine sx_RP.step (pc2 := 6) (ls2 := [(0, .int (nI a)), (1, .int (nI b))]) (st2 := [.int (nI a)]) (w3 := w) rfl rfl ?_
      refine sx_RP.step (pc2 := 10) (ls2 := [(0, .int (nI a)), (1, .int (nI b))]) (st2 := [.int (nI a)]) (w3 := w) rfl rfl ?_
      refine sx_RP.ret (r := (some (.int (nI a)))) rfl rfl ?_
      exact ⟨by rw [show min a b = a by omega], rfl⟩
  obtain ⟨r9, w2, h1, rfl, rfl⟩ := h
  exact h1
set_option maxRecDepth 20000 in
set_option maxHeartbeats 4000000 in
theorem X121L {xs : Option (List Int32)} {d s n m : Nat} {l : List Int32} {w0 : List sx_C} (hs : s < 4) (hn : n ≤ m) (h40 : n ≤ 40) (hm : m ≤ 9) (em : l.getD 2 0 = nI m) : ∀ (q j : Nat) (w : List sx_C), j + q = n → WI w → rel w 1 l → FIT w 1 → SK w → NCs w = bkN (NCs w0) s (fi w0 (103 + 2 * s) 1) (dpF l) j → FCs w = FCs w0 → (∀ a, a ≠ 99 → (a < 44 ∨ (96 ≤ a ∧ a < 104) ∨ 111 ≤ a) → w[a]? = w0[a]?) → sx_RP xs (d + 7) 121 68 [(0, .ref 0), (1, .int (nI s)), (2, .ref (103 + 2 * s)), (3, .int (nI n)), (4, .int (nI j))] [] w (fun r w2 => (r = some (.int (nI n)) ∧ NCs w2 = bkN (NCs w0) s (fi w0 (103 + 2 * s) 1) (dpF l) n ∧ FCs w2 = FCs w0) ∧ WI w2 ∧ SK w2 ∧ ∀ a, a ≠ 99 → (a < 44 ∨ (96 ≤ a ∧ a < 104) ∨ 111 ≤ a) → w2[a]? = w0[a]?)
  | 0, j, w, hj, hI, hR, hF, hK, hN, hC, hO => by
    obtain rfl : j = n := by omega
    refine sx_RP.step (pc2 := 70) (ls2 := [(0, .ref 0), (1, .int (nI s)), (2, .ref (103 + 2 * s)), (3, .int (nI j)), (4, .int (nI j))]) (st2 := [.int (nI j)]) (w3 := w) rfl rfl ?_
    refine sx_RP.step (pc2 := 71) (ls2 := [(0, .ref 0), (1, .int (nI s)), (2, .ref (103 + 2 * s)), (3, .int (nI j)), (4, .int (nI j))]) (st2 := [.int (nI j), .int (nI j)]) (w3 := w) rfl rfl ?_
    refine sx_RP.br (p1 := 105) (l1 := [(0, .ref 0), (1, .int (nI s)), (2, .ref (103 + 2 * s)), (3, .int (nI j)), (4, .int (nI j))]) (s1 := []) (v1 := w) rfl rfl (fun _ => ?_) (fun q => absurd (nI_le (a := j) (b := j) (by omega) (by omega)) (of_decide_eq_false q))
    refine sx_RP.step (pc2 := 106) (ls2 := [(0, .ref 0), (1, .int (nI s)), (2, .ref (103 + 2 * s)), (3, .int (nI j)), (4, .int (nI j))]) (st2 := [.int (nI j)]) (w3 := w) rfl rfl ?_
    refine sx_RP.ret (r := (some (.int (nI j)))) rfl rfl ?_
    exact ⟨⟨rfl, hN, hC⟩, hI, hK, hO⟩
  | q + 1, j, w, hj, hI, hR, hF, hK, hN, hC, hO => by
    refine sx_RP.step (pc2 := 70) (ls2 := [(0, .ref 0), (1, .int (nI s)), (2, .ref (103 + 2 * s)), (3, .int (nI n)), (4, .int (nI j))]) (st2 := [.int (nI j)]) (w3 := w) rfl rfl ?_
    refine sx_RP.step (pc2 := 71) (ls2 := [(0, .ref 0), (1, .int (nI s)), (2, .ref (103 + 2 * s)), (3, .int (nI n)), (4, .int (nI j))]) (st2 := [.int (nI n), .int (nI j)]) (w3 := w) rfl rfl ?_
    refine sx_RP.br (p2 := 74) (l2 := [(0, .ref 0), (1, .int (nI s)), (2, .ref (103 + 2 * s)), (3, .int (nI n)), (4, .int (nI j))]) (s2 := []) (v2 := w) rfl rfl (fun q => absurd (of_decide_eq_true q) (fun z => absurd ((nI_leI (a := n) (b := j) (by omega) (by omega)).mp z) (by omega))) (fun _ => ?_)
    refine sx_RP.step (pc2 := 75) (ls2 := [(0, .ref 0), (1, .int (nI s)), (2, .ref (103 + 2 * s)), (3, .int (nI n)), (4, .int (nI j))]) (st2 := [.ref (103 + 2 * s)]) (w3 := w) rfl rfl ?_
    refine sx_RP.step (pc2 := 77) (ls2 := [(0, .ref 0), (1, .int (nI s)), (2, .ref (103 + 2 * s)), (3, .int (nI n)), (4, .int (nI j))]) (st2 := [.int (nI j), .ref (103 + 2 * s)]) (w3 := w) rfl rfl ?_
    refine sx_RP.step (pc2 := 78) (ls2 := [(0, .ref 0), (1, .int (nI s)), (2, .ref (103 + 2 * s)), (3, .int (nI n)), (4, .int (nI j))]) (st2 := [.ref 0, .int (nI j), .ref (103 + 2 * s)]) (w3 := w) rfl rfl ?_
    refine sx_RP.step (pc2 := 79) (ls2 := [(0, .ref 0), (1, .int (nI s)), (2, .ref (103 + 2 * s)), (3, .int (nI n)), (4, .int (nI j))]) (st2 := [.ref 0, .ref 0, .int (nI j), .ref (103 + 2 * s)]) (w3 := w) rfl rfl ?_
    refine sx_RP.gf (v := .ref 1) rfl rfl hI.1.o0 rfl rfl (show _ = 82 from rfl) ?_
    refine sx_RP.step (pc2 := 83) (ls2 := [(0, .ref 0), (1, .int (nI s)), (2, .ref (103 + 2 * s)), (3, .int (nI n)), (4, .int (nI j))]) (st2 := [.ref 0, .ref 1, .ref 0, .int (nI j), .ref (103 + 2 * s)]) (w3 := w) rfl rfl ?_
    refine sx_RP.gf (v := .ref 1) rfl rfl hI.1.o0 rfl rfl (show _ = 86 from rfl) ?_
    refine sx_RP.gref (k := 4) (b := 4) hI (Or.inl rfl) rfl rfl (by omega) (show _ = 89 from rfl) ?_
    refine sx_RP.step (pc2 := 91) (ls2 := [(0, .ref 0), (1, .int (nI s)), (2, .ref (103 + 2 * s)), (3, .int (nI n)), (4, .int (nI j))]) (st2 := [.int (nI j), .ref 4, .ref 1, .ref 0, .int (nI j), .ref (103 + 2 * s)]) (w3 := w) rfl rfl ?_
    refine sx_RP.ild (c := j) rfl (hI.1.aD (Or.inl rfl)).1 (hI.1.aD (Or.inl rfl)).2 (sx_in_nI (show j < 9 by omega) (by decide)) (show (nI j).toNatClampNeg = j from nI_clamp (by omega)) (show _ = 92 from rfl) ?_
    obtain ⟨x1, hx2, ex3⟩ : inR ((ia w 4).getD j 0) 47 := hI.di (Or.inl rfl) (show j < 9 by omega)
    rw [ex3]
    have ed : l.getD (163 + j) 0 = nI x1 := (hR.di (by rw [em, iN_n (by omega)]; omega)).symm.trans ex3
    refine sx_RP.callp (as2 := [.ref 0, .ref 1, .int (nI x1)]) (rest2 := [.int (nI j), .ref (103 + 2 * s)]) rfl rfl (sx_inv_v2 (mi := 121) (k := 231) (st := [.int (nI x1), .ref 1, .ref 0, .int (nI j), .ref (103 + 2 * s)]) (w := w) rfl rfl hI.1.o0 rfl rfl rfl) rfl rfl rfl (X68 hI l hR hF hK (show x1 < 48 by omega)) (show _ = 95 from rfl) ?_
    rintro r4 w6 ⟨rfl, hI7, hS4, hf5⟩
    show sx_RP _ _ _ _ _ [.int (pesF l x1), .int (nI j), .ref (103 + 2 * s)] _ _
    refine sx_RP.step (pc2 := 96) (ls2 := [(0, .ref 0), (1, .int (nI s)), (2, .ref (103 + 2 * s)), (3, .int (nI n)), (4, .int (nI j))]) (st2 := [.long ((pesF l x1).toInt64), .int (nI j), .ref (103 + 2 * s)]) (w3 := w6) rfl rfl ?_
    refine sx_RP.callp (as2 := [.ref (103 + 2 * s), .int (nI j), .long ((pesF l x1).toInt64)]) (rest2 := []) rfl rfl (sx_inv_v2 (mi := 121) (k := 318) (st := [.long ((pesF l x1).toInt64), .int (nI j), .ref (103 + 2 * s)]) (w := w6) rfl rfl (hI7.1.oS (show s < 4 by omega)) rfl rfl rfl) rfl rfl rfl (X117 hI7 hs (show j < 40 by omega) ((pesF l x1).toInt64)) (show _ = 99 from rfl) ?_
    rintro r4 w10 ⟨⟨rfl, hv8⟩, hI11, hs9⟩
    show sx_RP _ _ _ _ _ [] _ _
    refine sx_RP.step (pc2 := 102) (ls2 := [(4, .int ((nI j) + 1)), (0, .ref 0), (1, .int (nI s)), (2, .ref (103 + 2 * s)), (3, .int (nI n))]) (st2 := []) (w3 := w10) rfl rfl ?_
    rw [nI_1 j]
    refine sx_RP.step (pc2 := 68) (ls2 := [(4, .int (nI (j + 1))), (0, .ref 0), (1, .int (nI s)), (2, .ref (103 + 2 * s)), (3, .int (nI n))]) (st2 := []) (w3 := w10) rfl rfl ?_
    have hO2 : ∀ a, (a < 44 ∨ (96 ≤ a ∧ a < 104) ∨ 111 ≤ a) → w10[a]? = w[a]? := fun a h => (hs9 a (by omega)).trans (hf5 a (by omega))
    have eb : fi w6 (103 + 2 * s) 1 = fi w0 (103 + 2 * s) 1 := (fi_same 1 (hf5 _ (by omega))).trans (congrArg Prod.fst (((FCs_at hs).symm.trans (congrFun hC s)).trans (FCs_at hs)))
    have hC1 : FCs w6 = FCs w := FCs_eq (fun q hq => hf5 _ (by omega))
    have hN1 : NCs w6 = NCs w := NCs_eq (fun q hq => hf5 _ (by omega))
    have hN2 := NCs_wr hI7 hs (show j < 40 by omega) hs9 hv8
    have hF2 : FIT w10 1 := fun c hc => by rw [ia_of (hs9 45 (by omega)), ia_of (hs9 (1 + 1) (by omega))]; exact hS4.1 c hc
    refine sx_RP.ls (sx_lr.cons rfl (sx_lr.cons rfl (sx_lr.cons rfl (sx_lr.cons rfl (sx_lr.cons rfl sx_lr.nil))))) (X121L hs hn h40 hm em q (j + 1) w10 (by omega) hI11 (hR.same hI (Or.inl rfl) (fun a h1 h2 => hO2 a (by omega))) hF2 (hS4.2.same (fun a h1 h2 => hs9 a (by omega))) ?_ ?_ (fun a h1 h2 => (hO2 a h2).trans (hO a h1 h2)))
    · rw [hN2, hN1, hN, eb, ← dp_n (by omega) ed, bkN_s]
    · rw [FCs_eq (w := w6) (fun q hq => hs9 _ (by omega)), hC1, hC]
set_option maxRecDepth 20000 in
set_option maxHeartbeats 4000000 in
theorem Z121 {xs : Option (List Int32)} {d : Nat} {w : List sx_C} (hI : WI w) (l : List Int32) (hR : rel w 1 l) (hK : SK w) (a1 : Int32) : sx_RP xs (d + 7) 121 0 (lv_args 0 [.ref 0, .int a1]) [] w (fun r w2 => (r = some (.int (bokA (FCs w) l a1)) ∧ NCs w2 = bokR (FCs w) (NCs w) l a1 ∧ FCs w2 = FCs w) ∧ WI w2 ∧ SK w2 ∧ ∀ a, a ≠ 99 → (a < 44 ∨ (96 ≤ a ∧ a < 104) ∨ 111 ≤ a) → w2[a]? = w[a]?) := by
  obtain ⟨m, hm, em⟩ := hR.m9 hI (Or.inl rfl)
  refine sx_RP.step (pc2 := 1) (ls2 := [(0, .ref 0), (1, .int a1)]) (st2 := [.int a1]) (w3 := w) rfl rfl ?_
  rcases in_cases a1 0 3 (m := 0) (n := 3) rfl rfl (by decide) (by decide) with q1 | ⟨x2, hx3, hx4, rfl⟩
  · refine sx_RP.cu (as := [.int a1]) (rest2 := []) (st3 := [.int 0]) rfl rfl rfl rfl rfl (cx_112n q1) rfl ?_
    refine sx_RP.step (pc2 := 7) (ls2 := [(0, .ref 0), (1, .int a1)]) (st2 := []) (w3 := w) rfl rfl ?_
    refine sx_RP.step (pc2 := 8) (ls2 := [(0, .ref 0), (1, .int a1)]) (st2 := [.ref 0]) (w3 := w) rfl rfl ?_
    refine sx_RP.step (pc2 := 10) (ls2 := [(0, .ref 0), (1, .int a1)]) (st2 := [.int (-1000000001), .ref 0]) (w3 := w) rfl rfl ?_
    refine sx_RP.callp (as2 := [.ref 0, .int (-1000000001)]) (rest2 := []) rfl rfl (sx_inv_v2 (mi := 121) (k := 78) (st := [.int (-1000000001), .ref 0]) (w := w) rfl rfl hI.1.o0 rfl rfl rfl) rfl rfl rfl (S9_0 hI) (show _ = 13 from rfl) ?_
    rintro r4 w7 ⟨rfl, hI8, hs6⟩
    show sx_RP _ _ _ _ _ [.int (-1000000001)] _ _
    refine sx_RP.ret (r := (some (.int (-1000000001)))) rfl rfl ?_
    exact ⟨⟨by rw [(bok_1 (F := FCs w) (N := NCs w) (l := l) q1).1], by rw [(bok_1 (F := FCs w) (N := NCs w) (l := l) q1).2]; exact NCs_eq (fun q hq => hs6 _ (by omega)), FCs_eq (fun q hq => hs6 _ (by omega))⟩, hI8, hK.same (fun a h1 h2 => hs6 a (by omega)), fun a h1 h2 => hs6 a h1⟩
  · refine sx_RP.cu (as := [.int (nI x2)]) (rest2 := []) (st3 := [.int 1]) rfl rfl rfl rfl rfl (cx_112p ⟨nI_le (a := 0) hx3 (by omega), nI_le (b := 3) hx4 (by decide)⟩) rfl ?_
    refine sx_RP.step (pc2 := 14) (ls2 := [(0, .ref 0), (1, .int (nI x2))]) (st2 := []) (w3 := w) rfl rfl ?_
    refine sx_RP.step (pc2 := 15) (ls2 := [(0, .ref 0), (1, .int (nI x2))]) (st2 := [.ref 0]) (w3 := w) rfl rfl ?_
    refine sx_RP.gf (v := .ref 98) rfl rfl hI.1.o0 rfl rfl (show _ = 18 from rfl) ?_
    refine sx_RP.step (pc2 := 19) (ls2 := [(0, .ref 0), (1, .int (nI x2))]) (st2 := [.int (nI x2), .ref 98]) (w3 := w) rfl rfl ?_
    refine sx_RP.ald (v := .ref (103 + 2 * x2)) rfl hI.1.a98 rfl (shA_at (show x2 < 4 by omega)) (show _ = 20 from rfl) ?_
    refine sx_RP.step (pc2 := 21) (ls2 := [(2, .ref (103 + 2 * x2)), (0, .ref 0), (1, .int (nI x2))]) (st2 := []) (w3 := w) rfl rfl ?_
    refine sx_RP.step (pc2 := 22) (ls2 := [(2, .ref (103 + 2 * x2)), (0, .ref 0), (1, .int (nI x2))]) (st2 := [.ref (103 + 2 * x2)]) (w3 := w) rfl rfl ?_
    rcases Decidable.em (fi w (103 + 2 * x2) 1 = 0) with c9 | c9
    · refine sx_RP.cu (as := [.ref (103 + 2 * x2)]) (rest2 := []) (st3 := [.int 1]) rfl rfl (sx_inv_v2 (mi := 121) (k := 310) (st := [.ref (103 + 2 * x2)]) (w := w) rfl rfl (hI.1.oS (show x2 < 4 by omega)) rfl rfl rfl) rfl rfl (p116y hI (show x2 < 4 by omega) c9) rfl ?_
      refine sx_RP.step (pc2 := 28) (ls2 := [(2, .ref (103 + 2 * x2)), (0, .ref 0), (1, .int (nI x2))]) (st2 := []) (w3 := w) rfl rfl ?_
      refine sx_RP.step (pc2 := 29) (ls2 := [(2, .ref (103 + 2 * x2)), (0, .ref 0), (1, .int (nI x2))]) (st2 := [.ref 0]) (w3 := w) rfl rfl ?_
      refine sx_RP.step (pc2 := 32) (ls2 := [(2, .ref (103 + 2 * x2)), (0, .ref 0), (1, .int (nI x2))]) (st2 := [.int (-1000000006), .ref 0]) (w3 := w) rfl rfl ?_
      refine sx_RP.callp (as2 := [.ref 0, .int (-1000000006)]) (rest2 := []) rfl rfl (sx_inv_v2 (mi := 121) (k := 78) (st := [.int (-1000000006), .ref 0]) (w := w) rfl rfl hI.1.o0 rfl rfl rfl) rfl rfl rfl (S9_5 hI) (show _ = 35 from rfl) ?_
      rintro r4 w11 ⟨rfl, hI12, hs10⟩
      show sx_RP _ _ _ _ _ [.int (-1000000006)] _ _
      refine sx_RP.ret (r := (some (.int (-1000000006)))) rfl rfl ?_
      exact ⟨⟨by rw [(bok_2 (F := FCs w) (N := NCs w) (l := l) (show x2 < 4 by omega) (FCs_at (by omega)) c9).1], by rw [(bok_2 (F := FCs w) (N := NCs w) (l := l) (show x2 < 4 by omega) (FCs_at (by omega)) c9).2]; exact NCs_eq (fun q hq => hs10 _ (by omega)), FCs_eq (fun q hq => hs10 _ (by omega))⟩, hI12, hK.same (fun a h1 h2 => hs10 a (by omega)), fun a h1 h2 => hs10 a h1⟩
    · refine sx_RP.cu (as := [.ref (103 + 2 * x2)]) (rest2 := []) (st3 := [.int 0]) rfl rfl (sx_inv_v2 (mi := 121) (k := 310) (st := [.ref (103 + 2 * x2)]) (w := w) rfl rfl (hI.1.oS (show x2 < 4 by omega)) rfl rfl rfl) rfl rfl (p116n hI (show x2 < 4 by omega) c9) rfl ?_
      refine sx_RP.step (pc2 := 36) (ls2 := [(2, .ref (103 + 2 * x2)), (0, .ref 0), (1, .int (nI x2))]) (st2 := []) (w3 := w) rfl rfl ?_
      refine sx_RP.step (pc2 := 37) (ls2 := [(2, .ref (103 + 2 * x2)), (0, .ref 0), (1, .int (nI x2))]) (st2 := [.ref 0]) (w3 := w) rfl rfl ?_
      refine sx_RP.gf (v := .ref 44) rfl rfl hI.1.o0 rfl rfl (show _ = 40 from rfl) ?_
      refine sx_RP.step (pc2 := 41) (ls2 := [(2, .ref (103 + 2 * x2)), (0, .ref 0), (1, .int (nI x2))]) (st2 := [.ref 0, .ref 44]) (w3 := w) rfl rfl ?_
      refine sx_RP.gf (v := .ref 1) rfl rfl hI.1.o0 rfl rfl (show _ = 44 from rfl) ?_
      refine sx_RP.gref (k := 0) (b := 2) hI (Or.inl rfl) rfl rfl (by omega) (show _ = 47 from rfl) ?_
      refine sx_RP.callp (as2 := [.ref 44, .ref 2]) (rest2 := []) rfl rfl (sx_inv_v2 (mi := 121) (k := 95) (st := [.ref 2, .ref 44]) (w := w) rfl rfl hI.1.o44 rfl rfl rfl) rfl rfl rfl (G16 (A := 1) hI (Or.inl rfl)) (show _ = 50 from rfl) ?_
      rintro r4 w16 ⟨rfl, hI17, hS13, hF14, hf15⟩
      show sx_RP _ _ _ _ _ [] _ _
      have hR1 : rel w16 1 l := hR.same hI (Or.inl rfl) (fun a h1 h2 => hf15 a (by omega))
      obtain ⟨z, hz, ez⟩ := hI.sh (show x2 < 4 by omega)
      have ez1 : fi w16 (103 + 2 * x2) 2 = nI z := (fi_same 2 (hf15 _ (by omega))).trans ez
      refine sx_RP.step (pc2 := 51) (ls2 := [(2, .ref (103 + 2 * x2)), (0, .ref 0), (1, .int (nI x2))]) (st2 := [.ref (103 + 2 * x2)]) (w3 := w16) rfl rfl ?_
      refine sx_RP.gf (v := .int (fi w16 (103 + 2 * x2) 2)) rfl rfl (hI17.1.oS (show x2 < 4 by omega)) rfl rfl (show _ = 54 from rfl) ?_
      rw [ez1]
      refine sx_RP.step (pc2 := 55) (ls2 := [(2, .ref (103 + 2 * x2)), (0, .ref 0), (1, .int (nI x2))]) (st2 := [.ref 0, .int (nI z)]) (w3 := w16) rfl rfl ?_
      refine sx_RP.gf (v := .ref 1) rfl rfl hI17.1.o0 rfl rfl (show _ = 58 from rfl) ?_
      refine sx_RP.gc (k := 5) hI17 (Or.inl rfl) rfl rfl (by omega) (show _ = 61 from rfl) ?_
      rw [(hR1.dished.trans em)]
      refine sx_RP.cu (as := [.int (nI z), .int (nI m)]) (rest2 := []) (st3 := [.int (nI (min z m))]) rfl rfl rfl rfl rfl (x97m hI17 (by omega) (by omega)) rfl ?_
      refine sx_RP.step (pc2 := 65) (ls2 := [(3, .int (nI (min z m))), (2, .ref (103 + 2 * x2)), (0, .ref 0), (1, .int (nI x2))]) (st2 := []) (w3 := w16) rfl rfl ?_
      refine sx_RP.step (pc2 := 66) (ls2 := [(3, .int (nI (min z m))), (2, .ref (103 + 2 * x2)), (0, .ref 0), (1, .int (nI x2))]) (st2 := [.int 0]) (w3 := w16) rfl rfl ?_
      refine sx_RP.step (pc2 := 68) (ls2 := [(4, .int 0), (3, .int (nI (min z m))), (2, .ref (103 + 2 * x2)), (0, .ref 0), (1, .int (nI x2))]) (st2 := []) (w3 := w16) rfl rfl ?_
      have hC1 : FCs w16 = FCs w := FCs_eq (fun q hq => hf15 _ (by omega))
      have hN1 : NCs w16 = NCs w := NCs_eq (fun q hq => hf15 _ (by omega))
      rw [(bok_3 (F := FCs w) (N := NCs w) (l := l) (show x2 < 4 by omega) hz hm ((FCs_at (by omega)).trans (by rw [ez])) c9 em).1, (bok_3 (F := FCs w) (N := NCs w) (l := l) (show x2 < 4 by omega) hz hm ((FCs_at (by omega)).trans (by rw [ez])) c9 em).2]
      refine sx_RP.ls (sx_lr.cons rfl (sx_lr.cons rfl (sx_lr.cons rfl (sx_lr.cons rfl (sx_lr.cons rfl sx_lr.nil))))) ((X121L (w0 := w) (l := l) (s := x2) (n := min z m) (show x2 < 4 by omega) (by omega) (by omega) hm em (min z m) 0 w16 (by omega) hI17 hR1 hF14 (hS13.2 hK) (by rw [hN1, bkN_0]) hC1 (fun a h1 h2 => hf15 a (by omega))).mono9 (fun r w2 q => q))
set_option maxRecDepth 20000 in
set_option maxHeartbeats 4000000 in
theorem x181y {xs : Option (List Int32)} {d : Nat} {w : List sx_C} (hI : WI w) {g : Nat} (hg : g < 10) (hh : gF (ia w 112) g 1 = 0 ∧ gF (ia w 112) g 5 = 0) : sx_RU xs (d + 2) 181 0 (lv_args 0 [.ref 111, .int (nI g), .int 0]) [] w (some (.int (1))) w := by
  have h : sx_RP xs (d + 2) 181 0 (lv_args 0 [.ref 111, .int (nI g), .int 0]) [] w (fun r9 w2 => r9 = some (.int (1)) ∧ w2 = w) := by
    refine sx_RP.step (pc2 := 1) (ls2 := [(0, .ref 111), (1, .int (nI g)), (2, .int 0)]) (st2 := [.ref 111]) (w3 := w) rfl rfl ?_
    refine sx_RP.step (pc2 := 2) (ls2 := [(0, .ref 111), (1, .int (nI g)), (2, .int 0)]) (st2 := [.int (nI g), .ref 111]) (w3 := w) rfl rfl ?_
    rcases Decidable.em ((ia w 112).getD (103 + 6 * g + 5) 0 = 0) with ci | ci
    · refine sx_RP.cu (as := [.ref 111, .int (nI g)]) (rest2 := []) (st3 := [.int 1]) rfl rfl (sx_inv_v2 (mi := 181) (k := 74) (st := [.int (nI g), .ref 111]) (w := w) rfl rfl hI.1.o111 rfl rfl rfl) rfl rfl (x137y hI (by omega) ci) rfl ?_
      refine sx_RP.step (pc2 := 8) (ls2 := [(0, .ref 111), (1, .int (nI g)), (2, .int 0)]) (st2 := []) (w3 := w) rfl rfl ?_
      refine sx_RP.step (pc2 := 9) (ls2 := [(0, .ref 111), (1, .int (nI g)), (2, .int 0)]) (st2 := [.ref 111]) (w3 := w) rfl rfl ?_
      refine sx_RP.step (pc2 := 10) (ls2 := [(0, .ref 111), (1, .int (nI g)), (2, .int 0)]) (st2 := [.int (nI g), .ref 111]) (w3 := w) rfl rfl ?_
      refine sx_RP.step (pc2 := 11) (ls2 := [(0, .ref 111), (1, .int (nI g)), (2, .int 0)]) (st2 := [.int 1, .int (nI g), .ref 111]) (w3 := w) rfl rfl ?_
      refine sx_RP.cu (as := [.ref 111, .int (nI g), .int 1]) (rest2 := []) (st3 := [.int ((ia w 112).getD (103 + 6 * g + 1) 0)]) rfl rfl (sx_inv_v2 (mi := 181) (k := 59) (st := [.int 1, .int (nI g), .ref 111]) (w := w) rfl rfl hI.1.o111 rfl rfl rfl) rfl rfl (x138 hI hg (show 1 < 6 by decide)) rfl ?_
      refine sx_RP.step (pc2 := 15) (ls2 := [(0, .ref 111), (1, .int (nI g)), (2, .int 0)]) (st2 := [.int 0, .int ((ia w 112).getD (103 + 6 * g + 1) 0)]) (w3 := w) rfl rfl ?_
      refine sx_RP.br (p1 := 22) (l1 := [(0, .ref 111), (1, .int (nI g)), (2, .int 0)]) (s1 := []) (v1 := w) (p2 := 18) (l2 := [(0, .ref 111), (1, .int (nI g)), (2, .int 0)]) (s2 := []) (v2 := w) rfl rfl (fun q1 => ?_) (fun q1 => ?_)
      · replace q1 := of_decide_eq_true q1
        refine sx_RP.step (pc2 := 23) (ls2 := [(0, .ref 111), (1, .int (nI g)), (2, .int 0)]) (st2 := [.int 0]) (w3 := w) rfl rfl ?_
        refine sx_RP.ret (r := (some (.int 0))) rfl rfl ?_
        first | exact ⟨rfl, rfl⟩ | exact absurd hh.2 (by assumption) | exact absurd hh.1 (by assumption) | exact absurd ⟨by assumption, by assumption⟩ hh
      · replace q1 := Decidable.not_not.mp (of_decide_eq_false q1)
        refine sx_RP.step (pc2 := 19) (ls2 := [(0, .ref 111), (1, .int (nI g)), (2, .int 0)]) (st2 := [.int 1]) (w3 := w) rfl rfl ?_
        refine sx_RP.step (pc2 := 23) (ls2 := [(0, .ref 111), (1, .int (nI g)), (2, .int 0)]) (st2 := [.int 1]) (w3 := w) rfl rfl ?_
        refine sx_RP.ret (r := (some (.int 1))) rfl rfl ?_
        first | exact ⟨rfl, rfl⟩ | exact absurd hh.2 (by assumption) | exact absurd hh.1 (by assumption) | exact absurd ⟨by assumption, by assumption⟩ hh
    · refine sx_RP.cu (as := [.ref 111, .int (nI g)]) (rest2 := []) (st3 := [.int 0]) rfl rfl (sx_inv_v2 (mi := 181) (k := 74) (st := [.int (nI g), .ref 111]) (w := w) rfl rfl hI.1.o111 rfl rfl rfl) rfl rfl (x137n hI (by omega) ci) rfl ?_
      refine sx_RP.step (pc2 := 22) (ls2 := [(0, .ref 111), (1, .int (nI g)), (2, .int 0)]) (st2 := []) (w3 := w) rfl rfl ?_
      refine sx_RP.step (pc2 := 23) (ls2 := [(0, .ref 111), (1, .int (nI g)), (2, .int 0)]) (st2 := [.int 0]) (w3 := w) rfl rfl ?_
      refine sx_RP.ret (r := (some (.int 0))) rfl rfl ?_
      first | exact ⟨rfl, rfl⟩ | exact absurd hh.2 (by assumption) | exact absurd hh.1 (by assumption) | exact absurd ⟨by assumption, by assumption⟩ hh
  obtain ⟨r9, w2, h1, rfl, rfl⟩ := h
  exact h1
set_option maxRecDepth 20000 in
set_option maxHeartbeats 4000000 in
theorem x181n {xs : Option (List Int32)} {d : Nat} {w : List sx_C} (hI : WI w) {g : Nat} (hg : g < 10) (hh : ¬ (gF (ia w 112) g 1 = 0 ∧ gF (ia w 112) g 5 = 0)) : sx_RU xs (d + 2) 181 0 (lv_args 0 [.ref 111, .int (nI g), .int 0]) [] w (some (.int (0))) w := by
  have h : sx_RP xs (d + 2) 181 0 (lv_args 0 [.ref 111, .int (nI g), .int 0]) [] w (fun r9 w2 => r9 = some (.int (0)) ∧ w2 = w) := by
    refine sx_RP.step (pc2 := 1) (ls2 := [(0, .ref 111), (1, .int (nI g)), (2, .int 0)]) (st2 := [.ref 111]) (w3 := w) rfl rfl ?_
    refine sx_RP.step (pc2 := 2) (ls2 := [(0, .ref 111), (1, .int (nI g)), (2, .int 0)]) (st2 := [.int (nI g), .ref 111]) (w3 := w) rfl rfl ?_
    rcases Decidable.em ((ia w 112).getD (103 + 6 * g + 5) 0 = 0) with ci | ci
    · refine sx_RP.cu (as := [.ref 111, .int (nI g)]) (rest2 := []) (st3 := [.int 1]) rfl rfl (sx_inv_v2 (mi := 181) (k := 74) (st := [.int (nI g), .ref 111]) (w := w) rfl rfl hI.1.o111 rfl rfl rfl) rfl rfl (x137y hI (by omega) ci) rfl ?_
      refine sx_RP.step (pc2 := 8) (ls2 := [(0, .ref 111), (1, .int (nI g)), (2, .int 0)]) (st2 := []) (w3 := w) rfl rfl ?_
      refine sx_RP.step (pc2 := 9) (ls2 := [(0, .ref 111), (1, .int (nI g)), (2, .int 0)]) (st2 := [.ref 111]) (w3 := w) rfl rfl ?_
      refine sx_RP.step (pc2 := 10) (ls2 := [(0, .ref 111), (1, .int (nI g)), (2, .int 0)]) (st2 := [.int (nI g), .ref 111]) (w3 := w) rfl rfl ?_
      refine sx_RP.step (pc2 := 11) (ls2 := [(0, .ref 111), (1, .int (nI g)), (2, .int 0)]) (st2 := [.int 1, .int (nI g), .ref 111]) (w3 := w) rfl rfl ?_
      refine sx_RP.cu (as := [.ref 111, .int (nI g), .int 1]) (rest2 := []) (st3 := [.int ((ia w 112).getD (103 + 6 * g + 1) 0)]) rfl rfl (sx_inv_v2 (mi := 181) (k := 59) (st := [.int 1, .int (nI g), .ref 111]) (w := w) rfl rfl hI.1.o111 rfl rfl rfl) rfl rfl (x138 hI hg (show 1 < 6 by decide)) rfl ?_
      refine sx_RP.step (pc2 := 15) (ls2 := [(0, .ref 111), (1, .int (nI g)), (2, .int 0)]) (st2 := [.int 0, .int ((ia w 112).getD (103 + 6 * g + 1) 0)]) (w3 := w) rfl rfl ?_
      refine sx_RP.br (p1 := 22) (l1 := [(0, .ref 111), (1, .int (nI g)), (2, .int 0)]) (s1 := []) (v1 := w) (p2 := 18) (l2 := [(0, .ref 111), (1, .int (nI g)), (2, .int 0)]) (s2 := []) (v2 := w) rfl rfl (fun q1 => ?_) (fun q1 => ?_)
      · replace q1 := of_decide_eq_true q1
        refine sx_RP.step (pc2 := 23) (ls2 := [(0, .ref 111), (1, .int (nI g)), (2, .int 0)]) (st2 := [.int 0]) (w3 := w) rfl rfl ?_
        refine sx_RP.ret (r := (some (.int 0))) rfl rfl ?_
        first | exact ⟨rfl, rfl⟩ | exact absurd hh.2 (by assumption) | exact absurd hh.1 (by assumption) | exact absurd ⟨by assumption, by assumption⟩ hh
      · replace q1 := Decidable.not_not.mp (of_decide_eq_false q1)
        refine sx_RP.step (pc2 := 19) (ls2 := [(0, .ref 111), (1, .int (nI g)), (2, .int 0)]) (st2 := [.int 1]) (w3 := w) rfl rfl ?_
        refine sx_RP.step (pc2 := 23) (ls2 := [(0, .ref 111), (1, .int (nI g)), (2, .int 0)]) (st2 := [.int 1]) (w3 := w) rfl rfl ?_
        refine sx_RP.ret (r := (some (.int 1))) rfl rfl ?_
        first | exact ⟨rfl, rfl⟩ | exact absurd hh.2 (by assumption) | exact absurd hh.1 (by assumption) | exact absurd ⟨by assumption, by assumption⟩ hh
    · refine sx_RP.cu (as := [.ref 111, .int (nI g)]) (rest2 := []) (st3 := [.int 0]) rfl rfl (sx_inv_v2 (mi := 181) (k := 74) (st := [.int (nI g), .ref 111]) (w := w) rfl rfl hI.1.o111 rfl rfl rfl) rfl rfl (x137n hI (by omega) ci) rfl ?_
      refine sx_RP.step (pc2 := 22) (ls2 := [(0, .ref 111), (1, .int (nI g)), (2, .int 0)]) (st2 := []) (w3 := w) rfl rfl ?_
      refine sx_RP.step (pc2 := 23) (ls2 := [(0, .ref 111), (1, .int (nI g)), (2, .int 0)]) (st2 := [.int 0]) (w3 := w) rfl rfl ?_
      refine sx_RP.ret (r := (some (.int 0))) rfl rfl ?_
      first | exact ⟨rfl, rfl⟩ | exact absurd hh.2 (by assumption) | exact absurd hh.1 (by assumption) | exact absurd ⟨by assumption, by assumption⟩ hh
  obtain ⟨r9, w2, h1, rfl, rfl⟩ := h
  exact h1
set_option maxRecDepth 20000 in
set_option maxHeartbeats 4000000 in
theorem X190 {xs : Option (List Int32)} {d : Nat} {w : List sx_C} (hI : WI w) {c g : Nat} (hc : c < 48) (hg : g < 10) : sx_RP xs (d + 3) 190 0 (lv_args 0 [.ref 111, .int (nI c), .int (nI g)]) [] w (fun r w2 => r = some (.int (heF (ia w 112) c g)) ∧ WI w2 ∧ ∀ a, a ≠ 117 → a ≠ 118 → w2[a]? = w[a]?) := by
  obtain ⟨k, hk, ek⟩ : inR ((ia w 112).getD (103 + 6 * g + 0) 0) 5 := (hI.s (103 + 6 * g + 0) (by omega)).2.2.2.1 (by omega)
  obtain ⟨h, hh, eh⟩ : inR ((ia w 112).getD (103 + 6 * g + 2) 0) 47 := (hI.s (103 + 6 * g + 2) (by omega)).2.2.2.2.2.1 (by omega)
  obtain ⟨s, hs, es⟩ : inR ((ia w 112).getD (7 + h) 0) 3 := (hI.s (7 + h) (by omega)).2.2.1 (by omega)
  refine sx_RP.step (pc2 := 1) (ls2 := [(0, .ref 111), (1, .int (nI c)), (2, .int (nI g))]) (st2 := [.ref 111]) (w3 := w) rfl rfl ?_
  refine sx_RP.step (pc2 := 2) (ls2 := [(0, .ref 111), (1, .int (nI c)), (2, .int (nI g))]) (st2 := [.int (nI g), .ref 111]) (w3 := w) rfl rfl ?_
  refine sx_RP.step (pc2 := 3) (ls2 := [(0, .ref 111), (1, .int (nI c)), (2, .int (nI g))]) (st2 := [.int 0, .int (nI g), .ref 111]) (w3 := w) rfl rfl ?_
  rcases Decidable.em (gF (ia w 112) g 1 = 0 ∧ gF (ia w 112) g 5 = 0) with hc2 | hc2
  · refine sx_RP.cu (as := [.ref 111, .int (nI g), .int 0]) (rest2 := []) (st3 := [.int 1]) rfl rfl (sx_inv_v2 (mi := 190) (k := 165) (st := [.int 0, .int (nI g), .ref 111]) (w := w) rfl rfl hI.1.o111 rfl rfl rfl) rfl rfl (x181y hI hg hc2) rfl ?_
    refine sx_RP.step (pc2 := 11) (ls2 := [(0, .ref 111), (1, .int (nI c)), (2, .int (nI g))]) (st2 := []) (w3 := w) rfl rfl ?_
    refine sx_RP.step (pc2 := 12) (ls2 := [(0, .ref 111), (1, .int (nI c)), (2, .int (nI g))]) (st2 := [.ref 111]) (w3 := w) rfl rfl ?_
    refine sx_RP.step (pc2 := 13) (ls2 := [(0, .ref 111), (1, .int (nI c)), (2, .int (nI g))]) (st2 := [.int (nI g), .ref 111]) (w3 := w) rfl rfl ?_
    refine sx_RP.step (pc2 := 14) (ls2 := [(0, .ref 111), (1, .int (nI c)), (2, .int (nI g))]) (st2 := [.int 2, .int (nI g), .ref 111]) (w3 := w) rfl rfl ?_
    refine sx_RP.cu (as := [.ref 111, .int (nI g), .int 2]) (rest2 := []) (st3 := [.int (nI h)]) rfl rfl (sx_inv_v2 (mi := 190) (k := 59) (st := [.int 2, .int (nI g), .ref 111]) (w := w) rfl rfl hI.1.o111 rfl rfl rfl) rfl rfl (x138e hI hg (show 2 < 6 by decide) eh) rfl ?_
    refine sx_RP.step (pc2 := 18) (ls2 := [(3, .int (nI h)), (0, .ref 111), (1, .int (nI c)), (2, .int (nI g))]) (st2 := []) (w3 := w) rfl rfl ?_
    refine sx_RP.step (pc2 := 19) (ls2 := [(3, .int (nI h)), (0, .ref 111), (1, .int (nI c)), (2, .int (nI g))]) (st2 := [.ref 111]) (w3 := w) rfl rfl ?_
    refine sx_RP.step (pc2 := 20) (ls2 := [(3, .int (nI h)), (0, .ref 111), (1, .int (nI c)), (2, .int (nI g))]) (st2 := [.int (nI h), .ref 111]) (w3 := w) rfl rfl ?_
    refine sx_RP.step (pc2 := 21) (ls2 := [(3, .int (nI h)), (0, .ref 111), (1, .int (nI c)), (2, .int (nI g))]) (st2 := [.int (-1), .int (nI h), .ref 111]) (w3 := w) rfl rfl ?_
    refine sx_RP.callp (as2 := [.ref 111, .int (nI h), .int (-1)]) (rest2 := []) rfl rfl (sx_inv_v2 (mi := 190) (k := 94) (st := [.int (-1), .int (nI h), .ref 111]) (w := w) rfl rfl hI.1.o111 rfl rfl rfl) rfl rfl rfl (X141s hI (show h < 48 by omega)) (show _ = 24 from rfl) ?_
    rintro r4 w3 ⟨⟨rfl, hw1⟩, hI4, hf2⟩
    show sx_RP _ _ _ _ _ [] _ _
    have ei : ia w3 112 = ia w 112 := ia_of (hf2 112 (by decide) (by decide))
    have ek1 : (ia w3 112).getD (103 + 6 * g + 0) 0 = nI k := by rw [ei]; exact ek
    have es1 : (ia w3 112).getD (7 + h) 0 = nI s := by rw [ei]; exact es
    have hF9 := far_fin (gdR (ia w 112)) (show h < 48 by omega) hc
    have eF9 := hw1 c hc
    generalize hG9 : farN (gdR (ia w 112)) h c = F9 at hF9 eF9
    refine sx_RP.step (pc2 := 25) (ls2 := [(3, .int (nI h)), (0, .ref 111), (1, .int (nI c)), (2, .int (nI g))]) (st2 := [.ref 111]) (w3 := w3) rfl rfl ?_
    refine sx_RP.step (pc2 := 26) (ls2 := [(3, .int (nI h)), (0, .ref 111), (1, .int (nI c)), (2, .int (nI g))]) (st2 := [.ref 111, .ref 111]) (w3 := w3) rfl rfl ?_
    refine sx_RP.step (pc2 := 27) (ls2 := [(3, .int (nI h)), (0, .ref 111), (1, .int (nI c)), (2, .int (nI g))]) (st2 := [.int (nI g), .ref 111, .ref 111]) (w3 := w3) rfl rfl ?_
    refine sx_RP.step (pc2 := 28) (ls2 := [(3, .int (nI h)), (0, .ref 111), (1, .int (nI c)), (2, .int (nI g))]) (st2 := [.int 0, .int (nI g), .ref 111, .ref 111]) (w3 := w3) rfl rfl ?_
    refine sx_RP.cu (as := [.ref 111, .int (nI g), .int 0]) (rest2 := [.ref 111]) (st3 := [.int (nI k), .ref 111]) rfl rfl (sx_inv_v2 (mi := 190) (k := 59) (st := [.int 0, .int (nI g), .ref 111, .ref 111]) (w := w3) rfl rfl hI4.1.o111 rfl rfl rfl) rfl rfl (x138e hI4 hg (show 0 < 6 by decide) (ek1)) rfl ?_
    refine sx_RP.step (pc2 := 32) (ls2 := [(3, .int (nI h)), (0, .ref 111), (1, .int (nI c)), (2, .int (nI g))]) (st2 := [.int (nI h), .int (nI k), .ref 111]) (w3 := w3) rfl rfl ?_
    refine sx_RP.cu (as := [.ref 111, .int (nI k), .int (nI h)]) (rest2 := []) (st3 := [.int (ldV k s)]) rfl rfl (sx_inv_v2 (mi := 190) (k := 130) (st := [.int (nI h), .int (nI k), .ref 111]) (w := w3) rfl rfl hI4.1.o111 rfl rfl rfl) rfl rfl (x162 hI4 (show h < 48 by omega) (show k < 6 by omega) (show s < 4 by omega) es1) rfl ?_
    refine sx_RP.step (pc2 := 36) (ls2 := [(3, .int (nI h)), (0, .ref 111), (1, .int (nI c)), (2, .int (nI g))]) (st2 := [.int 1, .int (ldV k s)]) (w3 := w3) rfl rfl ?_
    refine sx_RP.step (pc2 := 37) (ls2 := [(3, .int (nI h)), (0, .ref 111), (1, .int (nI c)), (2, .int (nI g))]) (st2 := [.ref 111, .int 1, .int (ldV k s)]) (w3 := w3) rfl rfl ?_
    refine sx_RP.gf (v := .ref 117) rfl rfl hI4.1.o111 rfl rfl (show _ = 40 from rfl) ?_
    refine sx_RP.step (pc2 := 41) (ls2 := [(3, .int (nI h)), (0, .ref 111), (1, .int (nI c)), (2, .int (nI g))]) (st2 := [.int (nI c), .ref 117, .int 1, .int (ldV k s)]) (w3 := w3) rfl rfl ?_
    refine sx_RP.ild (c := c) rfl hI4.1.a117.1 hI4.1.a117.2 (sx_in_nI (show c < 48 by omega) (by decide)) (show (nI c).toNatClampNeg = c from nI_clamp (by omega)) (show _ = 42 from rfl) ?_
    rw [eF9]
    refine sx_RP.step (pc2 := 43) (ls2 := [(3, .int (nI h)), (0, .ref 111), (1, .int (nI c)), (2, .int (nI g))]) (st2 := [.int (1 + (nI F9)), .int (ldV k s)]) (w3 := w3) rfl rfl ?_
    rw [show (1 + (nI F9) : Int32) = nI (1 + F9) from nI_add 1 F9]
    refine sx_RP.idiv (pc2 := 44) rfl (fun z => absurd ((nI_eq (a := 1 + F9) (b := 0) (by omega) (by decide)).mp z) (by omega)) rfl ?_
    refine sx_RP.ret (r := (some (.int ((ldV k s) / (nI (1 + F9)))))) rfl rfl ?_
    exact ⟨by rw [he_y (k := k) (h := h) (s := s) hc2 (by omega) (by omega) (by omega) ek eh es, hG9], hI4, hf2⟩
  · refine sx_RP.cu (as := [.ref 111, .int (nI g), .int 0]) (rest2 := []) (st3 := [.int 0]) rfl rfl (sx_inv_v2 (mi := 190) (k := 165) (st := [.int 0, .int (nI g), .ref 111]) (w := w) rfl rfl hI.1.o111 rfl rfl rfl) rfl rfl (x181n hI hg hc2) rfl ?_
    refine sx_RP.step (pc2 := 9) (ls2 := [(0, .ref 111), (1, .int (nI c)), (2, .int (nI g))]) (st2 := []) (w3 := w) rfl rfl ?_
    refine sx_RP.step (pc2 := 10) (ls2 := [(0, .ref 111), (1, .int (nI c)), (2, .int (nI g))]) (st2 := [.int 0]) (w3 := w) rfl rfl ?_
    refine sx_RP.ret (r := (some (.int 0))) rfl rfl ?_
    exact ⟨by rw [he_n hc2], hI, fun _ _ _ => rfl⟩
set_option maxRecDepth 20000 in
set_option maxHeartbeats 4000000 in
theorem X189L {xs : Option (List Int32)} {d c n : Nat} {w0 : List sx_C} (hc : c < 48) (hn : n ≤ 10) (en : (ia w0 112).getD 1 0 = nI n) : ∀ (q j : Nat) (w : List sx_C), j + q = n → WI w → (∀ a, a ≠ 117 → a ≠ 118 → w[a]? = w0[a]?) → sx_RP xs (d + 4) 189 4 [(0, .ref 111), (1, .int (nI c)), (2, .int (peF (ia w0 112) c j)), (3, .int (nI j))] [] w (fun r w2 => r = some (.int (peF (ia w0 112) c n)) ∧ WI w2 ∧ ∀ a, a ≠ 117 → a ≠ 118 → w2[a]? = w0[a]?)
  | 0, j, w, hj, hI, hO => by
    obtain rfl : j = n := by omega
    have ei : ia w 112 = ia w0 112 := ia_of (hO 112 (by decide) (by decide))
    have en1 : (ia w 112).getD 1 0 = nI j := by rw [ei]; exact en
    refine sx_RP.step (pc2 := 5) (ls2 := [(0, .ref 111), (1, .int (nI c)), (2, .int (peF (ia w0 112) c j)), (3, .int (nI j))]) (st2 := [.int (nI j)]) (w3 := w) rfl rfl ?_
    refine sx_RP.step (pc2 := 6) (ls2 := [(0, .ref 111), (1, .int (nI c)), (2, .int (peF (ia w0 112) c j)), (3, .int (nI j))]) (st2 := [.ref 111, .int (nI j)]) (w3 := w) rfl rfl ?_
    refine sx_RP.gf (v := .ref 112) rfl rfl hI.1.o111 rfl rfl (show _ = 9 from rfl) ?_
    refine sx_RP.step (pc2 := 10) (ls2 := [(0, .ref 111), (1, .int (nI c)), (2, .int (peF (ia w0 112) c j)), (3, .int (nI j))]) (st2 := [.int 1, .ref 112, .int (nI j)]) (w3 := w) rfl rfl ?_
    refine sx_RP.ild (c := 1) rfl hI.1.a112.1 hI.1.a112.2 (sx_in_nI (show 1 < 172 by omega) (by decide)) (show (nI 1).toNatClampNeg = 1 from nI_clamp (by omega)) (show _ = 11 from rfl) ?_
    rw [en1]
    refine sx_RP.br (p1 := 29) (l1 := [(0, .ref 111), (1, .int (nI c)), (2, .int (peF (ia w0 112) c j)), (3, .int (nI j))]) (s1 := []) (v1 := w) rfl rfl (fun _ => ?_) (fun q => absurd (nI_le (a := j) (b := j) (by omega) (by omega)) (of_decide_eq_false q))
    refine sx_RP.step (pc2 := 30) (ls2 := [(0, .ref 111), (1, .int (nI c)), (2, .int (peF (ia w0 112) c j)), (3, .int (nI j))]) (st2 := [.int (peF (ia w0 112) c j)]) (w3 := w) rfl rfl ?_
    refine sx_RP.ret (r := (some (.int (peF (ia w0 112) c j)))) rfl rfl ?_
    exact ⟨rfl, hI, hO⟩
  | q + 1, j, w, hj, hI, hO => by
    have ei : ia w 112 = ia w0 112 := ia_of (hO 112 (by decide) (by decide))
    have en1 : (ia w 112).getD 1 0 = nI n := by rw [ei]; exact en
    refine sx_RP.step (pc2 := 5) (ls2 := [(0, .ref 111), (1, .int (nI c)), (2, .int (peF (ia w0 112) c j)), (3, .int (nI j))]) (st2 := [.int (nI j)]) (w3 := w) rfl rfl ?_
    refine sx_RP.step (pc2 := 6) (ls2 := [(0, .ref 111), (1, .int (nI c)), (2, .int (peF (ia w0 112) c j)), (3, .int (nI j))]) (st2 := [.ref 111, .int (nI j)]) (w3 := w) rfl rfl ?_
    refine sx_RP.gf (v := .ref 112) rfl rfl hI.1.o111 rfl rfl (show _ = 9 from rfl) ?_
    refine sx_RP.step (pc2 := 10) (ls2 := [(0, .ref 111), (1, .int (nI c)), (2, .int (peF (ia w0 112) c j)), (3, .int (nI j))]) (st2 := [.int 1, .ref 112, .int (nI j)]) (w3 := w) rfl rfl ?_
    refine sx_RP.ild (c := 1) rfl hI.1.a112.1 hI.1.a112.2 (sx_in_nI (show 1 < 172 by omega) (by decide)) (show (nI 1).toNatClampNeg = 1 from nI_clamp (by omega)) (show _ = 11 from rfl) ?_
    rw [en1]
    refine sx_RP.br (p2 := 14) (l2 := [(0, .ref 111), (1, .int (nI c)), (2, .int (peF (ia w0 112) c j)), (3, .int (nI j))]) (s2 := []) (v2 := w) rfl rfl (fun q => absurd (of_decide_eq_true q) (fun z => absurd ((nI_leI (a := n) (b := j) (by omega) (by omega)).mp z) (by omega))) (fun _ => ?_)
    refine sx_RP.step (pc2 := 15) (ls2 := [(0, .ref 111), (1, .int (nI c)), (2, .int (peF (ia w0 112) c j)), (3, .int (nI j))]) (st2 := [.int (peF (ia w0 112) c j)]) (w3 := w) rfl rfl ?_
    refine sx_RP.step (pc2 := 16) (ls2 := [(0, .ref 111), (1, .int (nI c)), (2, .int (peF (ia w0 112) c j)), (3, .int (nI j))]) (st2 := [.ref 111, .int (peF (ia w0 112) c j)]) (w3 := w) rfl rfl ?_
    refine sx_RP.step (pc2 := 17) (ls2 := [(0, .ref 111), (1, .int (nI c)), (2, .int (peF (ia w0 112) c j)), (3, .int (nI j))]) (st2 := [.int (nI c), .ref 111, .int (peF (ia w0 112) c j)]) (w3 := w) rfl rfl ?_
    refine sx_RP.step (pc2 := 18) (ls2 := [(0, .ref 111), (1, .int (nI c)), (2, .int (peF (ia w0 112) c j)), (3, .int (nI j))]) (st2 := [.int (nI j), .int (nI c), .ref 111, .int (peF (ia w0 112) c j)]) (w3 := w) rfl rfl ?_
    refine sx_RP.callp (as2 := [.ref 111, .int (nI c), .int (nI j)]) (rest2 := [.int (peF (ia w0 112) c j)]) rfl rfl (sx_inv_v2 (mi := 189) (k := 174) (st := [.int (nI j), .int (nI c), .ref 111, .int (peF (ia w0 112) c j)]) (w := w) rfl rfl hI.1.o111 rfl rfl rfl) rfl rfl rfl (X190 hI hc (show j < 10 by omega)) (show _ = 21 from rfl) ?_
    rintro r4 w2 ⟨rfl, hI3, hf1⟩
    show sx_RP _ _ _ _ _ [.int (heF (ia w 112) c j), .int (peF (ia w0 112) c j)] _ _
    refine sx_RP.step (pc2 := 22) (ls2 := [(0, .ref 111), (1, .int (nI c)), (2, .int (peF (ia w0 112) c j)), (3, .int (nI j))]) (st2 := [.int ((peF (ia w0 112) c j) + (heF (ia w 112) c j))]) (w3 := w2) rfl rfl ?_
    refine sx_RP.step (pc2 := 23) (ls2 := [(2, .int ((peF (ia w0 112) c j) + (heF (ia w 112) c j))), (0, .ref 111), (1, .int (nI c)), (3, .int (nI j))]) (st2 := []) (w3 := w2) rfl rfl ?_
    refine sx_RP.step (pc2 := 26) (ls2 := [(3, .int ((nI j) + 1)), (2, .int ((peF (ia w0 112) c j) + (heF (ia w 112) c j))), (0, .ref 111), (1, .int (nI c))]) (st2 := []) (w3 := w2) rfl rfl ?_
    rw [nI_1 j]
    refine sx_RP.step (pc2 := 4) (ls2 := [(3, .int (nI (j + 1))), (2, .int ((peF (ia w0 112) c j) + (heF (ia w 112) c j))), (0, .ref 111), (1, .int (nI c))]) (st2 := []) (w3 := w2) rfl rfl ?_
    have e9 : peF (ia w0 112) c j + heF (ia w 112) c j = peF (ia w0 112) c (j + 1) := by rw [ei]; rfl
    rw [e9]
    exact sx_RP.ls (sx_lr.cons rfl (sx_lr.cons rfl (sx_lr.cons rfl (sx_lr.cons rfl sx_lr.nil)))) (X189L hc hn en q (j + 1) w2 (by omega) hI3 (fun a h1 h2 => (hf1 a h1 h2).trans (hO a h1 h2)))
set_option maxRecDepth 20000 in
set_option maxHeartbeats 4000000 in
theorem X189 {xs : Option (List Int32)} {d : Nat} {w : List sx_C} (hI : WI w) {c : Nat} (hc : c < 48) : sx_RP xs (d + 4) 189 0 (lv_args 0 [.ref 111, .int (nI c)]) [] w (fun r w2 => r = some (.int (pesF (ia w 112) c)) ∧ WI w2 ∧ ∀ a, a ≠ 117 → a ≠ 118 → w2[a]? = w[a]?) := by
  obtain ⟨n, hn, en⟩ := (hI.sA (a := 112) (by decide) 1 (by decide)).1 rfl
  refine sx_RP.step (pc2 := 1) (ls2 := [(0, .ref 111), (1, .int (nI c))]) (st2 := [.int 0]) (w3 := w) rfl rfl ?_
  refine sx_RP.step (pc2 := 2) (ls2 := [(2, .int 0), (0, .ref 111), (1, .int (nI c))]) (st2 := []) (w3 := w) rfl rfl ?_
  refine sx_RP.step (pc2 := 3) (ls2 := [(2, .int 0), (0, .ref 111), (1, .int (nI c))]) (st2 := [.int 0]) (w3 := w) rfl rfl ?_
  refine sx_RP.step (pc2 := 4) (ls2 := [(3, .int 0), (2, .int 0), (0, .ref 111), (1, .int (nI c))]) (st2 := []) (w3 := w) rfl rfl ?_
  refine (sx_RP.ls (sx_lr.cons rfl (sx_lr.cons rfl (sx_lr.cons rfl (sx_lr.cons rfl sx_lr.nil)))) (X189L (w0 := w) hc hn en n 0 w (by omega) hI (fun _ _ _ => rfl))).mono9 (fun r w2 z => ⟨?_, z.2.1, z.2.2⟩)
  rw [z.1]
  unfold pesF
  rw [en, iN_n (by omega)]
set_option maxRecDepth 20000 in
set_option maxHeartbeats 4000000 in
theorem X188 {xs : Option (List Int32)} {d : Nat} {w : List sx_C} (hI : WI w) {j : Nat} (hj : j < 9) : sx_RP xs (d + 5) 188 0 (lv_args 0 [.ref 111, .int (nI j)]) [] w (fun r w2 => r = some (.int (dpF (ia w 112) j)) ∧ WI w2 ∧ ∀ a, a ≠ 117 → a ≠ 118 → w2[a]? = w[a]?) := by
  obtain ⟨x, hx, ex⟩ : inR ((ia w 112).getD (163 + j) 0) 47 := (hI.s (163 + j) (by omega)).2.2.2.2.2.2.2.2 (by omega)
  refine sx_RP.step (pc2 := 1) (ls2 := [(0, .ref 111), (1, .int (nI j))]) (st2 := [.ref 111]) (w3 := w) rfl rfl ?_
  refine sx_RP.step (pc2 := 2) (ls2 := [(0, .ref 111), (1, .int (nI j))]) (st2 := [.ref 111, .ref 111]) (w3 := w) rfl rfl ?_
  refine sx_RP.gf (v := .ref 112) rfl rfl hI.1.o111 rfl rfl (show _ = 5 from rfl) ?_
  refine sx_RP.step (pc2 := 8) (ls2 := [(0, .ref 111), (1, .int (nI j))]) (st2 := [.int 163, .ref 112, .ref 111]) (w3 := w) rfl rfl ?_
  refine sx_RP.step (pc2 := 9) (ls2 := [(0, .ref 111), (1, .int (nI j))]) (st2 := [.int (nI j), .int 163, .ref 112, .ref 111]) (w3 := w) rfl rfl ?_
  refine sx_RP.step (pc2 := 10) (ls2 := [(0, .ref 111), (1, .int (nI j))]) (st2 := [.int (163 + (nI j)), .ref 112, .ref 111]) (w3 := w) rfl rfl ?_
  rw [show (163 + (nI j) : Int32) = nI (163 + j) from nI_add 163 j]
  refine sx_RP.ild (c := (163 + j)) rfl hI.1.a112.1 hI.1.a112.2 (sx_in_nI (show (163 + j) < 172 by omega) (by decide)) (show (nI (163 + j)).toNatClampNeg = (163 + j) from nI_clamp (by omega)) (show _ = 11 from rfl) ?_
  obtain ⟨x1, hx2, ex3⟩ : inR ((ia w 112).getD (163 + j) 0) 47 := (hI.s ((163 + j)) (by omega)).2.2.2.2.2.2.2.2 (by omega)
  rw [ex3]
  refine sx_RP.callp (as2 := [.ref 111, .int (nI x1)]) (rest2 := []) rfl rfl (sx_inv_v2 (mi := 188) (k := 177) (st := [.int (nI x1), .ref 111]) (w := w) rfl rfl hI.1.o111 rfl rfl rfl) rfl rfl rfl (X189 hI (show x1 < 48 by omega)) (show _ = 14 from rfl) ?_
  rintro r4 w5 ⟨rfl, hI6, hf4⟩
  show sx_RP _ _ _ _ _ [.int (pesF (ia w 112) x1)] _ _
  refine sx_RP.ret (r := (some (.int (pesF (ia w 112) x1)))) rfl rfl ?_
  exact ⟨by rw [dp_n (show x1 < 48 by omega) ex3], hI6, hf4⟩
set_option maxRecDepth 20000 in
set_option maxHeartbeats 4000000 in
theorem x237 {xs : Option (List Int32)} {d : Nat} {w : List sx_C} (hI : WI w) {s z m : Nat} (hs : s < 4) (hz : z ≤ 40) (hm : m ≤ 9) (ez : (ia w 123).getD s 0 = nI z) (em : (ia w 112).getD 2 0 = nI m) : sx_RU xs d 237 0 (lv_args 0 [.ref 111, .int (nI s)]) [] w (some (.int (nI (min z m)))) w := by
  have h : sx_RP xs d 237 0 (lv_args 0 [.ref 111, .int (nI s)]) [] w (fun r9 w2 => r9 = some (.int (nI (min z m))) ∧ w2 = w) := by
    refine sx_RP.step (pc2 := 1) (ls2 := [(0, .ref 111), (1, .int (nI s))]) (st2 := [.ref 111]) (w3 := w) rfl rfl ?_
    refine sx_RP.gf (v := .ref 123) rfl rfl hI.1.o111 rfl rfl (show _ = 4 from rfl) ?_
    refine sx_RP.step (pc2 := 5) (ls2 := [(0, .ref 111), (1, .int (nI s))]) (st2 := [.int (nI s), .ref 123]) (w3 := w) rfl rfl ?_
    refine sx_RP.ild (c := s) rfl hI.1.a123.1 hI.1.a123.2 (sx_in_nI (show s < 4 by omega) (by decide)) (show (nI s).toNatClampNeg = s from nI_clamp (by omega)) (show _ = 6 from rfl) ?_
    rw [ez]
    refine sx_RP.step (pc2 := 7) (ls2 := [(0, .ref 111), (1, .int (nI s))]) (st2 := [.ref 111, .int (nI z)]) (w3 := w) rfl rfl ?_
    refine sx_RP.gf (v := .ref 112) rfl rfl hI.1.o111 rfl rfl (show _ = 10 from rfl) ?_
    refine sx_RP.step (pc2 := 11) (ls2 := [(0, .ref 111), (1, .int (nI s))]) (st2 := [.int 2, .ref 112, .int (nI z)]) (w3 := w) rfl rfl ?_
    refine sx_RP.ild (c := 2) rfl hI.1.a112.1 hI.1.a112.2 (sx_in_nI (show 2 < 172 by omega) (by decide)) (show (nI 2).toNatClampNeg = 2 from nI_clamp (by omega)) (show _ = 12 from rfl) ?_
    rw [em]
    refine sx_RP.br (p1 := 24) (l1 := [(0, .ref 111), (1, .int (nI s))]) (s1 := []) (v1 := w) (p2 := 15) (l2 := [(0, .ref 111), (1, .int (nI s))]) (s2 := []) (v2 := w) rfl rfl (fun q1 => ?_) (fun q1 => ?_)
    · replace q1 := of_decide_eq_true q1
      replace q1 := (nI_leI (a := m) (b := z) (by omega) (by omega)).mp q1
      refine sx_RP.step (pc2 := 25) (ls2 := [(0, .ref 111), (1, .int (nI s))]) (st2 := [.ref 111]) (w3 := w) rfl rfl ?_
      refine sx_RP.gf (v := .ref 112) rfl rfl hI.1.o111 rfl rfl (show _ = 28 from rfl) ?_
      refine sx_RP.step (pc2 := 29) (ls2 := [(0, .ref 111), (1, .int (nI s))]) (st2 := [.int 2, .ref 112]) (w3 := w) rfl rfl ?_
      refine sx_RP.ild (c := 2) rfl hI.1.a112.1 hI.1.a112.2 (sx_in_nI (show 2 < 172 by omega) (by decide)) (show (nI 2).toNatClampNeg = 2 from nI_clamp (by omega)) (show _ = 30 from rfl) ?_
      rw [em]
      refine sx_RP.ret (r := (some (.int (nI m)))) rfl rfl ?_
      exact ⟨by rw [show min z m = m by omega], rfl⟩
    · replace q1 := of_decide_eq_false q1
      replace q1 := mt (nI_leI (a := m) (b := z) (by omega) (by omega)).mpr q1
      refine sx_RP.step (pc2 := 16) (ls2 := [(0, .ref 111), (1, .int (nI s))]) (st2 := [.ref 111]) (w3 := w) rfl rfl ?_
      refine sx_RP.gf (v := .ref 123) rfl rfl hI.1.o111 rfl rfl (show _ = 19 from rfl) ?_
      refine sx_RP.step (pc2 := 20) (ls2 := [(0, .ref 111), (1, .int (nI s))]) (st2 := [.int (nI s), .ref 123]) (w3 := w) rfl rfl ?_
      refine sx_RP.ild (c := s) rfl hI.1.a123.1 hI.1.a123.2 (sx_in_nI (show s < 4 by omega) (by decide)) (show (nI s).toNatClampNeg = s from nI_clamp (by omega)) (show _ = 21 from rfl) ?_
      rw [ez]
      refine sx_RP.step (pc2 := 30) (ls2 := [(0, .ref 111), (1, .int (nI s))]) (st2 := [.int (nI z)]) (w3 := w) rfl rfl ?_
      refine sx_RP.ret (r := (some (.int (nI z)))) rfl rfl ?_
      exact ⟨by rw [show min z m = z by omega], rfl⟩
  obtain ⟨r9, w2, h1, rfl, rfl⟩ := h
  exact h1
set_option maxRecDepth 20000 in
set_option maxHeartbeats 4000000 in
theorem X236L {xs : Option (List Int32)} {d s z m : Nat} {w0 : List sx_C} (hs : s < 4) (hz : z ≤ 40) (hm : m ≤ 9) (ez : (ia w0 123).getD s 0 = nI z) (em : (ia w0 112).getD 2 0 = nI m) : ∀ (q j : Nat) (w : List sx_C), j + q = min z m → WI w → NMs w = bkN (NMs w0) s ((ia w0 122).getD s 0) (dpF (ia w0 112)) j → FMs w = FMs w0 → (∀ a, a ≠ 116 → a ≠ 117 → a ≠ 118 → a ≠ 124 → w[a]? = w0[a]?) → sx_RP xs (d + 7) 236 30 [(0, .ref 111), (1, .int (nI s)), (2, .int (nI j))] [] w (fun r w2 => (r = some (.int (nI (min z m))) ∧ NMs w2 = bkN (NMs w0) s ((ia w0 122).getD s 0) (dpF (ia w0 112)) (min z m) ∧ FMs w2 = FMs w0) ∧ WI w2 ∧ ∀ a, a ≠ 116 → a ≠ 117 → a ≠ 118 → a ≠ 124 → w2[a]? = w0[a]?)
  | 0, j, w, hj, hI, hN, hC, hO => by
    obtain rfl : j = min z m := by omega
    have ez1 : (ia w 123).getD s 0 = nI z := by rw [ia_of (hO 123 (by decide) (by decide) (by decide) (by decide))]; exact ez
    have ei : ia w 112 = ia w0 112 := ia_of (hO 112 (by decide) (by decide) (by decide) (by decide))
    have em1 : (ia w 112).getD 2 0 = nI m := by rw [ei]; exact em
    refine sx_RP.step (pc2 := 31) (ls2 := [(0, .ref 111), (1, .int (nI s)), (2, .int (nI (min z m)))]) (st2 := [.int (nI (min z m))]) (w3 := w) rfl rfl ?_
    refine sx_RP.step (pc2 := 32) (ls2 := [(0, .ref 111), (1, .int (nI s)), (2, .int (nI (min z m)))]) (st2 := [.ref 111, .int (nI (min z m))]) (w3 := w) rfl rfl ?_
    refine sx_RP.step (pc2 := 33) (ls2 := [(0, .ref 111), (1, .int (nI s)), (2, .int (nI (min z m)))]) (st2 := [.int (nI s), .ref 111, .int (nI (min z m))]) (w3 := w) rfl rfl ?_
    refine sx_RP.cu (as := [.ref 111, .int (nI s)]) (rest2 := [.int (nI (min z m))]) (st3 := [.int (nI (min z m)), .int (nI (min z m))]) rfl rfl (sx_inv_v2 (mi := 236) (k := 345) (st := [.int (nI s), .ref 111, .int (nI (min z m))]) (w := w) rfl rfl hI.1.o111 rfl rfl rfl) rfl rfl (x237 hI hs hz hm ez1 em1) rfl ?_
    refine sx_RP.br (p1 := 57) (l1 := [(0, .ref 111), (1, .int (nI s)), (2, .int (nI (min z m)))]) (s1 := []) (v1 := w) rfl rfl (fun _ => ?_) (fun q => absurd (nI_le (a := min z m) (b := min z m) (by omega) (by omega)) (of_decide_eq_false q))
    refine sx_RP.step (pc2 := 58) (ls2 := [(0, .ref 111), (1, .int (nI s)), (2, .int (nI (min z m)))]) (st2 := [.ref 111]) (w3 := w) rfl rfl ?_
    refine sx_RP.step (pc2 := 59) (ls2 := [(0, .ref 111), (1, .int (nI s)), (2, .int (nI (min z m)))]) (st2 := [.int (nI s), .ref 111]) (w3 := w) rfl rfl ?_
    refine sx_RP.cu (as := [.ref 111, .int (nI s)]) (rest2 := []) (st3 := [.int (nI (min z m))]) rfl rfl (sx_inv_v2 (mi := 236) (k := 345) (st := [.int (nI s), .ref 111]) (w := w) rfl rfl hI.1.o111 rfl rfl rfl) rfl rfl (x237 hI hs hz hm ez1 em1) rfl ?_
    refine sx_RP.ret (r := (some (.int (nI (min z m))))) rfl rfl ?_
    exact ⟨⟨rfl, hN, hC⟩, hI, hO⟩
  | q + 1, j, w, hj, hI, hN, hC, hO => by
    have ez1 : (ia w 123).getD s 0 = nI z := by rw [ia_of (hO 123 (by decide) (by decide) (by decide) (by decide))]; exact ez
    have ei : ia w 112 = ia w0 112 := ia_of (hO 112 (by decide) (by decide) (by decide) (by decide))
    have em1 : (ia w 112).getD 2 0 = nI m := by rw [ei]; exact em
    refine sx_RP.step (pc2 := 31) (ls2 := [(0, .ref 111), (1, .int (nI s)), (2, .int (nI j))]) (st2 := [.int (nI j)]) (w3 := w) rfl rfl ?_
    refine sx_RP.step (pc2 := 32) (ls2 := [(0, .ref 111), (1, .int (nI s)), (2, .int (nI j))]) (st2 := [.ref 111, .int (nI j)]) (w3 := w) rfl rfl ?_
    refine sx_RP.step (pc2 := 33) (ls2 := [(0, .ref 111), (1, .int (nI s)), (2, .int (nI j))]) (st2 := [.int (nI s), .ref 111, .int (nI j)]) (w3 := w) rfl rfl ?_
    refine sx_RP.cu (as := [.ref 111, .int (nI s)]) (rest2 := [.int (nI j)]) (st3 := [.int (nI (min z m)), .int (nI j)]) rfl rfl (sx_inv_v2 (mi := 236) (k := 345) (st := [.int (nI s), .ref 111, .int (nI j)]) (w := w) rfl rfl hI.1.o111 rfl rfl rfl) rfl rfl (x237 hI hs hz hm ez1 em1) rfl ?_
    refine sx_RP.br (p2 := 39) (l2 := [(0, .ref 111), (1, .int (nI s)), (2, .int (nI j))]) (s2 := []) (v2 := w) rfl rfl (fun q => absurd (of_decide_eq_true q) (fun q => absurd ((nI_leI (a := min z m) (b := j) (by omega) (by omega)).mp q) (by omega))) (fun _ => ?_)
    refine sx_RP.step (pc2 := 40) (ls2 := [(0, .ref 111), (1, .int (nI s)), (2, .int (nI j))]) (st2 := [.ref 111]) (w3 := w) rfl rfl ?_
    refine sx_RP.step (pc2 := 41) (ls2 := [(0, .ref 111), (1, .int (nI s)), (2, .int (nI j))]) (st2 := [.int (nI s), .ref 111]) (w3 := w) rfl rfl ?_
    refine sx_RP.step (pc2 := 42) (ls2 := [(0, .ref 111), (1, .int (nI s)), (2, .int (nI j))]) (st2 := [.int (nI j), .int (nI s), .ref 111]) (w3 := w) rfl rfl ?_
    refine sx_RP.step (pc2 := 43) (ls2 := [(0, .ref 111), (1, .int (nI s)), (2, .int (nI j))]) (st2 := [.ref 111, .int (nI j), .int (nI s), .ref 111]) (w3 := w) rfl rfl ?_
    refine sx_RP.step (pc2 := 44) (ls2 := [(0, .ref 111), (1, .int (nI s)), (2, .int (nI j))]) (st2 := [.int (nI j), .ref 111, .int (nI j), .int (nI s), .ref 111]) (w3 := w) rfl rfl ?_
    refine sx_RP.callp (as2 := [.ref 111, .int (nI j)]) (rest2 := [.int (nI j), .int (nI s), .ref 111]) rfl rfl (sx_inv_v2 (mi := 236) (k := 180) (st := [.int (nI j), .ref 111, .int (nI j), .int (nI s), .ref 111]) (w := w) rfl rfl hI.1.o111 rfl rfl rfl) rfl rfl rfl (X188 (d := d + 1) hI (show j < 9 by omega)) (show _ = 47 from rfl) ?_
    rintro r4 w2 ⟨rfl, hI3, hf1⟩
    show sx_RP _ _ _ _ _ [.int (dpF (ia w 112) j), .int (nI j), .int (nI s), .ref 111] _ _
    refine sx_RP.step (pc2 := 48) (ls2 := [(0, .ref 111), (1, .int (nI s)), (2, .int (nI j))]) (st2 := [.long ((dpF (ia w 112) j).toInt64), .int (nI j), .int (nI s), .ref 111]) (w3 := w2) rfl rfl ?_
    refine sx_RP.callp (as2 := [.ref 111, .int (nI s), .int (nI j), .long ((dpF (ia w 112) j).toInt64)]) (rest2 := []) rfl rfl (sx_inv_v2 (mi := 236) (k := 339) (st := [.long ((dpF (ia w 112) j).toInt64), .int (nI j), .int (nI s), .ref 111]) (w := w2) rfl rfl hI3.1.o111 rfl rfl rfl) rfl rfl rfl (X233 hI3 hs (show j < 40 by omega) ((dpF (ia w 112) j).toInt64)) (show _ = 51 from rfl) ?_
    rintro r4 w6 ⟨⟨rfl, hv4⟩, hI7, hs5⟩
    show sx_RP _ _ _ _ _ [] _ _
    refine sx_RP.step (pc2 := 54) (ls2 := [(2, .int ((nI j) + 1)), (0, .ref 111), (1, .int (nI s))]) (st2 := []) (w3 := w6) rfl rfl ?_
    rw [nI_1 j]
    refine sx_RP.step (pc2 := 30) (ls2 := [(2, .int (nI (j + 1))), (0, .ref 111), (1, .int (nI s))]) (st2 := []) (w3 := w6) rfl rfl ?_
    have eb : (ia w2 122).getD s 0 = (ia w0 122).getD s 0 := by rw [ia_of (hf1 122 (by decide) (by decide)), ia_of (hO 122 (by decide) (by decide) (by decide) (by decide))]
    have hN1 : NMs w2 = NMs w := NMs_eq (hf1 124 (by decide) (by decide))
    have hN2 := NMs_wr hI3 hs (show j < 40 by omega) hv4
    refine sx_RP.ls (sx_lr.cons rfl (sx_lr.cons rfl (sx_lr.cons rfl sx_lr.nil))) (X236L hs hz hm ez em q (j + 1) w6 (by omega) hI7 ?_ ?_ (fun a h1 h2 h3 h4 => (hs5 a h4).trans ((hf1 a h2 h3).trans (hO a h1 h2 h3 h4))))
    · rw [hN2, hN1, hN, eb, ei, bkN_s]
    · rw [FMs_eq (w := w2) (hs5 122 (by decide)) (hs5 123 (by decide)), FMs_eq (w := w) (hf1 122 (by decide) (by decide)) (hf1 123 (by decide) (by decide)), hC]
set_option maxRecDepth 20000 in
set_option maxHeartbeats 4000000 in
theorem Y236 {xs : Option (List Int32)} {d : Nat} {w : List sx_C} (hI : WI w) (a1 : Int32) : sx_RP xs (d + 7) 236 0 (lv_args 0 [.ref 111, .int a1]) [] w (fun r w2 => (r = some (.int (bokA (FMs w) (ia w 112) a1)) ∧ NMs w2 = bokR (FMs w) (NMs w) (ia w 112) a1 ∧ FMs w2 = FMs w) ∧ WI w2 ∧ ∀ a, a ≠ 116 → a ≠ 117 → a ≠ 118 → a ≠ 124 → w2[a]? = w[a]?) := by
  obtain ⟨m, hm, em⟩ := (hI.sA (a := 112) (by decide) 2 (by decide)).2.1 rfl
  refine sx_RP.step (pc2 := 1) (ls2 := [(0, .ref 111), (1, .int a1)]) (st2 := [.int a1]) (w3 := w) rfl rfl ?_
  rcases in_cases a1 0 3 (m := 0) (n := 3) rfl rfl (by decide) (by decide) with q1 | ⟨x2, hx3, hx4, rfl⟩
  · refine sx_RP.cu (as := [.int a1]) (rest2 := []) (st3 := [.int 0]) rfl rfl rfl rfl rfl (cx_231n q1) rfl ?_
    refine sx_RP.step (pc2 := 7) (ls2 := [(0, .ref 111), (1, .int a1)]) (st2 := []) (w3 := w) rfl rfl ?_
    refine sx_RP.step (pc2 := 8) (ls2 := [(0, .ref 111), (1, .int a1)]) (st2 := [.ref 111]) (w3 := w) rfl rfl ?_
    refine sx_RP.step (pc2 := 9) (ls2 := [(0, .ref 111), (1, .int a1)]) (st2 := [.int 0, .ref 111]) (w3 := w) rfl rfl ?_
    refine sx_RP.callp (as2 := [.ref 111, .int 0]) (rest2 := []) rfl rfl (sx_inv_v2 (mi := 236) (k := 70) (st := [.int 0, .ref 111]) (w := w) rfl rfl hI.1.o111 rfl rfl rfl) rfl rfl rfl (S133_0 hI) (show _ = 12 from rfl) ?_
    rintro r4 w7 ⟨rfl, hI8, hs6⟩
    show sx_RP _ _ _ _ _ [.int (-1000000001)] _ _
    refine sx_RP.ret (r := (some (.int (-1000000001)))) rfl rfl ?_
    exact ⟨⟨by rw [(bok_1 (F := FMs w) (N := NMs w) (l := ia w 112) q1).1], by rw [(bok_1 (F := FMs w) (N := NMs w) (l := ia w 112) q1).2]; exact NMs_eq (hs6 124 (by decide)), FMs_eq (hs6 122 (by decide)) (hs6 123 (by decide))⟩, hI8, fun a h1 h2 h3 h4 => hs6 a h1⟩
  · refine sx_RP.cu (as := [.int (nI x2)]) (rest2 := []) (st3 := [.int 1]) rfl rfl rfl rfl rfl (cx_231p ⟨nI_le (a := 0) hx3 (by omega), nI_le (b := 3) hx4 (by decide)⟩) rfl ?_
    refine sx_RP.step (pc2 := 13) (ls2 := [(0, .ref 111), (1, .int (nI x2))]) (st2 := []) (w3 := w) rfl rfl ?_
    refine sx_RP.step (pc2 := 14) (ls2 := [(0, .ref 111), (1, .int (nI x2))]) (st2 := [.ref 111]) (w3 := w) rfl rfl ?_
    refine sx_RP.gf (v := .ref 122) rfl rfl hI.1.o111 rfl rfl (show _ = 17 from rfl) ?_
    refine sx_RP.step (pc2 := 18) (ls2 := [(0, .ref 111), (1, .int (nI x2))]) (st2 := [.int (nI x2), .ref 122]) (w3 := w) rfl rfl ?_
    refine sx_RP.ild (c := x2) rfl hI.1.a122.1 hI.1.a122.2 (sx_in_nI (show x2 < 4 by omega) (by decide)) (show (nI x2).toNatClampNeg = x2 from nI_clamp (by omega)) (show _ = 19 from rfl) ?_
    refine sx_RP.br (p1 := 28) (l1 := [(0, .ref 111), (1, .int (nI x2))]) (s1 := []) (v1 := w) (p2 := 22) (l2 := [(0, .ref 111), (1, .int (nI x2))]) (s2 := []) (v2 := w) rfl rfl (fun q9 => ?_) (fun q9 => ?_)
    · replace q9 := of_decide_eq_true q9
      refine sx_RP.step (pc2 := 29) (ls2 := [(0, .ref 111), (1, .int (nI x2))]) (st2 := [.int 0]) (w3 := w) rfl rfl ?_
      refine sx_RP.step (pc2 := 30) (ls2 := [(2, .int 0), (0, .ref 111), (1, .int (nI x2))]) (st2 := []) (w3 := w) rfl rfl ?_
      obtain ⟨z, hz, ez⟩ := hI.l (show x2 < 4 by omega)
      rw [(bok_3 (F := FMs w) (N := NMs w) (l := ia w 112) (show x2 < 4 by omega) hz hm (FMs_at (by omega) ez) q9 em).1, (bok_3 (F := FMs w) (N := NMs w) (l := ia w 112) (show x2 < 4 by omega) hz hm (FMs_at (by omega) ez) q9 em).2]
      exact sx_RP.ls (sx_lr.cons rfl (sx_lr.cons rfl (sx_lr.cons rfl sx_lr.nil))) (X236L (w0 := w) (show x2 < 4 by omega) hz hm ez em (min z m) 0 w (by omega) hI bkN_0.symm rfl (fun _ _ _ _ _ => rfl))
    · replace q9 := Decidable.not_not.mp (of_decide_eq_false q9)
      refine sx_RP.step (pc2 := 23) (ls2 := [(0, .ref 111), (1, .int (nI x2))]) (st2 := [.ref 111]) (w3 := w) rfl rfl ?_
      refine sx_RP.step (pc2 := 24) (ls2 := [(0, .ref 111), (1, .int (nI x2))]) (st2 := [.int 5, .ref 111]) (w3 := w) rfl rfl ?_
      refine sx_RP.callp (as2 := [.ref 111, .int 5]) (rest2 := []) rfl rfl (sx_inv_v2 (mi := 236) (k := 70) (st := [.int 5, .ref 111]) (w := w) rfl rfl hI.1.o111 rfl rfl rfl) rfl rfl rfl (S133_5 hI) (show _ = 27 from rfl) ?_
      rintro r4 w11 ⟨rfl, hI12, hs10⟩
      show sx_RP _ _ _ _ _ [.int (-1000000006)] _ _
      refine sx_RP.ret (r := (some (.int (-1000000006)))) rfl rfl ?_
      exact ⟨⟨by rw [(bok_2 (F := FMs w) (N := NMs w) (l := ia w 112) (show x2 < 4 by omega) (FMs_at0 (by omega)) q9).1], by rw [(bok_2 (F := FMs w) (N := NMs w) (l := ia w 112) (show x2 < 4 by omega) (FMs_at0 (by omega)) q9).2]; exact NMs_eq (hs10 124 (by decide)), FMs_eq (hs10 122 (by decide)) (hs10 123 (by decide))⟩, hI12, fun a h1 h2 h3 h4 => hs10 a h1⟩
end
-- 89y26.siege1.lean.txt
section
def RdW (n : Nat) (X : Nat → Nat) (q : Bool × Nat × List Int32) (w : List sx_C) : Prop := TK' n X q.2.1 w ∧ (q.1 = true → rel w 29 q.2.2)
def dsW (v : Int32) (b : List Int32) : List Int32 := (b.set (163 + iN (b.getD 2 0)) v).set 2 (nI (iN (b.getD 2 0) + 1))
def disW (n : Nat) (X : Nat → Nat) (p : Nat) (b : List Int32) : Bool × Nat × List Int32 := if iN (b.getD 2 0) < 9 then (if nmT n X (nP n X p) 0 47 = true then (true, nP n X (nP n X p), dsW (nI (vaT n X (nP n X p))) b) else (false, nP n X p, b)) else (false, p, b)
set_option maxRecDepth 20000 in
set_option maxHeartbeats 4000000 in
theorem V109 {xs : Option (List Int32)} {d : Nat} {w : List sx_C} (hI : WI w) {n p : Nat} {X : Nat → Nat} {b : List Int32} (hC : CT n X w) (hT : TK' n X p w) (hp : p ≤ n) (hB : rel w 29 b) : sx_RP xs (d + 3) 109 0 (lv_args 0 [.ref 96, .ref 29]) [] w (fun r w2 => (r = some (.int (b01 (disW n X p b).1)) ∧ RdW n X (disW n X p b) w2) ∧ WI w2 ∧ CT n X w2 ∧ OffT w w2) := by
  obtain ⟨m, hm, en⟩ := (hI.c isA29).2
  have er : b.getD 2 0 = nI m := hB.dished.symm.trans en
  have hlen : iN (b.getD 2 0) = m := by rw [er, iN_n (by omega)]
  refine sx_RP.step (pc2 := 1) (ls2 := [(0, .ref 96), (1, .ref 29)]) (st2 := [.ref 29]) (w3 := w) rfl rfl ?_
  rcases Decidable.em (m < 9) with c1 | c1
  · refine sx_RP.cu (as := [.ref 29]) (rest2 := []) (st3 := [.int 1]) rfl rfl (sx_inv_v2 (mi := 109) (k := 100) (st := [.ref 29]) (w := w) rfl rfl (hI.1.oC (Or.inr (Or.inr rfl))) rfl rfl rfl) rfl rfl (p63y hI isA29 en hm c1) rfl ?_
    refine sx_RP.step (pc2 := 9) (ls2 := [(0, .ref 96), (1, .ref 29)]) (st2 := []) (w3 := w) rfl rfl ?_
    refine sx_RP.step (pc2 := 10) (ls2 := [(0, .ref 96), (1, .ref 29)]) (st2 := [.ref 96]) (w3 := w) rfl rfl ?_
    refine sx_RP.callp (as2 := [.ref 96]) (rest2 := []) rfl rfl (sx_inv_v2 (mi := 109) (k := 29) (st := [.ref 96]) (w := w) rfl rfl hI.1.o96 rfl rfl rfl) rfl rfl rfl (X94 hI hC hT.2.2.1 (beT_le hp)) (show _ = 13 from rfl) ?_
    rintro r4 w5 ⟨⟨rfl, hT2, h13⟩, hI6, hs4⟩
    show sx_RP _ _ _ _ _ [] _ _
    have hT11 : TK' n X (nP n X p) w5 := hT2
    have hC7 := hC.same h13 (ia_of (hs4 97 (by decide)))
    have hp8 : nP n X p ≤ n := nP_le hp
    have hB9 := hB.same hI isA29 (fun a h1 h2 => hs4 a (by omega))
    have hO10 := OffT.rf.tr hs4.offT
    refine sx_RP.step (pc2 := 14) (ls2 := [(0, .ref 96), (1, .ref 29)]) (st2 := [.ref 96]) (w3 := w5) rfl rfl ?_
    refine sx_RP.step (pc2 := 15) (ls2 := [(0, .ref 96), (1, .ref 29)]) (st2 := [.int 0, .ref 96]) (w3 := w5) rfl rfl ?_
    refine sx_RP.step (pc2 := 17) (ls2 := [(0, .ref 96), (1, .ref 29)]) (st2 := [.int 47, .int 0, .ref 96]) (w3 := w5) rfl rfl ?_
    rcases Bool.eq_false_or_eq_true (nmT n X (nP n X p) 0 47) with c12 | c12
    · refine sx_RP.cu (as := [.ref 96, .int 0, .int 47]) (rest2 := []) (st3 := [.int 1]) rfl rfl (sx_inv_v2 (mi := 109) (k := 66) (st := [.int 47, .int 0, .ref 96]) (w := w5) rfl rfl hI6.1.o96 rfl rfl rfl) rfl rfl (x103t (lo := 0) (hi := 47) hI6 hC7 hT11 (by omega) (by omega) c12) rfl ?_
      refine sx_RP.step (pc2 := 25) (ls2 := [(0, .ref 96), (1, .ref 29)]) (st2 := []) (w3 := w5) rfl rfl ?_
      refine sx_RP.step (pc2 := 26) (ls2 := [(0, .ref 96), (1, .ref 29)]) (st2 := [.ref 29]) (w3 := w5) rfl rfl ?_
      refine sx_RP.step (pc2 := 27) (ls2 := [(0, .ref 96), (1, .ref 29)]) (st2 := [.ref 96, .ref 29]) (w3 := w5) rfl rfl ?_
      refine sx_RP.gt (k := 5) hI6 rfl rfl (by decide) (show _ = 30 from rfl) ?_
      rw [hT11.2.2.2]
      have hv := nmT_in c12
      refine sx_RP.callp (as2 := [.ref 29, .int (nI (vaT n X (nP n X p)))]) (rest2 := []) rfl rfl (sx_inv_v2 (mi := 109) (k := 103) (st := [.int (nI (vaT n X (nP n X p))), .ref 29]) (w := w5) rfl rfl (hI6.1.oC (Or.inr (Or.inr rfl))) rfl rfl rfl) rfl rfl rfl (X64z hI6 isA29 (n := m) (c := (vaT n X (nP n X p))) hB9 (by omega) er (by omega)) (show _ = 33 from rfl) ?_
      rintro r4 w15 ⟨⟨rfl, hc13⟩, hI16, ho14⟩
      show sx_RP _ _ _ _ _ [.int (nI m)] _ _
      have hC17 := hC7.out ho14
      have hT18 := hT11.out ho14
      have hO19 := hO10.tr ho14.offT
      refine sx_RP.step (pc2 := 34) (ls2 := [(0, .ref 96), (1, .ref 29)]) (st2 := []) (w3 := w15) rfl rfl ?_
      refine sx_RP.step (pc2 := 35) (ls2 := [(0, .ref 96), (1, .ref 29)]) (st2 := [.ref 96]) (w3 := w15) rfl rfl ?_
      refine sx_RP.callp (as2 := [.ref 96]) (rest2 := []) rfl rfl (sx_inv_v2 (mi := 109) (k := 29) (st := [.ref 96]) (w := w15) rfl rfl hI16.1.o96 rfl rfl rfl) rfl rfl rfl (X94 hI16 hC17 hT18.2.2.1 (beT_le hp8)) (show _ = 38 from rfl) ?_
      rintro r4 w23 ⟨⟨rfl, hT20, h121⟩, hI24, hs22⟩
      show sx_RP _ _ _ _ _ [] _ _
      have hT29 : TK' n X (nP n X (nP n X p)) w23 := hT20
      have hC25 := hC17.same h121 (ia_of (hs22 97 (by decide)))
      have hp26 : nP n X (nP n X p) ≤ n := nP_le hp8
      have hB27 := hc13.same hI16 isA29 (fun a h1 h2 => hs22 a (by omega))
      have hO28 := hO19.tr hs22.offT
      refine sx_RP.step (pc2 := 39) (ls2 := [(0, .ref 96), (1, .ref 29)]) (st2 := [.int 1]) (w3 := w23) rfl rfl ?_
      refine sx_RP.ret (r := (some (.int 1))) rfl rfl ?_
      rw [show disW n X p b = (true, nP n X (nP n X p), dsW (nI (vaT n X (nP n X p))) b) by unfold disW; rw [if_pos (by rw [hlen]; exact c1), if_pos c12]]
      exact ⟨⟨rfl, hT29, fun _ => (by show rel _ 29 (dsW _ b); unfold dsW; rw [hlen]; exact hB27)⟩, hI24, hC25, hO28⟩
    · refine sx_RP.cu (as := [.ref 96, .int 0, .int 47]) (rest2 := []) (st3 := [.int 0]) rfl rfl (sx_inv_v2 (mi := 109) (k := 66) (st := [.int 47, .int 0, .ref 96]) (w := w5) rfl rfl hI6.1.o96 rfl rfl rfl) rfl rfl (x103f (lo := 0) (hi := 47) hI6 hC7 hT11 (by omega) (by omega) c12) rfl ?_
      refine sx_RP.step (pc2 := 23) (ls2 := [(0, .ref 96), (1, .ref 29)]) (st2 := []) (w3 := w5) rfl rfl ?_
      refine sx_RP.step (pc2 := 24) (ls2 := [(0, .ref 96), (1, .ref 29)]) (st2 := [.int 0]) (w3 := w5) rfl rfl ?_
      refine sx_RP.ret (r := (some (.int 0))) rfl rfl ?_
      rw [show disW n X p b = (false, nP n X p, b) by unfold disW; rw [if_pos (by rw [hlen]; exact c1), if_neg (by rw [c12]; decide)]]
      exact ⟨⟨rfl, hT11, fun z => absurd (show false = true from z) (by decide)⟩, hI6, hC7, hO10⟩
  · refine sx_RP.cu (as := [.ref 29]) (rest2 := []) (st3 := [.int 0]) rfl rfl (sx_inv_v2 (mi := 109) (k := 100) (st := [.ref 29]) (w := w) rfl rfl (hI.1.oC (Or.inr (Or.inr rfl))) rfl rfl rfl) rfl rfl (p63n hI isA29 en hm c1) rfl ?_
    refine sx_RP.step (pc2 := 7) (ls2 := [(0, .ref 96), (1, .ref 29)]) (st2 := []) (w3 := w) rfl rfl ?_
    refine sx_RP.step (pc2 := 8) (ls2 := [(0, .ref 96), (1, .ref 29)]) (st2 := [.int 0]) (w3 := w) rfl rfl ?_
    refine sx_RP.ret (r := (some (.int 0))) rfl rfl ?_
    rw [show disW n X p b = (false, p, b) by unfold disW; rw [if_neg (by rw [hlen]; exact c1)]]
    exact ⟨⟨rfl, hT, fun z => absurd (show false = true from z) (by decide)⟩, hI, hC, OffT.rf⟩
def galX (n : Nat) (X : Nat → Nat) (k s p : Nat) (b : List Int32) : Bool × Nat × List Int32 := if (wtT n X (nP n X (nP n X p)) 100 0 47).1 = true then (if (wtT n X (nP n X (wtT n X (nP n X (nP n X p)) 100 0 47).2) 119 0 3).1 = true then (true, nP n X (wtT n X (nP n X (wtT n X (nP n X (nP n X p)) 100 0 47).2) 119 0 3).2, addRow b (iN (b.getD 1 0)) (nI k) (nI s) (nI (vaT n X (wtT n X (nP n X (nP n X p)) 100 0 47).2)) (nI (vaT n X (wtT n X (nP n X (wtT n X (nP n X (nP n X p)) 100 0 47).2) 119 0 3).2))) else (false, (wtT n X (nP n X (wtT n X (nP n X (nP n X p)) 100 0 47).2) 119 0 3).2, b)) else (false, (wtT n X (nP n X (nP n X p)) 100 0 47).2, b)
def galW (n : Nat) (X : Nat → Nat) (k p : Nat) (b : List Int32) : Bool × Nat × List Int32 := if iN (b.getD 1 0) < 10 then (if wdT n X (nP n X p) 115 = true then galX n X k 0 p b else (if wdT n X (nP n X p) 109 = true then galX n X k 1 p b else (false, nP n X p, b))) else (false, p, b)
set_option maxRecDepth 20000 in
set_option maxHeartbeats 4000000 in
theorem V107 {xs : Option (List Int32)} {d : Nat} {w : List sx_C} (hI : WI w) {n p k : Nat} {X : Nat → Nat} {b : List Int32} (hk5 : k ≤ 5) (hC : CT n X w) (hT : TK' n X p w) (hp : p ≤ n) (hB : rel w 29 b) : sx_RP xs (d + 4) 107 0 (lv_args 0 [.ref 96, .int (nI k), .ref 29]) [] w (fun r w2 => (r = some (.int (b01 (galW n X k p b).1)) ∧ RdW n X (galW n X k p b) w2) ∧ WI w2 ∧ CT n X w2 ∧ OffT w w2) := by
  obtain ⟨m, hm, en⟩ := (hI.c isA29).1
  have er : b.getD 1 0 = nI m := hB.many.symm.trans en
  have hlen : iN (b.getD 1 0) = m := by rw [er, iN_n (by omega)]
  refine sx_RP.step (pc2 := 1) (ls2 := [(0, .ref 96), (1, .int (nI k)), (2, .ref 29)]) (st2 := [.ref 29]) (w3 := w) rfl rfl ?_
  rcases Decidable.em (m < 10) with c1 | c1
  · refine sx_RP.cu (as := [.ref 29]) (rest2 := []) (st3 := [.int 1]) rfl rfl (sx_inv_v2 (mi := 107) (k := 78) (st := [.ref 29]) (w := w) rfl rfl (hI.1.oC (Or.inr (Or.inr rfl))) rfl rfl rfl) rfl rfl (p24y hI isA29 en hm c1) rfl ?_
    refine sx_RP.step (pc2 := 9) (ls2 := [(0, .ref 96), (1, .int (nI k)), (2, .ref 29)]) (st2 := []) (w3 := w) rfl rfl ?_
    refine sx_RP.step (pc2 := 10) (ls2 := [(0, .ref 96), (1, .int (nI k)), (2, .ref 29)]) (st2 := [.ref 96]) (w3 := w) rfl rfl ?_
    refine sx_RP.callp (as2 := [.ref 96]) (rest2 := []) rfl rfl (sx_inv_v2 (mi := 107) (k := 29) (st := [.ref 96]) (w := w) rfl rfl hI.1.o96 rfl rfl rfl) rfl rfl rfl (X94 hI hC hT.2.2.1 (beT_le hp)) (show _ = 13 from rfl) ?_
    rintro r4 w5 ⟨⟨rfl, hT2, h13⟩, hI6, hs4⟩
    show sx_RP _ _ _ _ _ [] _ _
    have hT11 : TK' n X (nP n X p) w5 := hT2
    have hC7 := hC.same h13 (ia_of (hs4 97 (by decide)))
    have hp8 : nP n X p ≤ n := nP_le hp
    have hB9 := hB.same hI isA29 (fun a h1 h2 => hs4 a (by omega))
    have hO10 := OffT.rf.tr hs4.offT
    refine sx_RP.step (pc2 := 14) (ls2 := [(0, .ref 96), (1, .int (nI k)), (2, .ref 29)]) (st2 := [.ref 96]) (w3 := w5) rfl rfl ?_
    refine sx_RP.step (pc2 := 16) (ls2 := [(0, .ref 96), (1, .int (nI k)), (2, .ref 29)]) (st2 := [.float 115, .ref 96]) (w3 := w5) rfl rfl ?_
    rcases Bool.eq_false_or_eq_true (wdT n X (nP n X p) (115 : UInt32)) with c12 | c12
    · refine sx_RP.cu (as := [.ref 96, .float 115]) (rest2 := []) (st3 := [.int 1]) rfl rfl (sx_inv_v2 (mi := 107) (k := 52) (st := [.float 115, .ref 96]) (w := w5) rfl rfl hI6.1.o96 rfl rfl rfl) rfl rfl (x101t (k := (115 : UInt32)) (m := 6) hI6 hC7 hT11 hp8 (by decide) rfl (by decide) c12) rfl ?_
      refine sx_RP.step (pc2 := 22) (ls2 := [(0, .ref 96), (1, .int (nI k)), (2, .ref 29)]) (st2 := []) (w3 := w5) rfl rfl ?_
      refine sx_RP.step (pc2 := 23) (ls2 := [(0, .ref 96), (1, .int (nI k)), (2, .ref 29)]) (st2 := [.int 0]) (w3 := w5) rfl rfl ?_
      refine sx_RP.step (pc2 := 27) (ls2 := [(0, .ref 96), (1, .int (nI k)), (2, .ref 29)]) (st2 := [.int 0]) (w3 := w5) rfl rfl ?_
      refine sx_RP.step (pc2 := 28) (ls2 := [(3, .int 0), (0, .ref 96), (1, .int (nI k)), (2, .ref 29)]) (st2 := []) (w3 := w5) rfl rfl ?_
      refine sx_RP.step (pc2 := 29) (ls2 := [(3, .int 0), (0, .ref 96), (1, .int (nI k)), (2, .ref 29)]) (st2 := [.int 0]) (w3 := w5) rfl rfl ?_
      refine sx_RP.step (pc2 := 30) (ls2 := [(3, .int 0), (0, .ref 96), (1, .int (nI k)), (2, .ref 29)]) (st2 := [.int 1, .int 0]) (w3 := w5) rfl rfl ?_
      refine sx_RP.step (pc2 := 44) (ls2 := [(3, .int 0), (0, .ref 96), (1, .int (nI k)), (2, .ref 29)]) (st2 := []) (w3 := w5) rfl rfl ?_
      refine sx_RP.step (pc2 := 45) (ls2 := [(3, .int 0), (0, .ref 96), (1, .int (nI k)), (2, .ref 29)]) (st2 := [.ref 96]) (w3 := w5) rfl rfl ?_
      refine sx_RP.callp (as2 := [.ref 96]) (rest2 := []) rfl rfl (sx_inv_v2 (mi := 107) (k := 29) (st := [.ref 96]) (w := w5) rfl rfl hI6.1.o96 rfl rfl rfl) rfl rfl rfl (X94 hI6 hC7 hT11.2.2.1 (beT_le hp8)) (show _ = 48 from rfl) ?_
      rintro r4 w16 ⟨⟨rfl, hT13, h114⟩, hI17, hs15⟩
      show sx_RP _ _ _ _ _ [] _ _
      have hT22 : TK' n X (nP n X (nP n X p)) w16 := hT13
      have hC18 := hC7.same h114 (ia_of (hs15 97 (by decide)))
      have hp19 : nP n X (nP n X p) ≤ n := nP_le hp8
      have hB20 := hB9.same hI6 isA29 (fun a h1 h2 => hs15 a (by omega))
      have hO21 := hO10.tr hs15.offT
      refine sx_RP.step (pc2 := 49) (ls2 := [(3, .int 0), (0, .ref 96), (1, .int (nI k)), (2, .ref 29)]) (st2 := [.ref 96]) (w3 := w16) rfl rfl ?_
      refine sx_RP.step (pc2 := 51) (ls2 := [(3, .int 0), (0, .ref 96), (1, .int (nI k)), (2, .ref 29)]) (st2 := [.float 100, .ref 96]) (w3 := w16) rfl rfl ?_
      refine sx_RP.step (pc2 := 52) (ls2 := [(3, .int 0), (0, .ref 96), (1, .int (nI k)), (2, .ref 29)]) (st2 := [.int 0, .float 100, .ref 96]) (w3 := w16) rfl rfl ?_
      refine sx_RP.step (pc2 := 54) (ls2 := [(3, .int 0), (0, .ref 96), (1, .int (nI k)), (2, .ref 29)]) (st2 := [.int 47, .int 0, .float 100, .ref 96]) (w3 := w16) rfl rfl ?_
      refine sx_RP.callp (as2 := [.ref 96, .float 100, .int 0, .int 47]) (rest2 := []) rfl rfl (sx_inv_v2 (mi := 107) (k := 90) (st := [.int 47, .int 0, .float 100, .ref 96]) (w := w16) rfl rfl hI17.1.o96 rfl rfl rfl) rfl rfl rfl (X108 (k := 100) (m := 2) (lo := 0) (hi := 47) hI17 hC18 hT22 hp19 (by decide) rfl (by decide) (by decide) (by decide)) (show _ = 57 from rfl) ?_
      rintro r4 w26 ⟨⟨rfl, hT23, h124⟩, hI27, hs25⟩
      show sx_RP _ _ _ _ _ [.int (b01 (wtT n X (nP n X (nP n X p)) 100 0 47).1)] _ _
      have hC28 := hC18.same h124 (ia_of (hs25 97 (by decide)))
      have hp29 : (wtT n X (nP n X (nP n X p)) 100 0 47).2 ≤ n := wtT_le hp19
      have hB30 := hB20.same hI17 isA29 (fun a h1 h2 => hs25 a (by omega))
      have hO31 := hO21.tr hs25.offT
      refine sx_RP.br (p1 := 62) (l1 := [(3, .int 0), (0, .ref 96), (1, .int (nI k)), (2, .ref 29)]) (s1 := []) (v1 := w26) (p2 := 60) (l2 := [(3, .int 0), (0, .ref 96), (1, .int (nI k)), (2, .ref 29)]) (s2 := []) (v2 := w26) rfl rfl (fun q32 => ?_) (fun q32 => ?_)
      · replace q32 := of_decide_eq_true q32
        refine sx_RP.step (pc2 := 63) (ls2 := [(3, .int 0), (0, .ref 96), (1, .int (nI k)), (2, .ref 29)]) (st2 := [.ref 96]) (w3 := w26) rfl rfl ?_
        refine sx_RP.gt (k := 5) hI27 rfl rfl (by decide) (show _ = 66 from rfl) ?_
        rw [hT23.2.2.2]
        refine sx_RP.step (pc2 := 68) (ls2 := [(4, .int (nI (vaT n X (wtT n X (nP n X (nP n X p)) 100 0 47).2))), (3, .int 0), (0, .ref 96), (1, .int (nI k)), (2, .ref 29)]) (st2 := []) (w3 := w26) rfl rfl ?_
        refine sx_RP.step (pc2 := 69) (ls2 := [(4, .int (nI (vaT n X (wtT n X (nP n X (nP n X p)) 100 0 47).2))), (3, .int 0), (0, .ref 96), (1, .int (nI k)), (2, .ref 29)]) (st2 := [.ref 96]) (w3 := w26) rfl rfl ?_
        refine sx_RP.callp (as2 := [.ref 96]) (rest2 := []) rfl rfl (sx_inv_v2 (mi := 107) (k := 29) (st := [.ref 96]) (w := w26) rfl rfl hI27.1.o96 rfl rfl rfl) rfl rfl rfl (X94 hI27 hC28 hT23.2.2.1 (beT_le hp29)) (show _ = 72 from rfl) ?_
        rintro r4 w36 ⟨⟨rfl, hT33, h134⟩, hI37, hs35⟩
        show sx_RP _ _ _ _ _ [] _ _
        have hT42 : TK' n X (nP n X ((wtT n X (nP n X (nP n X p)) 100 0 47).2)) w36 := hT33
        have hC38 := hC28.same h134 (ia_of (hs35 97 (by decide)))
        have hp39 : nP n X ((wtT n X (nP n X (nP n X p)) 100 0 47).2) ≤ n := nP_le hp29
        have hB40 := hB30.same hI27 isA29 (fun a h1 h2 => hs35 a (by omega))
        have hO41 := hO31.tr hs35.offT
        refine sx_RP.step (pc2 := 73) (ls2 := [(4, .int (nI (vaT n X (wtT n X (nP n X (nP n X p)) 100 0 47).2))), (3, .int 0), (0, .ref 96), (1, .int (nI k)), (2, .ref 29)]) (st2 := [.ref 96]) (w3 := w36) rfl rfl ?_
        refine sx_RP.step (pc2 := 75) (ls2 := [(4, .int (nI (vaT n X (wtT n X (nP n X (nP n X p)) 100 0 47).2))), (3, .int 0), (0, .ref 96), (1, .int (nI k)), (2, .ref 29)]) (st2 := [.float 119, .ref 96]) (w3 := w36) rfl rfl ?_
        refine sx_RP.step (pc2 := 76) (ls2 := [(4, .int (nI (vaT n X (wtT n X (nP n X (nP n X p)) 100 0 47).2))), (3, .int 0), (0, .ref 96), (1, .int (nI k)), (2, .ref 29)]) (st2 := [.int 0, .float 119, .ref 96]) (w3 := w36) rfl rfl ?_
        refine sx_RP.step (pc2 := 77) (ls2 := [(4, .int (nI (vaT n X (wtT n X (nP n X (nP n X p)) 100 0 47).2))), (3, .int 0), (0, .ref 96), (1, .int (nI k)), (2, .ref 29)]) (st2 := [.int 3, .int 0, .float 119, .ref 96]) (w3 := w36) rfl rfl ?_
        refine sx_RP.callp (as2 := [.ref 96, .float 119, .int 0, .int 3]) (rest2 := []) rfl rfl (sx_inv_v2 (mi := 107) (k := 90) (st := [.int 3, .int 0, .float 119, .ref 96]) (w := w36) rfl rfl hI37.1.o96 rfl rfl rfl) rfl rfl rfl (X108 (k := 119) (m := 3) (lo := 0) (hi := 3) hI37 hC38 hT42 hp39 (by decide) rfl (by decide) (by decide) (by decide)) (show _ = 80 from rfl) ?_
        rintro r4 w46 ⟨⟨rfl, hT43, h144⟩, hI47, hs45⟩
        show sx_RP _ _ _ _ _ [.int (b01 (wtT n X (nP n X ((wtT n X (nP n X (nP n X p)) 100 0 47).2)) 119 0 3).1)] _ _
        have hC48 := hC38.same h144 (ia_of (hs45 97 (by decide)))
        have hp49 : (wtT n X (nP n X ((wtT n X (nP n X (nP n X p)) 100 0 47).2)) 119 0 3).2 ≤ n := wtT_le hp39
        have hB50 := hB40.same hI37 isA29 (fun a h1 h2 => hs45 a (by omega))
        have hO51 := hO41.tr hs45.offT
        refine sx_RP.br (p1 := 85) (l1 := [(4, .int (nI (vaT n X (wtT n X (nP n X (nP n X p)) 100 0 47).2))), (3, .int 0), (0, .ref 96), (1, .int (nI k)), (2, .ref 29)]) (s1 := []) (v1 := w46) (p2 := 83) (l2 := [(4, .int (nI (vaT n X (wtT n X (nP n X (nP n X p)) 100 0 47).2))), (3, .int 0), (0, .ref 96), (1, .int (nI k)), (2, .ref 29)]) (s2 := []) (v2 := w46) rfl rfl (fun q52 => ?_) (fun q52 => ?_)
        · replace q52 := of_decide_eq_true q52
          refine sx_RP.step (pc2 := 86) (ls2 := [(4, .int (nI (vaT n X (wtT n X (nP n X (nP n X p)) 100 0 47).2))), (3, .int 0), (0, .ref 96), (1, .int (nI k)), (2, .ref 29)]) (st2 := [.ref 29]) (w3 := w46) rfl rfl ?_
          refine sx_RP.step (pc2 := 87) (ls2 := [(4, .int (nI (vaT n X (wtT n X (nP n X (nP n X p)) 100 0 47).2))), (3, .int 0), (0, .ref 96), (1, .int (nI k)), (2, .ref 29)]) (st2 := [.int (nI k), .ref 29]) (w3 := w46) rfl rfl ?_
          refine sx_RP.step (pc2 := 88) (ls2 := [(4, .int (nI (vaT n X (wtT n X (nP n X (nP n X p)) 100 0 47).2))), (3, .int 0), (0, .ref 96), (1, .int (nI k)), (2, .ref 29)]) (st2 := [.int 0, .int (nI k), .ref 29]) (w3 := w46) rfl rfl ?_
          refine sx_RP.step (pc2 := 90) (ls2 := [(4, .int (nI (vaT n X (wtT n X (nP n X (nP n X p)) 100 0 47).2))), (3, .int 0), (0, .ref 96), (1, .int (nI k)), (2, .ref 29)]) (st2 := [.int (nI (vaT n X (wtT n X (nP n X (nP n X p)) 100 0 47).2)), .int 0, .int (nI k), .ref 29]) (w3 := w46) rfl rfl ?_
          refine sx_RP.step (pc2 := 91) (ls2 := [(4, .int (nI (vaT n X (wtT n X (nP n X (nP n X p)) 100 0 47).2))), (3, .int 0), (0, .ref 96), (1, .int (nI k)), (2, .ref 29)]) (st2 := [.ref 96, .int (nI (vaT n X (wtT n X (nP n X (nP n X p)) 100 0 47).2)), .int 0, .int (nI k), .ref 29]) (w3 := w46) rfl rfl ?_
          refine sx_RP.gt (k := 5) hI47 rfl rfl (by decide) (show _ = 94 from rfl) ?_
          rw [hT43.2.2.2]
          have ht53 := wtT_t (b01_t q32)
          have ht54 := wtT_t (b01_t q52)
          have hv1 := nmT_in ht53.2.1
          have hv2 := nmT_in ht54.2.1
          rw [← ht53.2.2] at hv1
          rw [← ht54.2.2] at hv2
          refine sx_RP.callp (as2 := [.ref 29, .int (nI k), .int 0, .int (nI (vaT n X (wtT n X (nP n X (nP n X p)) 100 0 47).2)), .int (nI (vaT n X (wtT n X (nP n X ((wtT n X (nP n X (nP n X p)) 100 0 47).2)) 119 0 3).2))]) (rest2 := []) rfl rfl (sx_inv_v2 (mi := 107) (k := 96) (st := [.int (nI (vaT n X (wtT n X (nP n X ((wtT n X (nP n X (nP n X p)) 100 0 47).2)) 119 0 3).2)), .int (nI (vaT n X (wtT n X (nP n X (nP n X p)) 100 0 47).2)), .int 0, .int (nI k), .ref 29]) (w := w46) rfl rfl (hI47.1.oC (Or.inr (Or.inr rfl))) rfl rfl rfl) rfl rfl rfl (X25z hI47 isA29 (n := m) (k := k) (s := 0) (c := (vaT n X (wtT n X (nP n X (nP n X p)) 100 0 47).2)) (y := (vaT n X (wtT n X (nP n X ((wtT n X (nP n X (nP n X p)) 100 0 47).2)) 119 0 3).2)) hB50 (by omega) er (by omega) (by omega) (by omega) (by omega)) (show _ = 97 from rfl) ?_
          rintro r4 w57 ⟨⟨rfl, hc55⟩, hI58, ho56⟩
          show sx_RP _ _ _ _ _ [.int (nI m)] _ _
          have hC59 := hC48.out ho56
          have hT60 := hT43.out ho56
          have hO61 := hO51.tr ho56.offT
          refine sx_RP.step (pc2 := 98) (ls2 := [(4, .int (nI (vaT n X (wtT n X (nP n X (nP n X p)) 100 0 47).2))), (3, .int 0), (0, .ref 96), (1, .int (nI k)), (2, .ref 29)]) (st2 := []) (w3 := w57) rfl rfl ?_
          refine sx_RP.step (pc2 := 99) (ls2 := [(4, .int (nI (vaT n X (wtT n X (nP n X (nP n X p)) 100 0 47).2))), (3, .int 0), (0, .ref 96), (1, .int (nI k)), (2, .ref 29)]) (st2 := [.ref 96]) (w3 := w57) rfl rfl ?_
          refine sx_RP.callp (as2 := [.ref 96]) (rest2 := []) rfl rfl (sx_inv_v2 (mi := 107) (k := 29) (st := [.ref 96]) (w := w57) rfl rfl hI58.1.o96 rfl rfl rfl) rfl rfl rfl (X94 hI58 hC59 hT60.2.2.1 (beT_le hp49)) (show _ = 102 from rfl) ?_
          rintro r4 w65 ⟨⟨rfl, hT62, h163⟩, hI66, hs64⟩
          show sx_RP _ _ _ _ _ [] _ _
          have hT71 : TK' n X (nP n X ((wtT n X (nP n X ((wtT n X (nP n X (nP n X p)) 100 0 47).2)) 119 0 3).2)) w65 := hT62
          have hC67 := hC59.same h163 (ia_of (hs64 97 (by decide)))
          have hp68 : nP n X ((wtT n X (nP n X ((wtT n X (nP n X (nP n X p)) 100 0 47).2)) 119 0 3).2) ≤ n := nP_le hp49
          have hB69 := hc55.same hI58 isA29 (fun a h1 h2 => hs64 a (by omega))
          have hO70 := hO61.tr hs64.offT
          refine sx_RP.step (pc2 := 103) (ls2 := [(4, .int (nI (vaT n X (wtT n X (nP n X (nP n X p)) 100 0 47).2))), (3, .int 0), (0, .ref 96), (1, .int (nI k)), (2, .ref 29)]) (st2 := [.int 1]) (w3 := w65) rfl rfl ?_
          refine sx_RP.ret (r := (some (.int 1))) rfl rfl ?_
          rw [show galW n X k p b = (true, nP n X (wtT n X (nP n X (wtT n X (nP n X (nP n X p)) 100 0 47).2) 119 0 3).2, addRow b (iN (b.getD 1 0)) (nI k) (nI 0) (nI (vaT n X (wtT n X (nP n X (nP n X p)) 100 0 47).2)) (nI (vaT n X (wtT n X (nP n X (wtT n X (nP n X (nP n X p)) 100 0 47).2) 119 0 3).2))) by unfold galW; rw [if_pos (by rw [hlen]; exact c1), if_pos c12]; unfold galX; rw [if_pos (b01_t q32), if_pos (b01_t q52)]]
          exact ⟨⟨rfl, hT71, fun _ => (by rw [hlen]; exact hB69)⟩, hI66, hC67, hO70⟩
        · replace q52 := Decidable.not_not.mp (of_decide_eq_false q52)
          refine sx_RP.step (pc2 := 84) (ls2 := [(4, .int (nI (vaT n X (wtT n X (nP n X (nP n X p)) 100 0 47).2))), (3, .int 0), (0, .ref 96), (1, .int (nI k)), (2, .ref 29)]) (st2 := [.int 0]) (w3 := w46) rfl rfl ?_
          refine sx_RP.ret (r := (some (.int 0))) rfl rfl ?_
          rw [show galW n X k p b = (false, (wtT n X (nP n X (wtT n X (nP n X (nP n X p)) 100 0 47).2) 119 0 3).2, b) by unfold galW; rw [if_pos (by rw [hlen]; exact c1), if_pos c12]; unfold galX; rw [if_pos (b01_t q32), if_neg (by rw [b01_f q52]; decide)]]
          exact ⟨⟨rfl, hT43, fun z => absurd (show false = true from z) (by decide)⟩, hI47, hC48, hO51⟩
      · replace q32 := Decidable.not_not.mp (of_decide_eq_false q32)
        refine sx_RP.step (pc2 := 61) (ls2 := [(3, .int 0), (0, .ref 96), (1, .int (nI k)), (2, .ref 29)]) (st2 := [.int 0]) (w3 := w26) rfl rfl ?_
        refine sx_RP.ret (r := (some (.int 0))) rfl rfl ?_
        rw [show galW n X k p b = (false, (wtT n X (nP n X (nP n X p)) 100 0 47).2, b) by unfold galW; rw [if_pos (by rw [hlen]; exact c1), if_pos c12]; unfold galX; rw [if_neg (by rw [b01_f q32]; decide)]]
        exact ⟨⟨rfl, hT23, fun z => absurd (show false = true from z) (by decide)⟩, hI27, hC28, hO31⟩
    · refine sx_RP.cu (as := [.ref 96, .float 115]) (rest2 := []) (st3 := [.int 0]) rfl rfl (sx_inv_v2 (mi := 107) (k := 52) (st := [.float 115, .ref 96]) (w := w5) rfl rfl hI6.1.o96 rfl rfl rfl) rfl rfl (x101f (k := (115 : UInt32)) (m := 6) hI6 hC7 hT11 hp8 (by decide) rfl (by decide) c12) rfl ?_
      refine sx_RP.step (pc2 := 26) (ls2 := [(0, .ref 96), (1, .int (nI k)), (2, .ref 29)]) (st2 := []) (w3 := w5) rfl rfl ?_
      refine sx_RP.step (pc2 := 27) (ls2 := [(0, .ref 96), (1, .int (nI k)), (2, .ref 29)]) (st2 := [.int 1]) (w3 := w5) rfl rfl ?_
      refine sx_RP.step (pc2 := 28) (ls2 := [(3, .int 1), (0, .ref 96), (1, .int (nI k)), (2, .ref 29)]) (st2 := []) (w3 := w5) rfl rfl ?_
      refine sx_RP.step (pc2 := 29) (ls2 := [(3, .int 1), (0, .ref 96), (1, .int (nI k)), (2, .ref 29)]) (st2 := [.int 1]) (w3 := w5) rfl rfl ?_
      refine sx_RP.step (pc2 := 30) (ls2 := [(3, .int 1), (0, .ref 96), (1, .int (nI k)), (2, .ref 29)]) (st2 := [.int 1, .int 1]) (w3 := w5) rfl rfl ?_
      refine sx_RP.step (pc2 := 33) (ls2 := [(3, .int 1), (0, .ref 96), (1, .int (nI k)), (2, .ref 29)]) (st2 := []) (w3 := w5) rfl rfl ?_
      refine sx_RP.step (pc2 := 34) (ls2 := [(3, .int 1), (0, .ref 96), (1, .int (nI k)), (2, .ref 29)]) (st2 := [.ref 96]) (w3 := w5) rfl rfl ?_
      refine sx_RP.step (pc2 := 36) (ls2 := [(3, .int 1), (0, .ref 96), (1, .int (nI k)), (2, .ref 29)]) (st2 := [.float 109, .ref 96]) (w3 := w5) rfl rfl ?_
      rcases Bool.eq_false_or_eq_true (wdT n X (nP n X p) (109 : UInt32)) with c72 | c72
      · refine sx_RP.cu (as := [.ref 96, .float 109]) (rest2 := []) (st3 := [.int 1]) rfl rfl (sx_inv_v2 (mi := 107) (k := 52) (st := [.float 109, .ref 96]) (w := w5) rfl rfl hI6.1.o96 rfl rfl rfl) rfl rfl (x101t (k := (109 : UInt32)) (m := 4) hI6 hC7 hT11 hp8 (by decide) rfl (by decide) c72) rfl ?_
        refine sx_RP.step (pc2 := 44) (ls2 := [(3, .int 1), (0, .ref 96), (1, .int (nI k)), (2, .ref 29)]) (st2 := []) (w3 := w5) rfl rfl ?_
        refine sx_RP.step (pc2 := 45) (ls2 := [(3, .int 1), (0, .ref 96), (1, .int (nI k)), (2, .ref 29)]) (st2 := [.ref 96]) (w3 := w5) rfl rfl ?_
        refine sx_RP.callp (as2 := [.ref 96]) (rest2 := []) rfl rfl (sx_inv_v2 (mi := 107) (k := 29) (st := [.ref 96]) (w := w5) rfl rfl hI6.1.o96 rfl rfl rfl) rfl rfl rfl (X94 hI6 hC7 hT11.2.2.1 (beT_le hp8)) (show _ = 48 from rfl) ?_
        rintro r4 w76 ⟨⟨rfl, hT73, h174⟩, hI77, hs75⟩
        show sx_RP _ _ _ _ _ [] _ _
        have hT82 : TK' n X (nP n X (nP n X p)) w76 := hT73
        have hC78 := hC7.same h174 (ia_of (hs75 97 (by decide)))
        have hp79 : nP n X (nP n X p) ≤ n := nP_le hp8
        have hB80 := hB9.same hI6 isA29 (fun a h1 h2 => hs75 a (by omega))
        have hO81 := hO10.tr hs75.offT
        refine sx_RP.step (pc2 := 49) (ls2 := [(3, .int 1), (0, .ref 96), (1, .int (nI k)), (2, .ref 29)]) (st2 := [.ref 96]) (w3 := w76) rfl rfl ?_
        refine sx_RP.step (pc2 := 51) (ls2 := [(3, .int 1), (0, .ref 96), (1, .int (nI k)), (2, .ref 29)]) (st2 := [.float 100, .ref 96]) (w3 := w76) rfl rfl ?_
        refine sx_RP.step (pc2 := 52) (ls2 := [(3, .int 1), (0, .ref 96), (1, .int (nI k)), (2, .ref 29)]) (st2 := [.int 0, .float 100, .ref 96]) (w3 := w76) rfl rfl ?_
        refine sx_RP.step (pc2 := 54) (ls2 := [(3, .int 1), (0, .ref 96), (1, .int (nI k)), (2, .ref 29)]) (st2 := [.int 47, .int 0, .float 100, .ref 96]) (w3 := w76) rfl rfl ?_
        refine sx_RP.callp (as2 := [.ref 96, .float 100, .int 0, .int 47]) (rest2 := []) rfl rfl (sx_inv_v2 (mi := 107) (k := 90) (st := [.int 47, .int 0, .float 100, .ref 96]) (w := w76) rfl rfl hI77.1.o96 rfl rfl rfl) rfl rfl rfl (X108 (k := 100) (m := 2) (lo := 0) (hi := 47) hI77 hC78 hT82 hp79 (by decide) rfl (by decide) (by decide) (by decide)) (show _ = 57 from rfl) ?_
        rintro r4 w86 ⟨⟨rfl, hT83, h184⟩, hI87, hs85⟩
        show sx_RP _ _ _ _ _ [.int (b01 (wtT n X (nP n X (nP n X p)) 100 0 47).1)] _ _
        have hC88 := hC78.same h184 (ia_of (hs85 97 (by decide)))
        have hp89 : (wtT n X (nP n X (nP n X p)) 100 0 47).2 ≤ n := wtT_le hp79
        have hB90 := hB80.same hI77 isA29 (fun a h1 h2 => hs85 a (by omega))
        have hO91 := hO81.tr hs85.offT
        refine sx_RP.br (p1 := 62) (l1 := [(3, .int 1), (0, .ref 96), (1, .int (nI k)), (2, .ref 29)]) (s1 := []) (v1 := w86) (p2 := 60) (l2 := [(3, .int 1), (0, .ref 96), (1, .int (nI k)), (2, .ref 29)]) (s2 := []) (v2 := w86) rfl rfl (fun q92 => ?_) (fun q92 => ?_)
        · replace q92 := of_decide_eq_true q92
          refine sx_RP.step (pc2 := 63) (ls2 := [(3, .int 1), (0, .ref 96), (1, .int (nI k)), (2, .ref 29)]) (st2 := [.ref 96]) (w3 := w86) rfl rfl ?_
          refine sx_RP.gt (k := 5) hI87 rfl rfl (by decide) (show _ = 66 from rfl) ?_
          rw [hT83.2.2.2]
          refine sx_RP.step (pc2 := 68) (ls2 := [(4, .int (nI (vaT n X (wtT n X (nP n X (nP n X p)) 100 0 47).2))), (3, .int 1), (0, .ref 96), (1, .int (nI k)), (2, .ref 29)]) (st2 := []) (w3 := w86) rfl rfl ?_
          refine sx_RP.step (pc2 := 69) (ls2 := [(4, .int (nI (vaT n X (wtT n X (nP n X (nP n X p)) 100 0 47).2))), (3, .int 1), (0, .ref 96), (1, .int (nI k)), (2, .ref 29)]) (st2 := [.ref 96]) (w3 := w86) rfl rfl ?_
          refine sx_RP.callp (as2 := [.ref 96]) (rest2 := []) rfl rfl (sx_inv_v2 (mi := 107) (k := 29) (st := [.ref 96]) (w := w86) rfl rfl hI87.1.o96 rfl rfl rfl) rfl rfl rfl (X94 hI87 hC88 hT83.2.2.1 (beT_le hp89)) (show _ = 72 from rfl) ?_
          rintro r4 w96 ⟨⟨rfl, hT93, h194⟩, hI97, hs95⟩
          show sx_RP _ _ _ _ _ [] _ _
          have hT102 : TK' n X (nP n X ((wtT n X (nP n X (nP n X p)) 100 0 47).2)) w96 := hT93
          have hC98 := hC88.same h194 (ia_of (hs95 97 (by decide)))
          have hp99 : nP n X ((wtT n X (nP n X (nP n X p)) 100 0 47).2) ≤ n := nP_le hp89
          have hB100 := hB90.same hI87 isA29 (fun a h1 h2 => hs95 a (by omega))
          have hO101 := hO91.tr hs95.offT
          refine sx_RP.step (pc2 := 73) (ls2 := [(4, .int (nI (vaT n X (wtT n X (nP n X (nP n X p)) 100 0 47).2))), (3, .int 1), (0, .ref 96), (1, .int (nI k)), (2, .ref 29)]) (st2 := [.ref 96]) (w3 := w96) rfl rfl ?_
          refine sx_RP.step (pc2 := 75) (ls2 := [(4, .int (nI (vaT n X (wtT n X (nP n X (nP n X p)) 100 0 47).2))), (3, .int 1), (0, .ref 96), (1, .int (nI k)), (2, .ref 29)]) (st2 := [.float 119, .ref 96]) (w3 := w96) rfl rfl ?_
          refine sx_RP.step (pc2 := 76) (ls2 := [(4, .int (nI (vaT n X (wtT n X (nP n X (nP n X p)) 100 0 47).2))), (3, .int 1), (0, .ref 96), (1, .int (nI k)), (2, .ref 29)]) (st2 := [.int 0, .float 119, .ref 96]) (w3 := w96) rfl rfl ?_
          refine sx_RP.step (pc2 := 77) (ls2 := [(4, .int (nI (vaT n X (wtT n X (nP n X (nP n X p)) 100 0 47).2))), (3, .int 1), (0, .ref 96), (1, .int (nI k)), (2, .ref 29)]) (st2 := [.int 3, .int 0, .float 119, .ref 96]) (w3 := w96) rfl rfl ?_
          refine sx_RP.callp (as2 := [.ref 96, .float 119, .int 0, .int 3]) (rest2 := []) rfl rfl (sx_inv_v2 (mi := 107) (k := 90) (st := [.int 3, .int 0, .float 119, .ref 96]) (w := w96) rfl rfl hI97.1.o96 rfl rfl rfl) rfl rfl rfl (X108 (k := 119) (m := 3) (lo := 0) (hi := 3) hI97 hC98 hT102 hp99 (by decide) rfl (by decide) (by decide) (by decide)) (show _ = 80 from rfl) ?_
          rintro r4 w106 ⟨⟨rfl, hT103, h1104⟩, hI107, hs105⟩
          show sx_RP _ _ _ _ _ [.int (b01 (wtT n X (nP n X ((wtT n X (nP n X (nP n X p)) 100 0 47).2)) 119 0 3).1)] _ _
          have hC108 := hC98.same h1104 (ia_of (hs105 97 (by decide)))
          have hp109 : (wtT n X (nP n X ((wtT n X (nP n X (nP n X p)) 100 0 47).2)) 119 0 3).2 ≤ n := wtT_le hp99
          have hB110 := hB100.same hI97 isA29 (fun a h1 h2 => hs105 a (by omega))
          have hO111 := hO101.tr hs105.offT
          refine sx_RP.br (p1 := 85) (l1 := [(4, .int (nI (vaT n X (wtT n X (nP n X (nP n X p)) 100 0 47).2))), (3, .int 1), (0, .ref 96), (1, .int (nI k)), (2, .ref 29)]) (s1 := []) (v1 := w106) (p2 := 83) (l2 := [(4, .int (nI (vaT n X (wtT n X (nP n X (nP n X p)) 100 0 47).2))), (3, .int 1), (0, .ref 96), (1, .int (nI k)), (2, .ref 29)]) (s2 := []) (v2 := w106) rfl rfl (fun q112 => ?_) (fun q112 => ?_)
          · replace q112 := of_decide_eq_true q112
            refine sx_RP.step (pc2 := 86) (ls2 := [(4, .int (nI (vaT n X (wtT n X (nP n X (nP n X p)) 100 0 47).2))), (3, .int 1), (0, .ref 96), (1, .int (nI k)), (2, .ref 29)]) (st2 := [.ref 29]) (w3 := w106) rfl rfl ?_
            refine sx_RP.step (pc2 := 87) (ls2 := [(4, .int (nI (vaT n X (wtT n X (nP n X (nP n X p)) 100 0 47).2))), (3, .int 1), (0, .ref 96), (1, .int (nI k)), (2, .ref 29)]) (st2 := [.int (nI k), .ref 29]) (w3 := w106) rfl rfl ?_
            refine sx_RP.step (pc2 := 88) (ls2 := [(4, .int (nI (vaT n X (wtT n X (nP n X (nP n X p)) 100 0 47).2))), (3, .int 1), (0, .ref 96), (1, .int (nI k)), (2, .ref 29)]) (st2 := [.int 1, .int (nI k), .ref 29]) (w3 := w106) rfl rfl ?_
            refine sx_RP.step (pc2 := 90) (ls2 := [(4, .int (nI (vaT n X (wtT n X (nP n X (nP n X p)) 100 0 47).2))), (3, .int 1), (0, .ref 96), (1, .int (nI k)), (2, .ref 29)]) (st2 := [.int (nI (vaT n X (wtT n X (nP n X (nP n X p)) 100 0 47).2)), .int 1, .int (nI k), .ref 29]) (w3 := w106) rfl rfl ?_
            refine sx_RP.step (pc2 := 91) (ls2 := [(4, .int (nI (vaT n X (wtT n X (nP n X (nP n X p)) 100 0 47).2))), (3, .int 1), (0, .ref 96), (1, .int (nI k)), (2, .ref 29)]) (st2 := [.ref 96, .int (nI (vaT n X (wtT n X (nP n X (nP n X p)) 100 0 47).2)), .int 1, .int (nI k), .ref 29]) (w3 := w106) rfl rfl ?_
            refine sx_RP.gt (k := 5) hI107 rfl rfl (by decide) (show _ = 94 from rfl) ?_
            rw [hT103.2.2.2]
            have ht113 := wtT_t (b01_t q92)
            have ht114 := wtT_t (b01_t q112)
            have hv1 := nmT_in ht113.2.1
            have hv2 := nmT_in ht114.2.1
            rw [← ht113.2.2] at hv1
            rw [← ht114.2.2] at hv2
            refine sx_RP.callp (as2 := [.ref 29, .int (nI k), .int 1, .int (nI (vaT n X (wtT n X (nP n X (nP n X p)) 100 0 47).2)), .int (nI (vaT n X (wtT n X (nP n X ((wtT n X (nP n X (nP n X p)) 100 0 47).2)) 119 0 3).2))]) (rest2 := []) rfl rfl (sx_inv_v2 (mi := 107) (k := 96) (st := [.int (nI (vaT n X (wtT n X (nP n X ((wtT n X (nP n X (nP n X p)) 100 0 47).2)) 119 0 3).2)), .int (nI (vaT n X (wtT n X (nP n X (nP n X p)) 100 0 47).2)), .int 1, .int (nI k), .ref 29]) (w := w106) rfl rfl (hI107.1.oC (Or.inr (Or.inr rfl))) rfl rfl rfl) rfl rfl rfl (X25z hI107 isA29 (n := m) (k := k) (s := 1) (c := (vaT n X (wtT n X (nP n X (nP n X p)) 100 0 47).2)) (y := (vaT n X (wtT n X (nP n X ((wtT n X (nP n X (nP n X p)) 100 0 47).2)) 119 0 3).2)) hB110 (by omega) er (by omega) (by omega) (by omega) (by omega)) (show _ = 97 from rfl) ?_
            rintro r4 w117 ⟨⟨rfl, hc115⟩, hI118, ho116⟩
            show sx_RP _ _ _ _ _ [.int (nI m)] _ _
            have hC119 := hC108.out ho116
            have hT120 := hT103.out ho116
            have hO121 := hO111.tr ho116.offT
            refine sx_RP.step (pc2 := 98) (ls2 := [(4, .int (nI (vaT n X (wtT n X (nP n X (nP n X p)) 100 0 47).2))), (3, .int 1), (0, .ref 96), (1, .int (nI k)), (2, .ref 29)]) (st2 := []) (w3 := w117) rfl rfl ?_
            refine sx_RP.step (pc2 := 99) (ls2 := [(4, .int (nI (vaT n X (wtT n X (nP n X (nP n X p)) 100 0 47).2))), (3, .int 1), (0, .ref 96), (1, .int (nI k)), (2, .ref 29)]) (st2 := [.ref 96]) (w3 := w117) rfl rfl ?_
            refine sx_RP.callp (as2 := [.ref 96]) (rest2 := []) rfl rfl (sx_inv_v2 (mi := 107) (k := 29) (st := [.ref 96]) (w := w117) rfl rfl hI118.1.o96 rfl rfl rfl) rfl rfl rfl (X94 hI118 hC119 hT120.2.2.1 (beT_le hp109)) (show _ = 102 from rfl) ?_
            rintro r4 w125 ⟨⟨rfl, hT122, h1123⟩, hI126, hs124⟩
            show sx_RP _ _ _ _ _ [] _ _
            have hT131 : TK' n X (nP n X ((wtT n X (nP n X ((wtT n X (nP n X (nP n X p)) 100 0 47).2)) 119 0 3).2)) w125 := hT122
            have hC127 := hC119.same h1123 (ia_of (hs124 97 (by decide)))
            have hp128 : nP n X ((wtT n X (nP n X ((wtT n X (nP n X (nP n X p)) 100 0 47).2)) 119 0 3).2) ≤ n := nP_le hp109
            have hB129 := hc115.same hI118 isA29 (fun a h1 h2 => hs124 a (by omega))
            have hO130 := hO121.tr hs124.offT
            refine sx_RP.step (pc2 := 103) (ls2 := [(4, .int (nI (vaT n X (wtT n X (nP n X (nP n X p)) 100 0 47).2))), (3, .int 1), (0, .ref 96), (1, .int (nI k)), (2, .ref 29)]) (st2 := [.int 1]) (w3 := w125) rfl rfl ?_
            refine sx_RP.ret (r := (some (.int 1))) rfl rfl ?_
            rw [show galW n X k p b = (true, nP n X (wtT n X (nP n X (wtT n X (nP n X (nP n X p)) 100 0 47).2) 119 0 3).2, addRow b (iN (b.getD 1 0)) (nI k) (nI 1) (nI (vaT n X (wtT n X (nP n X (nP n X p)) 100 0 47).2)) (nI (vaT n X (wtT n X (nP n X (wtT n X (nP n X (nP n X p)) 100 0 47).2) 119 0 3).2))) by unfold galW; rw [if_pos (by rw [hlen]; exact c1), if_neg (by rw [c12]; decide), if_pos c72]; unfold galX; rw [if_pos (b01_t q92), if_pos (b01_t q112)]]
            exact ⟨⟨rfl, hT131, fun _ => (by rw [hlen]; exact hB129)⟩, hI126, hC127, hO130⟩
          · replace q112 := Decidable.not_not.mp (of_decide_eq_false q112)
            refine sx_RP.step (pc2 := 84) (ls2 := [(4, .int (nI (vaT n X (wtT n X (nP n X (nP n X p)) 100 0 47).2))), (3, .int 1), (0, .ref 96), (1, .int (nI k)), (2, .ref 29)]) (st2 := [.int 0]) (w3 := w106) rfl rfl ?_
            refine sx_RP.ret (r := (some (.int 0))) rfl rfl ?_
            rw [show galW n X k p b = (false, (wtT n X (nP n X (wtT n X (nP n X (nP n X p)) 100 0 47).2) 119 0 3).2, b) by unfold galW; rw [if_pos (by rw [hlen]; exact c1), if_neg (by rw [c12]; decide), if_pos c72]; unfold galX; rw [if_pos (b01_t q92), if_neg (by rw [b01_f q112]; decide)]]
            exact ⟨⟨rfl, hT103, fun z => absurd (show false = true from z) (by decide)⟩, hI107, hC108, hO111⟩
        · replace q92 := Decidable.not_not.mp (of_decide_eq_false q92)
          refine sx_RP.step (pc2 := 61) (ls2 := [(3, .int 1), (0, .ref 96), (1, .int (nI k)), (2, .ref 29)]) (st2 := [.int 0]) (w3 := w86) rfl rfl ?_
          refine sx_RP.ret (r := (some (.int 0))) rfl rfl ?_
          rw [show galW n X k p b = (false, (wtT n X (nP n X (nP n X p)) 100 0 47).2, b) by unfold galW; rw [if_pos (by rw [hlen]; exact c1), if_neg (by rw [c12]; decide), if_pos c72]; unfold galX; rw [if_neg (by rw [b01_f q92]; decide)]]
          exact ⟨⟨rfl, hT83, fun z => absurd (show false = true from z) (by decide)⟩, hI87, hC88, hO91⟩
      · refine sx_RP.cu (as := [.ref 96, .float 109]) (rest2 := []) (st3 := [.int 0]) rfl rfl (sx_inv_v2 (mi := 107) (k := 52) (st := [.float 109, .ref 96]) (w := w5) rfl rfl hI6.1.o96 rfl rfl rfl) rfl rfl (x101f (k := (109 : UInt32)) (m := 4) hI6 hC7 hT11 hp8 (by decide) rfl (by decide) c72) rfl ?_
        refine sx_RP.step (pc2 := 42) (ls2 := [(3, .int 1), (0, .ref 96), (1, .int (nI k)), (2, .ref 29)]) (st2 := []) (w3 := w5) rfl rfl ?_
        refine sx_RP.step (pc2 := 43) (ls2 := [(3, .int 1), (0, .ref 96), (1, .int (nI k)), (2, .ref 29)]) (st2 := [.int 0]) (w3 := w5) rfl rfl ?_
        refine sx_RP.ret (r := (some (.int 0))) rfl rfl ?_
        rw [show galW n X k p b = (false, nP n X p, b) by unfold galW; rw [if_pos (by rw [hlen]; exact c1), if_neg (by rw [c12]; decide), if_neg (by rw [c72]; decide)]]
        exact ⟨⟨rfl, hT11, fun z => absurd (show false = true from z) (by decide)⟩, hI6, hC7, hO10⟩
  · refine sx_RP.cu (as := [.ref 29]) (rest2 := []) (st3 := [.int 0]) rfl rfl (sx_inv_v2 (mi := 107) (k := 78) (st := [.ref 29]) (w := w) rfl rfl (hI.1.oC (Or.inr (Or.inr rfl))) rfl rfl rfl) rfl rfl (p24n hI isA29 en hm c1) rfl ?_
    refine sx_RP.step (pc2 := 7) (ls2 := [(0, .ref 96), (1, .int (nI k)), (2, .ref 29)]) (st2 := []) (w3 := w) rfl rfl ?_
    refine sx_RP.step (pc2 := 8) (ls2 := [(0, .ref 96), (1, .int (nI k)), (2, .ref 29)]) (st2 := [.int 0]) (w3 := w) rfl rfl ?_
    refine sx_RP.ret (r := (some (.int 0))) rfl rfl ?_
    rw [show galW n X k p b = (false, p, b) by unfold galW; rw [if_neg (by rw [hlen]; exact c1)]]
    exact ⟨⟨rfl, hT, fun z => absurd (show false = true from z) (by decide)⟩, hI, hC, OffT.rf⟩
def bw2 (n : Nat) (X : Nat → Nat) (p : Nat) (b : List Int32) : Bool × Nat × List Int32 := if wdT n X p 111 = true then (if (wtT n X p 111 1 99).1 = true then (true, nP n X (wtT n X p 111 1 99).2, b.set 6 (nI (vaT n X (wtT n X p 111 1 99).2))) else (false, (wtT n X p 111 1 99).2, b)) else (true, p, b)
def bw1 (n : Nat) (X : Nat → Nat) (p : Nat) (b : List Int32) : Bool × Nat × List Int32 := if wdT n X p 108 = true then (if (wtT n X p 108 1 999).1 = true then bw2 n X (nP n X (wtT n X p 108 1 999).2) (b.set 5 (nI (vaT n X (wtT n X p 108 1 999).2))) else (false, (wtT n X p 108 1 999).2, b)) else bw2 n X p b
def breW (n : Nat) (X : Nat → Nat) (p : Nat) (b : List Int32) : Bool × Nat × List Int32 := if nmT n X (nP n X p) 0 999999 = true then bw1 n X (nP n X (nP n X p)) (b.set 4 (nI (vaT n X (nP n X p)))) else (false, nP n X p, b)
set_option maxRecDepth 20000 in
set_option maxHeartbeats 4000000 in
theorem V110 {xs : Option (List Int32)} {d : Nat} {w : List sx_C} (hI : WI w) {n p : Nat} {X : Nat → Nat} {b : List Int32} (hC : CT n X w) (hT : TK' n X p w) (hp : p ≤ n) (hB : rel w 29 b) : sx_RP xs (d + 4) 110 0 (lv_args 0 [.ref 96, .ref 29]) [] w (fun r w2 => (r = some (.int (b01 (breW n X p b).1)) ∧ RdW n X (breW n X p b) w2) ∧ WI w2 ∧ CT n X w2 ∧ OffT w w2) := by
  refine sx_RP.step (pc2 := 1) (ls2 := [(0, .ref 96), (1, .ref 29)]) (st2 := [.ref 96]) (w3 := w) rfl rfl ?_
  refine sx_RP.callp (as2 := [.ref 96]) (rest2 := []) rfl rfl (sx_inv_v2 (mi := 110) (k := 29) (st := [.ref 96]) (w := w) rfl rfl hI.1.o96 rfl rfl rfl) rfl rfl rfl (X94 hI hC hT.2.2.1 (beT_le hp)) (show _ = 4 from rfl) ?_
  rintro r4 w4 ⟨⟨rfl, hT1, h12⟩, hI5, hs3⟩
  show sx_RP _ _ _ _ _ [] _ _
  have hT10 : TK' n X (nP n X p) w4 := hT1
  have hC6 := hC.same h12 (ia_of (hs3 97 (by decide)))
  have hp7 : nP n X p ≤ n := nP_le hp
  have hB8 := hB.same hI isA29 (fun a h1 h2 => hs3 a (by omega))
  have hO9 := OffT.rf.tr hs3.offT
  refine sx_RP.step (pc2 := 5) (ls2 := [(0, .ref 96), (1, .ref 29)]) (st2 := [.ref 96]) (w3 := w4) rfl rfl ?_
  refine sx_RP.step (pc2 := 6) (ls2 := [(0, .ref 96), (1, .ref 29)]) (st2 := [.int 0, .ref 96]) (w3 := w4) rfl rfl ?_
  refine sx_RP.step (pc2 := 8) (ls2 := [(0, .ref 96), (1, .ref 29)]) (st2 := [.int 999999, .int 0, .ref 96]) (w3 := w4) rfl rfl ?_
  rcases Bool.eq_false_or_eq_true (nmT n X (nP n X p) 0 999999) with c11 | c11
  · refine sx_RP.cu (as := [.ref 96, .int 0, .int 999999]) (rest2 := []) (st3 := [.int 1]) rfl rfl (sx_inv_v2 (mi := 110) (k := 66) (st := [.int 999999, .int 0, .ref 96]) (w := w4) rfl rfl hI5.1.o96 rfl rfl rfl) rfl rfl (x103t (lo := 0) (hi := 999999) hI5 hC6 hT10 (by omega) (by omega) c11) rfl ?_
    refine sx_RP.step (pc2 := 16) (ls2 := [(0, .ref 96), (1, .ref 29)]) (st2 := []) (w3 := w4) rfl rfl ?_
    refine sx_RP.step (pc2 := 17) (ls2 := [(0, .ref 96), (1, .ref 29)]) (st2 := [.ref 29]) (w3 := w4) rfl rfl ?_
    refine sx_RP.step (pc2 := 18) (ls2 := [(0, .ref 96), (1, .ref 29)]) (st2 := [.ref 96, .ref 29]) (w3 := w4) rfl rfl ?_
    refine sx_RP.gt (k := 5) hI5 rfl rfl (by decide) (show _ = 21 from rfl) ?_
    rw [hT10.2.2.2]
    refine sx_RP.xC (k := 8) hI5 isA29 rfl rfl (by omega) rfl trivial (show _ = 24 from rfl) (fun w12 hI13 hs14 hv15 hr16 hj17 => ?_)
    have ho18 : Out 29 w4 w12 := Out.st Out.rf hs14 (by decide)
    have hC19 := hC6.out ho18
    have hT20 := hT10.out ho18
    have hB21 : rel w12 29 ((b).set 4 (nI (vaT n X (nP n X p)))) := hB8.sFi (k := 8) (by decide) hs14 hv15 hr16 hj17
    have hO22 := hO9.tr ho18.offT
    refine sx_RP.step (pc2 := 25) (ls2 := [(0, .ref 96), (1, .ref 29)]) (st2 := [.ref 96]) (w3 := w12) rfl rfl ?_
    refine sx_RP.callp (as2 := [.ref 96]) (rest2 := []) rfl rfl (sx_inv_v2 (mi := 110) (k := 29) (st := [.ref 96]) (w := w12) rfl rfl hI13.1.o96 rfl rfl rfl) rfl rfl rfl (X94 hI13 hC19 hT20.2.2.1 (beT_le hp7)) (show _ = 28 from rfl) ?_
    rintro r4 w26 ⟨⟨rfl, hT23, h124⟩, hI27, hs25⟩
    show sx_RP _ _ _ _ _ [] _ _
    have hT32 : TK' n X (nP n X (nP n X p)) w26 := hT23
    have hC28 := hC19.same h124 (ia_of (hs25 97 (by decide)))
    have hp29 : nP n X (nP n X p) ≤ n := nP_le hp7
    have hB30 := hB21.same hI13 isA29 (fun a h1 h2 => hs25 a (by omega))
    have hO31 := hO22.tr hs25.offT
    refine sx_RP.step (pc2 := 29) (ls2 := [(0, .ref 96), (1, .ref 29)]) (st2 := [.ref 96]) (w3 := w26) rfl rfl ?_
    refine sx_RP.step (pc2 := 31) (ls2 := [(0, .ref 96), (1, .ref 29)]) (st2 := [.float 108, .ref 96]) (w3 := w26) rfl rfl ?_
    rcases Bool.eq_false_or_eq_true (wdT n X (nP n X (nP n X p)) (108 : UInt32)) with c33 | c33
    · refine sx_RP.cu (as := [.ref 96, .float 108]) (rest2 := []) (st3 := [.int 1]) rfl rfl (sx_inv_v2 (mi := 110) (k := 52) (st := [.float 108, .ref 96]) (w := w26) rfl rfl hI27.1.o96 rfl rfl rfl) rfl rfl (x101t (k := (108 : UInt32)) (m := 6) hI27 hC28 hT32 hp29 (by decide) rfl (by decide) c33) rfl ?_
      refine sx_RP.step (pc2 := 37) (ls2 := [(0, .ref 96), (1, .ref 29)]) (st2 := []) (w3 := w26) rfl rfl ?_
      refine sx_RP.step (pc2 := 38) (ls2 := [(0, .ref 96), (1, .ref 29)]) (st2 := [.ref 96]) (w3 := w26) rfl rfl ?_
      refine sx_RP.step (pc2 := 40) (ls2 := [(0, .ref 96), (1, .ref 29)]) (st2 := [.float 108, .ref 96]) (w3 := w26) rfl rfl ?_
      refine sx_RP.step (pc2 := 41) (ls2 := [(0, .ref 96), (1, .ref 29)]) (st2 := [.int 1, .float 108, .ref 96]) (w3 := w26) rfl rfl ?_
      refine sx_RP.step (pc2 := 44) (ls2 := [(0, .ref 96), (1, .ref 29)]) (st2 := [.int 999, .int 1, .float 108, .ref 96]) (w3 := w26) rfl rfl ?_
      refine sx_RP.callp (as2 := [.ref 96, .float 108, .int 1, .int 999]) (rest2 := []) rfl rfl (sx_inv_v2 (mi := 110) (k := 90) (st := [.int 999, .int 1, .float 108, .ref 96]) (w := w26) rfl rfl hI27.1.o96 rfl rfl rfl) rfl rfl rfl (X108 (k := 108) (m := 6) (lo := 1) (hi := 999) hI27 hC28 hT32 hp29 (by decide) rfl (by decide) (by decide) (by decide)) (show _ = 47 from rfl) ?_
      rintro r4 w37 ⟨⟨rfl, hT34, h135⟩, hI38, hs36⟩
      show sx_RP _ _ _ _ _ [.int (b01 (wtT n X (nP n X (nP n X p)) 108 1 999).1)] _ _
      have hC39 := hC28.same h135 (ia_of (hs36 97 (by decide)))
      have hp40 : (wtT n X (nP n X (nP n X p)) 108 1 999).2 ≤ n := wtT_le hp29
      have hB41 := hB30.same hI27 isA29 (fun a h1 h2 => hs36 a (by omega))
      have hO42 := hO31.tr hs36.offT
      refine sx_RP.br (p1 := 52) (l1 := [(0, .ref 96), (1, .ref 29)]) (s1 := []) (v1 := w37) (p2 := 50) (l2 := [(0, .ref 96), (1, .ref 29)]) (s2 := []) (v2 := w37) rfl rfl (fun q43 => ?_) (fun q43 => ?_)
      · replace q43 := of_decide_eq_true q43
        refine sx_RP.step (pc2 := 53) (ls2 := [(0, .ref 96), (1, .ref 29)]) (st2 := [.ref 29]) (w3 := w37) rfl rfl ?_
        refine sx_RP.step (pc2 := 54) (ls2 := [(0, .ref 96), (1, .ref 29)]) (st2 := [.ref 96, .ref 29]) (w3 := w37) rfl rfl ?_
        refine sx_RP.gt (k := 5) hI38 rfl rfl (by decide) (show _ = 57 from rfl) ?_
        rw [hT34.2.2.2]
        refine sx_RP.xC (k := 9) hI38 isA29 rfl rfl (by omega) rfl trivial (show _ = 60 from rfl) (fun w44 hI45 hs46 hv47 hr48 hj49 => ?_)
        have ho50 : Out 29 w37 w44 := Out.st Out.rf hs46 (by decide)
        have hC51 := hC39.out ho50
        have hT52 := hT34.out ho50
        have hB53 : rel w44 29 (((b).set 4 (nI (vaT n X (nP n X p)))).set 5 (nI (vaT n X (wtT n X (nP n X (nP n X p)) 108 1 999).2))) := hB41.sFi (k := 9) (by decide) hs46 hv47 hr48 hj49
        have hO54 := hO42.tr ho50.offT
        refine sx_RP.step (pc2 := 61) (ls2 := [(0, .ref 96), (1, .ref 29)]) (st2 := [.ref 96]) (w3 := w44) rfl rfl ?_
        refine sx_RP.callp (as2 := [.ref 96]) (rest2 := []) rfl rfl (sx_inv_v2 (mi := 110) (k := 29) (st := [.ref 96]) (w := w44) rfl rfl hI45.1.o96 rfl rfl rfl) rfl rfl rfl (X94 hI45 hC51 hT52.2.2.1 (beT_le hp40)) (show _ = 64 from rfl) ?_
        rintro r4 w58 ⟨⟨rfl, hT55, h156⟩, hI59, hs57⟩
        show sx_RP _ _ _ _ _ [] _ _
        have hT64 : TK' n X (nP n X ((wtT n X (nP n X (nP n X p)) 108 1 999).2)) w58 := hT55
        have hC60 := hC51.same h156 (ia_of (hs57 97 (by decide)))
        have hp61 : nP n X ((wtT n X (nP n X (nP n X p)) 108 1 999).2) ≤ n := nP_le hp40
        have hB62 := hB53.same hI45 isA29 (fun a h1 h2 => hs57 a (by omega))
        have hO63 := hO54.tr hs57.offT
        refine sx_RP.step (pc2 := 65) (ls2 := [(0, .ref 96), (1, .ref 29)]) (st2 := [.ref 96]) (w3 := w58) rfl rfl ?_
        refine sx_RP.step (pc2 := 67) (ls2 := [(0, .ref 96), (1, .ref 29)]) (st2 := [.float 111, .ref 96]) (w3 := w58) rfl rfl ?_
        rcases Bool.eq_false_or_eq_true (wdT n X (nP n X ((wtT n X (nP n X (nP n X p)) 108 1 999).2)) (111 : UInt32)) with c65 | c65
        · refine sx_RP.cu (as := [.ref 96, .float 111]) (rest2 := []) (st3 := [.int 1]) rfl rfl (sx_inv_v2 (mi := 110) (k := 52) (st := [.float 111, .ref 96]) (w := w58) rfl rfl hI59.1.o96 rfl rfl rfl) rfl rfl (x101t (k := (111 : UInt32)) (m := 6) hI59 hC60 hT64 hp61 (by decide) rfl (by decide) c65) rfl ?_
          refine sx_RP.step (pc2 := 73) (ls2 := [(0, .ref 96), (1, .ref 29)]) (st2 := []) (w3 := w58) rfl rfl ?_
          refine sx_RP.step (pc2 := 74) (ls2 := [(0, .ref 96), (1, .ref 29)]) (st2 := [.ref 96]) (w3 := w58) rfl rfl ?_
          refine sx_RP.step (pc2 := 76) (ls2 := [(0, .ref 96), (1, .ref 29)]) (st2 := [.float 111, .ref 96]) (w3 := w58) rfl rfl ?_
          refine sx_RP.step (pc2 := 77) (ls2 := [(0, .ref 96), (1, .ref 29)]) (st2 := [.int 1, .float 111, .ref 96]) (w3 := w58) rfl rfl ?_
          refine sx_RP.step (pc2 := 79) (ls2 := [(0, .ref 96), (1, .ref 29)]) (st2 := [.int 99, .int 1, .float 111, .ref 96]) (w3 := w58) rfl rfl ?_
          refine sx_RP.callp (as2 := [.ref 96, .float 111, .int 1, .int 99]) (rest2 := []) rfl rfl (sx_inv_v2 (mi := 110) (k := 90) (st := [.int 99, .int 1, .float 111, .ref 96]) (w := w58) rfl rfl hI59.1.o96 rfl rfl rfl) rfl rfl rfl (X108 (k := 111) (m := 6) (lo := 1) (hi := 99) hI59 hC60 hT64 hp61 (by decide) rfl (by decide) (by decide) (by decide)) (show _ = 82 from rfl) ?_
          rintro r4 w69 ⟨⟨rfl, hT66, h167⟩, hI70, hs68⟩
          show sx_RP _ _ _ _ _ [.int (b01 (wtT n X (nP n X ((wtT n X (nP n X (nP n X p)) 108 1 999).2)) 111 1 99).1)] _ _
          have hC71 := hC60.same h167 (ia_of (hs68 97 (by decide)))
          have hp72 : (wtT n X (nP n X ((wtT n X (nP n X (nP n X p)) 108 1 999).2)) 111 1 99).2 ≤ n := wtT_le hp61
          have hB73 := hB62.same hI59 isA29 (fun a h1 h2 => hs68 a (by omega))
          have hO74 := hO63.tr hs68.offT
          refine sx_RP.br (p1 := 87) (l1 := [(0, .ref 96), (1, .ref 29)]) (s1 := []) (v1 := w69) (p2 := 85) (l2 := [(0, .ref 96), (1, .ref 29)]) (s2 := []) (v2 := w69) rfl rfl (fun q75 => ?_) (fun q75 => ?_)
          · replace q75 := of_decide_eq_true q75
            refine sx_RP.step (pc2 := 88) (ls2 := [(0, .ref 96), (1, .ref 29)]) (st2 := [.ref 29]) (w3 := w69) rfl rfl ?_
            refine sx_RP.step (pc2 := 89) (ls2 := [(0, .ref 96), (1, .ref 29)]) (st2 := [.ref 96, .ref 29]) (w3 := w69) rfl rfl ?_
            refine sx_RP.gt (k := 5) hI70 rfl rfl (by decide) (show _ = 92 from rfl) ?_
            rw [hT66.2.2.2]
            refine sx_RP.xC (k := 10) hI70 isA29 rfl rfl (by omega) rfl trivial (show _ = 95 from rfl) (fun w76 hI77 hs78 hv79 hr80 hj81 => ?_)
            have ho82 : Out 29 w69 w76 := Out.st Out.rf hs78 (by decide)
            have hC83 := hC71.out ho82
            have hT84 := hT66.out ho82
            have hB85 : rel w76 29 ((((b).set 4 (nI (vaT n X (nP n X p)))).set 5 (nI (vaT n X (wtT n X (nP n X (nP n X p)) 108 1 999).2))).set 6 (nI (vaT n X (wtT n X (nP n X ((wtT n X (nP n X (nP n X p)) 108 1 999).2)) 111 1 99).2))) := hB73.sFi (k := 10) (by decide) hs78 hv79 hr80 hj81
            have hO86 := hO74.tr ho82.offT
            refine sx_RP.step (pc2 := 96) (ls2 := [(0, .ref 96), (1, .ref 29)]) (st2 := [.ref 96]) (w3 := w76) rfl rfl ?_
            refine sx_RP.callp (as2 := [.ref 96]) (rest2 := []) rfl rfl (sx_inv_v2 (mi := 110) (k := 29) (st := [.ref 96]) (w := w76) rfl rfl hI77.1.o96 rfl rfl rfl) rfl rfl rfl (X94 hI77 hC83 hT84.2.2.1 (beT_le hp72)) (show _ = 99 from rfl) ?_
            rintro r4 w90 ⟨⟨rfl, hT87, h188⟩, hI91, hs89⟩
            show sx_RP _ _ _ _ _ [] _ _
            have hT96 : TK' n X (nP n X ((wtT n X (nP n X ((wtT n X (nP n X (nP n X p)) 108 1 999).2)) 111 1 99).2)) w90 := hT87
            have hC92 := hC83.same h188 (ia_of (hs89 97 (by decide)))
            have hp93 : nP n X ((wtT n X (nP n X ((wtT n X (nP n X (nP n X p)) 108 1 999).2)) 111 1 99).2) ≤ n := nP_le hp72
            have hB94 := hB85.same hI77 isA29 (fun a h1 h2 => hs89 a (by omega))
            have hO95 := hO86.tr hs89.offT
            refine sx_RP.step (pc2 := 100) (ls2 := [(0, .ref 96), (1, .ref 29)]) (st2 := [.int 1]) (w3 := w90) rfl rfl ?_
            refine sx_RP.ret (r := (some (.int 1))) rfl rfl ?_
            rw [show breW n X p b = (true, nP n X ((wtT n X (nP n X ((wtT n X (nP n X (nP n X p)) 108 1 999).2)) 111 1 99).2), (((b).set 4 (nI (vaT n X (nP n X p)))).set 5 (nI (vaT n X (wtT n X (nP n X (nP n X p)) 108 1 999).2))).set 6 (nI (vaT n X (wtT n X (nP n X ((wtT n X (nP n X (nP n X p)) 108 1 999).2)) 111 1 99).2))) by unfold breW; rw [if_pos c11]; unfold bw1; rw [if_pos c33, if_pos (b01_t q43)]; unfold bw2; rw [if_pos c65, if_pos (b01_t q75)]]
            exact ⟨⟨rfl, hT96, fun _ => hB94⟩, hI91, hC92, hO95⟩
          · replace q75 := Decidable.not_not.mp (of_decide_eq_false q75)
            refine sx_RP.step (pc2 := 86) (ls2 := [(0, .ref 96), (1, .ref 29)]) (st2 := [.int 0]) (w3 := w69) rfl rfl ?_
            refine sx_RP.ret (r := (some (.int 0))) rfl rfl ?_
            rw [show breW n X p b = (false, (wtT n X (nP n X ((wtT n X (nP n X (nP n X p)) 108 1 999).2)) 111 1 99).2, ((b).set 4 (nI (vaT n X (nP n X p)))).set 5 (nI (vaT n X (wtT n X (nP n X (nP n X p)) 108 1 999).2))) by unfold breW; rw [if_pos c11]; unfold bw1; rw [if_pos c33, if_pos (b01_t q43)]; unfold bw2; rw [if_pos c65, if_neg (by rw [b01_f q75]; decide)]]
            exact ⟨⟨rfl, hT66, fun z => absurd (show false = true from z) (by decide)⟩, hI70, hC71, hO74⟩
        · refine sx_RP.cu (as := [.ref 96, .float 111]) (rest2 := []) (st3 := [.int 0]) rfl rfl (sx_inv_v2 (mi := 110) (k := 52) (st := [.float 111, .ref 96]) (w := w58) rfl rfl hI59.1.o96 rfl rfl rfl) rfl rfl (x101f (k := (111 : UInt32)) (m := 6) hI59 hC60 hT64 hp61 (by decide) rfl (by decide) c65) rfl ?_
          refine sx_RP.step (pc2 := 99) (ls2 := [(0, .ref 96), (1, .ref 29)]) (st2 := []) (w3 := w58) rfl rfl ?_
          refine sx_RP.step (pc2 := 100) (ls2 := [(0, .ref 96), (1, .ref 29)]) (st2 := [.int 1]) (w3 := w58) rfl rfl ?_
          refine sx_RP.ret (r := (some (.int 1))) rfl rfl ?_
          rw [show breW n X p b = (true, nP n X ((wtT n X (nP n X (nP n X p)) 108 1 999).2), ((b).set 4 (nI (vaT n X (nP n X p)))).set 5 (nI (vaT n X (wtT n X (nP n X (nP n X p)) 108 1 999).2))) by unfold breW; rw [if_pos c11]; unfold bw1; rw [if_pos c33, if_pos (b01_t q43)]; unfold bw2; rw [if_neg (by rw [c65]; decide)]]
          exact ⟨⟨rfl, hT64, fun _ => hB62⟩, hI59, hC60, hO63⟩
      · replace q43 := Decidable.not_not.mp (of_decide_eq_false q43)
        refine sx_RP.step (pc2 := 51) (ls2 := [(0, .ref 96), (1, .ref 29)]) (st2 := [.int 0]) (w3 := w37) rfl rfl ?_
        refine sx_RP.ret (r := (some (.int 0))) rfl rfl ?_
        rw [show breW n X p b = (false, (wtT n X (nP n X (nP n X p)) 108 1 999).2, (b).set 4 (nI (vaT n X (nP n X p)))) by unfold breW; rw [if_pos c11]; unfold bw1; rw [if_pos c33, if_neg (by rw [b01_f q43]; decide)]]
        exact ⟨⟨rfl, hT34, fun z => absurd (show false = true from z) (by decide)⟩, hI38, hC39, hO42⟩
    · refine sx_RP.cu (as := [.ref 96, .float 108]) (rest2 := []) (st3 := [.int 0]) rfl rfl (sx_inv_v2 (mi := 110) (k := 52) (st := [.float 108, .ref 96]) (w := w26) rfl rfl hI27.1.o96 rfl rfl rfl) rfl rfl (x101f (k := (108 : UInt32)) (m := 6) hI27 hC28 hT32 hp29 (by decide) rfl (by decide) c33) rfl ?_
      refine sx_RP.step (pc2 := 64) (ls2 := [(0, .ref 96), (1, .ref 29)]) (st2 := []) (w3 := w26) rfl rfl ?_
      refine sx_RP.step (pc2 := 65) (ls2 := [(0, .ref 96), (1, .ref 29)]) (st2 := [.ref 96]) (w3 := w26) rfl rfl ?_
      refine sx_RP.step (pc2 := 67) (ls2 := [(0, .ref 96), (1, .ref 29)]) (st2 := [.float 111, .ref 96]) (w3 := w26) rfl rfl ?_
      rcases Bool.eq_false_or_eq_true (wdT n X (nP n X (nP n X p)) (111 : UInt32)) with c97 | c97
      · refine sx_RP.cu (as := [.ref 96, .float 111]) (rest2 := []) (st3 := [.int 1]) rfl rfl (sx_inv_v2 (mi := 110) (k := 52) (st := [.float 111, .ref 96]) (w := w26) rfl rfl hI27.1.o96 rfl rfl rfl) rfl rfl (x101t (k := (111 : UInt32)) (m := 6) hI27 hC28 hT32 hp29 (by decide) rfl (by decide) c97) rfl ?_
        refine sx_RP.step (pc2 := 73) (ls2 := [(0, .ref 96), (1, .ref 29)]) (st2 := []) (w3 := w26) rfl rfl ?_
        refine sx_RP.step (pc2 := 74) (ls2 := [(0, .ref 96), (1, .ref 29)]) (st2 := [.ref 96]) (w3 := w26) rfl rfl ?_
        refine sx_RP.step (pc2 := 76) (ls2 := [(0, .ref 96), (1, .ref 29)]) (st2 := [.float 111, .ref 96]) (w3 := w26) rfl rfl ?_
        refine sx_RP.step (pc2 := 77) (ls2 := [(0, .ref 96), (1, .ref 29)]) (st2 := [.int 1, .float 111, .ref 96]) (w3 := w26) rfl rfl ?_
        refine sx_RP.step (pc2 := 79) (ls2 := [(0, .ref 96), (1, .ref 29)]) (st2 := [.int 99, .int 1, .float 111, .ref 96]) (w3 := w26) rfl rfl ?_
        refine sx_RP.callp (as2 := [.ref 96, .float 111, .int 1, .int 99]) (rest2 := []) rfl rfl (sx_inv_v2 (mi := 110) (k := 90) (st := [.int 99, .int 1, .float 111, .ref 96]) (w := w26) rfl rfl hI27.1.o96 rfl rfl rfl) rfl rfl rfl (X108 (k := 111) (m := 6) (lo := 1) (hi := 99) hI27 hC28 hT32 hp29 (by decide) rfl (by decide) (by decide) (by decide)) (show _ = 82 from rfl) ?_
        rintro r4 w101 ⟨⟨rfl, hT98, h199⟩, hI102, hs100⟩
        show sx_RP _ _ _ _ _ [.int (b01 (wtT n X (nP n X (nP n X p)) 111 1 99).1)] _ _
        have hC103 := hC28.same h199 (ia_of (hs100 97 (by decide)))
        have hp104 : (wtT n X (nP n X (nP n X p)) 111 1 99).2 ≤ n := wtT_le hp29
        have hB105 := hB30.same hI27 isA29 (fun a h1 h2 => hs100 a (by omega))
        have hO106 := hO31.tr hs100.offT
        refine sx_RP.br (p1 := 87) (l1 := [(0, .ref 96), (1, .ref 29)]) (s1 := []) (v1 := w101) (p2 := 85) (l2 := [(0, .ref 96), (1, .ref 29)]) (s2 := []) (v2 := w101) rfl rfl (fun q107 => ?_) (fun q107 => ?_)
        · replace q107 := of_decide_eq_true q107
          refine sx_RP.step (pc2 := 88) (ls2 := [(0, .ref 96), (1, .ref 29)]) (st2 := [.ref 29]) (w3 := w101) rfl rfl ?_
          refine sx_RP.step (pc2 := 89) (ls2 := [(0, .ref 96), (1, .ref 29)]) (st2 := [.ref 96, .ref 29]) (w3 := w101) rfl rfl ?_
          refine sx_RP.gt (k := 5) hI102 rfl rfl (by decide) (show _ = 92 from rfl) ?_
          rw [hT98.2.2.2]
          refine sx_RP.xC (k := 10) hI102 isA29 rfl rfl (by omega) rfl trivial (show _ = 95 from rfl) (fun w108 hI109 hs110 hv111 hr112 hj113 => ?_)
          have ho114 : Out 29 w101 w108 := Out.st Out.rf hs110 (by decide)
          have hC115 := hC103.out ho114
          have hT116 := hT98.out ho114
          have hB117 : rel w108 29 (((b).set 4 (nI (vaT n X (nP n X p)))).set 6 (nI (vaT n X (wtT n X (nP n X (nP n X p)) 111 1 99).2))) := hB105.sFi (k := 10) (by decide) hs110 hv111 hr112 hj113
          have hO118 := hO106.tr ho114.offT
          refine sx_RP.step (pc2 := 96) (ls2 := [(0, .ref 96), (1, .ref 29)]) (st2 := [.ref 96]) (w3 := w108) rfl rfl ?_
          refine sx_RP.callp (as2 := [.ref 96]) (rest2 := []) rfl rfl (sx_inv_v2 (mi := 110) (k := 29) (st := [.ref 96]) (w := w108) rfl rfl hI109.1.o96 rfl rfl rfl) rfl rfl rfl (X94 hI109 hC115 hT116.2.2.1 (beT_le hp104)) (show _ = 99 from rfl) ?_
          rintro r4 w122 ⟨⟨rfl, hT119, h1120⟩, hI123, hs121⟩
          show sx_RP _ _ _ _ _ [] _ _
          have hT128 : TK' n X (nP n X ((wtT n X (nP n X (nP n X p)) 111 1 99).2)) w122 := hT119
          have hC124 := hC115.same h1120 (ia_of (hs121 97 (by decide)))
          have hp125 : nP n X ((wtT n X (nP n X (nP n X p)) 111 1 99).2) ≤ n := nP_le hp104
          have hB126 := hB117.same hI109 isA29 (fun a h1 h2 => hs121 a (by omega))
          have hO127 := hO118.tr hs121.offT
          refine sx_RP.step (pc2 := 100) (ls2 := [(0, .ref 96), (1, .ref 29)]) (st2 := [.int 1]) (w3 := w122) rfl rfl ?_
          refine sx_RP.ret (r := (some (.int 1))) rfl rfl ?_
          rw [show breW n X p b = (true, nP n X ((wtT n X (nP n X (nP n X p)) 111 1 99).2), ((b).set 4 (nI (vaT n X (nP n X p)))).set 6 (nI (vaT n X (wtT n X (nP n X (nP n X p)) 111 1 99).2))) by unfold breW; rw [if_pos c11]; unfold bw1; rw [if_neg (by rw [c33]; decide)]; unfold bw2; rw [if_pos c97, if_pos (b01_t q107)]]
          exact ⟨⟨rfl, hT128, fun _ => hB126⟩, hI123, hC124, hO127⟩
        · replace q107 := Decidable.not_not.mp (of_decide_eq_false q107)
          refine sx_RP.step (pc2 := 86) (ls2 := [(0, .ref 96), (1, .ref 29)]) (st2 := [.int 0]) (w3 := w101) rfl rfl ?_
          refine sx_RP.ret (r := (some (.int 0))) rfl rfl ?_
          rw [show breW n X p b = (false, (wtT n X (nP n X (nP n X p)) 111 1 99).2, (b).set 4 (nI (vaT n X (nP n X p)))) by unfold breW; rw [if_pos c11]; unfold bw1; rw [if_neg (by rw [c33]; decide)]; unfold bw2; rw [if_pos c97, if_neg (by rw [b01_f q107]; decide)]]
          exact ⟨⟨rfl, hT98, fun z => absurd (show false = true from z) (by decide)⟩, hI102, hC103, hO106⟩
      · refine sx_RP.cu (as := [.ref 96, .float 111]) (rest2 := []) (st3 := [.int 0]) rfl rfl (sx_inv_v2 (mi := 110) (k := 52) (st := [.float 111, .ref 96]) (w := w26) rfl rfl hI27.1.o96 rfl rfl rfl) rfl rfl (x101f (k := (111 : UInt32)) (m := 6) hI27 hC28 hT32 hp29 (by decide) rfl (by decide) c97) rfl ?_
        refine sx_RP.step (pc2 := 99) (ls2 := [(0, .ref 96), (1, .ref 29)]) (st2 := []) (w3 := w26) rfl rfl ?_
        refine sx_RP.step (pc2 := 100) (ls2 := [(0, .ref 96), (1, .ref 29)]) (st2 := [.int 1]) (w3 := w26) rfl rfl ?_
        refine sx_RP.ret (r := (some (.int 1))) rfl rfl ?_
        rw [show breW n X p b = (true, nP n X (nP n X p), (b).set 4 (nI (vaT n X (nP n X p)))) by unfold breW; rw [if_pos c11]; unfold bw1; rw [if_neg (by rw [c33]; decide)]; unfold bw2; rw [if_neg (by rw [c97]; decide)]]
        exact ⟨⟨rfl, hT32, fun _ => hB30⟩, hI27, hC28, hO31⟩
  · refine sx_RP.cu (as := [.ref 96, .int 0, .int 999999]) (rest2 := []) (st3 := [.int 0]) rfl rfl (sx_inv_v2 (mi := 110) (k := 66) (st := [.int 999999, .int 0, .ref 96]) (w := w4) rfl rfl hI5.1.o96 rfl rfl rfl) rfl rfl (x103f (lo := 0) (hi := 999999) hI5 hC6 hT10 (by omega) (by omega) c11) rfl ?_
    refine sx_RP.step (pc2 := 14) (ls2 := [(0, .ref 96), (1, .ref 29)]) (st2 := []) (w3 := w4) rfl rfl ?_
    refine sx_RP.step (pc2 := 15) (ls2 := [(0, .ref 96), (1, .ref 29)]) (st2 := [.int 0]) (w3 := w4) rfl rfl ?_
    refine sx_RP.ret (r := (some (.int 0))) rfl rfl ?_
    rw [show breW n X p b = (false, nP n X p, b) by unfold breW; rw [if_neg (by rw [c11]; decide)]]
    exact ⟨⟨rfl, hT10, fun z => absurd (show false = true from z) (by decide)⟩, hI5, hC6, hO9⟩
end
-- 89y27.siege2.lean.txt
section
def lay1 (u c : Nat) (b : List Int32) : List Int32 := if u = 4 then b.set (55 + c) 1 else b.set (7 + c) (nI u)
def layN (u : Nat) : Nat → Nat → List Int32 → List Int32
  | 0, _, b => b
  | q + 1, c, b => layN u q (c + 1) (lay1 u c b)
theorem lay1_2 {u c : Nat} {b : List Int32} : lay1 u c (lay1 u c b) = lay1 u c b := by
  unfold lay1
  split
  · exact List.set_set _
  · exact List.set_set _
theorem wor {v : Int64} {c : Nat} (hc : c < 64) : ∀ b, b < 64 → wbt (v ||| ((1 : Int64) <<< ((nI c).toInt64 &&& 63))) b = if b = c then 1 else wbt v b := by
  intro b hb
  unfold wbt
  rw [bit_or hc]
  by_cases e : b = c
  · rw [if_pos e, decide_eq_true e.symm, Bool.or_true]
    rfl
  · rw [if_neg e, decide_eq_false (Ne.symm e), Bool.or_false]
def grW (n : Nat) (X : Nat → Nat) (u last p : Nat) (b : List Int32) : Bool × Nat × List Int32 := if wdT n X p 116 = true then (if nmT n X (nP n X p) (last + 1) 47 = true then (true, nP n X (nP n X p), layN u (vaT n X (nP n X p) + 1 - last) last b) else (false, nP n X p, b)) else (true, p, b)
def gwL (n : Nat) (X : Nat → Nat) (u : Nat) : Nat → Nat → Nat → List Int32 → Bool × Nat × List Int32
  | 0, last, p, b => grW n X u last p b
  | f + 1, last, p, b => if soT n X p = 2 then (if nmT n X p (last + 1) 47 = true then gwL n X u f (vaT n X p) (nP n X p) (lay1 u (vaT n X p) b) else (false, p, b)) else grW n X u last p b
def groW (n : Nat) (X : Nat → Nat) (u p : Nat) (b : List Int32) : Bool × Nat × List Int32 := if nmT n X (nP n X p) 0 47 = true then gwL n X u 48 (vaT n X (nP n X p)) (nP n X (nP n X p)) (lay1 u (vaT n X (nP n X p)) b) else (false, nP n X p, b)
def itW (n : Nat) (X : Nat → Nat) (p : Nat) (b : List Int32) : Bool × Nat × List Int32 := if gwT n X p = -1 then (if kwT n X p = -1 then (if wdT n X p 104 = true then disW n X p b else (if wdT n X p 101 = true then breW n X p b else (false, p, b))) else galW n X (iN (kwT n X p)) p b) else groW n X (iN (gwT n X p)) p b
theorem disW_le {n p : Nat} {X : Nat → Nat} {b : List Int32} (h : p ≤ n) : (disW n X p b).2.1 ≤ n := by
  unfold disW
  repeat' split
  all_goals first | exact nP_le (nP_le h) | exact nP_le h | exact h
theorem galX_le {n k s p : Nat} {X : Nat → Nat} {b : List Int32} (h : p ≤ n) : (galX n X k s p b).2.1 ≤ n := by
  unfold galX
  repeat' split
  all_goals first | exact wtT_le (nP_le (nP_le h)) | exact wtT_le (nP_le (wtT_le (nP_le (nP_le h)))) | exact nP_le (wtT_le (nP_le (wtT_le (nP_le (nP_le h)))))
theorem galW_le {n k p : Nat} {X : Nat → Nat} {b : List Int32} (h : p ≤ n) : (galW n X k p b).2.1 ≤ n := by
  unfold galW
  repeat' split
  all_goals first | exact galX_le h | exact nP_le h | exact h
theorem bw2_le {n p : Nat} {X : Nat → Nat} {b : List Int32} (h : p ≤ n) : (bw2 n X p b).2.1 ≤ n := by
  unfold bw2
  repeat' split
  all_goals first | exact h | exact nP_le (wtT_le h) | exact wtT_le h
theorem bw1_le {n p : Nat} {X : Nat → Nat} {b : List Int32} (h : p ≤ n) : (bw1 n X p b).2.1 ≤ n := by
  unfold bw1
  repeat' split
  all_goals first | exact bw2_le h | exact bw2_le (nP_le (wtT_le h)) | exact wtT_le h
theorem breW_le {n p : Nat} {X : Nat → Nat} {b : List Int32} (h : p ≤ n) : (breW n X p b).2.1 ≤ n := by
  unfold breW
  split
  · exact bw1_le (nP_le (nP_le h))
  · exact nP_le h
theorem grW_le {n u l p : Nat} {X : Nat → Nat} {b : List Int32} (h : p ≤ n) : (grW n X u l p b).2.1 ≤ n := by
  unfold grW
  repeat' split
  all_goals first | exact h | exact nP_le (nP_le h) | exact nP_le h
theorem gwL_le {n u : Nat} {X : Nat → Nat} : ∀ f l p b, p ≤ n → (gwL n X u f l p b).2.1 ≤ n
  | 0, l, p, b, h => grW_le h
  | f + 1, l, p, b, h => by
    unfold gwL
    split
    · split
      · exact gwL_le f _ _ _ (nP_le h)
      · exact h
    · exact grW_le h
theorem groW_le {n u p : Nat} {X : Nat → Nat} {b : List Int32} (h : p ≤ n) : (groW n X u p b).2.1 ≤ n := by
  unfold groW
  split
  · exact gwL_le _ _ _ _ (nP_le (nP_le h))
  · exact nP_le h
theorem itW_le {n p : Nat} {X : Nat → Nat} {b : List Int32} (h : p ≤ n) : (itW n X p b).2.1 ≤ n := by
  unfold itW
  by_cases c1 : gwT n X p = -1
  · rw [if_pos c1]
    by_cases c2 : kwT n X p = -1
    · rw [if_pos c2]
      by_cases c3 : wdT n X p 104 = true
      · rw [if_pos c3]
        exact disW_le h
      · rw [if_neg c3]
        by_cases c4 : wdT n X p 101 = true
        · rw [if_pos c4]
          exact breW_le h
        · rw [if_neg c4]
          exact h
    · rw [if_neg c2]
      exact galW_le h
  · rw [if_neg c1]
    exact groW_le h
def teW (n : Nat) (X : Nat → Nat) : Nat → Nat → Nat → List Int32 → Int32 × List Int32
  | 0, _, p, b => (-1 - nI p, b)
  | f + 1, it, p, b => if (itW n X p b).1 = true then (if soT n X (itW n X p b).2.1 = 0 then (nI (it + 1), (itW n X p b).2.2) else (if soT n X (itW n X p b).2.1 = 3 then teW n X f (it + 1) (nP n X (itW n X p b).2.1) (itW n X p b).2.2 else (-1 - nI (itW n X p b).2.1, b))) else (-1 - nI (itW n X p b).2.1, b)
set_option maxRecDepth 20000 in
set_option maxHeartbeats 4000000 in
theorem V104L {xs : Option (List Int32)} {d u t : Nat} {x : Int32} {w0 : List sx_C} (hu : u ≤ 4) (ht : t ≤ 47) : ∀ (q j : Nat) (w : List sx_C) (b : List Int32), j + q = t + 1 → WI w → rel w 29 b → Out 29 w0 w → sx_RP xs d 104 3 [(0, .ref 29), (1, .int (nI u)), (2, .int x), (3, .int (nI t)), (4, .int (nI j))] [] w (fun r w2 => (r = none ∧ rel w2 29 (layN u q j b)) ∧ WI w2 ∧ Out 29 w0 w2)
  | 0, j, w, b, hj, hI, hR, hO => by
    refine sx_RP.step (pc2 := 5) (ls2 := [(0, .ref 29), (1, .int (nI u)), (2, .int x), (3, .int (nI t)), (4, .int (nI j))]) (st2 := [.int (nI j)]) (w3 := w) rfl rfl ?_
    refine sx_RP.step (pc2 := 6) (ls2 := [(0, .ref 29), (1, .int (nI u)), (2, .int x), (3, .int (nI t)), (4, .int (nI j))]) (st2 := [.int (nI t), .int (nI j)]) (w3 := w) rfl rfl ?_
    refine sx_RP.br (p1 := 44) (l1 := [(0, .ref 29), (1, .int (nI u)), (2, .int x), (3, .int (nI t)), (4, .int (nI j))]) (s1 := []) (v1 := w) rfl rfl (fun _ => ?_) (fun q => absurd ((nI_ltI (a := t) (b := j) (by omega) (by omega)).mpr (by omega)) (of_decide_eq_false q))
    refine sx_RP.ret (r := none) rfl rfl ?_
    exact ⟨⟨rfl, hR⟩, hI, hO⟩
  | q + 1, j, w, b, hj, hI, hR, hO => by
    refine sx_RP.step (pc2 := 5) (ls2 := [(0, .ref 29), (1, .int (nI u)), (2, .int x), (3, .int (nI t)), (4, .int (nI j))]) (st2 := [.int (nI j)]) (w3 := w) rfl rfl ?_
    refine sx_RP.step (pc2 := 6) (ls2 := [(0, .ref 29), (1, .int (nI u)), (2, .int x), (3, .int (nI t)), (4, .int (nI j))]) (st2 := [.int (nI t), .int (nI j)]) (w3 := w) rfl rfl ?_
    refine sx_RP.br (p2 := 9) (l2 := [(0, .ref 29), (1, .int (nI u)), (2, .int x), (3, .int (nI t)), (4, .int (nI j))]) (s2 := []) (v2 := w) rfl rfl (fun q => absurd (of_decide_eq_true q) (fun z => absurd ((nI_ltI (a := t) (b := j) (by omega) (by omega)).mp z) (by omega))) (fun _ => ?_)
    refine sx_RP.step (pc2 := 10) (ls2 := [(0, .ref 29), (1, .int (nI u)), (2, .int x), (3, .int (nI t)), (4, .int (nI j))]) (st2 := [.int (nI u)]) (w3 := w) rfl rfl ?_
    refine sx_RP.step (pc2 := 11) (ls2 := [(0, .ref 29), (1, .int (nI u)), (2, .int x), (3, .int (nI t)), (4, .int (nI j))]) (st2 := [.int 4, .int (nI u)]) (w3 := w) rfl rfl ?_
    refine sx_RP.br (p1 := 30) (l1 := [(0, .ref 29), (1, .int (nI u)), (2, .int x), (3, .int (nI t)), (4, .int (nI j))]) (s1 := []) (v1 := w) (p2 := 14) (l2 := [(0, .ref 29), (1, .int (nI u)), (2, .int x), (3, .int (nI t)), (4, .int (nI j))]) (s2 := []) (v2 := w) rfl rfl (fun q1 => ?_) (fun q1 => ?_)
    · replace q1 := of_decide_eq_true q1
      replace q1 := mt (nI_eq (a := u) (b := 4) (by omega) (by omega)).mpr q1
      refine sx_RP.step (pc2 := 31) (ls2 := [(0, .ref 29), (1, .int (nI u)), (2, .int x), (3, .int (nI t)), (4, .int (nI j))]) (st2 := [.ref 29]) (w3 := w) rfl rfl ?_
      refine sx_RP.gref (k := 0) (b := 30) hI (Or.inr (Or.inr rfl)) rfl rfl (by omega) (show _ = 34 from rfl) ?_
      refine sx_RP.step (pc2 := 36) (ls2 := [(0, .ref 29), (1, .int (nI u)), (2, .int x), (3, .int (nI t)), (4, .int (nI j))]) (st2 := [.int (nI j), .ref 30]) (w3 := w) rfl rfl ?_
      refine sx_RP.step (pc2 := 37) (ls2 := [(0, .ref 29), (1, .int (nI u)), (2, .int x), (3, .int (nI t)), (4, .int (nI j))]) (st2 := [.int (nI u), .int (nI j), .ref 30]) (w3 := w) rfl rfl ?_
      refine sx_RP.xS (A := 29) (c := j) hI (Or.inr (Or.inr rfl)) rfl (show j < 48 by omega) (inR.n (show u ≤ 3 by omega)) (show _ = 38 from rfl) (fun w2 hI3 hs4 hv5 => ?_)
      refine sx_RP.step (pc2 := 41) (ls2 := [(4, .int ((nI j) + 1)), (0, .ref 29), (1, .int (nI u)), (2, .int x), (3, .int (nI t))]) (st2 := []) (w3 := w2) rfl rfl ?_
      rw [nI_1 j]
      refine sx_RP.step (pc2 := 3) (ls2 := [(4, .int (nI (j + 1))), (0, .ref 29), (1, .int (nI u)), (2, .int x), (3, .int (nI t))]) (st2 := []) (w3 := w2) rfl rfl ?_
      -- [('¬ (nI u) = 4', True, 'q1')] ('A', '29', 1, 'j', <symgen.V object at 0x7f953ca32b00>, 'hs4', 'hv5', 'w', 'w2')
      have e9 : lay1 u j b = b.set (7 + j) (nI u) := if_neg q1
      have hR2 : rel w2 29 (lay1 u j b) := by rw [e9]; exact hR.sGr hI isA29 (by omega) hs4 hv5
      exact sx_RP.ls (sx_lr.cons rfl (sx_lr.cons rfl (sx_lr.cons rfl (sx_lr.cons rfl (sx_lr.cons rfl sx_lr.nil))))) (V104L hu ht q (j + 1) w2 (lay1 u j b) (by omega) hI3 hR2 (hO.tr (hs4.out (by omega))))
    · replace q1 := Decidable.not_not.mp (of_decide_eq_false q1)
      replace q1 := (nI_eq (a := u) (b := 4) (by omega) (by omega)).mp q1
      refine sx_RP.step (pc2 := 15) (ls2 := [(0, .ref 29), (1, .int (nI u)), (2, .int x), (3, .int (nI t)), (4, .int (nI j))]) (st2 := [.ref 29]) (w3 := w) rfl rfl ?_
      refine sx_RP.step (pc2 := 16) (ls2 := [(0, .ref 29), (1, .int (nI u)), (2, .int x), (3, .int (nI t)), (4, .int (nI j))]) (st2 := [.ref 29, .ref 29]) (w3 := w) rfl rfl ?_
      refine sx_RP.gw hI (Or.inr (Or.inr rfl)) rfl rfl (show _ = 19 from rfl) ?_
      refine sx_RP.step (pc2 := 20) (ls2 := [(0, .ref 29), (1, .int (nI u)), (2, .int x), (3, .int (nI t)), (4, .int (nI j))]) (st2 := [.long 1, .long (fj w 29 1), .ref 29]) (w3 := w) rfl rfl ?_
      refine sx_RP.step (pc2 := 22) (ls2 := [(0, .ref 29), (1, .int (nI u)), (2, .int x), (3, .int (nI t)), (4, .int (nI j))]) (st2 := [.int (nI j), .long 1, .long (fj w 29 1), .ref 29]) (w3 := w) rfl rfl ?_
      refine sx_RP.step (pc2 := 23) (ls2 := [(0, .ref 29), (1, .int (nI u)), (2, .int x), (3, .int (nI t)), (4, .int (nI j))]) (st2 := [.long ((1 : Int64) <<< ((nI j).toInt64 &&& 63)), .long (fj w 29 1), .ref 29]) (w3 := w) rfl rfl ?_
      refine sx_RP.step (pc2 := 24) (ls2 := [(0, .ref 29), (1, .int (nI u)), (2, .int x), (3, .int (nI t)), (4, .int (nI j))]) (st2 := [.long ((fj w 29 1) ||| ((1 : Int64) <<< ((nI j).toInt64 &&& 63))), .ref 29]) (w3 := w) rfl rfl ?_
      refine sx_RP.xW hI (Or.inr (Or.inr rfl)) rfl rfl rfl (show _ = 27 from rfl) (fun w6 hI7 hs8 hv9 hr10 => ?_)
      refine sx_RP.step (pc2 := 38) (ls2 := [(0, .ref 29), (1, .int (nI u)), (2, .int x), (3, .int (nI t)), (4, .int (nI j))]) (st2 := []) (w3 := w6) rfl rfl ?_
      refine sx_RP.step (pc2 := 41) (ls2 := [(4, .int ((nI j) + 1)), (0, .ref 29), (1, .int (nI u)), (2, .int x), (3, .int (nI t))]) (st2 := []) (w3 := w6) rfl rfl ?_
      rw [nI_1 j]
      refine sx_RP.step (pc2 := 3) (ls2 := [(4, .int (nI (j + 1))), (0, .ref 29), (1, .int (nI u)), (2, .int x), (3, .int (nI t))]) (st2 := []) (w3 := w6) rfl rfl ?_
      -- [('¬ (nI u) = 4', False, 'q1')] ('W', '29', 1, <symgen.V object at 0x7f953ca6b380>, 'hs8', 'hv9', 'hr10', 'w', 'w6')
      have e9 : lay1 u j b = b.set (55 + j) 1 := if_pos q1
      have hR2 : rel w6 29 (lay1 u j b) := by rw [e9]; exact hR.sWl (by omega) hs8 hr10 (fun c hc => by rw [hv9]; exact wor (by omega) c hc)
      exact sx_RP.ls (sx_lr.cons rfl (sx_lr.cons rfl (sx_lr.cons rfl (sx_lr.cons rfl (sx_lr.cons rfl sx_lr.nil))))) (V104L hu ht q (j + 1) w6 (lay1 u j b) (by omega) hI7 hR2 (hO.tr (hs8.out (by omega))))
set_option maxRecDepth 20000 in
set_option maxHeartbeats 4000000 in
theorem V104 {xs : Option (List Int32)} {d : Nat} {w : List sx_C} (hI : WI w) {u f t : Nat} {b : List Int32} (hu : u ≤ 4) (hf : f ≤ t + 1) (ht : t ≤ 47) (hR : rel w 29 b) : sx_RP xs d 104 0 (lv_args 0 [.ref 29, .int (nI u), .int (nI f), .int (nI t)]) [] w (fun r w2 => (r = none ∧ rel w2 29 (layN u (t + 1 - f) f b)) ∧ WI w2 ∧ Out 29 w w2) := by
  refine sx_RP.step (pc2 := 1) (ls2 := [(0, .ref 29), (1, .int (nI u)), (2, .int (nI f)), (3, .int (nI t))]) (st2 := [.int (nI f)]) (w3 := w) rfl rfl ?_
  refine sx_RP.step (pc2 := 3) (ls2 := [(4, .int (nI f)), (0, .ref 29), (1, .int (nI u)), (2, .int (nI f)), (3, .int (nI t))]) (st2 := []) (w3 := w) rfl rfl ?_
  exact sx_RP.ls (sx_lr.cons rfl (sx_lr.cons rfl (sx_lr.cons rfl (sx_lr.cons rfl (sx_lr.cons rfl sx_lr.nil))))) (V104L (w0 := w) hu ht (t + 1 - f) f w b (by omega) hI hR (fun _ _ => rfl))
set_option maxRecDepth 20000 in
set_option maxHeartbeats 4000000 in
theorem V102t {xs : Option (List Int32)} {d u l p : Nat} {b : List Int32} {w : List sx_C} {n : Nat} {X : Nat → Nat} {w0 : List sx_C} (hu : u ≤ 4) (hl : l ≤ 47) (hL : lay1 u l b = b) (hI : WI w) (hC : CT n X w) (hT : TK' n X p w) (hp : p ≤ n) (hB : rel w 29 b) (hO : OffT w0 w) : sx_RP xs (d + 3) 102 86 [(0, .ref 96), (1, .int (nI u)), (2, .ref 29), (3, .int (nI l))] [] w (fun r2 w2 => (r2 = some (.int (b01 (grW n X u l p b).1)) ∧ RdW n X (grW n X u l p b) w2) ∧ WI w2 ∧ CT n X w2 ∧ OffT w0 w2) := by
  refine sx_RP.step (pc2 := 87) (ls2 := [(0, .ref 96), (1, .int (nI u)), (2, .ref 29), (3, .int (nI l))]) (st2 := [.ref 96]) (w3 := w) rfl rfl ?_
  refine sx_RP.step (pc2 := 89) (ls2 := [(0, .ref 96), (1, .int (nI u)), (2, .ref 29), (3, .int (nI l))]) (st2 := [.float 116, .ref 96]) (w3 := w) rfl rfl ?_
  rcases Bool.eq_false_or_eq_true (wdT n X p (116 : UInt32)) with c1 | c1
  · refine sx_RP.cu (as := [.ref 96, .float 116]) (rest2 := []) (st3 := [.int 1]) rfl rfl (sx_inv_v2 (mi := 102) (k := 52) (st := [.float 116, .ref 96]) (w := w) rfl rfl hI.1.o96 rfl rfl rfl) rfl rfl (x101t (k := (116 : UInt32)) (m := 2) hI hC hT hp (by decide) rfl (by decide) c1) rfl ?_
    refine sx_RP.step (pc2 := 97) (ls2 := [(0, .ref 96), (1, .int (nI u)), (2, .ref 29), (3, .int (nI l))]) (st2 := []) (w3 := w) rfl rfl ?_
    refine sx_RP.step (pc2 := 98) (ls2 := [(0, .ref 96), (1, .int (nI u)), (2, .ref 29), (3, .int (nI l))]) (st2 := [.ref 96]) (w3 := w) rfl rfl ?_
    refine sx_RP.callp (as2 := [.ref 96]) (rest2 := []) rfl rfl (sx_inv_v2 (mi := 102) (k := 29) (st := [.ref 96]) (w := w) rfl rfl hI.1.o96 rfl rfl rfl) rfl rfl rfl (X94 hI hC hT.2.2.1 (beT_le hp)) (show _ = 101 from rfl) ?_
    rintro r4 w5 ⟨⟨rfl, hT2, h13⟩, hI6, hs4⟩
    show sx_RP _ _ _ _ _ [] _ _
    have hT11 : TK' n X (nP n X p) w5 := hT2
    have hC7 := hC.same h13 (ia_of (hs4 97 (by decide)))
    have hp8 : nP n X p ≤ n := nP_le hp
    have hB9 := hB.same hI isA29 (fun a h1 h2 => hs4 a (by omega))
    have hO10 := hO.tr hs4.offT
    refine sx_RP.step (pc2 := 102) (ls2 := [(0, .ref 96), (1, .int (nI u)), (2, .ref 29), (3, .int (nI l))]) (st2 := [.ref 96]) (w3 := w5) rfl rfl ?_
    refine sx_RP.step (pc2 := 103) (ls2 := [(0, .ref 96), (1, .int (nI u)), (2, .ref 29), (3, .int (nI l))]) (st2 := [.int (nI l), .ref 96]) (w3 := w5) rfl rfl ?_
    refine sx_RP.step (pc2 := 104) (ls2 := [(0, .ref 96), (1, .int (nI u)), (2, .ref 29), (3, .int (nI l))]) (st2 := [.int 1, .int (nI l), .ref 96]) (w3 := w5) rfl rfl ?_
    refine sx_RP.step (pc2 := 105) (ls2 := [(0, .ref 96), (1, .int (nI u)), (2, .ref 29), (3, .int (nI l))]) (st2 := [.int ((nI l) + 1), .ref 96]) (w3 := w5) rfl rfl ?_
    rw [show ((nI l) + 1 : Int32) = nI (l + 1) from nI_add l 1]
    refine sx_RP.step (pc2 := 107) (ls2 := [(0, .ref 96), (1, .int (nI u)), (2, .ref 29), (3, .int (nI l))]) (st2 := [.int 47, .int (nI (l + 1)), .ref 96]) (w3 := w5) rfl rfl ?_
    rcases Bool.eq_false_or_eq_true (nmT n X (nP n X p) (l + 1) 47) with c12 | c12
    · refine sx_RP.cu (as := [.ref 96, .int (nI (l + 1)), .int 47]) (rest2 := []) (st3 := [.int 1]) rfl rfl (sx_inv_v2 (mi := 102) (k := 66) (st := [.int 47, .int (nI (l + 1)), .ref 96]) (w := w5) rfl rfl hI6.1.o96 rfl rfl rfl) rfl rfl (x103t (lo := (l + 1)) (hi := 47) hI6 hC7 hT11 (by omega) (by omega) c12) rfl ?_
      refine sx_RP.step (pc2 := 115) (ls2 := [(0, .ref 96), (1, .int (nI u)), (2, .ref 29), (3, .int (nI l))]) (st2 := []) (w3 := w5) rfl rfl ?_
      refine sx_RP.step (pc2 := 116) (ls2 := [(0, .ref 96), (1, .int (nI u)), (2, .ref 29), (3, .int (nI l))]) (st2 := [.ref 29]) (w3 := w5) rfl rfl ?_
      refine sx_RP.step (pc2 := 117) (ls2 := [(0, .ref 96), (1, .int (nI u)), (2, .ref 29), (3, .int (nI l))]) (st2 := [.int (nI u), .ref 29]) (w3 := w5) rfl rfl ?_
      refine sx_RP.step (pc2 := 118) (ls2 := [(0, .ref 96), (1, .int (nI u)), (2, .ref 29), (3, .int (nI l))]) (st2 := [.int (nI l), .int (nI u), .ref 29]) (w3 := w5) rfl rfl ?_
      refine sx_RP.step (pc2 := 119) (ls2 := [(0, .ref 96), (1, .int (nI u)), (2, .ref 29), (3, .int (nI l))]) (st2 := [.int 1, .int (nI l), .int (nI u), .ref 29]) (w3 := w5) rfl rfl ?_
      refine sx_RP.step (pc2 := 120) (ls2 := [(0, .ref 96), (1, .int (nI u)), (2, .ref 29), (3, .int (nI l))]) (st2 := [.int ((nI l) + 1), .int (nI u), .ref 29]) (w3 := w5) rfl rfl ?_
      rw [show ((nI l) + 1 : Int32) = nI (l + 1) from nI_add l 1]
      refine sx_RP.step (pc2 := 121) (ls2 := [(0, .ref 96), (1, .int (nI u)), (2, .ref 29), (3, .int (nI l))]) (st2 := [.ref 96, .int (nI (l + 1)), .int (nI u), .ref 29]) (w3 := w5) rfl rfl ?_
      refine sx_RP.gt (k := 5) hI6 rfl rfl (by decide) (show _ = 124 from rfl) ?_
      rw [hT11.2.2.2]
      have hv15 := nmT_in c12
      refine sx_RP.callp (as2 := [.ref 29, .int (nI u), .int (nI (l + 1)), .int (nI (vaT n X (nP n X p)))]) (rest2 := []) rfl rfl (sx_inv_v2 (mi := 102) (k := 70) (st := [.int (nI (vaT n X (nP n X p))), .int (nI (l + 1)), .int (nI u), .ref 29]) (w := w5) rfl rfl (hI6.1.oC (Or.inr (Or.inr rfl))) rfl rfl rfl) rfl rfl rfl (V104 hI6 (u := u) (f := (l + 1)) (t := (vaT n X (nP n X p))) (by omega) (by omega) (by omega) hB9) (show _ = 127 from rfl) ?_
      rintro r4 w16 ⟨⟨rfl, hr13⟩, hI17, ho14⟩
      show sx_RP _ _ _ _ _ [] _ _
      have hC18 := hC7.out ho14
      have hT19 := hT11.out ho14
      have hO20 := hO10.tr ho14.offT
      refine sx_RP.step (pc2 := 128) (ls2 := [(0, .ref 96), (1, .int (nI u)), (2, .ref 29), (3, .int (nI l))]) (st2 := [.ref 96]) (w3 := w16) rfl rfl ?_
      refine sx_RP.callp (as2 := [.ref 96]) (rest2 := []) rfl rfl (sx_inv_v2 (mi := 102) (k := 29) (st := [.ref 96]) (w := w16) rfl rfl hI17.1.o96 rfl rfl rfl) rfl rfl rfl (X94 hI17 hC18 hT19.2.2.1 (beT_le hp8)) (show _ = 131 from rfl) ?_
      rintro r4 w24 ⟨⟨rfl, hT21, h122⟩, hI25, hs23⟩
      show sx_RP _ _ _ _ _ [] _ _
      have hT30 : TK' n X (nP n X (nP n X p)) w24 := hT21
      have hC26 := hC18.same h122 (ia_of (hs23 97 (by decide)))
      have hp27 : nP n X (nP n X p) ≤ n := nP_le hp8
      have hB28 := hr13.same hI17 isA29 (fun a h1 h2 => hs23 a (by omega))
      have hO29 := hO20.tr hs23.offT
      refine sx_RP.step (pc2 := 132) (ls2 := [(0, .ref 96), (1, .int (nI u)), (2, .ref 29), (3, .int (nI l))]) (st2 := [.int 1]) (w3 := w24) rfl rfl ?_
      refine sx_RP.ret (r := (some (.int 1))) rfl rfl ?_
      rw [show grW n X u l p b = (true, nP n X (nP n X p), layN u (vaT n X (nP n X p) + 1 - l) l b) by unfold grW; rw [if_pos c1, if_pos c12]]
      have hv9 := nmT_in c12
      exact ⟨⟨rfl, hT30, fun _ => (by show rel _ 29 (layN u (vaT n X (nP n X p) + 1 - l) l b); rw [show vaT n X (nP n X p) + 1 - l = (vaT n X (nP n X p) + 1 - (l + 1)) + 1 by omega]; show rel _ 29 (layN u _ (l + 1) (lay1 u l b)); rw [hL]; exact hB28)⟩, hI25, hC26, hO29⟩
    · refine sx_RP.cu (as := [.ref 96, .int (nI (l + 1)), .int 47]) (rest2 := []) (st3 := [.int 0]) rfl rfl (sx_inv_v2 (mi := 102) (k := 66) (st := [.int 47, .int (nI (l + 1)), .ref 96]) (w := w5) rfl rfl hI6.1.o96 rfl rfl rfl) rfl rfl (x103f (lo := (l + 1)) (hi := 47) hI6 hC7 hT11 (by omega) (by omega) c12) rfl ?_
      refine sx_RP.step (pc2 := 113) (ls2 := [(0, .ref 96), (1, .int (nI u)), (2, .ref 29), (3, .int (nI l))]) (st2 := []) (w3 := w5) rfl rfl ?_
      refine sx_RP.step (pc2 := 114) (ls2 := [(0, .ref 96), (1, .int (nI u)), (2, .ref 29), (3, .int (nI l))]) (st2 := [.int 0]) (w3 := w5) rfl rfl ?_
      refine sx_RP.ret (r := (some (.int 0))) rfl rfl ?_
      rw [show grW n X u l p b = (false, nP n X p, b) by unfold grW; rw [if_pos c1, if_neg (by rw [c12]; decide)]]
      exact ⟨⟨rfl, hT11, fun z => absurd (show false = true from z) (by decide)⟩, hI6, hC7, hO10⟩
  · refine sx_RP.cu (as := [.ref 96, .float 116]) (rest2 := []) (st3 := [.int 0]) rfl rfl (sx_inv_v2 (mi := 102) (k := 52) (st := [.float 116, .ref 96]) (w := w) rfl rfl hI.1.o96 rfl rfl rfl) rfl rfl (x101f (k := (116 : UInt32)) (m := 2) hI hC hT hp (by decide) rfl (by decide) c1) rfl ?_
    refine sx_RP.step (pc2 := 95) (ls2 := [(0, .ref 96), (1, .int (nI u)), (2, .ref 29), (3, .int (nI l))]) (st2 := []) (w3 := w) rfl rfl ?_
    refine sx_RP.step (pc2 := 96) (ls2 := [(0, .ref 96), (1, .int (nI u)), (2, .ref 29), (3, .int (nI l))]) (st2 := [.int 1]) (w3 := w) rfl rfl ?_
    refine sx_RP.ret (r := (some (.int 1))) rfl rfl ?_
    rw [show grW n X u l p b = (true, p, b) by unfold grW; rw [if_neg (by rw [c1]; decide)]]
    exact ⟨⟨rfl, hT, fun _ => hB⟩, hI, hC, hO⟩
set_option maxRecDepth 20000 in
set_option maxHeartbeats 4000000 in
theorem V102L {xs : Option (List Int32)} {d u : Nat} {n : Nat} {X : Nat → Nat} {w0 : List sx_C} (hu : u ≤ 4) : ∀ (fz i l p : Nat) (b : List Int32) (w : List sx_C), i + fz = 48 → l ≤ 47 → lay1 u l b = b → WI w → CT n X w → TK' n X p w → p ≤ n → rel w 29 b → OffT w0 w → sx_RP xs (d + 3) 102 35 [(0, .ref 96), (1, .int (nI u)), (2, .ref 29), (3, .int (nI l)), (4, .int (nI i))] [] w (fun r2 w2 => (r2 = some (.int (b01 (gwL n X u fz l p b).1)) ∧ RdW n X (gwL n X u fz l p b) w2) ∧ WI w2 ∧ CT n X w2 ∧ OffT w0 w2)
  | 0, i, l, p, b, w, hi, hl, hL, hI, hC, hT, hp, hB, hO => by
    obtain rfl : i = 48 := by omega
    refine sx_RP.step (pc2 := 37) (ls2 := [(0, .ref 96), (1, .int (nI u)), (2, .ref 29), (3, .int (nI l)), (4, .int 48)]) (st2 := [.int 48]) (w3 := w) rfl rfl ?_
    refine sx_RP.step (pc2 := 39) (ls2 := [(0, .ref 96), (1, .int (nI u)), (2, .ref 29), (3, .int (nI l)), (4, .int 48)]) (st2 := [.int 48, .int 48]) (w3 := w) rfl rfl ?_
    refine sx_RP.step (pc2 := 86) (ls2 := [(0, .ref 96), (1, .int (nI u)), (2, .ref 29), (3, .int (nI l)), (4, .int 48)]) (st2 := []) (w3 := w) rfl rfl ?_
    exact sx_RP.ls (sx_lr.cons rfl (sx_lr.cons rfl (sx_lr.cons rfl (sx_lr.cons rfl sx_lr.nil)))) (V102t hu hl hL hI hC hT hp hB hO)
  | fz + 1, i, l, p, b, w, hi, hl, hL, hI, hC, hT, hp, hB, hO => by
    have hv0 := vaT_le (n := n) (p := p) (X := X)
    have hs4 := soT_le (p := p) hC
    refine sx_RP.step (pc2 := 37) (ls2 := [(0, .ref 96), (1, .int (nI u)), (2, .ref 29), (3, .int (nI l)), (4, .int (nI i))]) (st2 := [.int (nI i)]) (w3 := w) rfl rfl ?_
    refine sx_RP.step (pc2 := 39) (ls2 := [(0, .ref 96), (1, .int (nI u)), (2, .ref 29), (3, .int (nI l)), (4, .int (nI i))]) (st2 := [.int 48, .int (nI i)]) (w3 := w) rfl rfl ?_
    refine sx_RP.br (p2 := 42) (l2 := [(0, .ref 96), (1, .int (nI u)), (2, .ref 29), (3, .int (nI l)), (4, .int (nI i))]) (s2 := []) (v2 := w) rfl rfl (fun q => absurd (of_decide_eq_true q) (fun z => absurd ((nI_leI (a := 48) (b := i) (by omega) (by omega)).mp z) (by omega))) (fun _ => ?_)
    refine sx_RP.step (pc2 := 43) (ls2 := [(0, .ref 96), (1, .int (nI u)), (2, .ref 29), (3, .int (nI l)), (4, .int (nI i))]) (st2 := [.ref 96]) (w3 := w) rfl rfl ?_
    refine sx_RP.gt (k := 2) hI rfl rfl (by decide) (show _ = 46 from rfl) ?_
    rw [hT.2.1]
    refine sx_RP.step (pc2 := 47) (ls2 := [(0, .ref 96), (1, .int (nI u)), (2, .ref 29), (3, .int (nI l)), (4, .int (nI i))]) (st2 := [.int 2, .int (nI (soT n X (p)))]) (w3 := w) rfl rfl ?_
    refine sx_RP.br (p1 := 86) (l1 := [(0, .ref 96), (1, .int (nI u)), (2, .ref 29), (3, .int (nI l)), (4, .int (nI i))]) (s1 := []) (v1 := w) (p2 := 50) (l2 := [(0, .ref 96), (1, .int (nI u)), (2, .ref 29), (3, .int (nI l)), (4, .int (nI i))]) (s2 := []) (v2 := w) rfl rfl (fun q1 => ?_) (fun q1 => ?_)
    · replace q1 := of_decide_eq_true q1
      replace q1 := mt (nI_eq (a := (soT n X (p))) (b := 2) (by omega) (by omega)).mpr q1
      rw [show gwL n X u (fz + 1) l p b = grW n X u l p b by unfold gwL; rw [if_neg (by omega)]]
      exact sx_RP.ls (sx_lr.cons rfl (sx_lr.cons rfl (sx_lr.cons rfl (sx_lr.cons rfl sx_lr.nil)))) (V102t hu hl hL hI hC hT hp hB hO)
    · replace q1 := Decidable.not_not.mp (of_decide_eq_false q1)
      replace q1 := (nI_eq (a := (soT n X (p))) (b := 2) (by omega) (by omega)).mp q1
      refine sx_RP.step (pc2 := 51) (ls2 := [(0, .ref 96), (1, .int (nI u)), (2, .ref 29), (3, .int (nI l)), (4, .int (nI i))]) (st2 := [.ref 96]) (w3 := w) rfl rfl ?_
      refine sx_RP.step (pc2 := 52) (ls2 := [(0, .ref 96), (1, .int (nI u)), (2, .ref 29), (3, .int (nI l)), (4, .int (nI i))]) (st2 := [.int (nI l), .ref 96]) (w3 := w) rfl rfl ?_
      refine sx_RP.step (pc2 := 53) (ls2 := [(0, .ref 96), (1, .int (nI u)), (2, .ref 29), (3, .int (nI l)), (4, .int (nI i))]) (st2 := [.int 1, .int (nI l), .ref 96]) (w3 := w) rfl rfl ?_
      refine sx_RP.step (pc2 := 54) (ls2 := [(0, .ref 96), (1, .int (nI u)), (2, .ref 29), (3, .int (nI l)), (4, .int (nI i))]) (st2 := [.int ((nI l) + 1), .ref 96]) (w3 := w) rfl rfl ?_
      rw [show ((nI l) + 1 : Int32) = nI (l + 1) from nI_add l 1]
      refine sx_RP.step (pc2 := 56) (ls2 := [(0, .ref 96), (1, .int (nI u)), (2, .ref 29), (3, .int (nI l)), (4, .int (nI i))]) (st2 := [.int 47, .int (nI (l + 1)), .ref 96]) (w3 := w) rfl rfl ?_
      rcases Bool.eq_false_or_eq_true (nmT n X p (l + 1) 47) with c2 | c2
      · refine sx_RP.cu (as := [.ref 96, .int (nI (l + 1)), .int 47]) (rest2 := []) (st3 := [.int 1]) rfl rfl (sx_inv_v2 (mi := 102) (k := 66) (st := [.int 47, .int (nI (l + 1)), .ref 96]) (w := w) rfl rfl hI.1.o96 rfl rfl rfl) rfl rfl (x103t (lo := (l + 1)) (hi := 47) hI hC hT (by omega) (by omega) c2) rfl ?_
        refine sx_RP.step (pc2 := 64) (ls2 := [(0, .ref 96), (1, .int (nI u)), (2, .ref 29), (3, .int (nI l)), (4, .int (nI i))]) (st2 := []) (w3 := w) rfl rfl ?_
        refine sx_RP.step (pc2 := 65) (ls2 := [(0, .ref 96), (1, .int (nI u)), (2, .ref 29), (3, .int (nI l)), (4, .int (nI i))]) (st2 := [.ref 96]) (w3 := w) rfl rfl ?_
        refine sx_RP.gt (k := 5) hI rfl rfl (by decide) (show _ = 68 from rfl) ?_
        rw [hT.2.2.2]
        refine sx_RP.step (pc2 := 69) (ls2 := [(3, .int (nI (vaT n X (p)))), (0, .ref 96), (1, .int (nI u)), (2, .ref 29), (4, .int (nI i))]) (st2 := []) (w3 := w) rfl rfl ?_
        refine sx_RP.step (pc2 := 70) (ls2 := [(3, .int (nI (vaT n X (p)))), (0, .ref 96), (1, .int (nI u)), (2, .ref 29), (4, .int (nI i))]) (st2 := [.ref 29]) (w3 := w) rfl rfl ?_
        refine sx_RP.step (pc2 := 71) (ls2 := [(3, .int (nI (vaT n X (p)))), (0, .ref 96), (1, .int (nI u)), (2, .ref 29), (4, .int (nI i))]) (st2 := [.int (nI u), .ref 29]) (w3 := w) rfl rfl ?_
        refine sx_RP.step (pc2 := 72) (ls2 := [(3, .int (nI (vaT n X (p)))), (0, .ref 96), (1, .int (nI u)), (2, .ref 29), (4, .int (nI i))]) (st2 := [.int (nI (vaT n X (p))), .int (nI u), .ref 29]) (w3 := w) rfl rfl ?_
        refine sx_RP.step (pc2 := 73) (ls2 := [(3, .int (nI (vaT n X (p)))), (0, .ref 96), (1, .int (nI u)), (2, .ref 29), (4, .int (nI i))]) (st2 := [.int (nI (vaT n X (p))), .int (nI (vaT n X (p))), .int (nI u), .ref 29]) (w3 := w) rfl rfl ?_
        have hv5 := nmT_in c2
        refine sx_RP.callp (as2 := [.ref 29, .int (nI u), .int (nI (vaT n X (p))), .int (nI (vaT n X (p)))]) (rest2 := []) rfl rfl (sx_inv_v2 (mi := 102) (k := 70) (st := [.int (nI (vaT n X (p))), .int (nI (vaT n X (p))), .int (nI u), .ref 29]) (w := w) rfl rfl (hI.1.oC (Or.inr (Or.inr rfl))) rfl rfl rfl) rfl rfl rfl (V104 hI (u := u) (f := (vaT n X (p))) (t := (vaT n X (p))) (by omega) (by omega) (by omega) hB) (show _ = 76 from rfl) ?_
        rintro r4 w6 ⟨⟨rfl, hr3⟩, hI7, ho4⟩
        show sx_RP _ _ _ _ _ [] _ _
        have hC8 := hC.out ho4
        have hT9 := hT.out ho4
        have hO10 := hO.tr ho4.offT
        have hB11 : rel w6 29 (lay1 u ((vaT n X (p))) b) := by have z := hr3; rw [show (vaT n X (p)) + 1 - (vaT n X (p)) = 1 by omega] at z; exact z
        refine sx_RP.step (pc2 := 77) (ls2 := [(3, .int (nI (vaT n X (p)))), (0, .ref 96), (1, .int (nI u)), (2, .ref 29), (4, .int (nI i))]) (st2 := [.ref 96]) (w3 := w6) rfl rfl ?_
        refine sx_RP.callp (as2 := [.ref 96]) (rest2 := []) rfl rfl (sx_inv_v2 (mi := 102) (k := 29) (st := [.ref 96]) (w := w6) rfl rfl hI7.1.o96 rfl rfl rfl) rfl rfl rfl (X94 hI7 hC8 hT9.2.2.1 (beT_le hp)) (show _ = 80 from rfl) ?_
        rintro r4 w15 ⟨⟨rfl, hT12, h113⟩, hI16, hs14⟩
        show sx_RP _ _ _ _ _ [] _ _
        have hT21 : TK' n X (nP n X p) w15 := hT12
        have hC17 := hC8.same h113 (ia_of (hs14 97 (by decide)))
        have hp18 : nP n X p ≤ n := nP_le hp
        have hB19 := hB11.same hI7 isA29 (fun a h1 h2 => hs14 a (by omega))
        have hO20 := hO10.tr hs14.offT
        refine sx_RP.step (pc2 := 83) (ls2 := [(4, .int ((nI i) + 1)), (3, .int (nI (vaT n X (p)))), (0, .ref 96), (1, .int (nI u)), (2, .ref 29)]) (st2 := []) (w3 := w15) rfl rfl ?_
        rw [nI_1 i]
        refine sx_RP.step (pc2 := 35) (ls2 := [(4, .int (nI (i + 1))), (3, .int (nI (vaT n X (p)))), (0, .ref 96), (1, .int (nI u)), (2, .ref 29)]) (st2 := []) (w3 := w15) rfl rfl ?_
        rw [show gwL n X u (fz + 1) l p b = gwL n X u fz (vaT n X p) (nP n X p) (lay1 u (vaT n X p) b) by conv => lhs; unfold gwL; rw [if_pos (by omega), if_pos c2]]
        exact sx_RP.ls (sx_lr.cons rfl (sx_lr.cons rfl (sx_lr.cons rfl (sx_lr.cons rfl (sx_lr.cons rfl sx_lr.nil))))) (V102L hu fz (i + 1) (vaT n X p) (nP n X p) (lay1 u (vaT n X p) b) w15 (by omega) (by omega) lay1_2 hI16 hC17 hT21 hp18 hB19 hO20)
      · refine sx_RP.cu (as := [.ref 96, .int (nI (l + 1)), .int 47]) (rest2 := []) (st3 := [.int 0]) rfl rfl (sx_inv_v2 (mi := 102) (k := 66) (st := [.int 47, .int (nI (l + 1)), .ref 96]) (w := w) rfl rfl hI.1.o96 rfl rfl rfl) rfl rfl (x103f (lo := (l + 1)) (hi := 47) hI hC hT (by omega) (by omega) c2) rfl ?_
        refine sx_RP.step (pc2 := 62) (ls2 := [(0, .ref 96), (1, .int (nI u)), (2, .ref 29), (3, .int (nI l)), (4, .int (nI i))]) (st2 := []) (w3 := w) rfl rfl ?_
        refine sx_RP.step (pc2 := 63) (ls2 := [(0, .ref 96), (1, .int (nI u)), (2, .ref 29), (3, .int (nI l)), (4, .int (nI i))]) (st2 := [.int 0]) (w3 := w) rfl rfl ?_
        refine sx_RP.ret (r := (some (.int 0))) rfl rfl ?_
        rw [show gwL n X u (fz + 1) l p b = (false, p, b) by unfold gwL; rw [if_pos (by omega), if_neg (by rw [c2]; decide)]]
        exact ⟨⟨rfl, hT, fun z => absurd (show false = true from z) (by decide)⟩, hI, hC, hO⟩
set_option maxRecDepth 20000 in
set_option maxHeartbeats 4000000 in
theorem V102 {xs : Option (List Int32)} {d u p n : Nat} {X : Nat → Nat} {b : List Int32} {w : List sx_C} (hu : u ≤ 4) (hI : WI w) (hC : CT n X w) (hT : TK' n X p w) (hp : p ≤ n) (hB : rel w 29 b) : sx_RP xs (d + 3) 102 0 (lv_args 0 [.ref 96, .int (nI u), .ref 29]) [] w (fun r2 w2 => (r2 = some (.int (b01 (groW n X u p b).1)) ∧ RdW n X (groW n X u p b) w2) ∧ WI w2 ∧ CT n X w2 ∧ OffT w w2) := by
  refine sx_RP.step (pc2 := 1) (ls2 := [(0, .ref 96), (1, .int (nI u)), (2, .ref 29)]) (st2 := [.ref 96]) (w3 := w) rfl rfl ?_
  refine sx_RP.callp (as2 := [.ref 96]) (rest2 := []) rfl rfl (sx_inv_v2 (mi := 102) (k := 29) (st := [.ref 96]) (w := w) rfl rfl hI.1.o96 rfl rfl rfl) rfl rfl rfl (X94 hI hC hT.2.2.1 (beT_le hp)) (show _ = 4 from rfl) ?_
  rintro r4 w4 ⟨⟨rfl, hT1, h12⟩, hI5, hs3⟩
  show sx_RP _ _ _ _ _ [] _ _
  have hT10 : TK' n X (nP n X p) w4 := hT1
  have hC6 := hC.same h12 (ia_of (hs3 97 (by decide)))
  have hp7 : nP n X p ≤ n := nP_le hp
  have hB8 := hB.same hI isA29 (fun a h1 h2 => hs3 a (by omega))
  have hO9 := OffT.rf.tr hs3.offT
  refine sx_RP.step (pc2 := 5) (ls2 := [(0, .ref 96), (1, .int (nI u)), (2, .ref 29)]) (st2 := [.ref 96]) (w3 := w4) rfl rfl ?_
  refine sx_RP.step (pc2 := 6) (ls2 := [(0, .ref 96), (1, .int (nI u)), (2, .ref 29)]) (st2 := [.int 0, .ref 96]) (w3 := w4) rfl rfl ?_
  refine sx_RP.step (pc2 := 8) (ls2 := [(0, .ref 96), (1, .int (nI u)), (2, .ref 29)]) (st2 := [.int 47, .int 0, .ref 96]) (w3 := w4) rfl rfl ?_
  rcases Bool.eq_false_or_eq_true (nmT n X (nP n X p) 0 47) with c11 | c11
  · refine sx_RP.cu (as := [.ref 96, .int 0, .int 47]) (rest2 := []) (st3 := [.int 1]) rfl rfl (sx_inv_v2 (mi := 102) (k := 66) (st := [.int 47, .int 0, .ref 96]) (w := w4) rfl rfl hI5.1.o96 rfl rfl rfl) rfl rfl (x103t (lo := 0) (hi := 47) hI5 hC6 hT10 (by omega) (by omega) c11) rfl ?_
    refine sx_RP.step (pc2 := 16) (ls2 := [(0, .ref 96), (1, .int (nI u)), (2, .ref 29)]) (st2 := []) (w3 := w4) rfl rfl ?_
    refine sx_RP.step (pc2 := 17) (ls2 := [(0, .ref 96), (1, .int (nI u)), (2, .ref 29)]) (st2 := [.ref 96]) (w3 := w4) rfl rfl ?_
    refine sx_RP.gt (k := 5) hI5 rfl rfl (by decide) (show _ = 20 from rfl) ?_
    rw [hT10.2.2.2]
    refine sx_RP.step (pc2 := 21) (ls2 := [(3, .int (nI (vaT n X (nP n X p)))), (0, .ref 96), (1, .int (nI u)), (2, .ref 29)]) (st2 := []) (w3 := w4) rfl rfl ?_
    refine sx_RP.step (pc2 := 22) (ls2 := [(3, .int (nI (vaT n X (nP n X p)))), (0, .ref 96), (1, .int (nI u)), (2, .ref 29)]) (st2 := [.ref 29]) (w3 := w4) rfl rfl ?_
    refine sx_RP.step (pc2 := 23) (ls2 := [(3, .int (nI (vaT n X (nP n X p)))), (0, .ref 96), (1, .int (nI u)), (2, .ref 29)]) (st2 := [.int (nI u), .ref 29]) (w3 := w4) rfl rfl ?_
    refine sx_RP.step (pc2 := 24) (ls2 := [(3, .int (nI (vaT n X (nP n X p)))), (0, .ref 96), (1, .int (nI u)), (2, .ref 29)]) (st2 := [.int (nI (vaT n X (nP n X p))), .int (nI u), .ref 29]) (w3 := w4) rfl rfl ?_
    refine sx_RP.step (pc2 := 25) (ls2 := [(3, .int (nI (vaT n X (nP n X p)))), (0, .ref 96), (1, .int (nI u)), (2, .ref 29)]) (st2 := [.int (nI (vaT n X (nP n X p))), .int (nI (vaT n X (nP n X p))), .int (nI u), .ref 29]) (w3 := w4) rfl rfl ?_
    have hv14 := nmT_in c11
    refine sx_RP.callp (as2 := [.ref 29, .int (nI u), .int (nI (vaT n X (nP n X p))), .int (nI (vaT n X (nP n X p)))]) (rest2 := []) rfl rfl (sx_inv_v2 (mi := 102) (k := 70) (st := [.int (nI (vaT n X (nP n X p))), .int (nI (vaT n X (nP n X p))), .int (nI u), .ref 29]) (w := w4) rfl rfl (hI5.1.oC (Or.inr (Or.inr rfl))) rfl rfl rfl) rfl rfl rfl (V104 hI5 (u := u) (f := (vaT n X (nP n X p))) (t := (vaT n X (nP n X p))) (by omega) (by omega) (by omega) hB8) (show _ = 28 from rfl) ?_
    rintro r4 w15 ⟨⟨rfl, hr12⟩, hI16, ho13⟩
    show sx_RP _ _ _ _ _ [] _ _
    have hC17 := hC6.out ho13
    have hT18 := hT10.out ho13
    have hO19 := hO9.tr ho13.offT
    have hB20 : rel w15 29 (lay1 u ((vaT n X (nP n X p))) b) := by have z := hr12; rw [show (vaT n X (nP n X p)) + 1 - (vaT n X (nP n X p)) = 1 by omega] at z; exact z
    refine sx_RP.step (pc2 := 29) (ls2 := [(3, .int (nI (vaT n X (nP n X p)))), (0, .ref 96), (1, .int (nI u)), (2, .ref 29)]) (st2 := [.ref 96]) (w3 := w15) rfl rfl ?_
    refine sx_RP.callp (as2 := [.ref 96]) (rest2 := []) rfl rfl (sx_inv_v2 (mi := 102) (k := 29) (st := [.ref 96]) (w := w15) rfl rfl hI16.1.o96 rfl rfl rfl) rfl rfl rfl (X94 hI16 hC17 hT18.2.2.1 (beT_le hp7)) (show _ = 32 from rfl) ?_
    rintro r4 w24 ⟨⟨rfl, hT21, h122⟩, hI25, hs23⟩
    show sx_RP _ _ _ _ _ [] _ _
    have hT30 : TK' n X (nP n X (nP n X p)) w24 := hT21
    have hC26 := hC17.same h122 (ia_of (hs23 97 (by decide)))
    have hp27 : nP n X (nP n X p) ≤ n := nP_le hp7
    have hB28 := hB20.same hI16 isA29 (fun a h1 h2 => hs23 a (by omega))
    have hO29 := hO19.tr hs23.offT
    refine sx_RP.step (pc2 := 33) (ls2 := [(3, .int (nI (vaT n X (nP n X p)))), (0, .ref 96), (1, .int (nI u)), (2, .ref 29)]) (st2 := [.int 0]) (w3 := w24) rfl rfl ?_
    refine sx_RP.step (pc2 := 35) (ls2 := [(4, .int 0), (3, .int (nI (vaT n X (nP n X p)))), (0, .ref 96), (1, .int (nI u)), (2, .ref 29)]) (st2 := []) (w3 := w24) rfl rfl ?_
    rw [show groW n X u p b = gwL n X u 48 (vaT n X (nP n X p)) (nP n X (nP n X p)) (lay1 u (vaT n X (nP n X p)) b) by unfold groW; rw [if_pos c11]]
    exact sx_RP.ls (sx_lr.cons rfl (sx_lr.cons rfl (sx_lr.cons rfl (sx_lr.cons rfl (sx_lr.cons rfl sx_lr.nil))))) (V102L hu 48 0 (vaT n X (nP n X p)) (nP n X (nP n X p)) (lay1 u (vaT n X (nP n X p)) b) w24 (by omega) (by omega) lay1_2 hI25 hC26 hT30 hp27 hB28 hO29)
  · refine sx_RP.cu (as := [.ref 96, .int 0, .int 47]) (rest2 := []) (st3 := [.int 0]) rfl rfl (sx_inv_v2 (mi := 102) (k := 66) (st := [.int 47, .int 0, .ref 96]) (w := w4) rfl rfl hI5.1.o96 rfl rfl rfl) rfl rfl (x103f (lo := 0) (hi := 47) hI5 hC6 hT10 (by omega) (by omega) c11) rfl ?_
    refine sx_RP.step (pc2 := 14) (ls2 := [(0, .ref 96), (1, .int (nI u)), (2, .ref 29)]) (st2 := []) (w3 := w4) rfl rfl ?_
    refine sx_RP.step (pc2 := 15) (ls2 := [(0, .ref 96), (1, .int (nI u)), (2, .ref 29)]) (st2 := [.int 0]) (w3 := w4) rfl rfl ?_
    refine sx_RP.ret (r := (some (.int 0))) rfl rfl ?_
    rw [show groW n X u p b = (false, nP n X p, b) by unfold groW; rw [if_neg (by rw [c11]; decide)]]
    exact ⟨⟨rfl, hT10, fun z => absurd (show false = true from z) (by decide)⟩, hI5, hC6, hO9⟩
set_option maxRecDepth 20000 in
set_option maxHeartbeats 4000000 in
theorem V98 {xs : Option (List Int32)} {d : Nat} {w : List sx_C} (hI : WI w) {n p : Nat} {X : Nat → Nat} {b : List Int32} (hC : CT n X w) (hT : TK' n X p w) (hp : p ≤ n) (hB : rel w 29 b) : sx_RP xs (d + 5) 98 0 (lv_args 0 [.ref 96, .ref 29]) [] w (fun r w2 => (r = some (.int (b01 (itW n X p b).1)) ∧ RdW n X (itW n X p b) w2) ∧ WI w2 ∧ CT n X w2 ∧ OffT w w2) := by
  refine sx_RP.step (pc2 := 1) (ls2 := [(0, .ref 96), (1, .ref 29)]) (st2 := [.ref 96]) (w3 := w) rfl rfl ?_
  rcases gw_rng n X p with c1 | ⟨u2, hu3, c1⟩
  · refine sx_RP.cu (as := [.ref 96]) (rest2 := []) (st3 := [.int (-1)]) rfl rfl (sx_inv_v2 (mi := 98) (k := 36) (st := [.ref 96]) (w := w) rfl rfl hI.1.o96 rfl rfl rfl) rfl rfl (x99e hI hC hT hp c1) rfl ?_
    refine sx_RP.step (pc2 := 5) (ls2 := [(2, .int (-1)), (0, .ref 96), (1, .ref 29)]) (st2 := []) (w3 := w) rfl rfl ?_
    refine sx_RP.step (pc2 := 6) (ls2 := [(2, .int (-1)), (0, .ref 96), (1, .ref 29)]) (st2 := [.int (-1)]) (w3 := w) rfl rfl ?_
    refine sx_RP.step (pc2 := 7) (ls2 := [(2, .int (-1)), (0, .ref 96), (1, .ref 29)]) (st2 := [.int (-1), .int (-1)]) (w3 := w) rfl rfl ?_
    refine sx_RP.step (pc2 := 17) (ls2 := [(2, .int (-1)), (0, .ref 96), (1, .ref 29)]) (st2 := []) (w3 := w) rfl rfl ?_
    refine sx_RP.step (pc2 := 18) (ls2 := [(2, .int (-1)), (0, .ref 96), (1, .ref 29)]) (st2 := [.ref 96]) (w3 := w) rfl rfl ?_
    rcases kw_rng n X p with c4 | ⟨u5, hu6, c4⟩
    · refine sx_RP.cu (as := [.ref 96]) (rest2 := []) (st3 := [.int (-1)]) rfl rfl (sx_inv_v2 (mi := 98) (k := 44) (st := [.ref 96]) (w := w) rfl rfl hI.1.o96 rfl rfl rfl) rfl rfl (x105e hI hC hT hp c4) rfl ?_
      refine sx_RP.step (pc2 := 22) (ls2 := [(3, .int (-1)), (2, .int (-1)), (0, .ref 96), (1, .ref 29)]) (st2 := []) (w3 := w) rfl rfl ?_
      refine sx_RP.step (pc2 := 23) (ls2 := [(3, .int (-1)), (2, .int (-1)), (0, .ref 96), (1, .ref 29)]) (st2 := [.int (-1)]) (w3 := w) rfl rfl ?_
      refine sx_RP.step (pc2 := 24) (ls2 := [(3, .int (-1)), (2, .int (-1)), (0, .ref 96), (1, .ref 29)]) (st2 := [.int (-1), .int (-1)]) (w3 := w) rfl rfl ?_
      refine sx_RP.step (pc2 := 34) (ls2 := [(3, .int (-1)), (2, .int (-1)), (0, .ref 96), (1, .ref 29)]) (st2 := []) (w3 := w) rfl rfl ?_
      refine sx_RP.step (pc2 := 35) (ls2 := [(3, .int (-1)), (2, .int (-1)), (0, .ref 96), (1, .ref 29)]) (st2 := [.ref 96]) (w3 := w) rfl rfl ?_
      refine sx_RP.step (pc2 := 37) (ls2 := [(3, .int (-1)), (2, .int (-1)), (0, .ref 96), (1, .ref 29)]) (st2 := [.float 104, .ref 96]) (w3 := w) rfl rfl ?_
      rcases Bool.eq_false_or_eq_true (wdT n X p (104 : UInt32)) with c7 | c7
      · refine sx_RP.cu (as := [.ref 96, .float 104]) (rest2 := []) (st3 := [.int 1]) rfl rfl (sx_inv_v2 (mi := 98) (k := 52) (st := [.float 104, .ref 96]) (w := w) rfl rfl hI.1.o96 rfl rfl rfl) rfl rfl (x101t (k := (104 : UInt32)) (m := 4) hI hC hT hp (by decide) rfl (by decide) c7) rfl ?_
        refine sx_RP.step (pc2 := 43) (ls2 := [(3, .int (-1)), (2, .int (-1)), (0, .ref 96), (1, .ref 29)]) (st2 := []) (w3 := w) rfl rfl ?_
        refine sx_RP.step (pc2 := 44) (ls2 := [(3, .int (-1)), (2, .int (-1)), (0, .ref 96), (1, .ref 29)]) (st2 := [.ref 96]) (w3 := w) rfl rfl ?_
        refine sx_RP.step (pc2 := 45) (ls2 := [(3, .int (-1)), (2, .int (-1)), (0, .ref 96), (1, .ref 29)]) (st2 := [.ref 29, .ref 96]) (w3 := w) rfl rfl ?_
        refine sx_RP.callp (as2 := [.ref 96, .ref 29]) (rest2 := []) rfl rfl (sx_inv_v2 (mi := 98) (k := 56) (st := [.ref 29, .ref 96]) (w := w) rfl rfl hI.1.o96 rfl rfl rfl) rfl rfl rfl (V109 hI hC hT hp hB) (show _ = 48 from rfl) ?_
        rintro r4 w11 ⟨⟨rfl, hr8⟩, hI12, hC9, hO10⟩
        show sx_RP _ _ _ _ _ [.int (b01 (disW n X p b).1)] _ _
        refine sx_RP.ret (r := (some (.int (b01 (disW n X p b).1)))) rfl (b01_r98 _) ?_
        rw [show itW n X p b = disW n X p b by unfold itW; rw [if_pos c1, if_pos c4, if_pos c7]]
        exact ⟨⟨rfl, hr8⟩, hI12, hC9, hO10⟩
      · refine sx_RP.cu (as := [.ref 96, .float 104]) (rest2 := []) (st3 := [.int 0]) rfl rfl (sx_inv_v2 (mi := 98) (k := 52) (st := [.float 104, .ref 96]) (w := w) rfl rfl hI.1.o96 rfl rfl rfl) rfl rfl (x101f (k := (104 : UInt32)) (m := 4) hI hC hT hp (by decide) rfl (by decide) c7) rfl ?_
        refine sx_RP.step (pc2 := 49) (ls2 := [(3, .int (-1)), (2, .int (-1)), (0, .ref 96), (1, .ref 29)]) (st2 := []) (w3 := w) rfl rfl ?_
        refine sx_RP.step (pc2 := 50) (ls2 := [(3, .int (-1)), (2, .int (-1)), (0, .ref 96), (1, .ref 29)]) (st2 := [.ref 96]) (w3 := w) rfl rfl ?_
        refine sx_RP.step (pc2 := 52) (ls2 := [(3, .int (-1)), (2, .int (-1)), (0, .ref 96), (1, .ref 29)]) (st2 := [.float 101, .ref 96]) (w3 := w) rfl rfl ?_
        rcases Bool.eq_false_or_eq_true (wdT n X p (101 : UInt32)) with c13 | c13
        · refine sx_RP.cu (as := [.ref 96, .float 101]) (rest2 := []) (st3 := [.int 1]) rfl rfl (sx_inv_v2 (mi := 98) (k := 52) (st := [.float 101, .ref 96]) (w := w) rfl rfl hI.1.o96 rfl rfl rfl) rfl rfl (x101t (k := (101 : UInt32)) (m := 5) hI hC hT hp (by decide) rfl (by decide) c13) rfl ?_
          refine sx_RP.step (pc2 := 58) (ls2 := [(3, .int (-1)), (2, .int (-1)), (0, .ref 96), (1, .ref 29)]) (st2 := []) (w3 := w) rfl rfl ?_
          refine sx_RP.step (pc2 := 59) (ls2 := [(3, .int (-1)), (2, .int (-1)), (0, .ref 96), (1, .ref 29)]) (st2 := [.ref 96]) (w3 := w) rfl rfl ?_
          refine sx_RP.step (pc2 := 60) (ls2 := [(3, .int (-1)), (2, .int (-1)), (0, .ref 96), (1, .ref 29)]) (st2 := [.ref 29, .ref 96]) (w3 := w) rfl rfl ?_
          refine sx_RP.callp (as2 := [.ref 96, .ref 29]) (rest2 := []) rfl rfl (sx_inv_v2 (mi := 98) (k := 61) (st := [.ref 29, .ref 96]) (w := w) rfl rfl hI.1.o96 rfl rfl rfl) rfl rfl rfl (V110 hI hC hT hp hB) (show _ = 63 from rfl) ?_
          rintro r4 w17 ⟨⟨rfl, hr14⟩, hI18, hC15, hO16⟩
          show sx_RP _ _ _ _ _ [.int (b01 (breW n X p b).1)] _ _
          refine sx_RP.br (p1 := 70) (l1 := [(3, .int (-1)), (2, .int (-1)), (0, .ref 96), (1, .ref 29)]) (s1 := []) (v1 := w17) (p2 := 66) (l2 := [(3, .int (-1)), (2, .int (-1)), (0, .ref 96), (1, .ref 29)]) (s2 := []) (v2 := w17) rfl rfl (fun q19 => ?_) (fun q19 => ?_)
          · replace q19 := of_decide_eq_true q19
            refine sx_RP.step (pc2 := 71) (ls2 := [(3, .int (-1)), (2, .int (-1)), (0, .ref 96), (1, .ref 29)]) (st2 := [.int 0]) (w3 := w17) rfl rfl ?_
            refine sx_RP.ret (r := (some (.int 0))) rfl rfl ?_
            rw [show itW n X p b = breW n X p b by unfold itW; rw [if_pos c1, if_pos c4, if_neg (by rw [c7]; decide), if_pos c13]]
            exact ⟨⟨by rw [b01_f q19]; rfl, hr14⟩, hI18, hC15, hO16⟩
          · replace q19 := of_decide_eq_false q19
            refine sx_RP.step (pc2 := 67) (ls2 := [(3, .int (-1)), (2, .int (-1)), (0, .ref 96), (1, .ref 29)]) (st2 := [.int 1]) (w3 := w17) rfl rfl ?_
            refine sx_RP.step (pc2 := 71) (ls2 := [(3, .int (-1)), (2, .int (-1)), (0, .ref 96), (1, .ref 29)]) (st2 := [.int 1]) (w3 := w17) rfl rfl ?_
            refine sx_RP.ret (r := (some (.int 1))) rfl rfl ?_
            rw [show itW n X p b = breW n X p b by unfold itW; rw [if_pos c1, if_pos c4, if_neg (by rw [c7]; decide), if_pos c13]]
            exact ⟨⟨by rw [b01_t q19]; rfl, hr14⟩, hI18, hC15, hO16⟩
        · refine sx_RP.cu (as := [.ref 96, .float 101]) (rest2 := []) (st3 := [.int 0]) rfl rfl (sx_inv_v2 (mi := 98) (k := 52) (st := [.float 101, .ref 96]) (w := w) rfl rfl hI.1.o96 rfl rfl rfl) rfl rfl (x101f (k := (101 : UInt32)) (m := 5) hI hC hT hp (by decide) rfl (by decide) c13) rfl ?_
          refine sx_RP.step (pc2 := 70) (ls2 := [(3, .int (-1)), (2, .int (-1)), (0, .ref 96), (1, .ref 29)]) (st2 := []) (w3 := w) rfl rfl ?_
          refine sx_RP.step (pc2 := 71) (ls2 := [(3, .int (-1)), (2, .int (-1)), (0, .ref 96), (1, .ref 29)]) (st2 := [.int 0]) (w3 := w) rfl rfl ?_
          refine sx_RP.ret (r := (some (.int 0))) rfl rfl ?_
          rw [show itW n X p b = (false, p, b) by unfold itW; rw [if_pos c1, if_pos c4, if_neg (by rw [c7]; decide), if_neg (by rw [c13]; decide)]]
          exact ⟨⟨rfl, hT, fun z => absurd (show false = true from z) (by decide)⟩, hI, hC, OffT.rf⟩
    · refine sx_RP.cu (as := [.ref 96]) (rest2 := []) (st3 := [.int (nI u5)]) rfl rfl (sx_inv_v2 (mi := 98) (k := 44) (st := [.ref 96]) (w := w) rfl rfl hI.1.o96 rfl rfl rfl) rfl rfl (x105e hI hC hT hp c4) rfl ?_
      refine sx_RP.step (pc2 := 22) (ls2 := [(3, .int (nI u5)), (2, .int (-1)), (0, .ref 96), (1, .ref 29)]) (st2 := []) (w3 := w) rfl rfl ?_
      refine sx_RP.step (pc2 := 23) (ls2 := [(3, .int (nI u5)), (2, .int (-1)), (0, .ref 96), (1, .ref 29)]) (st2 := [.int (nI u5)]) (w3 := w) rfl rfl ?_
      refine sx_RP.step (pc2 := 24) (ls2 := [(3, .int (nI u5)), (2, .int (-1)), (0, .ref 96), (1, .ref 29)]) (st2 := [.int (-1), .int (nI u5)]) (w3 := w) rfl rfl ?_
      refine sx_RP.br (p2 := 27) (l2 := [(3, .int (nI u5)), (2, .int (-1)), (0, .ref 96), (1, .ref 29)]) (s2 := []) (v2 := w) rfl rfl (fun q => absurd (of_decide_eq_true q) (nI_ne1 (by omega))) (fun _ => ?_)
      refine sx_RP.step (pc2 := 28) (ls2 := [(3, .int (nI u5)), (2, .int (-1)), (0, .ref 96), (1, .ref 29)]) (st2 := [.ref 96]) (w3 := w) rfl rfl ?_
      refine sx_RP.step (pc2 := 29) (ls2 := [(3, .int (nI u5)), (2, .int (-1)), (0, .ref 96), (1, .ref 29)]) (st2 := [.int (nI u5), .ref 96]) (w3 := w) rfl rfl ?_
      refine sx_RP.step (pc2 := 30) (ls2 := [(3, .int (nI u5)), (2, .int (-1)), (0, .ref 96), (1, .ref 29)]) (st2 := [.ref 29, .int (nI u5), .ref 96]) (w3 := w) rfl rfl ?_
      refine sx_RP.callp (as2 := [.ref 96, .int (nI u5), .ref 29]) (rest2 := []) rfl rfl (sx_inv_v2 (mi := 98) (k := 47) (st := [.ref 29, .int (nI u5), .ref 96]) (w := w) rfl rfl hI.1.o96 rfl rfl rfl) rfl rfl rfl (V107 (k := u5) hI (by omega) hC hT hp hB) (show _ = 33 from rfl) ?_
      rintro r4 w23 ⟨⟨rfl, hr20⟩, hI24, hC21, hO22⟩
      show sx_RP _ _ _ _ _ [.int (b01 (galW n X u5 p b).1)] _ _
      refine sx_RP.ret (r := (some (.int (b01 (galW n X u5 p b).1)))) rfl (b01_r98 _) ?_
      rw [show itW n X p b = galW n X u5 p b by unfold itW; rw [if_pos c1, if_neg (by rw [c4]; exact nI_nm1 (by omega)), c4, iN_n (by omega)]]
      exact ⟨⟨rfl, hr20⟩, hI24, hC21, hO22⟩
  · refine sx_RP.cu (as := [.ref 96]) (rest2 := []) (st3 := [.int (nI u2)]) rfl rfl (sx_inv_v2 (mi := 98) (k := 36) (st := [.ref 96]) (w := w) rfl rfl hI.1.o96 rfl rfl rfl) rfl rfl (x99e hI hC hT hp c1) rfl ?_
    refine sx_RP.step (pc2 := 5) (ls2 := [(2, .int (nI u2)), (0, .ref 96), (1, .ref 29)]) (st2 := []) (w3 := w) rfl rfl ?_
    refine sx_RP.step (pc2 := 6) (ls2 := [(2, .int (nI u2)), (0, .ref 96), (1, .ref 29)]) (st2 := [.int (nI u2)]) (w3 := w) rfl rfl ?_
    refine sx_RP.step (pc2 := 7) (ls2 := [(2, .int (nI u2)), (0, .ref 96), (1, .ref 29)]) (st2 := [.int (-1), .int (nI u2)]) (w3 := w) rfl rfl ?_
    refine sx_RP.br (p2 := 10) (l2 := [(2, .int (nI u2)), (0, .ref 96), (1, .ref 29)]) (s2 := []) (v2 := w) rfl rfl (fun q => absurd (of_decide_eq_true q) (nI_ne1 (by omega))) (fun _ => ?_)
    refine sx_RP.step (pc2 := 11) (ls2 := [(2, .int (nI u2)), (0, .ref 96), (1, .ref 29)]) (st2 := [.ref 96]) (w3 := w) rfl rfl ?_
    refine sx_RP.step (pc2 := 12) (ls2 := [(2, .int (nI u2)), (0, .ref 96), (1, .ref 29)]) (st2 := [.int (nI u2), .ref 96]) (w3 := w) rfl rfl ?_
    refine sx_RP.step (pc2 := 13) (ls2 := [(2, .int (nI u2)), (0, .ref 96), (1, .ref 29)]) (st2 := [.ref 29, .int (nI u2), .ref 96]) (w3 := w) rfl rfl ?_
    refine sx_RP.callp (as2 := [.ref 96, .int (nI u2), .ref 29]) (rest2 := []) rfl rfl (sx_inv_v2 (mi := 98) (k := 40) (st := [.ref 29, .int (nI u2), .ref 96]) (w := w) rfl rfl hI.1.o96 rfl rfl rfl) rfl rfl rfl (V102 (u := u2) (by omega) hI hC hT hp hB) (show _ = 16 from rfl) ?_
    rintro r4 w28 ⟨⟨rfl, hr25⟩, hI29, hC26, hO27⟩
    show sx_RP _ _ _ _ _ [.int (b01 (groW n X u2 p b).1)] _ _
    refine sx_RP.ret (r := (some (.int (b01 (groW n X u2 p b).1)))) rfl (b01_r98 _) ?_
    rw [show itW n X p b = groW n X u2 p b by unfold itW; rw [if_neg (by rw [c1]; exact nI_nm1 (by omega)), c1, iN_n (by omega)]]
    exact ⟨⟨rfl, hr25⟩, hI29, hC26, hO27⟩
set_option maxRecDepth 20000 in
set_option maxHeartbeats 4000000 in
theorem V93L {xs : Option (List Int32)} {d : Nat} {n : Nat} {X : Nat → Nat} {w0 : List sx_C} : ∀ (fz i it p : Nat) (b : List Int32) (w : List sx_C), i + fz = 121 → WI w → CT n X w → TK' n X p w → p ≤ n → rel w 29 b → OffT w0 w → sx_RP xs (d + 6) 93 13 [(0, .ref 96), (1, .ref 29), (2, .int (nI it)), (3, .int (nI i))] [] w (fun r2 w2 => (r2 = some (.int (teW n X fz it p b).1) ∧ (0 ≤ (teW n X fz it p b).1 → rel w2 29 (teW n X fz it p b).2)) ∧ WI w2 ∧ CT n X w2 ∧ OffT w0 w2)
  | 0, i, it, p, b, w, hi, hI, hC, hT, hp, hB, hO => by
    obtain rfl : i = 121 := by omega
    have hn := hC.2.1
    refine sx_RP.step (pc2 := 14) (ls2 := [(0, .ref 96), (1, .ref 29), (2, .int (nI it)), (3, .int 121)]) (st2 := [.int 121]) (w3 := w) rfl rfl ?_
    refine sx_RP.step (pc2 := 16) (ls2 := [(0, .ref 96), (1, .ref 29), (2, .int (nI it)), (3, .int 121)]) (st2 := [.int 120, .int 121]) (w3 := w) rfl rfl ?_
    refine sx_RP.step (pc2 := 63) (ls2 := [(0, .ref 96), (1, .ref 29), (2, .int (nI it)), (3, .int 121)]) (st2 := []) (w3 := w) rfl rfl ?_
    refine sx_RP.step (pc2 := 64) (ls2 := [(0, .ref 96), (1, .ref 29), (2, .int (nI it)), (3, .int 121)]) (st2 := [.int (-1)]) (w3 := w) rfl rfl ?_
    refine sx_RP.step (pc2 := 65) (ls2 := [(0, .ref 96), (1, .ref 29), (2, .int (nI it)), (3, .int 121)]) (st2 := [.ref 96, .int (-1)]) (w3 := w) rfl rfl ?_
    refine sx_RP.gt (k := 3) hI rfl rfl (by decide) (show _ = 68 from rfl) ?_
    rw [hT.1]
    refine sx_RP.step (pc2 := 69) (ls2 := [(0, .ref 96), (1, .ref 29), (2, .int (nI it)), (3, .int 121)]) (st2 := [.int ((-1) - (nI p))]) (w3 := w) rfl rfl ?_
    refine sx_RP.ret (r := (some (.int ((-1) - (nI p))))) rfl rfl ?_
    exact ⟨⟨rfl, fun z => absurd z (neg_p (by omega))⟩, hI, hC, hO⟩
  | fz + 1, i, it, p, b, w, hi, hI, hC, hT, hp, hB, hO => by
    have hn := hC.2.1
    refine sx_RP.step (pc2 := 14) (ls2 := [(0, .ref 96), (1, .ref 29), (2, .int (nI it)), (3, .int (nI i))]) (st2 := [.int (nI i)]) (w3 := w) rfl rfl ?_
    refine sx_RP.step (pc2 := 16) (ls2 := [(0, .ref 96), (1, .ref 29), (2, .int (nI it)), (3, .int (nI i))]) (st2 := [.int 120, .int (nI i)]) (w3 := w) rfl rfl ?_
    refine sx_RP.br (p2 := 19) (l2 := [(0, .ref 96), (1, .ref 29), (2, .int (nI it)), (3, .int (nI i))]) (s2 := []) (v2 := w) rfl rfl (fun q => absurd (of_decide_eq_true q) (fun z => absurd ((nI_ltI (a := 120) (b := i) (by omega) (by omega)).mp z) (by omega))) (fun _ => ?_)
    refine sx_RP.step (pc2 := 20) (ls2 := [(0, .ref 96), (1, .ref 29), (2, .int (nI it)), (3, .int (nI i))]) (st2 := [.ref 96]) (w3 := w) rfl rfl ?_
    refine sx_RP.step (pc2 := 21) (ls2 := [(0, .ref 96), (1, .ref 29), (2, .int (nI it)), (3, .int (nI i))]) (st2 := [.ref 29, .ref 96]) (w3 := w) rfl rfl ?_
    refine sx_RP.callp (as2 := [.ref 96, .ref 29]) (rest2 := []) rfl rfl (sx_inv_v2 (mi := 93) (k := 32) (st := [.ref 29, .ref 96]) (w := w) rfl rfl hI.1.o96 rfl rfl rfl) rfl rfl rfl (V98 hI hC hT hp hB) (show _ = 24 from rfl) ?_
    rintro r4 w5 ⟨⟨rfl, hr1⟩, hI6, hC2, hO3⟩
    show sx_RP _ _ _ _ _ [.int (b01 (itW n X p b).1)] _ _
    have hO4 := hO.tr hO3
    have hp7 : (itW n X p b).2.1 ≤ n := itW_le hp
    have hs48 := soT_le (p := (itW n X p b).2.1) hC2
    refine sx_RP.br (p1 := 30) (l1 := [(0, .ref 96), (1, .ref 29), (2, .int (nI it)), (3, .int (nI i))]) (s1 := []) (v1 := w5) (p2 := 27) (l2 := [(0, .ref 96), (1, .ref 29), (2, .int (nI it)), (3, .int (nI i))]) (s2 := []) (v2 := w5) rfl rfl (fun q9 => ?_) (fun q9 => ?_)
    · replace q9 := of_decide_eq_true q9
      refine sx_RP.step (pc2 := 33) (ls2 := [(2, .int ((nI it) + 1)), (0, .ref 96), (1, .ref 29), (3, .int (nI i))]) (st2 := []) (w3 := w5) rfl rfl ?_
      rw [nI_1 it]
      refine sx_RP.step (pc2 := 34) (ls2 := [(2, .int (nI (it + 1))), (0, .ref 96), (1, .ref 29), (3, .int (nI i))]) (st2 := [.ref 96]) (w3 := w5) rfl rfl ?_
      refine sx_RP.gt (k := 2) hI6 rfl rfl (by decide) (show _ = 37 from rfl) ?_
      rw [hr1.1.2.1]
      refine sx_RP.br (p1 := 42) (l1 := [(2, .int (nI (it + 1))), (0, .ref 96), (1, .ref 29), (3, .int (nI i))]) (s1 := []) (v1 := w5) (p2 := 40) (l2 := [(2, .int (nI (it + 1))), (0, .ref 96), (1, .ref 29), (3, .int (nI i))]) (s2 := []) (v2 := w5) rfl rfl (fun q10 => ?_) (fun q10 => ?_)
      · replace q10 := of_decide_eq_true q10
        replace q10 := mt (nI_eq (a := (soT n X (itW n X p b).2.1)) (b := 0) (by omega) (by omega)).mpr q10
        refine sx_RP.step (pc2 := 43) (ls2 := [(2, .int (nI (it + 1))), (0, .ref 96), (1, .ref 29), (3, .int (nI i))]) (st2 := [.ref 96]) (w3 := w5) rfl rfl ?_
        refine sx_RP.gt (k := 2) hI6 rfl rfl (by decide) (show _ = 46 from rfl) ?_
        rw [hr1.1.2.1]
        refine sx_RP.step (pc2 := 47) (ls2 := [(2, .int (nI (it + 1))), (0, .ref 96), (1, .ref 29), (3, .int (nI i))]) (st2 := [.int 3, .int (nI (soT n X (itW n X p b).2.1))]) (w3 := w5) rfl rfl ?_
        refine sx_RP.br (p1 := 53) (l1 := [(2, .int (nI (it + 1))), (0, .ref 96), (1, .ref 29), (3, .int (nI i))]) (s1 := []) (v1 := w5) (p2 := 50) (l2 := [(2, .int (nI (it + 1))), (0, .ref 96), (1, .ref 29), (3, .int (nI i))]) (s2 := []) (v2 := w5) rfl rfl (fun q11 => ?_) (fun q11 => ?_)
        · replace q11 := of_decide_eq_true q11
          replace q11 := (nI_eq (a := (soT n X (itW n X p b).2.1)) (b := 3) (by omega) (by omega)).mp q11
          refine sx_RP.step (pc2 := 54) (ls2 := [(2, .int (nI (it + 1))), (0, .ref 96), (1, .ref 29), (3, .int (nI i))]) (st2 := [.ref 96]) (w3 := w5) rfl rfl ?_
          have hB12 := hr1.2 (b01_t q9)
          refine sx_RP.callp (as2 := [.ref 96]) (rest2 := []) rfl rfl (sx_inv_v2 (mi := 93) (k := 29) (st := [.ref 96]) (w := w5) rfl rfl hI6.1.o96 rfl rfl rfl) rfl rfl rfl (X94 hI6 hC2 hr1.1.2.2.1 (beT_le hp7)) (show _ = 57 from rfl) ?_
          rintro r4 w16 ⟨⟨rfl, hT13, h114⟩, hI17, hs15⟩
          show sx_RP _ _ _ _ _ [] _ _
          have hT22 : TK' n X (nP n X ((itW n X p b).2.1)) w16 := hT13
          have hC18 := hC2.same h114 (ia_of (hs15 97 (by decide)))
          have hp19 : nP n X ((itW n X p b).2.1) ≤ n := nP_le hp7
          have hB20 := hB12.same hI6 isA29 (fun a h1 h2 => hs15 a (by omega))
          have hO21 := hO4.tr hs15.offT
          refine sx_RP.step (pc2 := 60) (ls2 := [(3, .int ((nI i) + 1)), (2, .int (nI (it + 1))), (0, .ref 96), (1, .ref 29)]) (st2 := []) (w3 := w16) rfl rfl ?_
          rw [nI_1 i]
          refine sx_RP.step (pc2 := 13) (ls2 := [(3, .int (nI (i + 1))), (2, .int (nI (it + 1))), (0, .ref 96), (1, .ref 29)]) (st2 := []) (w3 := w16) rfl rfl ?_
          rw [show teW n X (fz + 1) it p b = teW n X fz (it + 1) (nP n X (itW n X p b).2.1) (itW n X p b).2.2 by conv => lhs; unfold teW; rw [if_pos (b01_t q9), if_neg (by omega), if_pos (by omega)]]
          exact sx_RP.ls (sx_lr.cons rfl (sx_lr.cons rfl (sx_lr.cons rfl (sx_lr.cons rfl sx_lr.nil)))) (V93L fz (i + 1) (it + 1) (nP n X (itW n X p b).2.1) (itW n X p b).2.2 w16 (by omega) hI17 hC18 hT22 hp19 hB20 hO21)
        · replace q11 := of_decide_eq_false q11
          replace q11 := mt (nI_eq (a := (soT n X (itW n X p b).2.1)) (b := 3) (by omega) (by omega)).mpr q11
          refine sx_RP.step (pc2 := 63) (ls2 := [(2, .int (nI (it + 1))), (0, .ref 96), (1, .ref 29), (3, .int (nI i))]) (st2 := []) (w3 := w5) rfl rfl ?_
          refine sx_RP.step (pc2 := 64) (ls2 := [(2, .int (nI (it + 1))), (0, .ref 96), (1, .ref 29), (3, .int (nI i))]) (st2 := [.int (-1)]) (w3 := w5) rfl rfl ?_
          refine sx_RP.step (pc2 := 65) (ls2 := [(2, .int (nI (it + 1))), (0, .ref 96), (1, .ref 29), (3, .int (nI i))]) (st2 := [.ref 96, .int (-1)]) (w3 := w5) rfl rfl ?_
          refine sx_RP.gt (k := 3) hI6 rfl rfl (by decide) (show _ = 68 from rfl) ?_
          rw [hr1.1.1]
          refine sx_RP.step (pc2 := 69) (ls2 := [(2, .int (nI (it + 1))), (0, .ref 96), (1, .ref 29), (3, .int (nI i))]) (st2 := [.int ((-1) - (nI ((itW n X p b).2.1)))]) (w3 := w5) rfl rfl ?_
          refine sx_RP.ret (r := (some (.int ((-1) - (nI ((itW n X p b).2.1)))))) rfl rfl ?_
          rw [show teW n X (fz + 1) it p b = (-1 - nI (itW n X p b).2.1, b) by unfold teW; rw [if_pos (b01_t q9), if_neg (by omega), if_neg (by omega)]]
          exact ⟨⟨rfl, fun z => absurd z (neg_p (by omega))⟩, hI6, hC2, hO4⟩
      · replace q10 := Decidable.not_not.mp (of_decide_eq_false q10)
        replace q10 := (nI_eq (a := (soT n X (itW n X p b).2.1)) (b := 0) (by omega) (by omega)).mp q10
        refine sx_RP.step (pc2 := 41) (ls2 := [(2, .int (nI (it + 1))), (0, .ref 96), (1, .ref 29), (3, .int (nI i))]) (st2 := [.int (nI (it + 1))]) (w3 := w5) rfl rfl ?_
        refine sx_RP.ret (r := (some (.int (nI (it + 1))))) rfl rfl ?_
        rw [show teW n X (fz + 1) it p b = (nI (it + 1), (itW n X p b).2.2) by unfold teW; rw [if_pos (b01_t q9), if_pos (by omega)]]
        exact ⟨⟨rfl, fun _ => hr1.2 (b01_t q9)⟩, hI6, hC2, hO4⟩
    · replace q9 := Decidable.not_not.mp (of_decide_eq_false q9)
      refine sx_RP.step (pc2 := 63) (ls2 := [(0, .ref 96), (1, .ref 29), (2, .int (nI it)), (3, .int (nI i))]) (st2 := []) (w3 := w5) rfl rfl ?_
      refine sx_RP.step (pc2 := 64) (ls2 := [(0, .ref 96), (1, .ref 29), (2, .int (nI it)), (3, .int (nI i))]) (st2 := [.int (-1)]) (w3 := w5) rfl rfl ?_
      refine sx_RP.step (pc2 := 65) (ls2 := [(0, .ref 96), (1, .ref 29), (2, .int (nI it)), (3, .int (nI i))]) (st2 := [.ref 96, .int (-1)]) (w3 := w5) rfl rfl ?_
      refine sx_RP.gt (k := 3) hI6 rfl rfl (by decide) (show _ = 68 from rfl) ?_
      rw [hr1.1.1]
      refine sx_RP.step (pc2 := 69) (ls2 := [(0, .ref 96), (1, .ref 29), (2, .int (nI it)), (3, .int (nI i))]) (st2 := [.int ((-1) - (nI ((itW n X p b).2.1)))]) (w3 := w5) rfl rfl ?_
      refine sx_RP.ret (r := (some (.int ((-1) - (nI ((itW n X p b).2.1)))))) rfl rfl ?_
      rw [show teW n X (fz + 1) it p b = (-1 - nI (itW n X p b).2.1, b) by unfold teW; rw [if_neg (by rw [b01_f q9]; decide)]]
      exact ⟨⟨rfl, fun z => absurd z (neg_p (by omega))⟩, hI6, hC2, hO4⟩
set_option maxRecDepth 20000 in
set_option maxHeartbeats 4000000 in
theorem V93 {xs : Option (List Int32)} {d n : Nat} {X : Nat → Nat} {b : List Int32} {w : List sx_C} (hI : WI w) (hC : CT n X w) (hB : rel w 29 b) : sx_RP xs (d + 6) 93 0 (lv_args 0 [.ref 96, .ref 29]) [] w (fun r2 w2 => (r2 = some (.int (teW n X 121 0 (rE blk n X 0) b).1) ∧ (0 ≤ (teW n X 121 0 (rE blk n X 0) b).1 → rel w2 29 (teW n X 121 0 (rE blk n X 0) b).2)) ∧ WI w2 ∧ CT n X w2 ∧ OffT w w2) := by
  refine sx_RP.step (pc2 := 1) (ls2 := [(0, .ref 96), (1, .ref 29)]) (st2 := [.ref 96]) (w3 := w) rfl rfl ?_
  refine sx_RP.step (pc2 := 2) (ls2 := [(0, .ref 96), (1, .ref 29)]) (st2 := [.int 0, .ref 96]) (w3 := w) rfl rfl ?_
  refine sx_RP.xP (k := 4) hI rfl rfl (by decide) rfl ⟨0, by decide, rfl⟩ (show _ = 5 from rfl) (fun w1 hI2 hs3 hv4 hr5 => ?_)
  have hC6 := hC.same (hr5 1 (by decide)) (ia_of (hs3 97 (by decide)))
  have hB7 := hB.same hI isA29 (fun a h1 h2 => hs3 a (by omega))
  refine sx_RP.step (pc2 := 6) (ls2 := [(0, .ref 96), (1, .ref 29)]) (st2 := [.ref 96]) (w3 := w1) rfl rfl ?_
  refine sx_RP.callp (as2 := [.ref 96]) (rest2 := []) rfl rfl (sx_inv_v2 (mi := 93) (k := 29) (st := [.ref 96]) (w := w1) rfl rfl hI2.1.o96 rfl rfl rfl) rfl rfl rfl (X94 (b := 0) hI2 hC6 hv4 (Nat.zero_le _)) (show _ = 9 from rfl) ?_
  rintro r4 w11 ⟨⟨rfl, hT8, h19⟩, hI12, hs10⟩
  show sx_RP _ _ _ _ _ [] _ _
  have hC13 := hC6.same h19 (ia_of (hs10 97 (by decide)))
  have hB14 := hB7.same hI2 isA29 (fun a h1 h2 => hs10 a (by omega))
  have hO15 := OffT.tr (hs3.offT) hs10.offT
  refine sx_RP.step (pc2 := 10) (ls2 := [(0, .ref 96), (1, .ref 29)]) (st2 := [.int 0]) (w3 := w11) rfl rfl ?_
  refine sx_RP.step (pc2 := 11) (ls2 := [(2, .int 0), (0, .ref 96), (1, .ref 29)]) (st2 := []) (w3 := w11) rfl rfl ?_
  refine sx_RP.step (pc2 := 12) (ls2 := [(2, .int 0), (0, .ref 96), (1, .ref 29)]) (st2 := [.int 0]) (w3 := w11) rfl rfl ?_
  refine sx_RP.step (pc2 := 13) (ls2 := [(3, .int 0), (2, .int 0), (0, .ref 96), (1, .ref 29)]) (st2 := []) (w3 := w11) rfl rfl ?_
  exact sx_RP.ls (sx_lr.cons rfl (sx_lr.cons rfl (sx_lr.cons rfl (sx_lr.cons rfl sx_lr.nil)))) (V93L 121 0 0 (rE blk n X 0) b w11 (by omega) hI12 hC13 hT8 (rE_le (Nat.zero_le _)) hB14 hO15)
end
-- 89y28.siege3.lean.txt
section
def sieV (t l : List Int32) : Int32 × List Int32 := teW t.length (fun i => iN (t.getD i 0)) 121 0 (rE blk t.length (fun i => iN (t.getD i 0)) 0) l
def sieR (t l : List Int32) : List Int32 := if 0 ≤ (sieV t l).1 then (sieV t l).2 else l
set_option maxRecDepth 20000 in
set_option maxHeartbeats 4000000 in
theorem Z92 {xs : Option (List Int32)} {d : Nat} {w : List sx_C} (hI : WI w) (l : List Int32) (hR : rel w 1 l) (hY : TBy w) : sx_RP xs (d + 7) 92 0 (lv_args 0 [.ref 0]) [] w (fun r w2 => (r = some (.int ((sieV (tapC w) l).1)) ∧ rel w2 1 (sieR (tapC w) l) ∧ tapC w2 = []) ∧ WI w2 ∧ ∀ a, a ≠ 96 → (a < 1 ∨ (15 ≤ a ∧ a < 29) ∨ 43 ≤ a) → w2[a]? = w[a]?) := by
  have hC : CT (tapC w).length (fun i => iN ((tapC w).getD i 0)) w := CT_of hI hY
  refine sx_RP.step (pc2 := 1) (ls2 := [(0, .ref 0)]) (st2 := [.ref 0]) (w3 := w) rfl rfl ?_
  refine sx_RP.gf (v := .ref 29) rfl rfl hI.1.o0 rfl rfl (show _ = 4 from rfl) ?_
  refine sx_RP.step (pc2 := 5) (ls2 := [(0, .ref 0)]) (st2 := [.ref 0, .ref 29]) (w3 := w) rfl rfl ?_
  refine sx_RP.gf (v := .ref 1) rfl rfl hI.1.o0 rfl rfl (show _ = 8 from rfl) ?_
  refine sx_RP.callp (as2 := [.ref 29, .ref 1]) (rest2 := []) rfl rfl (sx_inv_v2 (mi := 92) (k := 179) (st := [.ref 1, .ref 29]) (w := w) rfl rfl (hI.1.oC (Or.inr (Or.inr rfl))) rfl rfl rfl) rfl rfl rfl (X50 hI (Or.inr (Or.inr rfl)) (Or.inl rfl) (by omega)) (show _ = 11 from rfl) ?_
  rintro r4 w2 ⟨rfl, hI3, ht1⟩
  show sx_RP _ _ _ _ _ [] _ _
  have hC4 := hC.same (fi_same 1 (ht1.1 96 (by omega))) (ia_of (ht1.1 97 (by omega)))
  refine sx_RP.step (pc2 := 12) (ls2 := [(0, .ref 0)]) (st2 := [.ref 0]) (w3 := w2) rfl rfl ?_
  refine sx_RP.gf (v := .ref 96) rfl rfl hI3.1.o0 rfl rfl (show _ = 15 from rfl) ?_
  refine sx_RP.step (pc2 := 16) (ls2 := [(0, .ref 0)]) (st2 := [.ref 0, .ref 96]) (w3 := w2) rfl rfl ?_
  refine sx_RP.gf (v := .ref 29) rfl rfl hI3.1.o0 rfl rfl (show _ = 19 from rfl) ?_
  refine sx_RP.callp (as2 := [.ref 96, .ref 29]) (rest2 := []) rfl rfl (sx_inv_v2 (mi := 92) (k := 292) (st := [.ref 29, .ref 96]) (w := w2) rfl rfl hI3.1.o96 rfl rfl rfl) rfl rfl rfl (V93 hI3 hC4 (hR.took ht1)) (show _ = 22 from rfl) ?_
  rintro r4 w8 ⟨⟨rfl, hb5⟩, hI9, hC6, hO7⟩
  show sx_RP _ _ _ _ _ [.int ((sieV (tapC w) l).1)] _ _
  refine sx_RP.step (pc2 := 23) (ls2 := [(1, .int ((sieV (tapC w) l).1)), (0, .ref 0)]) (st2 := []) (w3 := w8) rfl rfl ?_
  refine sx_RP.step (pc2 := 24) (ls2 := [(1, .int ((sieV (tapC w) l).1)), (0, .ref 0)]) (st2 := [.ref 0]) (w3 := w8) rfl rfl ?_
  refine sx_RP.gf (v := .ref 96) rfl rfl hI9.1.o0 rfl rfl (show _ = 27 from rfl) ?_
  refine sx_RP.callp (as2 := [.ref 96]) (rest2 := []) rfl rfl (sx_inv_v2 (mi := 92) (k := 289) (st := [.ref 96]) (w := w8) rfl rfl hI9.1.o96 rfl rfl rfl) rfl rfl rfl (X91 hI9 hC6.1) (show _ = 30 from rfl) ?_
  rintro r4 w12 ⟨⟨rfl, hv10⟩, hI13, hs11⟩
  show sx_RP _ _ _ _ _ [.int (nI (tapC w).length)] _ _
  refine sx_RP.step (pc2 := 31) (ls2 := [(1, .int ((sieV (tapC w) l).1)), (0, .ref 0)]) (st2 := []) (w3 := w12) rfl rfl ?_
  refine sx_RP.step (pc2 := 32) (ls2 := [(1, .int ((sieV (tapC w) l).1)), (0, .ref 0)]) (st2 := [.int ((sieV (tapC w) l).1)]) (w3 := w12) rfl rfl ?_
  refine sx_RP.br (p1 := 46) (l1 := [(1, .int ((sieV (tapC w) l).1)), (0, .ref 0)]) (s1 := []) (v1 := w12) (p2 := 35) (l2 := [(1, .int ((sieV (tapC w) l).1)), (0, .ref 0)]) (s2 := []) (v2 := w12) rfl rfl (fun q14 => ?_) (fun q14 => ?_)
  · replace q14 := of_decide_eq_true q14
    refine sx_RP.step (pc2 := 47) (ls2 := [(1, .int ((sieV (tapC w) l).1)), (0, .ref 0)]) (st2 := [.int ((sieV (tapC w) l).1)]) (w3 := w12) rfl rfl ?_
    refine sx_RP.ret (r := (some (.int ((sieV (tapC w) l).1)))) rfl rfl ?_
    have h0 : ¬ 0 ≤ (sieV (tapC w) l).1 := Int32.not_le.mpr q14
    have eo : ∀ a, a ≠ 96 → (a < 29 ∨ 43 ≤ a) → w12[a]? = w[a]? := fun a h1 h2 => (hs11 a h1).trans ((hO7 a h1 (by omega)).trans (ht1.1 a (by omega)))
    exact ⟨⟨rfl, by unfold sieR; rw [if_neg h0]; exact hR.same hI (Or.inl rfl) (fun a h1 h2 => eo a (by omega) (by omega)), tapC_nil hv10⟩, hI13, fun a h1 h2 => eo a h1 (by omega)⟩
  · replace q14 := of_decide_eq_false q14
    refine sx_RP.step (pc2 := 36) (ls2 := [(1, .int ((sieV (tapC w) l).1)), (0, .ref 0)]) (st2 := [.ref 0]) (w3 := w12) rfl rfl ?_
    refine sx_RP.gf (v := .ref 1) rfl rfl hI13.1.o0 rfl rfl (show _ = 39 from rfl) ?_
    refine sx_RP.step (pc2 := 40) (ls2 := [(1, .int ((sieV (tapC w) l).1)), (0, .ref 0)]) (st2 := [.ref 0, .ref 1]) (w3 := w12) rfl rfl ?_
    refine sx_RP.gf (v := .ref 29) rfl rfl hI13.1.o0 rfl rfl (show _ = 43 from rfl) ?_
    refine sx_RP.callp (as2 := [.ref 1, .ref 29]) (rest2 := []) rfl rfl (sx_inv_v2 (mi := 92) (k := 179) (st := [.ref 29, .ref 1]) (w := w12) rfl rfl (hI13.1.oC (Or.inl rfl)) rfl rfl rfl) rfl rfl rfl (X50 hI13 (Or.inl rfl) (Or.inr (Or.inr rfl)) (by omega)) (show _ = 46 from rfl) ?_
    rintro r4 w16 ⟨rfl, hI17, ht15⟩
    show sx_RP _ _ _ _ _ [] _ _
    refine sx_RP.step (pc2 := 47) (ls2 := [(1, .int ((sieV (tapC w) l).1)), (0, .ref 0)]) (st2 := [.int ((sieV (tapC w) l).1)]) (w3 := w16) rfl rfl ?_
    refine sx_RP.ret (r := (some (.int ((sieV (tapC w) l).1)))) rfl rfl ?_
    have h0 : 0 ≤ (sieV (tapC w) l).1 := Int32.not_lt.mp q14
    have ec : rel w16 1 (sieV (tapC w) l).2 := ((hb5 h0).same hI9 isA29 (fun a h1 h2 => hs11 a (by omega))).took ht15
    have eo : ∀ a, a ≠ 96 → (a < 1 ∨ (15 ≤ a ∧ a < 29) ∨ 43 ≤ a) → w16[a]? = w[a]? := fun a h1 h2 => (ht15.1 a (by omega)).trans ((hs11 a h1).trans ((hO7 a h1 (by omega)).trans (ht1.1 a (by omega))))
    exact ⟨⟨rfl, by unfold sieR; rw [if_pos h0]; exact ec, tapC_nil ((fi_same 1 (ht15.1 96 (by omega))).trans hv10)⟩, hI17, eo⟩
end
