-- 89y49.ansE.lean.txt
section
def Snt (l p : List Int32) (w : List sx_C) : Prop := Snd l w ∧ rel w 29 p
set_option maxRecDepth 20000 in
set_option maxHeartbeats 4000000 in
theorem x68t {xs : Option (List Int32)} {d c n : Nat} {w : List sx_C} {l p : List Int32} (hI : WI w) (hR : rel w 29 p) (hR1 : rel w 1 l) (hG : SGr l p) (hc : c < 48) (hn : n ≤ 10) (en : p.getD 1 0 = nI n) (hw : ∀ f, f < 48 → (ia w (47 + c)).getD f 0 = nI (farN (gdR l) f c)) : ∀ (q j : Nat), j + q = n → sx_RP xs (d + 4) 68 15 [(0, .ref 0), (1, .ref 29), (2, .int (nI c)), (3, .ref (47 + c)), (4, .int (peF p c j)), (5, .int (nI j))] [] w (fun r w2 => r = some (.int (peF p c n)) ∧ w2 = w)
  | 0, j, hj => by
    obtain rfl : j = n := by omega
    refine sx_RP.step (pc2 := 17) (ls2 := [(0, .ref 0), (1, .ref 29), (2, .int (nI c)), (3, .ref (47 + c)), (4, .int (peF p c j)), (5, .int (nI j))]) (st2 := [.int (nI j)]) (w3 := w) rfl rfl ?_
    refine sx_RP.step (pc2 := 18) (ls2 := [(0, .ref 0), (1, .ref 29), (2, .int (nI c)), (3, .ref (47 + c)), (4, .int (peF p c j)), (5, .int (nI j))]) (st2 := [.ref 29, .int (nI j)]) (w3 := w) rfl rfl ?_
    refine sx_RP.gc (k := 3) hI (Or.inr (Or.inr rfl)) rfl rfl (by omega) (show _ = 21 from rfl) ?_
    rw [(hR.many.trans en)]
    refine sx_RP.br (p1 := 68) (l1 := [(0, .ref 0), (1, .ref 29), (2, .int (nI c)), (3, .ref (47 + c)), (4, .int (peF p c j)), (5, .int (nI j))]) (s1 := []) (v1 := w) rfl rfl (fun _ => ?_) (fun q => absurd (nI_le (a := j) (b := j) (by omega) (by omega)) (of_decide_eq_false q))
    refine sx_RP.step (pc2 := 70) (ls2 := [(0, .ref 0), (1, .ref 29), (2, .int (nI c)), (3, .ref (47 + c)), (4, .int (peF p c j)), (5, .int (nI j))]) (st2 := [.int (peF p c j)]) (w3 := w) rfl rfl ?_
    refine sx_RP.ret (r := (some (.int (peF p c j)))) rfl rfl ?_
    exact ⟨rfl, rfl⟩
  | q + 1, j, hj => by
    refine sx_RP.step (pc2 := 17) (ls2 := [(0, .ref 0), (1, .ref 29), (2, .int (nI c)), (3, .ref (47 + c)), (4, .int (peF p c j)), (5, .int (nI j))]) (st2 := [.int (nI j)]) (w3 := w) rfl rfl ?_
    refine sx_RP.step (pc2 := 18) (ls2 := [(0, .ref 0), (1, .ref 29), (2, .int (nI c)), (3, .ref (47 + c)), (4, .int (peF p c j)), (5, .int (nI j))]) (st2 := [.ref 29, .int (nI j)]) (w3 := w) rfl rfl ?_
    refine sx_RP.gc (k := 3) hI (Or.inr (Or.inr rfl)) rfl rfl (by omega) (show _ = 21 from rfl) ?_
    rw [(hR.many.trans en)]
    refine sx_RP.br (p2 := 24) (l2 := [(0, .ref 0), (1, .ref 29), (2, .int (nI c)), (3, .ref (47 + c)), (4, .int (peF p c j)), (5, .int (nI j))]) (s2 := []) (v2 := w) rfl rfl (fun q => absurd (of_decide_eq_true q) (fun z => absurd ((nI_leI (a := n) (b := j) (by omega) (by omega)).mp z) (by omega))) (fun _ => ?_)
    refine sx_RP.step (pc2 := 25) (ls2 := [(0, .ref 0), (1, .ref 29), (2, .int (nI c)), (3, .ref (47 + c)), (4, .int (peF p c j)), (5, .int (nI j))]) (st2 := [.ref 29]) (w3 := w) rfl rfl ?_
    refine sx_RP.gref (k := 2) (b := 31) hI (Or.inr (Or.inr rfl)) rfl rfl (by omega) (show _ = 28 from rfl) ?_
    refine sx_RP.step (pc2 := 30) (ls2 := [(0, .ref 0), (1, .ref 29), (2, .int (nI c)), (3, .ref (47 + c)), (4, .int (peF p c j)), (5, .int (nI j))]) (st2 := [.int (nI j), .ref 31]) (w3 := w) rfl rfl ?_
    refine sx_RP.ald (v := .ref (29 + 4 + j)) rfl (hI.1.aG (Or.inr (Or.inr rfl))) rfl (grA_at (show j < 10 by omega)) (show _ = 31 from rfl) ?_
    refine sx_RP.step (pc2 := 33) (ls2 := [(6, .ref (29 + 4 + j)), (0, .ref 0), (1, .ref 29), (2, .int (nI c)), (3, .ref (47 + c)), (4, .int (peF p c j)), (5, .int (nI j))]) (st2 := []) (w3 := w) rfl rfl ?_
    refine sx_RP.step (pc2 := 35) (ls2 := [(6, .ref (29 + 4 + j)), (0, .ref 0), (1, .ref 29), (2, .int (nI c)), (3, .ref (47 + c)), (4, .int (peF p c j)), (5, .int (nI j))]) (st2 := [.ref (29 + 4 + j)]) (w3 := w) rfl rfl ?_
    refine sx_RP.step (pc2 := 36) (ls2 := [(6, .ref (29 + 4 + j)), (0, .ref 0), (1, .ref 29), (2, .int (nI c)), (3, .ref (47 + c)), (4, .int (peF p c j)), (5, .int (nI j))]) (st2 := [.int 0, .ref (29 + 4 + j)]) (w3 := w) rfl rfl ?_
    rcases Decidable.em (gF p j 1 = 0 ∧ gF p j 5 = 0) with hc2 | hc2
    · refine sx_RP.cu (as := [.ref (29 + 4 + j), .int 0]) (rest2 := []) (st3 := [.int 1]) rfl rfl (sx_inv_v2 (mi := 68) (k := 186) (st := [.int 0, .ref (29 + 4 + j)]) (w := w) rfl rfl (hI.1.oG (gAd.of (Or.inr (Or.inr rfl)) (show j < 10 by omega))) rfl rfl rfl) rfl rfl (x43y hI (gAd.of (Or.inr (Or.inr rfl)) (show j < 10 by omega)) ⟨(hR.ga (by rw [en, iN_n (by omega)]; omega) (by decide)).trans hc2.1, (hR.ga (by rw [en, iN_n (by omega)]; omega) (by decide)).trans hc2.2⟩) rfl ?_
      refine sx_RP.step (pc2 := 42) (ls2 := [(6, .ref (29 + 4 + j)), (0, .ref 0), (1, .ref 29), (2, .int (nI c)), (3, .ref (47 + c)), (4, .int (peF p c j)), (5, .int (nI j))]) (st2 := []) (w3 := w) rfl rfl ?_
      refine sx_RP.step (pc2 := 44) (ls2 := [(6, .ref (29 + 4 + j)), (0, .ref 0), (1, .ref 29), (2, .int (nI c)), (3, .ref (47 + c)), (4, .int (peF p c j)), (5, .int (nI j))]) (st2 := [.int (peF p c j)]) (w3 := w) rfl rfl ?_
      refine sx_RP.step (pc2 := 45) (ls2 := [(6, .ref (29 + 4 + j)), (0, .ref 0), (1, .ref 29), (2, .int (nI c)), (3, .ref (47 + c)), (4, .int (peF p c j)), (5, .int (nI j))]) (st2 := [.ref 0, .int (peF p c j)]) (w3 := w) rfl rfl ?_
      refine sx_RP.step (pc2 := 47) (ls2 := [(6, .ref (29 + 4 + j)), (0, .ref 0), (1, .ref 29), (2, .int (nI c)), (3, .ref (47 + c)), (4, .int (peF p c j)), (5, .int (nI j))]) (st2 := [.ref (29 + 4 + j), .ref 0, .int (peF p c j)]) (w3 := w) rfl rfl ?_
      refine sx_RP.gg (k := 0) hI (gAd.of (Or.inr (Or.inr rfl)) (show j < 10 by omega)) rfl rfl (by decide) (show _ = 50 from rfl) ?_
      obtain ⟨x1, hx2, ex3⟩ : inR (fi w (29 + 4 + j) 0) 5 := hI.gk (k := 0) (gAd.of (Or.inr (Or.inr rfl)) (show j < 10 by omega)) (by decide)
      rw [ex3]
      refine sx_RP.step (pc2 := 52) (ls2 := [(6, .ref (29 + 4 + j)), (0, .ref 0), (1, .ref 29), (2, .int (nI c)), (3, .ref (47 + c)), (4, .int (peF p c j)), (5, .int (nI j))]) (st2 := [.ref (29 + 4 + j), .int (nI x1), .ref 0, .int (peF p c j)]) (w3 := w) rfl rfl ?_
      refine sx_RP.gg (k := 2) hI (gAd.of (Or.inr (Or.inr rfl)) (show j < 10 by omega)) rfl rfl (by decide) (show _ = 55 from rfl) ?_
      obtain ⟨x4, hx5, ex6⟩ : inR (fi w (29 + 4 + j) 2) 47 := hI.gk (k := 2) (gAd.of (Or.inr (Or.inr rfl)) (show j < 10 by omega)) (by decide)
      rw [ex6]
      refine sx_RP.step (pc2 := 56) (ls2 := [(6, .ref (29 + 4 + j)), (0, .ref 0), (1, .ref 29), (2, .int (nI c)), (3, .ref (47 + c)), (4, .int (peF p c j)), (5, .int (nI j))]) (st2 := [.ref (47 + c), .int (nI x4), .int (nI x1), .ref 0, .int (peF p c j)]) (w3 := w) rfl rfl ?_
      refine sx_RP.cu (as := [.ref 0, .int (nI x1), .int (nI x4), .ref (47 + c)]) (rest2 := [.int (peF p c j)]) (st3 := [.int (ldV x1 (iN ((ia w (1 + 1)).getD x4 0)) / nI (1 + farN (gdR l) x4 c)), .int (peF p c j)]) rfl rfl (sx_inv_v2 (mi := 68) (k := 235) (st := [.ref (47 + c), .int (nI x4), .int (nI x1), .ref 0, .int (peF p c j)]) (w := w) rfl rfl hI.1.o0 rfl rfl rfl) rfl rfl (x69 hI (show x1 ≤ 5 by omega) (show x4 < 48 by omega) hc (far_fin _ (show x4 < 48 by omega) hc) (hw x4 (by omega))) rfl ?_
      refine sx_RP.step (pc2 := 60) (ls2 := [(6, .ref (29 + 4 + j)), (0, .ref 0), (1, .ref 29), (2, .int (nI c)), (3, .ref (47 + c)), (4, .int (peF p c j)), (5, .int (nI j))]) (st2 := [.int ((peF p c j) + (ldV x1 (iN ((ia w (1 + 1)).getD x4 0)) / nI (1 + farN (gdR l) x4 c)))]) (w3 := w) rfl rfl ?_
      refine sx_RP.step (pc2 := 62) (ls2 := [(4, .int ((peF p c j) + (ldV x1 (iN ((ia w (1 + 1)).getD x4 0)) / nI (1 + farN (gdR l) x4 c)))), (6, .ref (29 + 4 + j)), (0, .ref 0), (1, .ref 29), (2, .int (nI c)), (3, .ref (47 + c)), (5, .int (nI j))]) (st2 := []) (w3 := w) rfl rfl ?_
      refine sx_RP.step (pc2 := 65) (ls2 := [(5, .int ((nI j) + 1)), (4, .int ((peF p c j) + (ldV x1 (iN ((ia w (1 + 1)).getD x4 0)) / nI (1 + farN (gdR l) x4 c)))), (6, .ref (29 + 4 + j)), (0, .ref 0), (1, .ref 29), (2, .int (nI c)), (3, .ref (47 + c))]) (st2 := []) (w3 := w) rfl rfl ?_
      rw [nI_1 j]
      refine sx_RP.step (pc2 := 15) (ls2 := [(5, .int (nI (j + 1))), (4, .int ((peF p c j) + (ldV x1 (iN ((ia w (1 + 1)).getD x4 0)) / nI (1 + farN (gdR l) x4 c)))), (6, .ref (29 + 4 + j)), (0, .ref 0), (1, .ref 29), (2, .int (nI c)), (3, .ref (47 + c))]) (st2 := []) (w3 := w) rfl rfl ?_
      obtain ⟨s9, hs9, es9⟩ : inR ((ia w (1 + 1)).getD x4 0) 3 := hI.st (Or.inl rfl) (show x4 < 48 by omega)
      have es : p.getD (7 + x4) 0 = nI s9 := (hG.2.2.1 x4 (by omega)).trans ((hR1.gr (by omega)).symm.trans es9)
      have e9 : peF p c j + ldV x1 (iN ((ia w (1 + 1)).getD x4 0)) / nI (1 + farN (gdR l) x4 c) = peF p c (j + 1) := by
        show _ = peF p c j + heF p c j
        rw [he_y (k := x1) (h := x4) (s := s9) hc2 (by omega) (by omega) (by omega) ((hR.ga (by rw [en, iN_n (by omega)]; omega) (by decide)).symm.trans ex3) ((hR.ga (by rw [en, iN_n (by omega)]; omega) (by decide)).symm.trans ex6) es, es9, iN_n (by omega), hG.far (by omega) hc]
      rw [e9]
      exact sx_RP.ls (sx_lr.cons rfl (sx_lr.cons rfl (sx_lr.cons rfl (sx_lr.cons rfl (sx_lr.cons rfl (sx_lr.cons rfl sx_lr.nil)))))) (x68t hI hR hR1 hG hc hn en hw q (j + 1) (by omega))
    · refine sx_RP.cu (as := [.ref (29 + 4 + j), .int 0]) (rest2 := []) (st3 := [.int 0]) rfl rfl (sx_inv_v2 (mi := 68) (k := 186) (st := [.int 0, .ref (29 + 4 + j)]) (w := w) rfl rfl (hI.1.oG (gAd.of (Or.inr (Or.inr rfl)) (show j < 10 by omega))) rfl rfl rfl) rfl rfl (x43n hI (gAd.of (Or.inr (Or.inr rfl)) (show j < 10 by omega)) (fun z => hc2 ⟨(hR.ga (by rw [en, iN_n (by omega)]; omega) (by decide)).symm.trans z.1, (hR.ga (by rw [en, iN_n (by omega)]; omega) (by decide)).symm.trans z.2⟩)) rfl ?_
      refine sx_RP.step (pc2 := 62) (ls2 := [(6, .ref (29 + 4 + j)), (0, .ref 0), (1, .ref 29), (2, .int (nI c)), (3, .ref (47 + c)), (4, .int (peF p c j)), (5, .int (nI j))]) (st2 := []) (w3 := w) rfl rfl ?_
      refine sx_RP.step (pc2 := 65) (ls2 := [(5, .int ((nI j) + 1)), (6, .ref (29 + 4 + j)), (0, .ref 0), (1, .ref 29), (2, .int (nI c)), (3, .ref (47 + c)), (4, .int (peF p c j))]) (st2 := []) (w3 := w) rfl rfl ?_
      rw [nI_1 j]
      refine sx_RP.step (pc2 := 15) (ls2 := [(5, .int (nI (j + 1))), (6, .ref (29 + 4 + j)), (0, .ref 0), (1, .ref 29), (2, .int (nI c)), (3, .ref (47 + c)), (4, .int (peF p c j))]) (st2 := []) (w3 := w) rfl rfl ?_
      have e9 : peF p c j = peF p c (j + 1) := by show _ = peF p c j + heF p c j; rw [he_n hc2, Int32.add_zero]
      rw [e9]
      exact sx_RP.ls (sx_lr.cons rfl (sx_lr.cons rfl (sx_lr.cons rfl (sx_lr.cons rfl (sx_lr.cons rfl (sx_lr.cons rfl sx_lr.nil)))))) (x68t hI hR hR1 hG hc hn en hw q (j + 1) (by omega))
set_option maxRecDepth 20000 in
set_option maxHeartbeats 4000000 in
theorem X68t {xs : Option (List Int32)} {d : Nat} {w : List sx_C} (hI : WI w) {l p : List Int32} (hS : Snt l p w) (hG : SGr l p) {c : Nat} (hc : c < 48) : sx_RP xs (d + 4) 68 0 (lv_args 0 [.ref 0, .ref 29, .int (nI c)]) [] w (fun r w2 => r = some (.int (pesF p c)) ∧ WI w2 ∧ Snt l p w2 ∧ ∀ a, (a < 44 ∨ 96 ≤ a) → w2[a]? = w[a]?) := by
  obtain ⟨n, hn, en⟩ := hS.2.n10 hI (Or.inr (Or.inr rfl))
  refine sx_RP.step (pc2 := 1) (ls2 := [(0, .ref 0), (1, .ref 29), (2, .int (nI c))]) (st2 := [.ref 0]) (w3 := w) rfl rfl ?_
  refine sx_RP.gf (v := .ref 44) rfl rfl hI.1.o0 rfl rfl (show _ = 4 from rfl) ?_
  refine sx_RP.step (pc2 := 5) (ls2 := [(0, .ref 0), (1, .ref 29), (2, .int (nI c))]) (st2 := [.int (nI c), .ref 44]) (w3 := w) rfl rfl ?_
  refine sx_RP.callp (as2 := [.ref 44, .int (nI c)]) (rest2 := []) rfl rfl (sx_inv_v2 (mi := 68) (k := 99) (st := [.int (nI c), .ref 44]) (w := w) rfl rfl hI.1.o44 rfl rfl rfl) rfl rfl rfl (G17 hI (show c < 48 by omega)) (show _ = 8 from rfl) ?_
  rintro r4 w4 ⟨rfl, hI5, hS1, hx2, hf3⟩
  show sx_RP _ _ _ _ _ [.ref (47 + c)] _ _
  have hR6 : rel w4 1 l := hS.1.1.same hI (Or.inl rfl) (fun a h1 h2 => hf3 a (by omega))
  have hF7 : FIT w4 1 := fun c hc => by rw [hx2.1, ia_of (hf3 (1 + 1) (by omega))]; exact hS.1.2.1 c hc
  have hK8 : SK w4 := hS1.2 hS.1.2.2
  have hw9 : ∀ f, f < 48 → (ia w4 (47 + c)).getD f 0 = nI (farN (gdR l) f c) := fun f hf => by rw [hx2.2 hS.1.2.2 hS.1.2.1.ls f hf, fit_far hS.1.2.1 hS.1.1 hf (by omega)]
  refine sx_RP.step (pc2 := 9) (ls2 := [(3, .ref (47 + c)), (0, .ref 0), (1, .ref 29), (2, .int (nI c))]) (st2 := []) (w3 := w4) rfl rfl ?_
  refine sx_RP.step (pc2 := 10) (ls2 := [(3, .ref (47 + c)), (0, .ref 0), (1, .ref 29), (2, .int (nI c))]) (st2 := [.int 0]) (w3 := w4) rfl rfl ?_
  refine sx_RP.step (pc2 := 12) (ls2 := [(4, .int 0), (3, .ref (47 + c)), (0, .ref 0), (1, .ref 29), (2, .int (nI c))]) (st2 := []) (w3 := w4) rfl rfl ?_
  refine sx_RP.step (pc2 := 13) (ls2 := [(4, .int 0), (3, .ref (47 + c)), (0, .ref 0), (1, .ref 29), (2, .int (nI c))]) (st2 := [.int 0]) (w3 := w4) rfl rfl ?_
  refine sx_RP.step (pc2 := 15) (ls2 := [(5, .int 0), (4, .int 0), (3, .ref (47 + c)), (0, .ref 0), (1, .ref 29), (2, .int (nI c))]) (st2 := []) (w3 := w4) rfl rfl ?_
  have hRt : rel w4 29 p := hS.2.same hI (Or.inr (Or.inr rfl)) (fun a h1 h2 => hf3 a (by omega))
  refine (sx_RP.ls (sx_lr.cons rfl (sx_lr.cons rfl (sx_lr.cons rfl (sx_lr.cons rfl (sx_lr.cons rfl (sx_lr.cons rfl sx_lr.nil)))))) (x68t hI5 hRt hR6 hG hc hn en hw9 n 0 (by omega))).mono9 (fun r w2 z => ?_)
  obtain ⟨z1, z2⟩ := z
  rw [z2]
  exact ⟨by rw [z1]; unfold pesF; rw [en, iN_n (by omega)], hI5, ⟨⟨hR6, hF7, hK8⟩, hRt⟩, hf3⟩
set_option maxRecDepth 20000 in
set_option maxHeartbeats 4000000 in
theorem X123L {xs : Option (List Int32)} {d s n m : Nat} {w0 : List sx_C} {l p : List Int32} (hs : s < 4) (hn40 : n ≤ 40) (hnm : n ≤ m) (hm : m ≤ 9) (em : p.getD 2 0 = nI m) (hG : SGr l p) : ∀ (q j : Nat) (w : List sx_C), j + q = n → WI w → Snt l p w → (∀ a, (a < 44 ∨ 96 ≤ a) → w[a]? = w0[a]?) → rdB (NCs w0 s) p j = true → sx_RP xs (d + 5) 123 15 [(0, .ref 0), (1, .ref 29), (2, .ref (103 + 2 * s)), (3, .int (nI n)), (4, .int (nI j))] [] w (fun r w2 => ((r = some (.int 1) ∧ rdB (NCs w0 s) p n = true) ∨ (r = some (.int 0) ∧ rdB (NCs w0 s) p n = false)) ∧ WI w2 ∧ Snt l p w2 ∧ ∀ a, (a < 44 ∨ 96 ≤ a) → w2[a]? = w0[a]?)
  | 0, j, w, hj, hI, hS, hO, hA => by
    obtain rfl : j = n := by omega
    refine sx_RP.step (pc2 := 17) (ls2 := [(0, .ref 0), (1, .ref 29), (2, .ref (103 + 2 * s)), (3, .int (nI j)), (4, .int (nI j))]) (st2 := [.int (nI j)]) (w3 := w) rfl rfl ?_
    refine sx_RP.step (pc2 := 18) (ls2 := [(0, .ref 0), (1, .ref 29), (2, .ref (103 + 2 * s)), (3, .int (nI j)), (4, .int (nI j))]) (st2 := [.int (nI j), .int (nI j)]) (w3 := w) rfl rfl ?_
    refine sx_RP.br (p1 := 53) (l1 := [(0, .ref 0), (1, .ref 29), (2, .ref (103 + 2 * s)), (3, .int (nI j)), (4, .int (nI j))]) (s1 := []) (v1 := w) rfl rfl (fun _ => ?_) (fun q => absurd (nI_le (a := j) (b := j) (by omega) (by omega)) (of_decide_eq_false q))
    refine sx_RP.step (pc2 := 54) (ls2 := [(0, .ref 0), (1, .ref 29), (2, .ref (103 + 2 * s)), (3, .int (nI j)), (4, .int (nI j))]) (st2 := [.int 1]) (w3 := w) rfl rfl ?_
    refine sx_RP.ret (r := (some (.int 1))) rfl rfl ?_
    exact ⟨Or.inl ⟨rfl, hA⟩, hI, hS, hO⟩
  | q + 1, j, w, hj, hI, hS, hO, hA => by
    refine sx_RP.step (pc2 := 17) (ls2 := [(0, .ref 0), (1, .ref 29), (2, .ref (103 + 2 * s)), (3, .int (nI n)), (4, .int (nI j))]) (st2 := [.int (nI j)]) (w3 := w) rfl rfl ?_
    refine sx_RP.step (pc2 := 18) (ls2 := [(0, .ref 0), (1, .ref 29), (2, .ref (103 + 2 * s)), (3, .int (nI n)), (4, .int (nI j))]) (st2 := [.int (nI n), .int (nI j)]) (w3 := w) rfl rfl ?_
    refine sx_RP.br (p2 := 21) (l2 := [(0, .ref 0), (1, .ref 29), (2, .ref (103 + 2 * s)), (3, .int (nI n)), (4, .int (nI j))]) (s2 := []) (v2 := w) rfl rfl (fun q => absurd (of_decide_eq_true q) (fun z => absurd ((nI_leI (a := n) (b := j) (by omega) (by omega)).mp z) (by omega))) (fun _ => ?_)
    refine sx_RP.step (pc2 := 22) (ls2 := [(0, .ref 0), (1, .ref 29), (2, .ref (103 + 2 * s)), (3, .int (nI n)), (4, .int (nI j))]) (st2 := [.ref (103 + 2 * s)]) (w3 := w) rfl rfl ?_
    refine sx_RP.gf (v := .ref (104 + 2 * s)) rfl rfl (hI.1.oS (show s < 4 by omega)) rfl rfl (show _ = 25 from rfl) ?_
    refine sx_RP.step (pc2 := 27) (ls2 := [(0, .ref 0), (1, .ref 29), (2, .ref (103 + 2 * s)), (3, .int (nI n)), (4, .int (nI j))]) (st2 := [.int (nI j), .ref (104 + 2 * s)]) (w3 := w) rfl rfl ?_
    refine sx_RP.lld (c := j) rfl (hI.1.aN (show s < 4 by omega)).1 (hI.1.aN (show s < 4 by omega)).2 (sx_in_nI (show j < 40 by omega) (by decide)) (show (nI j).toNatClampNeg = j from nI_clamp (by omega)) (show _ = 28 from rfl) ?_
    refine sx_RP.step (pc2 := 29) (ls2 := [(0, .ref 0), (1, .ref 29), (2, .ref (103 + 2 * s)), (3, .int (nI n)), (4, .int (nI j))]) (st2 := [.ref 0, .long ((ja w (104 + 2 * s)).getD j 0)]) (w3 := w) rfl rfl ?_
    refine sx_RP.step (pc2 := 30) (ls2 := [(0, .ref 0), (1, .ref 29), (2, .ref (103 + 2 * s)), (3, .int (nI n)), (4, .int (nI j))]) (st2 := [.ref 29, .ref 0, .long ((ja w (104 + 2 * s)).getD j 0)]) (w3 := w) rfl rfl ?_
    refine sx_RP.step (pc2 := 31) (ls2 := [(0, .ref 0), (1, .ref 29), (2, .ref (103 + 2 * s)), (3, .int (nI n)), (4, .int (nI j))]) (st2 := [.ref 29, .ref 29, .ref 0, .long ((ja w (104 + 2 * s)).getD j 0)]) (w3 := w) rfl rfl ?_
    refine sx_RP.gref (k := 4) (b := 32) hI (Or.inr (Or.inr rfl)) rfl rfl (by omega) (show _ = 34 from rfl) ?_
    refine sx_RP.step (pc2 := 36) (ls2 := [(0, .ref 0), (1, .ref 29), (2, .ref (103 + 2 * s)), (3, .int (nI n)), (4, .int (nI j))]) (st2 := [.int (nI j), .ref 32, .ref 29, .ref 0, .long ((ja w (104 + 2 * s)).getD j 0)]) (w3 := w) rfl rfl ?_
    refine sx_RP.ild (c := j) rfl (hI.1.aD (Or.inr (Or.inr rfl))).1 (hI.1.aD (Or.inr (Or.inr rfl))).2 (sx_in_nI (show j < 9 by omega) (by decide)) (show (nI j).toNatClampNeg = j from nI_clamp (by omega)) (show _ = 37 from rfl) ?_
    obtain ⟨x1, hx2, ex3⟩ : inR ((ia w 32).getD j 0) 47 := hI.di (Or.inr (Or.inr rfl)) (show j < 9 by omega)
    rw [ex3]
    have eT : p.getD (163 + j) 0 = nI x1 := (hS.2.di (by rw [em, iN_n (by omega)]; omega)).symm.trans ex3
    refine sx_RP.callp (as2 := [.ref 0, .ref 29, .int (nI x1)]) (rest2 := [.long ((ja w (104 + 2 * s)).getD j 0)]) rfl rfl (sx_inv_v2 (mi := 123) (k := 231) (st := [.int (nI x1), .ref 29, .ref 0, .long ((ja w (104 + 2 * s)).getD j 0)]) (w := w) rfl rfl hI.1.o0 rfl rfl rfl) rfl rfl rfl (X68t (d := d) hI hS hG (show x1 < 48 by omega)) (show _ = 40 from rfl) ?_
    rintro r4 w6 ⟨rfl, hI7, hS4, hf5⟩
    show sx_RP _ _ _ _ _ [.int (pesF p x1), .long ((ja w (104 + 2 * s)).getD j 0)] _ _
    refine sx_RP.step (pc2 := 41) (ls2 := [(0, .ref 0), (1, .ref 29), (2, .ref (103 + 2 * s)), (3, .int (nI n)), (4, .int (nI j))]) (st2 := [.long ((pesF p x1).toInt64), .long ((ja w (104 + 2 * s)).getD j 0)]) (w3 := w6) rfl rfl ?_
    refine sx_RP.step (pc2 := 42) (ls2 := [(0, .ref 0), (1, .ref 29), (2, .ref (103 + 2 * s)), (3, .int (nI n)), (4, .int (nI j))]) (st2 := [.int (lg_cmp ((ja w (104 + 2 * s)).getD j 0) ((pesF p x1).toInt64))]) (w3 := w6) rfl rfl ?_
    refine sx_RP.br (p1 := 47) (l1 := [(0, .ref 0), (1, .ref 29), (2, .ref (103 + 2 * s)), (3, .int (nI n)), (4, .int (nI j))]) (s1 := []) (v1 := w6) (p2 := 45) (l2 := [(0, .ref 0), (1, .ref 29), (2, .ref (103 + 2 * s)), (3, .int (nI n)), (4, .int (nI j))]) (s2 := []) (v2 := w6) rfl rfl (fun q8 => ?_) (fun q8 => ?_)
    · replace q8 := of_decide_eq_true q8
      refine sx_RP.step (pc2 := 50) (ls2 := [(4, .int ((nI j) + 1)), (0, .ref 0), (1, .ref 29), (2, .ref (103 + 2 * s)), (3, .int (nI n))]) (st2 := []) (w3 := w6) rfl rfl ?_
      rw [nI_1 j]
      refine sx_RP.step (pc2 := 15) (ls2 := [(4, .int (nI (j + 1))), (0, .ref 0), (1, .ref 29), (2, .ref (103 + 2 * s)), (3, .int (nI n))]) (st2 := []) (w3 := w6) rfl rfl ?_
      have eN : NCs w0 s j = (ja w (104 + 2 * s)).getD j 0 := by rw [NCs_at hs (by omega), ja_of (hO (104 + 2 * s) (by omega))]
      have eD : dpF p j = pesF p x1 := dpF_n (show x1 < 48 by omega) eT
      exact sx_RP.ls (sx_lr.cons rfl (sx_lr.cons rfl (sx_lr.cons rfl (sx_lr.cons rfl (sx_lr.cons rfl sx_lr.nil))))) (X123L hs hn40 hnm hm em hG q (j + 1) w6 (by omega) hI7 hS4 (fun a ha => (hf5 a ha).trans (hO a ha)) (rdB_y hA (by rw [eN, eD]; exact (lg_cmp_eq _ _).mp q8)))
    · replace q8 := of_decide_eq_false q8
      refine sx_RP.step (pc2 := 46) (ls2 := [(0, .ref 0), (1, .ref 29), (2, .ref (103 + 2 * s)), (3, .int (nI n)), (4, .int (nI j))]) (st2 := [.int 0]) (w3 := w6) rfl rfl ?_
      refine sx_RP.ret (r := (some (.int 0))) rfl rfl ?_
      have eN : NCs w0 s j = (ja w (104 + 2 * s)).getD j 0 := by rw [NCs_at hs (by omega), ja_of (hO (104 + 2 * s) (by omega))]
      have eD : dpF p j = pesF p x1 := dpF_n (show x1 < 48 by omega) eT
      exact ⟨Or.inr ⟨rfl, rdB_dn (rdB_n (by rw [eN, eD]; exact fun z => q8 ((lg_cmp_eq _ _).mpr z))) n (by omega)⟩, hI7, hS4, fun a ha => (hf5 a ha).trans (hO a ha)⟩
set_option maxRecDepth 20000 in
set_option maxHeartbeats 4000000 in
theorem X123 {xs : Option (List Int32)} {d : Nat} {w : List sx_C} (hI : WI w) {s z m : Nat} {l p : List Int32} (hs : s < 4) (hz : z ≤ 40) (ez : fi w (103 + 2 * s) 2 = nI z) (hm : m ≤ 9) (em : p.getD 2 0 = nI m) (hG : SGr l p) (hS : Snt l p w) : sx_RP xs (d + 5) 123 0 (lv_args 0 [.ref 0, .ref 29, .ref (103 + 2 * s)]) [] w (fun r w2 => ((r = some (.int 1) ∧ rdB (NCs w s) p (min z m) = true) ∨ (r = some (.int 0) ∧ rdB (NCs w s) p (min z m) = false)) ∧ WI w2 ∧ Snt l p w2 ∧ ∀ a, (a < 44 ∨ 96 ≤ a) → w2[a]? = w[a]?) := by
  refine sx_RP.step (pc2 := 1) (ls2 := [(0, .ref 0), (1, .ref 29), (2, .ref (103 + 2 * s))]) (st2 := [.ref (103 + 2 * s)]) (w3 := w) rfl rfl ?_
  refine sx_RP.gf (v := .int (fi w (103 + 2 * s) 2)) rfl rfl (hI.1.oS (show s < 4 by omega)) rfl rfl (show _ = 4 from rfl) ?_
  rw [ez]
  refine sx_RP.step (pc2 := 5) (ls2 := [(0, .ref 0), (1, .ref 29), (2, .ref (103 + 2 * s))]) (st2 := [.ref 29, .int (nI z)]) (w3 := w) rfl rfl ?_
  refine sx_RP.gc (k := 5) hI (Or.inr (Or.inr rfl)) rfl rfl (by omega) (show _ = 8 from rfl) ?_
  rw [(hS.2.dished.trans em)]
  refine sx_RP.cu (as := [.int (nI z), .int (nI m)]) (rest2 := []) (st3 := [.int (nI (min z m))]) rfl rfl rfl rfl rfl (x97m hI (by omega) (by omega)) rfl ?_
  refine sx_RP.step (pc2 := 12) (ls2 := [(3, .int (nI (min z m))), (0, .ref 0), (1, .ref 29), (2, .ref (103 + 2 * s))]) (st2 := []) (w3 := w) rfl rfl ?_
  refine sx_RP.step (pc2 := 13) (ls2 := [(3, .int (nI (min z m))), (0, .ref 0), (1, .ref 29), (2, .ref (103 + 2 * s))]) (st2 := [.int 0]) (w3 := w) rfl rfl ?_
  refine sx_RP.step (pc2 := 15) (ls2 := [(4, .int 0), (3, .int (nI (min z m))), (0, .ref 0), (1, .ref 29), (2, .ref (103 + 2 * s))]) (st2 := []) (w3 := w) rfl rfl ?_
  exact sx_RP.ls (sx_lr.cons rfl (sx_lr.cons rfl (sx_lr.cons rfl (sx_lr.cons rfl (sx_lr.cons rfl sx_lr.nil))))) (X123L (w0 := w) (n := min z m) hs (by omega) (by omega) hm em hG (min z m) 0 w (by omega) hI hS (fun _ _ => rfl) rfl)
set_option maxRecDepth 20000 in
set_option maxHeartbeats 4000000 in
theorem X122L {xs : Option (List Int32)} {d s z n m : Nat} {w0 : List sx_C} {l : List Int32} (hs : s < 4) (hz : z ≤ 40) (ez : fi w0 (103 + 2 * s) 2 = nI z) (hn : n ≤ 10) (en : l.getD 1 0 = nI n) (hm : m ≤ 9) (em : l.getD 2 0 = nI m) : ∀ (q j : Nat) (w : List sx_C) (p : List Int32), j + q = 61 → 1 ≤ j → WI w → Snt l p w → SGr l p → (∀ a, (a < 29 ∨ 43 ≤ a) → (a < 44 ∨ 96 ≤ a) → w[a]? = w0[a]?) → sx_RP xs (d + 7) 122 82 [(0, .ref 0), (1, .int (nI s)), (2, .ref (103 + 2 * s)), (3, .int (nI j))] [] w (fun r w2 => r = some (.int (rnF (NCs w0 s) (min z m) q j (nigR p))) ∧ WI w2)
  | 0, j, w, p, hj, h1, hI, hS, hG, hO => by
    obtain rfl : j = 61 := by omega
    refine sx_RP.step (pc2 := 83) (ls2 := [(0, .ref 0), (1, .int (nI s)), (2, .ref (103 + 2 * s)), (3, .int 61)]) (st2 := [.int 61]) (w3 := w) rfl rfl ?_
    refine sx_RP.step (pc2 := 85) (ls2 := [(0, .ref 0), (1, .int (nI s)), (2, .ref (103 + 2 * s)), (3, .int 61)]) (st2 := [.int 60, .int 61]) (w3 := w) rfl rfl ?_
    refine sx_RP.step (pc2 := 120) (ls2 := [(0, .ref 0), (1, .int (nI s)), (2, .ref (103 + 2 * s)), (3, .int 61)]) (st2 := []) (w3 := w) rfl rfl ?_
    refine sx_RP.step (pc2 := 121) (ls2 := [(0, .ref 0), (1, .int (nI s)), (2, .ref (103 + 2 * s)), (3, .int 61)]) (st2 := [.ref 0]) (w3 := w) rfl rfl ?_
    refine sx_RP.step (pc2 := 123) (ls2 := [(0, .ref 0), (1, .int (nI s)), (2, .ref (103 + 2 * s)), (3, .int 61)]) (st2 := [.int (-1000000004), .ref 0]) (w3 := w) rfl rfl ?_
    refine sx_RP.callp (as2 := [.ref 0, .int (-1000000004)]) (rest2 := []) rfl rfl (sx_inv_v2 (mi := 122) (k := 78) (st := [.int (-1000000004), .ref 0]) (w := w) rfl rfl hI.1.o0 rfl rfl rfl) rfl rfl rfl (S9_3 hI) (show _ = 126 from rfl) ?_
    rintro r4 w2 ⟨rfl, hI3, hs1⟩
    show sx_RP _ _ _ _ _ [.int (-1000000004)] _ _
    refine sx_RP.ret (r := (some (.int (-1000000004)))) rfl rfl ?_
    exact ⟨rfl, hI3⟩
  | q + 1, j, w, p, hj, h1, hI, hS, hG, hO => by
    refine sx_RP.step (pc2 := 83) (ls2 := [(0, .ref 0), (1, .int (nI s)), (2, .ref (103 + 2 * s)), (3, .int (nI j))]) (st2 := [.int (nI j)]) (w3 := w) rfl rfl ?_
    refine sx_RP.step (pc2 := 85) (ls2 := [(0, .ref 0), (1, .int (nI s)), (2, .ref (103 + 2 * s)), (3, .int (nI j))]) (st2 := [.int 60, .int (nI j)]) (w3 := w) rfl rfl ?_
    refine sx_RP.br (p2 := 88) (l2 := [(0, .ref 0), (1, .int (nI s)), (2, .ref (103 + 2 * s)), (3, .int (nI j))]) (s2 := []) (v2 := w) rfl rfl (fun q => absurd (of_decide_eq_true q) (fun z => absurd ((nI_ltI (a := 60) (b := j) (by omega) (by omega)).mp z) (by omega))) (fun _ => ?_)
    refine sx_RP.step (pc2 := 89) (ls2 := [(0, .ref 0), (1, .int (nI s)), (2, .ref (103 + 2 * s)), (3, .int (nI j))]) (st2 := [.int (nI j)]) (w3 := w) rfl rfl ?_
    refine sx_RP.br (p2 := 92) (l2 := [(0, .ref 0), (1, .int (nI s)), (2, .ref (103 + 2 * s)), (3, .int (nI j))]) (s2 := []) (v2 := w) rfl rfl (fun q => absurd (of_decide_eq_true q) (fun z => absurd ((nI_leI (a := j) (b := 0) (by omega) (by decide)).mp z) (by omega))) (fun _ => ?_)
    refine sx_RP.step (pc2 := 93) (ls2 := [(0, .ref 0), (1, .int (nI s)), (2, .ref (103 + 2 * s)), (3, .int (nI j))]) (st2 := [.ref 0]) (w3 := w) rfl rfl ?_
    refine sx_RP.gf (v := .ref 29) rfl rfl hI.1.o0 rfl rfl (show _ = 96 from rfl) ?_
    refine sx_RP.callp (as2 := [.ref 29]) (rest2 := []) rfl rfl (sx_inv_v2 (mi := 122) (k := 166) (st := [.ref 29]) (w := w) rfl rfl (hI.1.oC (Or.inr (Or.inr rfl))) rfl rfl rfl) rfl rfl rfl (X41 (d := d + 2) hI (Or.inr (Or.inr rfl)) hS.2 hn (hG.1.trans en)) (show _ = 99 from rfl) ?_
    rintro r4 w2 ⟨⟨rfl, hR1⟩, hI3, ho⟩
    show sx_RP _ _ _ _ _ [.int (lfF p 0 n + lfF p 1 n - lfF (nigR p) 0 n - lfF (nigR p) 1 n)] _ _
    refine sx_RP.step (pc2 := 100) (ls2 := [(0, .ref 0), (1, .int (nI s)), (2, .ref (103 + 2 * s)), (3, .int (nI j))]) (st2 := []) (w3 := w2) rfl rfl ?_
    refine sx_RP.step (pc2 := 101) (ls2 := [(0, .ref 0), (1, .int (nI s)), (2, .ref (103 + 2 * s)), (3, .int (nI j))]) (st2 := [.ref 0]) (w3 := w2) rfl rfl ?_
    refine sx_RP.step (pc2 := 102) (ls2 := [(0, .ref 0), (1, .int (nI s)), (2, .ref (103 + 2 * s)), (3, .int (nI j))]) (st2 := [.ref 0, .ref 0]) (w3 := w2) rfl rfl ?_
    refine sx_RP.gf (v := .ref 29) rfl rfl hI3.1.o0 rfl rfl (show _ = 105 from rfl) ?_
    refine sx_RP.step (pc2 := 106) (ls2 := [(0, .ref 0), (1, .int (nI s)), (2, .ref (103 + 2 * s)), (3, .int (nI j))]) (st2 := [.ref (103 + 2 * s), .ref 29, .ref 0]) (w3 := w2) rfl rfl ?_
    have hSn : Snt l (nigR p) w2 := ⟨hS.1.same hI (fun a ha => ho a (by omega)), hR1⟩
    have eN : NCs w2 s = NCs w0 s := congrFun (NCs_eq (fun q hq => (ho _ (by omega)).trans (hO _ (by omega) (by omega)))) s
    refine sx_RP.callp (as2 := [.ref 0, .ref 29, .ref (103 + 2 * s)]) (rest2 := []) rfl rfl (sx_inv_v2 (mi := 122) (k := 341) (st := [.ref (103 + 2 * s), .ref 29, .ref 0]) (w := w2) rfl rfl hI3.1.o0 rfl rfl rfl) rfl rfl rfl (X123 (d := d + 1) hI3 hs hz ((fi_same 2 ((ho _ (by omega)).trans (hO _ (by omega) (by omega)))).trans ez) hm ((hG.night en hn).2.1.trans em) (hG.night en hn) hSn) (show _ = 109 from rfl) ?_
    rintro r4 w4 ⟨(⟨rfl, hB⟩ | ⟨rfl, hB⟩), hI5, hS9, hf9⟩
    · show sx_RP _ _ _ _ _ [.int 1] _ _
      refine sx_RP.step (pc2 := 112) (ls2 := [(0, .ref 0), (1, .int (nI s)), (2, .ref (103 + 2 * s)), (3, .int (nI j))]) (st2 := []) (w3 := w4) rfl rfl ?_
      refine sx_RP.step (pc2 := 113) (ls2 := [(0, .ref 0), (1, .int (nI s)), (2, .ref (103 + 2 * s)), (3, .int (nI j))]) (st2 := [.int (nI j)]) (w3 := w4) rfl rfl ?_
      refine sx_RP.ret (r := (some (.int (nI j)))) rfl rfl ?_
      exact ⟨by rw [rnF_y (by rw [← eN]; exact hB)], hI5⟩
    · show sx_RP _ _ _ _ _ [.int 0] _ _
      refine sx_RP.step (pc2 := 114) (ls2 := [(0, .ref 0), (1, .int (nI s)), (2, .ref (103 + 2 * s)), (3, .int (nI j))]) (st2 := []) (w3 := w4) rfl rfl ?_
      refine sx_RP.step (pc2 := 117) (ls2 := [(3, .int ((nI j) + 1)), (0, .ref 0), (1, .int (nI s)), (2, .ref (103 + 2 * s))]) (st2 := []) (w3 := w4) rfl rfl ?_
      rw [nI_1 j]
      refine sx_RP.step (pc2 := 82) (ls2 := [(3, .int (nI (j + 1))), (0, .ref 0), (1, .int (nI s)), (2, .ref (103 + 2 * s))]) (st2 := []) (w3 := w4) rfl rfl ?_
      rw [rnF_n (by rw [← eN]; exact hB)]
      exact sx_RP.ls (sx_lr.cons rfl (sx_lr.cons rfl (sx_lr.cons rfl (sx_lr.cons rfl sx_lr.nil)))) (X122L hs hz ez hn en hm em q (j + 1) w4 _ (by omega) (by omega) hI5 hS9 (hG.night en hn) (fun a h1 h2 => (hf9 a (by omega)).trans ((ho a (by omega)).trans (hO a h1 h2))))
set_option maxRecDepth 20000 in
set_option maxHeartbeats 4000000 in
theorem A122 {xs : Option (List Int32)} {d : Nat} {w : List sx_C} (hI : WI w) (l : List Int32) (hR : rel w 1 l) (hK : SK w) (a1 : Int32) : sx_RP xs (d + 7) 122 0 (lv_args 0 [.ref 0, .int a1]) [] w (fun r w2 => r = some (.int (redA (FCs w) (NCs w) l a1)) ∧ WI w2) := by
  obtain ⟨n, hn, en⟩ := hR.n10 hI (Or.inl rfl)
  obtain ⟨m, hm, em⟩ := hR.m9 hI (Or.inl rfl)
  refine sx_RP.step (pc2 := 1) (ls2 := [(0, .ref 0), (1, .int a1)]) (st2 := [.int a1]) (w3 := w) rfl rfl ?_
  rcases in_cases a1 0 3 (m := 0) (n := 3) rfl rfl (by decide) (by decide) with q1 | ⟨x2, hx3, hx4, rfl⟩
  · refine sx_RP.cu (as := [.int a1]) (rest2 := []) (st3 := [.int 0]) rfl rfl rfl rfl rfl (cx_112n q1) rfl ?_
    refine sx_RP.step (pc2 := 7) (ls2 := [(0, .ref 0), (1, .int a1)]) (st2 := []) (w3 := w) rfl rfl ?_
    refine sx_RP.step (pc2 := 8) (ls2 := [(0, .ref 0), (1, .int a1)]) (st2 := [.ref 0]) (w3 := w) rfl rfl ?_
    refine sx_RP.step (pc2 := 10) (ls2 := [(0, .ref 0), (1, .int a1)]) (st2 := [.int (-1000000001), .ref 0]) (w3 := w) rfl rfl ?_
    refine sx_RP.callp (as2 := [.ref 0, .int (-1000000001)]) (rest2 := []) rfl rfl (sx_inv_v2 (mi := 122) (k := 78) (st := [.int (-1000000001), .ref 0]) (w := w) rfl rfl hI.1.o0 rfl rfl rfl) rfl rfl rfl (S9_0 hI) (show _ = 13 from rfl) ?_
    rintro r4 w7 ⟨rfl, hI8, hs6⟩
    show sx_RP _ _ _ _ _ [.int (-1000000001)] _ _
    refine sx_RP.ret (r := (some (.int (-1000000001)))) rfl rfl ?_
    exact ⟨by rw [red_1 q1], hI8⟩
  · refine sx_RP.cu (as := [.int (nI x2)]) (rest2 := []) (st3 := [.int 1]) rfl rfl rfl rfl rfl (cx_112p ⟨nI_le (a := 0) hx3 (by omega), nI_le (b := 3) hx4 (by decide)⟩) rfl ?_
    refine sx_RP.step (pc2 := 14) (ls2 := [(0, .ref 0), (1, .int (nI x2))]) (st2 := []) (w3 := w) rfl rfl ?_
    refine sx_RP.step (pc2 := 15) (ls2 := [(0, .ref 0), (1, .int (nI x2))]) (st2 := [.ref 0]) (w3 := w) rfl rfl ?_
    refine sx_RP.gf (v := .ref 98) rfl rfl hI.1.o0 rfl rfl (show _ = 18 from rfl) ?_
    refine sx_RP.step (pc2 := 19) (ls2 := [(0, .ref 0), (1, .int (nI x2))]) (st2 := [.int (nI x2), .ref 98]) (w3 := w) rfl rfl ?_
    refine sx_RP.ald (v := .ref (103 + 2 * x2)) rfl hI.1.a98 rfl (shA_at (show x2 < 4 by omega)) (show _ = 20 from rfl) ?_
    refine sx_RP.step (pc2 := 21) (ls2 := [(2, .ref (103 + 2 * x2)), (0, .ref 0), (1, .int (nI x2))]) (st2 := []) (w3 := w) rfl rfl ?_
    refine sx_RP.step (pc2 := 22) (ls2 := [(2, .ref (103 + 2 * x2)), (0, .ref 0), (1, .int (nI x2))]) (st2 := [.ref (103 + 2 * x2)]) (w3 := w) rfl rfl ?_
    rcases Decidable.em (fi w (103 + 2 * x2) 1 = 0) with c9 | c9
    · refine sx_RP.cu (as := [.ref (103 + 2 * x2)]) (rest2 := []) (st3 := [.int 1]) rfl rfl (sx_inv_v2 (mi := 122) (k := 310) (st := [.ref (103 + 2 * x2)]) (w := w) rfl rfl (hI.1.oS (show x2 < 4 by omega)) rfl rfl rfl) rfl rfl (p116y hI (show x2 < 4 by omega) c9) rfl ?_
      refine sx_RP.step (pc2 := 28) (ls2 := [(2, .ref (103 + 2 * x2)), (0, .ref 0), (1, .int (nI x2))]) (st2 := []) (w3 := w) rfl rfl ?_
      refine sx_RP.step (pc2 := 29) (ls2 := [(2, .ref (103 + 2 * x2)), (0, .ref 0), (1, .int (nI x2))]) (st2 := [.ref 0]) (w3 := w) rfl rfl ?_
      refine sx_RP.step (pc2 := 32) (ls2 := [(2, .ref (103 + 2 * x2)), (0, .ref 0), (1, .int (nI x2))]) (st2 := [.int (-1000000006), .ref 0]) (w3 := w) rfl rfl ?_
      refine sx_RP.callp (as2 := [.ref 0, .int (-1000000006)]) (rest2 := []) rfl rfl (sx_inv_v2 (mi := 122) (k := 78) (st := [.int (-1000000006), .ref 0]) (w := w) rfl rfl hI.1.o0 rfl rfl rfl) rfl rfl rfl (S9_5 hI) (show _ = 35 from rfl) ?_
      rintro r4 w11 ⟨rfl, hI12, hs10⟩
      show sx_RP _ _ _ _ _ [.int (-1000000006)] _ _
      refine sx_RP.ret (r := (some (.int (-1000000006)))) rfl rfl ?_
      exact ⟨by rw [red_2 (F := FCs w) (show x2 < 4 by omega) (FCs_at (by omega)) c9], hI12⟩
    · refine sx_RP.cu (as := [.ref (103 + 2 * x2)]) (rest2 := []) (st3 := [.int 0]) rfl rfl (sx_inv_v2 (mi := 122) (k := 310) (st := [.ref (103 + 2 * x2)]) (w := w) rfl rfl (hI.1.oS (show x2 < 4 by omega)) rfl rfl rfl) rfl rfl (p116n hI (show x2 < 4 by omega) c9) rfl ?_
      refine sx_RP.step (pc2 := 36) (ls2 := [(2, .ref (103 + 2 * x2)), (0, .ref 0), (1, .int (nI x2))]) (st2 := []) (w3 := w) rfl rfl ?_
      refine sx_RP.step (pc2 := 37) (ls2 := [(2, .ref (103 + 2 * x2)), (0, .ref 0), (1, .int (nI x2))]) (st2 := [.ref 0]) (w3 := w) rfl rfl ?_
      refine sx_RP.gf (v := .ref 1) rfl rfl hI.1.o0 rfl rfl (show _ = 40 from rfl) ?_
      refine sx_RP.step (pc2 := 42) (ls2 := [(2, .ref (103 + 2 * x2)), (0, .ref 0), (1, .int (nI x2))]) (st2 := [.int 60, .ref 1]) (w3 := w) rfl rfl ?_
      rcases Decidable.em (l.getD 0 0 + 60 ≤ 999) with hc | hc
      · refine sx_RP.cu (as := [.ref 1, .int 60]) (rest2 := []) (st3 := [.int 1]) rfl rfl (sx_inv_v2 (mi := 122) (k := 163) (st := [.int 60, .ref 1]) (w := w) rfl rfl (hI.1.oC (Or.inl rfl)) rfl rfl rfl) rfl rfl (x40y hI (Or.inl rfl) (by rw [hR.night]; exact hc)) rfl ?_
        refine sx_RP.step (pc2 := 55) (ls2 := [(2, .ref (103 + 2 * x2)), (0, .ref 0), (1, .int (nI x2))]) (st2 := []) (w3 := w) rfl rfl ?_
        refine sx_RP.step (pc2 := 56) (ls2 := [(2, .ref (103 + 2 * x2)), (0, .ref 0), (1, .int (nI x2))]) (st2 := [.ref 0]) (w3 := w) rfl rfl ?_
        refine sx_RP.gf (v := .ref 44) rfl rfl hI.1.o0 rfl rfl (show _ = 59 from rfl) ?_
        refine sx_RP.step (pc2 := 60) (ls2 := [(2, .ref (103 + 2 * x2)), (0, .ref 0), (1, .int (nI x2))]) (st2 := [.ref 0, .ref 44]) (w3 := w) rfl rfl ?_
        refine sx_RP.gf (v := .ref 1) rfl rfl hI.1.o0 rfl rfl (show _ = 63 from rfl) ?_
        refine sx_RP.gref (k := 0) (b := 2) hI (Or.inl rfl) rfl rfl (by omega) (show _ = 66 from rfl) ?_
        obtain ⟨z, hz, ez⟩ := hI.sh (show x2 < 4 by omega)
        refine sx_RP.callp (as2 := [.ref 44, .ref 2]) (rest2 := []) rfl rfl (sx_inv_v2 (mi := 122) (k := 95) (st := [.ref 2, .ref 44]) (w := w) rfl rfl hI.1.o44 rfl rfl rfl) rfl rfl rfl (G16 (A := 1) hI (Or.inl rfl)) (show _ = 69 from rfl) ?_
        rintro r4 w16 ⟨rfl, hI17, hS13, hF14, hf15⟩
        show sx_RP _ _ _ _ _ [] _ _
        have hR18 : rel w16 1 l := hR.same hI (Or.inl rfl) (fun a h1 h2 => hf15 a (by omega))
        have hK19 : SK w16 := hS13.2 hK
        refine sx_RP.step (pc2 := 70) (ls2 := [(2, .ref (103 + 2 * x2)), (0, .ref 0), (1, .int (nI x2))]) (st2 := [.ref 0]) (w3 := w16) rfl rfl ?_
        refine sx_RP.gf (v := .ref 29) rfl rfl hI17.1.o0 rfl rfl (show _ = 73 from rfl) ?_
        refine sx_RP.step (pc2 := 74) (ls2 := [(2, .ref (103 + 2 * x2)), (0, .ref 0), (1, .int (nI x2))]) (st2 := [.ref 0, .ref 29]) (w3 := w16) rfl rfl ?_
        refine sx_RP.gf (v := .ref 1) rfl rfl hI17.1.o0 rfl rfl (show _ = 77 from rfl) ?_
        refine sx_RP.callp (as2 := [.ref 29, .ref 1]) (rest2 := []) rfl rfl (sx_inv_v2 (mi := 122) (k := 179) (st := [.ref 1, .ref 29]) (w := w16) rfl rfl (hI17.1.oC (Or.inr (Or.inr rfl))) rfl rfl rfl) rfl rfl rfl (X50 hI17 (Or.inr (Or.inr rfl)) (Or.inl rfl) (by omega)) (show _ = 80 from rfl) ?_
        rintro r4 w21 ⟨rfl, hI22, ht20⟩
        show sx_RP _ _ _ _ _ [] _ _
        refine sx_RP.step (pc2 := 81) (ls2 := [(2, .ref (103 + 2 * x2)), (0, .ref 0), (1, .int (nI x2))]) (st2 := [.int 0]) (w3 := w21) rfl rfl ?_
        refine sx_RP.step (pc2 := 82) (ls2 := [(3, .int 0), (2, .ref (103 + 2 * x2)), (0, .ref 0), (1, .int (nI x2))]) (st2 := []) (w3 := w21) rfl rfl ?_
        refine sx_RP.step (pc2 := 83) (ls2 := [(3, .int 0), (2, .ref (103 + 2 * x2)), (0, .ref 0), (1, .int (nI x2))]) (st2 := [.int 0]) (w3 := w21) rfl rfl ?_
        refine sx_RP.step (pc2 := 85) (ls2 := [(3, .int 0), (2, .ref (103 + 2 * x2)), (0, .ref 0), (1, .int (nI x2))]) (st2 := [.int 60, .int 0]) (w3 := w21) rfl rfl ?_
        refine sx_RP.step (pc2 := 88) (ls2 := [(3, .int 0), (2, .ref (103 + 2 * x2)), (0, .ref 0), (1, .int (nI x2))]) (st2 := []) (w3 := w21) rfl rfl ?_
        refine sx_RP.step (pc2 := 89) (ls2 := [(3, .int 0), (2, .ref (103 + 2 * x2)), (0, .ref 0), (1, .int (nI x2))]) (st2 := [.int 0]) (w3 := w21) rfl rfl ?_
        refine sx_RP.step (pc2 := 100) (ls2 := [(3, .int 0), (2, .ref (103 + 2 * x2)), (0, .ref 0), (1, .int (nI x2))]) (st2 := []) (w3 := w21) rfl rfl ?_
        refine sx_RP.step (pc2 := 101) (ls2 := [(3, .int 0), (2, .ref (103 + 2 * x2)), (0, .ref 0), (1, .int (nI x2))]) (st2 := [.ref 0]) (w3 := w21) rfl rfl ?_
        refine sx_RP.step (pc2 := 102) (ls2 := [(3, .int 0), (2, .ref (103 + 2 * x2)), (0, .ref 0), (1, .int (nI x2))]) (st2 := [.ref 0, .ref 0]) (w3 := w21) rfl rfl ?_
        refine sx_RP.gf (v := .ref 29) rfl rfl hI22.1.o0 rfl rfl (show _ = 105 from rfl) ?_
        refine sx_RP.step (pc2 := 106) (ls2 := [(3, .int 0), (2, .ref (103 + 2 * x2)), (0, .ref 0), (1, .int (nI x2))]) (st2 := [.ref (103 + 2 * x2), .ref 29, .ref 0]) (w3 := w21) rfl rfl ?_
        have hSt : Snt l l w21 := ⟨(show Snd l _ from ⟨hR18, hF14, hK19⟩).same hI17 (fun a ha => ht20.1 a (by omega)), hR18.took ht20⟩
        have eN : NCs w21 x2 = NCs w x2 := congrFun (NCs_eq (fun q hq => (ht20.1 _ (by omega)).trans (hf15 _ (by omega)))) x2
        refine sx_RP.callp (as2 := [.ref 0, .ref 29, .ref (103 + 2 * x2)]) (rest2 := []) rfl rfl (sx_inv_v2 (mi := 122) (k := 341) (st := [.ref (103 + 2 * x2), .ref 29, .ref 0]) (w := w21) rfl rfl hI22.1.o0 rfl rfl rfl) rfl rfl rfl (X123 (d := d + 1) hI22 (show x2 < 4 by omega) hz ((fi_same 2 ((ht20.1 _ (by omega)).trans (hf15 _ (by omega)))).trans ez) hm em SGr.rf hSt) (show _ = 109 from rfl) ?_
        rintro r4 w23 ⟨(⟨rfl, hB⟩ | ⟨rfl, hB⟩), hI24, hS9, hf9⟩
        · show sx_RP _ _ _ _ _ [.int 1] _ _
          refine sx_RP.step (pc2 := 112) (ls2 := [(3, .int 0), (2, .ref (103 + 2 * x2)), (0, .ref 0), (1, .int (nI x2))]) (st2 := []) (w3 := w23) rfl rfl ?_
          refine sx_RP.step (pc2 := 113) (ls2 := [(3, .int 0), (2, .ref (103 + 2 * x2)), (0, .ref 0), (1, .int (nI x2))]) (st2 := [.int 0]) (w3 := w23) rfl rfl ?_
          refine sx_RP.ret (r := (some (.int 0))) rfl rfl ?_
          rw [red_y (F := FCs w) (N := NCs w) (b := fi w (103 + 2 * x2) 1) (show x2 < 4 by omega) hz hm ((FCs_at (by omega)).trans (by rw [ez])) c9 em hc]
          exact ⟨by rw [rnF_y (by rw [← eN]; exact hB)]; rfl, hI24⟩
        · show sx_RP _ _ _ _ _ [.int 0] _ _
          refine sx_RP.step (pc2 := 114) (ls2 := [(3, .int 0), (2, .ref (103 + 2 * x2)), (0, .ref 0), (1, .int (nI x2))]) (st2 := []) (w3 := w23) rfl rfl ?_
          refine sx_RP.step (pc2 := 117) (ls2 := [(3, .int 1), (2, .ref (103 + 2 * x2)), (0, .ref 0), (1, .int (nI x2))]) (st2 := []) (w3 := w23) rfl rfl ?_
          refine sx_RP.step (pc2 := 82) (ls2 := [(3, .int 1), (2, .ref (103 + 2 * x2)), (0, .ref 0), (1, .int (nI x2))]) (st2 := []) (w3 := w23) rfl rfl ?_
          rw [red_y (F := FCs w) (N := NCs w) (b := fi w (103 + 2 * x2) 1) (show x2 < 4 by omega) hz hm ((FCs_at (by omega)).trans (by rw [ez])) c9 em hc]
          rw [rnF_n (by rw [← eN]; exact hB)]
          exact sx_RP.ls (sx_lr.cons rfl (sx_lr.cons rfl (sx_lr.cons rfl (sx_lr.cons rfl sx_lr.nil)))) (X122L (w0 := w) (show x2 < 4 by omega) hz ez hn en hm em 60 1 w23 l (by omega) (by omega) hI24 hS9 SGr.rf (fun a h1 h2 => (hf9 a h2).trans ((ht20.1 a (by omega)).trans (hf15 a (by omega)))))
      · refine sx_RP.cu (as := [.ref 1, .int 60]) (rest2 := []) (st3 := [.int 0]) rfl rfl (sx_inv_v2 (mi := 122) (k := 163) (st := [.int 60, .ref 1]) (w := w) rfl rfl (hI.1.oC (Or.inl rfl)) rfl rfl rfl) rfl rfl (x40n hI (Or.inl rfl) (by rw [hR.night]; exact hc)) rfl ?_
        refine sx_RP.step (pc2 := 48) (ls2 := [(2, .ref (103 + 2 * x2)), (0, .ref 0), (1, .int (nI x2))]) (st2 := []) (w3 := w) rfl rfl ?_
        refine sx_RP.step (pc2 := 49) (ls2 := [(2, .ref (103 + 2 * x2)), (0, .ref 0), (1, .int (nI x2))]) (st2 := [.ref 0]) (w3 := w) rfl rfl ?_
        refine sx_RP.step (pc2 := 51) (ls2 := [(2, .ref (103 + 2 * x2)), (0, .ref 0), (1, .int (nI x2))]) (st2 := [.int (-1000000005), .ref 0]) (w3 := w) rfl rfl ?_
        refine sx_RP.callp (as2 := [.ref 0, .int (-1000000005)]) (rest2 := []) rfl rfl (sx_inv_v2 (mi := 122) (k := 78) (st := [.int (-1000000005), .ref 0]) (w := w) rfl rfl hI.1.o0 rfl rfl rfl) rfl rfl rfl (S9_4 hI) (show _ = 54 from rfl) ?_
        rintro r4 w26 ⟨rfl, hI27, hs25⟩
        show sx_RP _ _ _ _ _ [.int (-1000000005)] _ _
        refine sx_RP.ret (r := (some (.int (-1000000005)))) rfl rfl ?_
        exact ⟨by rw [red_3 (F := FCs w) (show x2 < 4 by omega) (FCs_at (by omega)) c9 hc], hI27⟩
theorem a122 {xs : Option (List Int32)} {d : Nat} {w : List sx_C} {s : ST} (hI : WI w) (hC : CLS w s) (a1 : Int32) : sx_RP xs (d + 7) 122 0 (lv_args 0 [.ref 0, .int a1]) [] w (fun r w2 => r = some (.int (redA s.2.2.2.2.1 s.2.2.2.2.2 s.1 a1)) ∧ WI w2 ∧ CLS w2 (s) ∧ ∀ a, 111 ≤ a → w2[a]? = w[a]?) := by
  refine ((c122 (xs := xs) (d := d) hI hC a1).and (A122 hI s.1 hC.1.1 hC.2.2 a1)).mono9 (fun r w2 z => ⟨?_, z.1.2.1, z.1.2.2.1, z.1.2.2.2⟩)
  rw [z.2.1, hC.2.1.2.1, hC.2.1.2.2]
end
-- 90.law.lean.txt
section
section SXLAW
variable {ys : List Int32} {d mi pc pc2 : Nat} {ls : sx_L} {r : List Value} {w : List sx_C} {P : Option Value → List sx_C → Prop}
theorem sx_RP.scr {x : Nat} (hi : sx_ins mi pc = some (.iaload, 1)) (hx : x < ys.length) (hl : ys.length ≤ 3072) (hp : pc + 1 = pc2) (kk : sx_RP (some ys) d mi pc2 ls (.int (ys.getD x 0) :: r) w P) : sx_RP (some ys) d mi pc ls (.int (nI x) :: .float 4 :: r) w P :=
  sx_RP.stat (k := 4) hi rfl ⟨sx_in_nI (n := ys.length) hx (by omega), by rw [nI_clamp (by omega)]; rfl⟩ hp kk
end SXLAW
theorem law_le {len i : Nat} (hlen : len ≤ 3072) (hi : i ≤ 3072) (h : ¬ (nI len - 6 < nI i)) : i + 6 ≤ len := by
  by_cases h6 : 6 ≤ len
  · rw [show (6 : Int32) = nI 6 from rfl, nI_sub h6] at h
    have := mt (nI_ltI (a := len - 6) (b := i) (by omega) (by omega)).mpr h
    omega
  · exfalso
    apply h
    have e : (nI len - 6).toInt < 0 := by
      rcases (show len = 0 ∨ len = 1 ∨ len = 2 ∨ len = 3 ∨ len = 4 ∨ len = 5 by omega) with rfl | rfl | rfl | rfl | rfl | rfl <;> decide
    rw [Int32.lt_iff_toInt_lt, nI_toInt (by omega)]
    omega
def inRb (v : Int32) (n : Nat) : Bool := (List.range (n + 1)).any (fun j => decide (v = nI j))
theorem inRb_ok {v : Int32} {n : Nat} (h : inRb v n = true) : inR v n := by
  unfold inRb at h
  obtain ⟨j, hj, e⟩ := List.any_eq_true.mp h
  exact ⟨j, by have := List.mem_range.mp hj; omega, of_decide_eq_true e⟩
def impb (p : Prop) [Decidable p] (b : Bool) : Bool := !(decide p) || b
theorem impb_ok {p : Prop} [Decidable p] {b : Bool} (h : impb p b = true) (hp : p) : b = true := by
  unfold impb at h
  rw [decide_eq_true hp] at h
  exact h
def eOKb (k : Nat) (v : Int32) : Bool :=
  impb (k = 1) (inRb v 10) && (impb (k = 2) (inRb v 9) && (impb (7 ≤ k ∧ k < 55) (inRb v 3) && (impb (103 ≤ k ∧ k < 163 ∧ (k - 103) % 6 = 0) (inRb v 5) && (impb (103 ≤ k ∧ k < 163 ∧ (k - 103) % 6 = 1) (inRb v 1) && (impb (103 ≤ k ∧ k < 163 ∧ (k - 103) % 6 = 2) (inRb v 47) && (impb (103 ≤ k ∧ k < 163 ∧ (k - 103) % 6 = 3) (inRb v 3) && (impb (103 ≤ k ∧ k < 163 ∧ (k - 103) % 6 = 5) (inRb v 1) && impb (163 ≤ k) (inRb v 47))))))))
theorem eOKb_ok {k : Nat} {v : Int32} (h : eOKb k v = true) : eOK k v := by
  unfold eOKb at h
  simp only [Bool.and_eq_true] at h
  obtain ⟨h1, h2, h3, h4, h5, h6, h7, h8, h9⟩ := h
  exact ⟨fun z => inRb_ok (impb_ok h1 z), fun z => inRb_ok (impb_ok h2 z), fun z => inRb_ok (impb_ok h3 z), fun z => inRb_ok (impb_ok h4 z), fun z => inRb_ok (impb_ok h5 z), fun z => inRb_ok (impb_ok h6 z), fun z => inRb_ok (impb_ok h7 z), fun z => inRb_ok (impb_ok h8 z), fun z => inRb_ok (impb_ok h9 z)⟩
def allb (n : Nat) (f : Nat → Bool) : Bool := (List.range n).all f
theorem allb_ok {n : Nat} {f : Nat → Bool} (h : allb n f = true) {k : Nat} (hk : k < n) : f k = true := List.all_eq_true.mp h k (List.mem_range.mpr hk)
def cOKb (a : Nat) (c : sx_C) : Bool :=
  impb ((5 ≤ a ∧ a < 15) ∨ (19 ≤ a ∧ a < 29) ∨ (33 ≤ a ∧ a < 44)) (inRb (vi (cf c)[0]?) 5 && (inRb (vi (cf c)[1]?) 1 && (inRb (vi (cf c)[2]?) 47 && (inRb (vi (cf c)[3]?) 3 && inRb (vi (cf c)[5]?) 1)))) && (impb (a = 1 ∨ a = 15 ∨ a = 29) (inRb (vi (cf c)[3]?) 10 && inRb (vi (cf c)[5]?) 9) && (impb (a = 2 ∨ a = 16 ∨ a = 30) (allb 48 (fun k => inRb ((cI c).getD k 0) 3)) && (impb (a = 4 ∨ a = 18 ∨ a = 32) (allb 9 (fun k => inRb ((cI c).getD k 0) 47)) && (impb (a = 0) (inRb (vi (cf c)[3]?) 1) && (impb (a = 96) (inRb (vi (cf c)[1]?) 120 && (inRb (vi (cf c)[3]?) 120 && inRb (vi (cf c)[4]?) 120)) && (impb (a = 103 ∨ a = 105 ∨ a = 107 ∨ a = 109) (inRb (vi (cf c)[2]?) 40) && (impb (a = 111) (inRb (vi (cf c)[4]?) 1 && (inRb (vi (cf c)[11]?) 120 && inRb (vi (cf c)[12]?) 120)) && (impb (a = 112 ∨ a = 113 ∨ a = 114 ∨ a = 115) (allb 172 (fun k => eOKb k ((cI c).getD k 0))) && impb (a = 123) (allb 4 (fun k => inRb ((cI c).getD k 0) 40))))))))))
theorem cOKb_ok {a : Nat} {c : sx_C} (h : cOKb a c = true) : cOK a c := by
  unfold cOKb at h
  simp only [Bool.and_eq_true] at h
  obtain ⟨h1, h2, h3, h4, h5, h6, h7, h8, h9, h10⟩ := h
  refine ⟨fun z => ?_, fun z => ?_, fun z k hk => inRb_ok (allb_ok (impb_ok h3 z) hk), fun z k hk => inRb_ok (allb_ok (impb_ok h4 z) hk), fun z => inRb_ok (impb_ok h5 z), fun z => ?_, fun z => inRb_ok (impb_ok h7 z), fun z => ?_, fun z k hk => eOKb_ok (allb_ok (impb_ok h9 z) hk), fun z k hk => inRb_ok (allb_ok (impb_ok h10 z) hk)⟩
  · have := impb_ok h1 z
    simp only [Bool.and_eq_true] at this
    exact ⟨inRb_ok this.1, inRb_ok this.2.1, inRb_ok this.2.2.1, inRb_ok this.2.2.2.1, inRb_ok this.2.2.2.2⟩
  · have := impb_ok h2 z
    simp only [Bool.and_eq_true] at this
    exact ⟨inRb_ok this.1, inRb_ok this.2⟩
  · have := impb_ok h6 z
    simp only [Bool.and_eq_true] at this
    exact ⟨inRb_ok this.1, inRb_ok this.2.1, inRb_ok this.2.2⟩
  · have := impb_ok h8 z
    simp only [Bool.and_eq_true] at this
    exact ⟨inRb_ok this.1, inRb_ok this.2.1, inRb_ok this.2.2⟩
theorem w0_ok : allb 126 (fun a => match (sx_w0[a]? : Option sx_C) with
  | some c => cOKb a c
  | none => true) = true := by decide +kernel
theorem w0_WI : WI sx_w0 := by
  refine ⟨rfl, ?_⟩
  intro a c hc
  have ha : a < 126 := by
    have := (List.getElem?_eq_some_iff.mp hc).1
    rw [sx_w0_len] at this
    exact this
  have h := allb_ok w0_ok ha
  rw [hc] at h
  exact cOKb_ok h
def LI (w : List sx_C) : Prop := ∃ s : ST, CLS w s ∧ REF w s ∧ bOK w
theorem r139 {xs : Option (List Int32)} {d : Nat} {w : List sx_C} {s : ST} (hI : WI w) (hR : REF w s) : sx_RP xs (d + 7) 139 0 (lv_args 0 [.ref 111]) [] w (fun r w2 => (∃ v : Int64, r = some (.long v)) ∧ WI w2 ∧ REF w2 s ∧ ∀ a, a < 111 → w2[a]? = w[a]?) := by
  obtain ⟨v, h⟩ := p139 (xs := xs) (d := d) hI
  exact ⟨_, _, h, ⟨v, rfl⟩, hI, hR, fun _ _ => rfl⟩
end
-- 91a.cases.lean.txt
section
set_option maxRecDepth 20000 in
set_option maxHeartbeats 4000000 in
theorem lc0 {ys : List Int32} {i : Nat} {w : List sx_C} {P : Option Value → List sx_C → Prop} (hl : ys.length ≤ 3072) (hn : i + 6 ≤ ys.length) (hI : WI w) (hL : LI w) (kk : ∀ w2, WI w2 → LI w2 → sx_RP (some ys) 9 246 1539 [(3, .int (nI i)), (2, .ref 111), (1, .ref 0), (0, .float 4)] [] w2 P) : sx_RP (some ys) 9 246 228 [(3, .int (nI i)), (2, .ref 111), (1, .ref 0), (0, .float 4)] [] w P := by
  obtain ⟨s, hC, hR, hb⟩ := hL
  refine sx_RP.step (pc2 := 229) (ls2 := [(3, .int (nI i)), (2, .ref 111), (1, .ref 0), (0, .float 4)]) (st2 := [.ref 0]) (w3 := w) rfl rfl ?_
  refine sx_RP.step (pc2 := 230) (ls2 := [(3, .int (nI i)), (2, .ref 111), (1, .ref 0), (0, .float 4)]) (st2 := [.float 4, .ref 0]) (w3 := w) rfl rfl ?_
  refine sx_RP.step (pc2 := 231) (ls2 := [(3, .int (nI i)), (2, .ref 111), (1, .ref 0), (0, .float 4)]) (st2 := [.int (nI i), .float 4, .ref 0]) (w3 := w) rfl rfl ?_
  refine sx_RP.step (pc2 := 232) (ls2 := [(3, .int (nI i)), (2, .ref 111), (1, .ref 0), (0, .float 4)]) (st2 := [.int 1, .int (nI i), .float 4, .ref 0]) (w3 := w) rfl rfl ?_
  refine sx_RP.step (pc2 := 233) (ls2 := [(3, .int (nI i)), (2, .ref 111), (1, .ref 0), (0, .float 4)]) (st2 := [.int ((nI i) + 1), .float 4, .ref 0]) (w3 := w) rfl rfl ?_
  rw [show ((nI i) + 1 : Int32) = nI (i + 1) from nI_add i 1]
  refine sx_RP.scr (x := (i + 1)) rfl (by omega) hl (show _ = 234 from rfl) ?_
  refine sx_RP.step (pc2 := 235) (ls2 := [(3, .int (nI i)), (2, .ref 111), (1, .ref 0), (0, .float 4)]) (st2 := [.float 4, .int (ys.getD ((i + 1)) 0), .ref 0]) (w3 := w) rfl rfl ?_
  refine sx_RP.step (pc2 := 236) (ls2 := [(3, .int (nI i)), (2, .ref 111), (1, .ref 0), (0, .float 4)]) (st2 := [.int (nI i), .float 4, .int (ys.getD ((i + 1)) 0), .ref 0]) (w3 := w) rfl rfl ?_
  refine sx_RP.step (pc2 := 237) (ls2 := [(3, .int (nI i)), (2, .ref 111), (1, .ref 0), (0, .float 4)]) (st2 := [.int 2, .int (nI i), .float 4, .int (ys.getD ((i + 1)) 0), .ref 0]) (w3 := w) rfl rfl ?_
  refine sx_RP.step (pc2 := 238) (ls2 := [(3, .int (nI i)), (2, .ref 111), (1, .ref 0), (0, .float 4)]) (st2 := [.int ((nI i) + 2), .float 4, .int (ys.getD ((i + 1)) 0), .ref 0]) (w3 := w) rfl rfl ?_
  rw [show ((nI i) + 2 : Int32) = nI (i + 2) from nI_add i 2]
  refine sx_RP.scr (x := (i + 2)) rfl (by omega) hl (show _ = 239 from rfl) ?_
  refine sx_RP.callp (as2 := [.ref 0, .int (ys.getD ((i + 1)) 0), .int (ys.getD ((i + 2)) 0)]) (rest2 := []) rfl rfl (sx_inv_v2 (mi := 246) (k := 13) (st := [.int (ys.getD ((i + 2)) 0), .int (ys.getD ((i + 1)) 0), .ref 0]) (w := w) rfl rfl hI.1.o0 rfl rfl rfl) rfl rfl rfl (sx_RP.byk (c6 (d := 1) hI hC (ys.getD ((i + 1)) 0) (ys.getD ((i + 2)) 0))) (show _ = 242 from rfl) ?_
  rintro r4 w1 ⟨⟨rfl, hI2, ⟨hC3, hi4⟩⟩, hbk5⟩
  have hR6 := hR.hi hi4
  have hb7 := hbk5 hb
  show sx_RP _ _ _ _ _ [.int (gndA s.1 (ys.getD ((i + 1)) 0) (ys.getD ((i + 2)) 0))] _ _
  refine sx_RP.step (pc2 := 243) (ls2 := [(3, .int (nI i)), (2, .ref 111), (1, .ref 0), (0, .float 4)]) (st2 := []) (w3 := w1) rfl rfl ?_
  refine sx_RP.step (pc2 := 244) (ls2 := [(3, .int (nI i)), (2, .ref 111), (1, .ref 0), (0, .float 4)]) (st2 := [.ref 111]) (w3 := w1) rfl rfl ?_
  refine sx_RP.step (pc2 := 245) (ls2 := [(3, .int (nI i)), (2, .ref 111), (1, .ref 0), (0, .float 4)]) (st2 := [.float 4, .ref 111]) (w3 := w1) rfl rfl ?_
  refine sx_RP.step (pc2 := 246) (ls2 := [(3, .int (nI i)), (2, .ref 111), (1, .ref 0), (0, .float 4)]) (st2 := [.int (nI i), .float 4, .ref 111]) (w3 := w1) rfl rfl ?_
  refine sx_RP.step (pc2 := 247) (ls2 := [(3, .int (nI i)), (2, .ref 111), (1, .ref 0), (0, .float 4)]) (st2 := [.int 1, .int (nI i), .float 4, .ref 111]) (w3 := w1) rfl rfl ?_
  refine sx_RP.step (pc2 := 248) (ls2 := [(3, .int (nI i)), (2, .ref 111), (1, .ref 0), (0, .float 4)]) (st2 := [.int ((nI i) + 1), .float 4, .ref 111]) (w3 := w1) rfl rfl ?_
  rw [show ((nI i) + 1 : Int32) = nI (i + 1) from nI_add i 1]
  refine sx_RP.scr (x := (i + 1)) rfl (by omega) hl (show _ = 249 from rfl) ?_
  refine sx_RP.step (pc2 := 250) (ls2 := [(3, .int (nI i)), (2, .ref 111), (1, .ref 0), (0, .float 4)]) (st2 := [.float 4, .int (ys.getD ((i + 1)) 0), .ref 111]) (w3 := w1) rfl rfl ?_
  refine sx_RP.step (pc2 := 251) (ls2 := [(3, .int (nI i)), (2, .ref 111), (1, .ref 0), (0, .float 4)]) (st2 := [.int (nI i), .float 4, .int (ys.getD ((i + 1)) 0), .ref 111]) (w3 := w1) rfl rfl ?_
  refine sx_RP.step (pc2 := 252) (ls2 := [(3, .int (nI i)), (2, .ref 111), (1, .ref 0), (0, .float 4)]) (st2 := [.int 2, .int (nI i), .float 4, .int (ys.getD ((i + 1)) 0), .ref 111]) (w3 := w1) rfl rfl ?_
  refine sx_RP.step (pc2 := 253) (ls2 := [(3, .int (nI i)), (2, .ref 111), (1, .ref 0), (0, .float 4)]) (st2 := [.int ((nI i) + 2), .float 4, .int (ys.getD ((i + 1)) 0), .ref 111]) (w3 := w1) rfl rfl ?_
  rw [show ((nI i) + 2 : Int32) = nI (i + 2) from nI_add i 2]
  refine sx_RP.scr (x := (i + 2)) rfl (by omega) hl (show _ = 254 from rfl) ?_
  refine sx_RP.callp (as2 := [.ref 111, .int (ys.getD ((i + 1)) 0), .int (ys.getD ((i + 2)) 0)]) (rest2 := []) rfl rfl (sx_inv_v2 (mi := 246) (k := 17) (st := [.int (ys.getD ((i + 2)) 0), .int (ys.getD ((i + 1)) 0), .ref 111]) (w := w1) rfl rfl hI2.1.o111 rfl rfl rfl) rfl rfl rfl (sx_RP.byk (r130 (d := 1) hI2 hR6 (ys.getD ((i + 1)) 0) (ys.getD ((i + 2)) 0))) (show _ = 257 from rfl) ?_
  rintro r4 w8 ⟨⟨rfl, hI9, ⟨hR10, lo11⟩⟩, hbk12⟩
  have hL13 : LI w8 := ⟨_, hC3.lo hI2 lo11, hR10, hbk12 hb7⟩
  show sx_RP _ _ _ _ _ [.int (gndA s.1 (ys.getD ((i + 1)) 0) (ys.getD ((i + 2)) 0))] _ _
  refine sx_RP.step (pc2 := 258) (ls2 := [(3, .int (nI i)), (2, .ref 111), (1, .ref 0), (0, .float 4)]) (st2 := []) (w3 := w8) rfl rfl ?_
  refine sx_RP.step (pc2 := 1539) (ls2 := [(3, .int (nI i)), (2, .ref 111), (1, .ref 0), (0, .float 4)]) (st2 := []) (w3 := w8) rfl rfl ?_
  exact kk w8 hI9 hL13
set_option maxRecDepth 20000 in
set_option maxHeartbeats 4000000 in
theorem lc1 {ys : List Int32} {i : Nat} {w : List sx_C} {P : Option Value → List sx_C → Prop} (hl : ys.length ≤ 3072) (hn : i + 6 ≤ ys.length) (hI : WI w) (hL : LI w) (kk : ∀ w2, WI w2 → LI w2 → sx_RP (some ys) 9 246 1539 [(3, .int (nI i)), (2, .ref 111), (1, .ref 0), (0, .float 4)] [] w2 P) : sx_RP (some ys) 9 246 261 [(3, .int (nI i)), (2, .ref 111), (1, .ref 0), (0, .float 4)] [] w P := by
  obtain ⟨s, hC, hR, hb⟩ := hL
  refine sx_RP.step (pc2 := 262) (ls2 := [(3, .int (nI i)), (2, .ref 111), (1, .ref 0), (0, .float 4)]) (st2 := [.ref 0]) (w3 := w) rfl rfl ?_
  refine sx_RP.step (pc2 := 263) (ls2 := [(3, .int (nI i)), (2, .ref 111), (1, .ref 0), (0, .float 4)]) (st2 := [.float 4, .ref 0]) (w3 := w) rfl rfl ?_
  refine sx_RP.step (pc2 := 264) (ls2 := [(3, .int (nI i)), (2, .ref 111), (1, .ref 0), (0, .float 4)]) (st2 := [.int (nI i), .float 4, .ref 0]) (w3 := w) rfl rfl ?_
  refine sx_RP.step (pc2 := 265) (ls2 := [(3, .int (nI i)), (2, .ref 111), (1, .ref 0), (0, .float 4)]) (st2 := [.int 1, .int (nI i), .float 4, .ref 0]) (w3 := w) rfl rfl ?_
  refine sx_RP.step (pc2 := 266) (ls2 := [(3, .int (nI i)), (2, .ref 111), (1, .ref 0), (0, .float 4)]) (st2 := [.int ((nI i) + 1), .float 4, .ref 0]) (w3 := w) rfl rfl ?_
  rw [show ((nI i) + 1 : Int32) = nI (i + 1) from nI_add i 1]
  refine sx_RP.scr (x := (i + 1)) rfl (by omega) hl (show _ = 267 from rfl) ?_
  refine sx_RP.step (pc2 := 268) (ls2 := [(3, .int (nI i)), (2, .ref 111), (1, .ref 0), (0, .float 4)]) (st2 := [.float 4, .int (ys.getD ((i + 1)) 0), .ref 0]) (w3 := w) rfl rfl ?_
  refine sx_RP.step (pc2 := 269) (ls2 := [(3, .int (nI i)), (2, .ref 111), (1, .ref 0), (0, .float 4)]) (st2 := [.int (nI i), .float 4, .int (ys.getD ((i + 1)) 0), .ref 0]) (w3 := w) rfl rfl ?_
  refine sx_RP.step (pc2 := 270) (ls2 := [(3, .int (nI i)), (2, .ref 111), (1, .ref 0), (0, .float 4)]) (st2 := [.int 2, .int (nI i), .float 4, .int (ys.getD ((i + 1)) 0), .ref 0]) (w3 := w) rfl rfl ?_
  refine sx_RP.step (pc2 := 271) (ls2 := [(3, .int (nI i)), (2, .ref 111), (1, .ref 0), (0, .float 4)]) (st2 := [.int ((nI i) + 2), .float 4, .int (ys.getD ((i + 1)) 0), .ref 0]) (w3 := w) rfl rfl ?_
  rw [show ((nI i) + 2 : Int32) = nI (i + 2) from nI_add i 2]
  refine sx_RP.scr (x := (i + 2)) rfl (by omega) hl (show _ = 272 from rfl) ?_
  refine sx_RP.br (p1 := 279) (l1 := [(3, .int (nI i)), (2, .ref 111), (1, .ref 0), (0, .float 4)]) (s1 := [.int (ys.getD ((i + 1)) 0), .ref 0]) (v1 := w) (p2 := 275) (l2 := [(3, .int (nI i)), (2, .ref 111), (1, .ref 0), (0, .float 4)]) (s2 := [.int (ys.getD ((i + 1)) 0), .ref 0]) (v2 := w) rfl rfl (fun q1 => ?_) (fun q1 => ?_)
  · replace q1 := of_decide_eq_true q1
    refine sx_RP.step (pc2 := 280) (ls2 := [(3, .int (nI i)), (2, .ref 111), (1, .ref 0), (0, .float 4)]) (st2 := [.int 0, .int (ys.getD ((i + 1)) 0), .ref 0]) (w3 := w) rfl rfl ?_
    refine sx_RP.callp (as2 := [.ref 0, .int (ys.getD ((i + 1)) 0), .int 0]) (rest2 := []) rfl rfl (sx_inv_v2 (mi := 246) (k := 18) (st := [.int 0, .int (ys.getD ((i + 1)) 0), .ref 0]) (w := w) rfl rfl hI.1.o0 rfl rfl rfl) rfl rfl rfl (sx_RP.byk (c10_0 (d := 1) hI hC (ys.getD ((i + 1)) 0))) (show _ = 283 from rfl) ?_
    rintro r4 w2 ⟨⟨rfl, hI3, ⟨hC4, hi5⟩⟩, hbk6⟩
    have hR7 := hR.hi hi5
    have hb8 := hbk6 hb
    show sx_RP _ _ _ _ _ [.int (walA s.1 (ys.getD ((i + 1)) 0) 0)] _ _
    refine sx_RP.step (pc2 := 284) (ls2 := [(3, .int (nI i)), (2, .ref 111), (1, .ref 0), (0, .float 4)]) (st2 := []) (w3 := w2) rfl rfl ?_
    refine sx_RP.step (pc2 := 285) (ls2 := [(3, .int (nI i)), (2, .ref 111), (1, .ref 0), (0, .float 4)]) (st2 := [.ref 111]) (w3 := w2) rfl rfl ?_
    refine sx_RP.step (pc2 := 286) (ls2 := [(3, .int (nI i)), (2, .ref 111), (1, .ref 0), (0, .float 4)]) (st2 := [.float 4, .ref 111]) (w3 := w2) rfl rfl ?_
    refine sx_RP.step (pc2 := 287) (ls2 := [(3, .int (nI i)), (2, .ref 111), (1, .ref 0), (0, .float 4)]) (st2 := [.int (nI i), .float 4, .ref 111]) (w3 := w2) rfl rfl ?_
    refine sx_RP.step (pc2 := 288) (ls2 := [(3, .int (nI i)), (2, .ref 111), (1, .ref 0), (0, .float 4)]) (st2 := [.int 1, .int (nI i), .float 4, .ref 111]) (w3 := w2) rfl rfl ?_
    refine sx_RP.step (pc2 := 289) (ls2 := [(3, .int (nI i)), (2, .ref 111), (1, .ref 0), (0, .float 4)]) (st2 := [.int ((nI i) + 1), .float 4, .ref 111]) (w3 := w2) rfl rfl ?_
    rw [show ((nI i) + 1 : Int32) = nI (i + 1) from nI_add i 1]
    refine sx_RP.scr (x := (i + 1)) rfl (by omega) hl (show _ = 290 from rfl) ?_
    refine sx_RP.step (pc2 := 291) (ls2 := [(3, .int (nI i)), (2, .ref 111), (1, .ref 0), (0, .float 4)]) (st2 := [.float 4, .int (ys.getD ((i + 1)) 0), .ref 111]) (w3 := w2) rfl rfl ?_
    refine sx_RP.step (pc2 := 292) (ls2 := [(3, .int (nI i)), (2, .ref 111), (1, .ref 0), (0, .float 4)]) (st2 := [.int (nI i), .float 4, .int (ys.getD ((i + 1)) 0), .ref 111]) (w3 := w2) rfl rfl ?_
    refine sx_RP.step (pc2 := 293) (ls2 := [(3, .int (nI i)), (2, .ref 111), (1, .ref 0), (0, .float 4)]) (st2 := [.int 2, .int (nI i), .float 4, .int (ys.getD ((i + 1)) 0), .ref 111]) (w3 := w2) rfl rfl ?_
    refine sx_RP.step (pc2 := 294) (ls2 := [(3, .int (nI i)), (2, .ref 111), (1, .ref 0), (0, .float 4)]) (st2 := [.int ((nI i) + 2), .float 4, .int (ys.getD ((i + 1)) 0), .ref 111]) (w3 := w2) rfl rfl ?_
    rw [show ((nI i) + 2 : Int32) = nI (i + 2) from nI_add i 2]
    refine sx_RP.scr (x := (i + 2)) rfl (by omega) hl (show _ = 295 from rfl) ?_
    refine sx_RP.br (p1 := 302) (l1 := [(3, .int (nI i)), (2, .ref 111), (1, .ref 0), (0, .float 4)]) (s1 := [.int (ys.getD ((i + 1)) 0), .ref 111]) (v1 := w2) rfl rfl (fun _ => ?_) (fun q => absurd q1 (of_decide_eq_false q))
    refine sx_RP.step (pc2 := 303) (ls2 := [(3, .int (nI i)), (2, .ref 111), (1, .ref 0), (0, .float 4)]) (st2 := [.int 0, .int (ys.getD ((i + 1)) 0), .ref 111]) (w3 := w2) rfl rfl ?_
    refine sx_RP.callp (as2 := [.ref 111, .int (ys.getD ((i + 1)) 0), .int 0]) (rest2 := []) rfl rfl (sx_inv_v2 (mi := 246) (k := 22) (st := [.int 0, .int (ys.getD ((i + 1)) 0), .ref 111]) (w := w2) rfl rfl hI3.1.o111 rfl rfl rfl) rfl rfl rfl (sx_RP.byk (r134_0 (d := 1) hI3 hR7 (ys.getD ((i + 1)) 0))) (show _ = 306 from rfl) ?_
    rintro r4 w9 ⟨⟨rfl, hI10, ⟨hR11, lo12⟩⟩, hbk13⟩
    have hL14 : LI w9 := ⟨_, hC4.lo hI3 lo12, hR11, hbk13 hb8⟩
    show sx_RP _ _ _ _ _ [.int (walA s.1 (ys.getD ((i + 1)) 0) 0)] _ _
    refine sx_RP.step (pc2 := 307) (ls2 := [(3, .int (nI i)), (2, .ref 111), (1, .ref 0), (0, .float 4)]) (st2 := []) (w3 := w9) rfl rfl ?_
    refine sx_RP.step (pc2 := 1539) (ls2 := [(3, .int (nI i)), (2, .ref 111), (1, .ref 0), (0, .float 4)]) (st2 := []) (w3 := w9) rfl rfl ?_
    exact kk w9 hI10 hL14
  · replace q1 := of_decide_eq_false q1
    refine sx_RP.step (pc2 := 276) (ls2 := [(3, .int (nI i)), (2, .ref 111), (1, .ref 0), (0, .float 4)]) (st2 := [.int 1, .int (ys.getD ((i + 1)) 0), .ref 0]) (w3 := w) rfl rfl ?_
    refine sx_RP.step (pc2 := 280) (ls2 := [(3, .int (nI i)), (2, .ref 111), (1, .ref 0), (0, .float 4)]) (st2 := [.int 1, .int (ys.getD ((i + 1)) 0), .ref 0]) (w3 := w) rfl rfl ?_
    refine sx_RP.callp (as2 := [.ref 0, .int (ys.getD ((i + 1)) 0), .int 1]) (rest2 := []) rfl rfl (sx_inv_v2 (mi := 246) (k := 18) (st := [.int 1, .int (ys.getD ((i + 1)) 0), .ref 0]) (w := w) rfl rfl hI.1.o0 rfl rfl rfl) rfl rfl rfl (sx_RP.byk (c10_1 (d := 1) hI hC (ys.getD ((i + 1)) 0))) (show _ = 283 from rfl) ?_
    rintro r4 w15 ⟨⟨rfl, hI16, ⟨hC17, hi18⟩⟩, hbk19⟩
    have hR20 := hR.hi hi18
    have hb21 := hbk19 hb
    show sx_RP _ _ _ _ _ [.int (walA s.1 (ys.getD ((i + 1)) 0) 1)] _ _
    refine sx_RP.step (pc2 := 284) (ls2 := [(3, .int (nI i)), (2, .ref 111), (1, .ref 0), (0, .float 4)]) (st2 := []) (w3 := w15) rfl rfl ?_
    refine sx_RP.step (pc2 := 285) (ls2 := [(3, .int (nI i)), (2, .ref 111), (1, .ref 0), (0, .float 4)]) (st2 := [.ref 111]) (w3 := w15) rfl rfl ?_
    refine sx_RP.step (pc2 := 286) (ls2 := [(3, .int (nI i)), (2, .ref 111), (1, .ref 0), (0, .float 4)]) (st2 := [.float 4, .ref 111]) (w3 := w15) rfl rfl ?_
    refine sx_RP.step (pc2 := 287) (ls2 := [(3, .int (nI i)), (2, .ref 111), (1, .ref 0), (0, .float 4)]) (st2 := [.int (nI i), .float 4, .ref 111]) (w3 := w15) rfl rfl ?_
    refine sx_RP.step (pc2 := 288) (ls2 := [(3, .int (nI i)), (2, .ref 111), (1, .ref 0), (0, .float 4)]) (st2 := [.int 1, .int (nI i), .float 4, .ref 111]) (w3 := w15) rfl rfl ?_
    refine sx_RP.step (pc2 := 289) (ls2 := [(3, .int (nI i)), (2, .ref 111), (1, .ref 0), (0, .float 4)]) (st2 := [.int ((nI i) + 1), .float 4, .ref 111]) (w3 := w15) rfl rfl ?_
    rw [show ((nI i) + 1 : Int32) = nI (i + 1) from nI_add i 1]
    refine sx_RP.scr (x := (i + 1)) rfl (by omega) hl (show _ = 290 from rfl) ?_
    refine sx_RP.step (pc2 := 291) (ls2 := [(3, .int (nI i)), (2, .ref 111), (1, .ref 0), (0, .float 4)]) (st2 := [.float 4, .int (ys.getD ((i + 1)) 0), .ref 111]) (w3 := w15) rfl rfl ?_
    refine sx_RP.step (pc2 := 292) (ls2 := [(3, .int (nI i)), (2, .ref 111), (1, .ref 0), (0, .float 4)]) (st2 := [.int (nI i), .float 4, .int (ys.getD ((i + 1)) 0), .ref 111]) (w3 := w15) rfl rfl ?_
    refine sx_RP.step (pc2 := 293) (ls2 := [(3, .int (nI i)), (2, .ref 111), (1, .ref 0), (0, .float 4)]) (st2 := [.int 2, .int (nI i), .float 4, .int (ys.getD ((i + 1)) 0), .ref 111]) (w3 := w15) rfl rfl ?_
    refine sx_RP.step (pc2 := 294) (ls2 := [(3, .int (nI i)), (2, .ref 111), (1, .ref 0), (0, .float 4)]) (st2 := [.int ((nI i) + 2), .float 4, .int (ys.getD ((i + 1)) 0), .ref 111]) (w3 := w15) rfl rfl ?_
    rw [show ((nI i) + 2 : Int32) = nI (i + 2) from nI_add i 2]
    refine sx_RP.scr (x := (i + 2)) rfl (by omega) hl (show _ = 295 from rfl) ?_
    refine sx_RP.br (p2 := 298) (l2 := [(3, .int (nI i)), (2, .ref 111), (1, .ref 0), (0, .float 4)]) (s2 := [.int (ys.getD ((i + 1)) 0), .ref 111]) (v2 := w15) rfl rfl (fun q => absurd (of_decide_eq_true q) q1) (fun _ => ?_)
    refine sx_RP.step (pc2 := 299) (ls2 := [(3, .int (nI i)), (2, .ref 111), (1, .ref 0), (0, .float 4)]) (st2 := [.int 1, .int (ys.getD ((i + 1)) 0), .ref 111]) (w3 := w15) rfl rfl ?_
    refine sx_RP.step (pc2 := 303) (ls2 := [(3, .int (nI i)), (2, .ref 111), (1, .ref 0), (0, .float 4)]) (st2 := [.int 1, .int (ys.getD ((i + 1)) 0), .ref 111]) (w3 := w15) rfl rfl ?_
    refine sx_RP.callp (as2 := [.ref 111, .int (ys.getD ((i + 1)) 0), .int 1]) (rest2 := []) rfl rfl (sx_inv_v2 (mi := 246) (k := 22) (st := [.int 1, .int (ys.getD ((i + 1)) 0), .ref 111]) (w := w15) rfl rfl hI16.1.o111 rfl rfl rfl) rfl rfl rfl (sx_RP.byk (r134_1 (d := 1) hI16 hR20 (ys.getD ((i + 1)) 0))) (show _ = 306 from rfl) ?_
    rintro r4 w22 ⟨⟨rfl, hI23, ⟨hR24, lo25⟩⟩, hbk26⟩
    have hL27 : LI w22 := ⟨_, hC17.lo hI16 lo25, hR24, hbk26 hb21⟩
    show sx_RP _ _ _ _ _ [.int (walA s.1 (ys.getD ((i + 1)) 0) 1)] _ _
    refine sx_RP.step (pc2 := 307) (ls2 := [(3, .int (nI i)), (2, .ref 111), (1, .ref 0), (0, .float 4)]) (st2 := []) (w3 := w22) rfl rfl ?_
    refine sx_RP.step (pc2 := 1539) (ls2 := [(3, .int (nI i)), (2, .ref 111), (1, .ref 0), (0, .float 4)]) (st2 := []) (w3 := w22) rfl rfl ?_
    exact kk w22 hI23 hL27
set_option maxRecDepth 20000 in
set_option maxHeartbeats 4000000 in
theorem lc2 {ys : List Int32} {i : Nat} {w : List sx_C} {P : Option Value → List sx_C → Prop} (hl : ys.length ≤ 3072) (hn : i + 6 ≤ ys.length) (hI : WI w) (hL : LI w) (kk : ∀ w2, WI w2 → LI w2 → sx_RP (some ys) 9 246 1539 [(3, .int (nI i)), (2, .ref 111), (1, .ref 0), (0, .float 4)] [] w2 P) : sx_RP (some ys) 9 246 310 [(3, .int (nI i)), (2, .ref 111), (1, .ref 0), (0, .float 4)] [] w P := by
  obtain ⟨s, hC, hR, hb⟩ := hL
  refine sx_RP.step (pc2 := 311) (ls2 := [(3, .int (nI i)), (2, .ref 111), (1, .ref 0), (0, .float 4)]) (st2 := [.ref 0]) (w3 := w) rfl rfl ?_
  refine sx_RP.step (pc2 := 312) (ls2 := [(3, .int (nI i)), (2, .ref 111), (1, .ref 0), (0, .float 4)]) (st2 := [.float 4, .ref 0]) (w3 := w) rfl rfl ?_
  refine sx_RP.step (pc2 := 313) (ls2 := [(3, .int (nI i)), (2, .ref 111), (1, .ref 0), (0, .float 4)]) (st2 := [.int (nI i), .float 4, .ref 0]) (w3 := w) rfl rfl ?_
  refine sx_RP.step (pc2 := 314) (ls2 := [(3, .int (nI i)), (2, .ref 111), (1, .ref 0), (0, .float 4)]) (st2 := [.int 1, .int (nI i), .float 4, .ref 0]) (w3 := w) rfl rfl ?_
  refine sx_RP.step (pc2 := 315) (ls2 := [(3, .int (nI i)), (2, .ref 111), (1, .ref 0), (0, .float 4)]) (st2 := [.int ((nI i) + 1), .float 4, .ref 0]) (w3 := w) rfl rfl ?_
  rw [show ((nI i) + 1 : Int32) = nI (i + 1) from nI_add i 1]
  refine sx_RP.scr (x := (i + 1)) rfl (by omega) hl (show _ = 316 from rfl) ?_
  refine sx_RP.step (pc2 := 317) (ls2 := [(3, .int (nI i)), (2, .ref 111), (1, .ref 0), (0, .float 4)]) (st2 := [.float 4, .int (ys.getD ((i + 1)) 0), .ref 0]) (w3 := w) rfl rfl ?_
  refine sx_RP.step (pc2 := 318) (ls2 := [(3, .int (nI i)), (2, .ref 111), (1, .ref 0), (0, .float 4)]) (st2 := [.int (nI i), .float 4, .int (ys.getD ((i + 1)) 0), .ref 0]) (w3 := w) rfl rfl ?_
  refine sx_RP.step (pc2 := 319) (ls2 := [(3, .int (nI i)), (2, .ref 111), (1, .ref 0), (0, .float 4)]) (st2 := [.int 2, .int (nI i), .float 4, .int (ys.getD ((i + 1)) 0), .ref 0]) (w3 := w) rfl rfl ?_
  refine sx_RP.step (pc2 := 320) (ls2 := [(3, .int (nI i)), (2, .ref 111), (1, .ref 0), (0, .float 4)]) (st2 := [.int ((nI i) + 2), .float 4, .int (ys.getD ((i + 1)) 0), .ref 0]) (w3 := w) rfl rfl ?_
  rw [show ((nI i) + 2 : Int32) = nI (i + 2) from nI_add i 2]
  refine sx_RP.scr (x := (i + 2)) rfl (by omega) hl (show _ = 321 from rfl) ?_
  refine sx_RP.callp (as2 := [.ref 0, .int (ys.getD ((i + 1)) 0), .int (ys.getD ((i + 2)) 0)]) (rest2 := []) rfl rfl (sx_inv_v2 (mi := 246) (k := 23) (st := [.int (ys.getD ((i + 2)) 0), .int (ys.getD ((i + 1)) 0), .ref 0]) (w := w) rfl rfl hI.1.o0 rfl rfl rfl) rfl rfl rfl (sx_RP.byk (c12 (d := 1) hI hC (ys.getD ((i + 1)) 0) (ys.getD ((i + 2)) 0))) (show _ = 324 from rfl) ?_
  rintro r4 w1 ⟨⟨⟨v3, rfl⟩, hI2, ⟨hC4, hi5⟩⟩, hbk6⟩
  have hR7 := hR.hi hi5
  have hb8 := hbk6 hb
  show sx_RP _ _ _ _ _ [.int v3] _ _
  refine sx_RP.step (pc2 := 325) (ls2 := [(3, .int (nI i)), (2, .ref 111), (1, .ref 0), (0, .float 4)]) (st2 := []) (w3 := w1) rfl rfl ?_
  refine sx_RP.step (pc2 := 326) (ls2 := [(3, .int (nI i)), (2, .ref 111), (1, .ref 0), (0, .float 4)]) (st2 := [.ref 111]) (w3 := w1) rfl rfl ?_
  refine sx_RP.step (pc2 := 327) (ls2 := [(3, .int (nI i)), (2, .ref 111), (1, .ref 0), (0, .float 4)]) (st2 := [.float 4, .ref 111]) (w3 := w1) rfl rfl ?_
  refine sx_RP.step (pc2 := 328) (ls2 := [(3, .int (nI i)), (2, .ref 111), (1, .ref 0), (0, .float 4)]) (st2 := [.int (nI i), .float 4, .ref 111]) (w3 := w1) rfl rfl ?_
  refine sx_RP.step (pc2 := 329) (ls2 := [(3, .int (nI i)), (2, .ref 111), (1, .ref 0), (0, .float 4)]) (st2 := [.int 1, .int (nI i), .float 4, .ref 111]) (w3 := w1) rfl rfl ?_
  refine sx_RP.step (pc2 := 330) (ls2 := [(3, .int (nI i)), (2, .ref 111), (1, .ref 0), (0, .float 4)]) (st2 := [.int ((nI i) + 1), .float 4, .ref 111]) (w3 := w1) rfl rfl ?_
  rw [show ((nI i) + 1 : Int32) = nI (i + 1) from nI_add i 1]
  refine sx_RP.scr (x := (i + 1)) rfl (by omega) hl (show _ = 331 from rfl) ?_
  refine sx_RP.step (pc2 := 332) (ls2 := [(3, .int (nI i)), (2, .ref 111), (1, .ref 0), (0, .float 4)]) (st2 := [.float 4, .int (ys.getD ((i + 1)) 0), .ref 111]) (w3 := w1) rfl rfl ?_
  refine sx_RP.step (pc2 := 333) (ls2 := [(3, .int (nI i)), (2, .ref 111), (1, .ref 0), (0, .float 4)]) (st2 := [.int (nI i), .float 4, .int (ys.getD ((i + 1)) 0), .ref 111]) (w3 := w1) rfl rfl ?_
  refine sx_RP.step (pc2 := 334) (ls2 := [(3, .int (nI i)), (2, .ref 111), (1, .ref 0), (0, .float 4)]) (st2 := [.int 2, .int (nI i), .float 4, .int (ys.getD ((i + 1)) 0), .ref 111]) (w3 := w1) rfl rfl ?_
  refine sx_RP.step (pc2 := 335) (ls2 := [(3, .int (nI i)), (2, .ref 111), (1, .ref 0), (0, .float 4)]) (st2 := [.int ((nI i) + 2), .float 4, .int (ys.getD ((i + 1)) 0), .ref 111]) (w3 := w1) rfl rfl ?_
  rw [show ((nI i) + 2 : Int32) = nI (i + 2) from nI_add i 2]
  refine sx_RP.scr (x := (i + 2)) rfl (by omega) hl (show _ = 336 from rfl) ?_
  refine sx_RP.callp (as2 := [.ref 111, .int (ys.getD ((i + 1)) 0), .int (ys.getD ((i + 2)) 0)]) (rest2 := []) rfl rfl (sx_inv_v2 (mi := 246) (k := 26) (st := [.int (ys.getD ((i + 2)) 0), .int (ys.getD ((i + 1)) 0), .ref 111]) (w := w1) rfl rfl hI2.1.o111 rfl rfl rfl) rfl rfl rfl (sx_RP.byk (r135 (d := 1) hI2 hR7 (ys.getD ((i + 1)) 0) (ys.getD ((i + 2)) 0))) (show _ = 339 from rfl) ?_
  rintro r4 w9 ⟨⟨⟨v11, rfl⟩, hI10, ⟨hR12, lo13⟩⟩, hbk14⟩
  have hL15 : LI w9 := ⟨_, hC4.lo hI2 lo13, hR12, hbk14 hb8⟩
  show sx_RP _ _ _ _ _ [.int v11] _ _
  refine sx_RP.step (pc2 := 340) (ls2 := [(3, .int (nI i)), (2, .ref 111), (1, .ref 0), (0, .float 4)]) (st2 := []) (w3 := w9) rfl rfl ?_
  refine sx_RP.step (pc2 := 1539) (ls2 := [(3, .int (nI i)), (2, .ref 111), (1, .ref 0), (0, .float 4)]) (st2 := []) (w3 := w9) rfl rfl ?_
  exact kk w9 hI10 hL15
set_option maxRecDepth 20000 in
set_option maxHeartbeats 4000000 in
theorem lc3 {ys : List Int32} {i : Nat} {w : List sx_C} {P : Option Value → List sx_C → Prop} (hl : ys.length ≤ 3072) (hn : i + 6 ≤ ys.length) (hI : WI w) (hL : LI w) (kk : ∀ w2, WI w2 → LI w2 → sx_RP (some ys) 9 246 1539 [(3, .int (nI i)), (2, .ref 111), (1, .ref 0), (0, .float 4)] [] w2 P) : sx_RP (some ys) 9 246 343 [(3, .int (nI i)), (2, .ref 111), (1, .ref 0), (0, .float 4)] [] w P := by
  obtain ⟨s, hC, hR, hb⟩ := hL
  refine sx_RP.step (pc2 := 344) (ls2 := [(3, .int (nI i)), (2, .ref 111), (1, .ref 0), (0, .float 4)]) (st2 := [.ref 0]) (w3 := w) rfl rfl ?_
  refine sx_RP.callp (as2 := [.ref 0]) (rest2 := []) rfl rfl (sx_inv_v2 (mi := 246) (k := 27) (st := [.ref 0]) (w := w) rfl rfl hI.1.o0 rfl rfl rfl) rfl rfl rfl (sx_RP.byk (c14 (d := 1) hI hC)) (show _ = 347 from rfl) ?_
  rintro r4 w1 ⟨⟨⟨v3, rfl⟩, hI2, ⟨hC4, hi5⟩⟩, hbk6⟩
  have hR7 := hR.hi hi5
  have hb8 := hbk6 hb
  show sx_RP _ _ _ _ _ [.long v3] _ _
  refine sx_RP.step (pc2 := 348) (ls2 := [(3, .int (nI i)), (2, .ref 111), (1, .ref 0), (0, .float 4)]) (st2 := []) (w3 := w1) rfl rfl ?_
  refine sx_RP.step (pc2 := 349) (ls2 := [(3, .int (nI i)), (2, .ref 111), (1, .ref 0), (0, .float 4)]) (st2 := [.ref 111]) (w3 := w1) rfl rfl ?_
  refine sx_RP.callp (as2 := [.ref 111]) (rest2 := []) rfl rfl (sx_inv_v2 (mi := 246) (k := 31) (st := [.ref 111]) (w := w1) rfl rfl hI2.1.o111 rfl rfl rfl) rfl rfl rfl (sx_RP.byk (r139 (d := 1) hI2 hR7)) (show _ = 352 from rfl) ?_
  rintro r4 w9 ⟨⟨⟨v11, rfl⟩, hI10, ⟨hR12, lo13⟩⟩, hbk14⟩
  have hL15 : LI w9 := ⟨_, hC4.lo hI2 lo13, hR12, hbk14 hb8⟩
  show sx_RP _ _ _ _ _ [.long v11] _ _
  refine sx_RP.step (pc2 := 353) (ls2 := [(3, .int (nI i)), (2, .ref 111), (1, .ref 0), (0, .float 4)]) (st2 := []) (w3 := w9) rfl rfl ?_
  refine sx_RP.step (pc2 := 1539) (ls2 := [(3, .int (nI i)), (2, .ref 111), (1, .ref 0), (0, .float 4)]) (st2 := []) (w3 := w9) rfl rfl ?_
  exact kk w9 hI10 hL15
set_option maxRecDepth 20000 in
set_option maxHeartbeats 4000000 in
theorem lc4 {ys : List Int32} {i : Nat} {w : List sx_C} {P : Option Value → List sx_C → Prop} (hl : ys.length ≤ 3072) (hn : i + 6 ≤ ys.length) (hI : WI w) (hL : LI w) (kk : ∀ w2, WI w2 → LI w2 → sx_RP (some ys) 9 246 1539 [(3, .int (nI i)), (2, .ref 111), (1, .ref 0), (0, .float 4)] [] w2 P) : sx_RP (some ys) 9 246 356 [(3, .int (nI i)), (2, .ref 111), (1, .ref 0), (0, .float 4)] [] w P := by
  obtain ⟨s, hC, hR, hb⟩ := hL
  refine sx_RP.step (pc2 := 357) (ls2 := [(3, .int (nI i)), (2, .ref 111), (1, .ref 0), (0, .float 4)]) (st2 := [.ref 0]) (w3 := w) rfl rfl ?_
  refine sx_RP.step (pc2 := 358) (ls2 := [(3, .int (nI i)), (2, .ref 111), (1, .ref 0), (0, .float 4)]) (st2 := [.float 4, .ref 0]) (w3 := w) rfl rfl ?_
  refine sx_RP.step (pc2 := 359) (ls2 := [(3, .int (nI i)), (2, .ref 111), (1, .ref 0), (0, .float 4)]) (st2 := [.int (nI i), .float 4, .ref 0]) (w3 := w) rfl rfl ?_
  refine sx_RP.step (pc2 := 360) (ls2 := [(3, .int (nI i)), (2, .ref 111), (1, .ref 0), (0, .float 4)]) (st2 := [.int 1, .int (nI i), .float 4, .ref 0]) (w3 := w) rfl rfl ?_
  refine sx_RP.step (pc2 := 361) (ls2 := [(3, .int (nI i)), (2, .ref 111), (1, .ref 0), (0, .float 4)]) (st2 := [.int ((nI i) + 1), .float 4, .ref 0]) (w3 := w) rfl rfl ?_
  rw [show ((nI i) + 1 : Int32) = nI (i + 1) from nI_add i 1]
  refine sx_RP.scr (x := (i + 1)) rfl (by omega) hl (show _ = 362 from rfl) ?_
  refine sx_RP.step (pc2 := 363) (ls2 := [(3, .int (nI i)), (2, .ref 111), (1, .ref 0), (0, .float 4)]) (st2 := [.float 4, .int (ys.getD ((i + 1)) 0), .ref 0]) (w3 := w) rfl rfl ?_
  refine sx_RP.step (pc2 := 364) (ls2 := [(3, .int (nI i)), (2, .ref 111), (1, .ref 0), (0, .float 4)]) (st2 := [.int (nI i), .float 4, .int (ys.getD ((i + 1)) 0), .ref 0]) (w3 := w) rfl rfl ?_
  refine sx_RP.step (pc2 := 365) (ls2 := [(3, .int (nI i)), (2, .ref 111), (1, .ref 0), (0, .float 4)]) (st2 := [.int 2, .int (nI i), .float 4, .int (ys.getD ((i + 1)) 0), .ref 0]) (w3 := w) rfl rfl ?_
  refine sx_RP.step (pc2 := 366) (ls2 := [(3, .int (nI i)), (2, .ref 111), (1, .ref 0), (0, .float 4)]) (st2 := [.int ((nI i) + 2), .float 4, .int (ys.getD ((i + 1)) 0), .ref 0]) (w3 := w) rfl rfl ?_
  rw [show ((nI i) + 2 : Int32) = nI (i + 2) from nI_add i 2]
  refine sx_RP.scr (x := (i + 2)) rfl (by omega) hl (show _ = 367 from rfl) ?_
  refine sx_RP.callp (as2 := [.ref 0, .int (ys.getD ((i + 1)) 0), .int (ys.getD ((i + 2)) 0)]) (rest2 := []) rfl rfl (sx_inv_v2 (mi := 246) (k := 32) (st := [.int (ys.getD ((i + 2)) 0), .int (ys.getD ((i + 1)) 0), .ref 0]) (w := w) rfl rfl hI.1.o0 rfl rfl rfl) rfl rfl rfl (sx_RP.byk (c15 (d := 1) hI hC (ys.getD ((i + 1)) 0) (ys.getD ((i + 2)) 0))) (show _ = 370 from rfl) ?_
  rintro r4 w1 ⟨⟨⟨v3, rfl⟩, hI2, ⟨hC4, hi5⟩⟩, hbk6⟩
  have hR7 := hR.hi hi5
  have hb8 := hbk6 hb
  show sx_RP _ _ _ _ _ [.int v3] _ _
  refine sx_RP.step (pc2 := 371) (ls2 := [(3, .int (nI i)), (2, .ref 111), (1, .ref 0), (0, .float 4)]) (st2 := []) (w3 := w1) rfl rfl ?_
  refine sx_RP.step (pc2 := 372) (ls2 := [(3, .int (nI i)), (2, .ref 111), (1, .ref 0), (0, .float 4)]) (st2 := [.ref 111]) (w3 := w1) rfl rfl ?_
  refine sx_RP.step (pc2 := 373) (ls2 := [(3, .int (nI i)), (2, .ref 111), (1, .ref 0), (0, .float 4)]) (st2 := [.float 4, .ref 111]) (w3 := w1) rfl rfl ?_
  refine sx_RP.step (pc2 := 374) (ls2 := [(3, .int (nI i)), (2, .ref 111), (1, .ref 0), (0, .float 4)]) (st2 := [.int (nI i), .float 4, .ref 111]) (w3 := w1) rfl rfl ?_
  refine sx_RP.step (pc2 := 375) (ls2 := [(3, .int (nI i)), (2, .ref 111), (1, .ref 0), (0, .float 4)]) (st2 := [.int 1, .int (nI i), .float 4, .ref 111]) (w3 := w1) rfl rfl ?_
  refine sx_RP.step (pc2 := 376) (ls2 := [(3, .int (nI i)), (2, .ref 111), (1, .ref 0), (0, .float 4)]) (st2 := [.int ((nI i) + 1), .float 4, .ref 111]) (w3 := w1) rfl rfl ?_
  rw [show ((nI i) + 1 : Int32) = nI (i + 1) from nI_add i 1]
  refine sx_RP.scr (x := (i + 1)) rfl (by omega) hl (show _ = 377 from rfl) ?_
  refine sx_RP.step (pc2 := 378) (ls2 := [(3, .int (nI i)), (2, .ref 111), (1, .ref 0), (0, .float 4)]) (st2 := [.float 4, .int (ys.getD ((i + 1)) 0), .ref 111]) (w3 := w1) rfl rfl ?_
  refine sx_RP.step (pc2 := 379) (ls2 := [(3, .int (nI i)), (2, .ref 111), (1, .ref 0), (0, .float 4)]) (st2 := [.int (nI i), .float 4, .int (ys.getD ((i + 1)) 0), .ref 111]) (w3 := w1) rfl rfl ?_
  refine sx_RP.step (pc2 := 380) (ls2 := [(3, .int (nI i)), (2, .ref 111), (1, .ref 0), (0, .float 4)]) (st2 := [.int 2, .int (nI i), .float 4, .int (ys.getD ((i + 1)) 0), .ref 111]) (w3 := w1) rfl rfl ?_
  refine sx_RP.step (pc2 := 381) (ls2 := [(3, .int (nI i)), (2, .ref 111), (1, .ref 0), (0, .float 4)]) (st2 := [.int ((nI i) + 2), .float 4, .int (ys.getD ((i + 1)) 0), .ref 111]) (w3 := w1) rfl rfl ?_
  rw [show ((nI i) + 2 : Int32) = nI (i + 2) from nI_add i 2]
  refine sx_RP.scr (x := (i + 2)) rfl (by omega) hl (show _ = 382 from rfl) ?_
  refine sx_RP.callp (as2 := [.ref 111, .int (ys.getD ((i + 1)) 0), .int (ys.getD ((i + 2)) 0)]) (rest2 := []) rfl rfl (sx_inv_v2 (mi := 246) (k := 35) (st := [.int (ys.getD ((i + 2)) 0), .int (ys.getD ((i + 1)) 0), .ref 111]) (w := w1) rfl rfl hI2.1.o111 rfl rfl rfl) rfl rfl rfl (sx_RP.byk (r140 (d := 1) hI2 hR7 (ys.getD ((i + 1)) 0) (ys.getD ((i + 2)) 0))) (show _ = 385 from rfl) ?_
  rintro r4 w9 ⟨⟨⟨v11, rfl⟩, hI10, ⟨hR12, lo13⟩⟩, hbk14⟩
  have hL15 : LI w9 := ⟨_, hC4.lo hI2 lo13, hR12, hbk14 hb8⟩
  show sx_RP _ _ _ _ _ [.int v11] _ _
  refine sx_RP.step (pc2 := 386) (ls2 := [(3, .int (nI i)), (2, .ref 111), (1, .ref 0), (0, .float 4)]) (st2 := []) (w3 := w9) rfl rfl ?_
  refine sx_RP.step (pc2 := 1539) (ls2 := [(3, .int (nI i)), (2, .ref 111), (1, .ref 0), (0, .float 4)]) (st2 := []) (w3 := w9) rfl rfl ?_
  exact kk w9 hI10 hL15
set_option maxRecDepth 20000 in
set_option maxHeartbeats 4000000 in
theorem lc5 {ys : List Int32} {i : Nat} {w : List sx_C} {P : Option Value → List sx_C → Prop} (hl : ys.length ≤ 3072) (hn : i + 6 ≤ ys.length) (hI : WI w) (hL : LI w) (kk : ∀ w2, WI w2 → LI w2 → sx_RP (some ys) 9 246 1539 [(3, .int (nI i)), (2, .ref 111), (1, .ref 0), (0, .float 4)] [] w2 P) : sx_RP (some ys) 9 246 389 [(3, .int (nI i)), (2, .ref 111), (1, .ref 0), (0, .float 4)] [] w P := by
  obtain ⟨s, hC, hR, hb⟩ := hL
  refine sx_RP.step (pc2 := 390) (ls2 := [(3, .int (nI i)), (2, .ref 111), (1, .ref 0), (0, .float 4)]) (st2 := [.ref 0]) (w3 := w) rfl rfl ?_
  refine sx_RP.step (pc2 := 391) (ls2 := [(3, .int (nI i)), (2, .ref 111), (1, .ref 0), (0, .float 4)]) (st2 := [.float 4, .ref 0]) (w3 := w) rfl rfl ?_
  refine sx_RP.step (pc2 := 392) (ls2 := [(3, .int (nI i)), (2, .ref 111), (1, .ref 0), (0, .float 4)]) (st2 := [.int (nI i), .float 4, .ref 0]) (w3 := w) rfl rfl ?_
  refine sx_RP.step (pc2 := 393) (ls2 := [(3, .int (nI i)), (2, .ref 111), (1, .ref 0), (0, .float 4)]) (st2 := [.int 1, .int (nI i), .float 4, .ref 0]) (w3 := w) rfl rfl ?_
  refine sx_RP.step (pc2 := 394) (ls2 := [(3, .int (nI i)), (2, .ref 111), (1, .ref 0), (0, .float 4)]) (st2 := [.int ((nI i) + 1), .float 4, .ref 0]) (w3 := w) rfl rfl ?_
  rw [show ((nI i) + 1 : Int32) = nI (i + 1) from nI_add i 1]
  refine sx_RP.scr (x := (i + 1)) rfl (by omega) hl (show _ = 395 from rfl) ?_
  refine sx_RP.step (pc2 := 396) (ls2 := [(3, .int (nI i)), (2, .ref 111), (1, .ref 0), (0, .float 4)]) (st2 := [.float 4, .int (ys.getD ((i + 1)) 0), .ref 0]) (w3 := w) rfl rfl ?_
  refine sx_RP.step (pc2 := 397) (ls2 := [(3, .int (nI i)), (2, .ref 111), (1, .ref 0), (0, .float 4)]) (st2 := [.int (nI i), .float 4, .int (ys.getD ((i + 1)) 0), .ref 0]) (w3 := w) rfl rfl ?_
  refine sx_RP.step (pc2 := 398) (ls2 := [(3, .int (nI i)), (2, .ref 111), (1, .ref 0), (0, .float 4)]) (st2 := [.int 2, .int (nI i), .float 4, .int (ys.getD ((i + 1)) 0), .ref 0]) (w3 := w) rfl rfl ?_
  refine sx_RP.step (pc2 := 399) (ls2 := [(3, .int (nI i)), (2, .ref 111), (1, .ref 0), (0, .float 4)]) (st2 := [.int ((nI i) + 2), .float 4, .int (ys.getD ((i + 1)) 0), .ref 0]) (w3 := w) rfl rfl ?_
  rw [show ((nI i) + 2 : Int32) = nI (i + 2) from nI_add i 2]
  refine sx_RP.scr (x := (i + 2)) rfl (by omega) hl (show _ = 400 from rfl) ?_
  refine sx_RP.step (pc2 := 401) (ls2 := [(3, .int (nI i)), (2, .ref 111), (1, .ref 0), (0, .float 4)]) (st2 := [.float 4, .int (ys.getD ((i + 2)) 0), .int (ys.getD ((i + 1)) 0), .ref 0]) (w3 := w) rfl rfl ?_
  refine sx_RP.step (pc2 := 402) (ls2 := [(3, .int (nI i)), (2, .ref 111), (1, .ref 0), (0, .float 4)]) (st2 := [.int (nI i), .float 4, .int (ys.getD ((i + 2)) 0), .int (ys.getD ((i + 1)) 0), .ref 0]) (w3 := w) rfl rfl ?_
  refine sx_RP.step (pc2 := 403) (ls2 := [(3, .int (nI i)), (2, .ref 111), (1, .ref 0), (0, .float 4)]) (st2 := [.int 3, .int (nI i), .float 4, .int (ys.getD ((i + 2)) 0), .int (ys.getD ((i + 1)) 0), .ref 0]) (w3 := w) rfl rfl ?_
  refine sx_RP.step (pc2 := 404) (ls2 := [(3, .int (nI i)), (2, .ref 111), (1, .ref 0), (0, .float 4)]) (st2 := [.int ((nI i) + 3), .float 4, .int (ys.getD ((i + 2)) 0), .int (ys.getD ((i + 1)) 0), .ref 0]) (w3 := w) rfl rfl ?_
  rw [show ((nI i) + 3 : Int32) = nI (i + 3) from nI_add i 3]
  refine sx_RP.scr (x := (i + 3)) rfl (by omega) hl (show _ = 405 from rfl) ?_
  refine sx_RP.step (pc2 := 406) (ls2 := [(3, .int (nI i)), (2, .ref 111), (1, .ref 0), (0, .float 4)]) (st2 := [.float 4, .int (ys.getD ((i + 3)) 0), .int (ys.getD ((i + 2)) 0), .int (ys.getD ((i + 1)) 0), .ref 0]) (w3 := w) rfl rfl ?_
  refine sx_RP.step (pc2 := 407) (ls2 := [(3, .int (nI i)), (2, .ref 111), (1, .ref 0), (0, .float 4)]) (st2 := [.int (nI i), .float 4, .int (ys.getD ((i + 3)) 0), .int (ys.getD ((i + 2)) 0), .int (ys.getD ((i + 1)) 0), .ref 0]) (w3 := w) rfl rfl ?_
  refine sx_RP.step (pc2 := 408) (ls2 := [(3, .int (nI i)), (2, .ref 111), (1, .ref 0), (0, .float 4)]) (st2 := [.int 4, .int (nI i), .float 4, .int (ys.getD ((i + 3)) 0), .int (ys.getD ((i + 2)) 0), .int (ys.getD ((i + 1)) 0), .ref 0]) (w3 := w) rfl rfl ?_
  refine sx_RP.step (pc2 := 409) (ls2 := [(3, .int (nI i)), (2, .ref 111), (1, .ref 0), (0, .float 4)]) (st2 := [.int ((nI i) + 4), .float 4, .int (ys.getD ((i + 3)) 0), .int (ys.getD ((i + 2)) 0), .int (ys.getD ((i + 1)) 0), .ref 0]) (w3 := w) rfl rfl ?_
  rw [show ((nI i) + 4 : Int32) = nI (i + 4) from nI_add i 4]
  refine sx_RP.scr (x := (i + 4)) rfl (by omega) hl (show _ = 410 from rfl) ?_
  refine sx_RP.callp (as2 := [.ref 0, .int (ys.getD ((i + 1)) 0), .int (ys.getD ((i + 2)) 0), .int (ys.getD ((i + 3)) 0), .int (ys.getD ((i + 4)) 0)]) (rest2 := []) rfl rfl (sx_inv_v2 (mi := 246) (k := 36) (st := [.int (ys.getD ((i + 4)) 0), .int (ys.getD ((i + 3)) 0), .int (ys.getD ((i + 2)) 0), .int (ys.getD ((i + 1)) 0), .ref 0]) (w := w) rfl rfl hI.1.o0 rfl rfl rfl) rfl rfl rfl (sx_RP.byk (c21 (d := 1) hI hC (ys.getD ((i + 1)) 0) (ys.getD ((i + 2)) 0) (ys.getD ((i + 3)) 0) (ys.getD ((i + 4)) 0))) (show _ = 413 from rfl) ?_
  rintro r4 w1 ⟨⟨rfl, hI2, ⟨hC3, hi4⟩⟩, hbk5⟩
  have hR6 := hR.hi hi4
  have hb7 := hbk5 hb
  show sx_RP _ _ _ _ _ [.int (gal2A s.1 (ys.getD ((i + 1)) 0) (ys.getD ((i + 2)) 0) (ys.getD ((i + 3)) 0) (ys.getD ((i + 4)) 0))] _ _
  refine sx_RP.step (pc2 := 414) (ls2 := [(3, .int (nI i)), (2, .ref 111), (1, .ref 0), (0, .float 4)]) (st2 := []) (w3 := w1) rfl rfl ?_
  refine sx_RP.step (pc2 := 415) (ls2 := [(3, .int (nI i)), (2, .ref 111), (1, .ref 0), (0, .float 4)]) (st2 := [.ref 111]) (w3 := w1) rfl rfl ?_
  refine sx_RP.step (pc2 := 416) (ls2 := [(3, .int (nI i)), (2, .ref 111), (1, .ref 0), (0, .float 4)]) (st2 := [.float 4, .ref 111]) (w3 := w1) rfl rfl ?_
  refine sx_RP.step (pc2 := 417) (ls2 := [(3, .int (nI i)), (2, .ref 111), (1, .ref 0), (0, .float 4)]) (st2 := [.int (nI i), .float 4, .ref 111]) (w3 := w1) rfl rfl ?_
  refine sx_RP.step (pc2 := 418) (ls2 := [(3, .int (nI i)), (2, .ref 111), (1, .ref 0), (0, .float 4)]) (st2 := [.int 1, .int (nI i), .float 4, .ref 111]) (w3 := w1) rfl rfl ?_
  refine sx_RP.step (pc2 := 419) (ls2 := [(3, .int (nI i)), (2, .ref 111), (1, .ref 0), (0, .float 4)]) (st2 := [.int ((nI i) + 1), .float 4, .ref 111]) (w3 := w1) rfl rfl ?_
  rw [show ((nI i) + 1 : Int32) = nI (i + 1) from nI_add i 1]
  refine sx_RP.scr (x := (i + 1)) rfl (by omega) hl (show _ = 420 from rfl) ?_
  refine sx_RP.step (pc2 := 421) (ls2 := [(3, .int (nI i)), (2, .ref 111), (1, .ref 0), (0, .float 4)]) (st2 := [.float 4, .int (ys.getD ((i + 1)) 0), .ref 111]) (w3 := w1) rfl rfl ?_
  refine sx_RP.step (pc2 := 422) (ls2 := [(3, .int (nI i)), (2, .ref 111), (1, .ref 0), (0, .float 4)]) (st2 := [.int (nI i), .float 4, .int (ys.getD ((i + 1)) 0), .ref 111]) (w3 := w1) rfl rfl ?_
  refine sx_RP.step (pc2 := 423) (ls2 := [(3, .int (nI i)), (2, .ref 111), (1, .ref 0), (0, .float 4)]) (st2 := [.int 2, .int (nI i), .float 4, .int (ys.getD ((i + 1)) 0), .ref 111]) (w3 := w1) rfl rfl ?_
  refine sx_RP.step (pc2 := 424) (ls2 := [(3, .int (nI i)), (2, .ref 111), (1, .ref 0), (0, .float 4)]) (st2 := [.int ((nI i) + 2), .float 4, .int (ys.getD ((i + 1)) 0), .ref 111]) (w3 := w1) rfl rfl ?_
  rw [show ((nI i) + 2 : Int32) = nI (i + 2) from nI_add i 2]
  refine sx_RP.scr (x := (i + 2)) rfl (by omega) hl (show _ = 425 from rfl) ?_
  refine sx_RP.step (pc2 := 426) (ls2 := [(3, .int (nI i)), (2, .ref 111), (1, .ref 0), (0, .float 4)]) (st2 := [.float 4, .int (ys.getD ((i + 2)) 0), .int (ys.getD ((i + 1)) 0), .ref 111]) (w3 := w1) rfl rfl ?_
  refine sx_RP.step (pc2 := 427) (ls2 := [(3, .int (nI i)), (2, .ref 111), (1, .ref 0), (0, .float 4)]) (st2 := [.int (nI i), .float 4, .int (ys.getD ((i + 2)) 0), .int (ys.getD ((i + 1)) 0), .ref 111]) (w3 := w1) rfl rfl ?_
  refine sx_RP.step (pc2 := 428) (ls2 := [(3, .int (nI i)), (2, .ref 111), (1, .ref 0), (0, .float 4)]) (st2 := [.int 3, .int (nI i), .float 4, .int (ys.getD ((i + 2)) 0), .int (ys.getD ((i + 1)) 0), .ref 111]) (w3 := w1) rfl rfl ?_
  refine sx_RP.step (pc2 := 429) (ls2 := [(3, .int (nI i)), (2, .ref 111), (1, .ref 0), (0, .float 4)]) (st2 := [.int ((nI i) + 3), .float 4, .int (ys.getD ((i + 2)) 0), .int (ys.getD ((i + 1)) 0), .ref 111]) (w3 := w1) rfl rfl ?_
  rw [show ((nI i) + 3 : Int32) = nI (i + 3) from nI_add i 3]
  refine sx_RP.scr (x := (i + 3)) rfl (by omega) hl (show _ = 430 from rfl) ?_
  refine sx_RP.step (pc2 := 431) (ls2 := [(3, .int (nI i)), (2, .ref 111), (1, .ref 0), (0, .float 4)]) (st2 := [.float 4, .int (ys.getD ((i + 3)) 0), .int (ys.getD ((i + 2)) 0), .int (ys.getD ((i + 1)) 0), .ref 111]) (w3 := w1) rfl rfl ?_
  refine sx_RP.step (pc2 := 432) (ls2 := [(3, .int (nI i)), (2, .ref 111), (1, .ref 0), (0, .float 4)]) (st2 := [.int (nI i), .float 4, .int (ys.getD ((i + 3)) 0), .int (ys.getD ((i + 2)) 0), .int (ys.getD ((i + 1)) 0), .ref 111]) (w3 := w1) rfl rfl ?_
  refine sx_RP.step (pc2 := 433) (ls2 := [(3, .int (nI i)), (2, .ref 111), (1, .ref 0), (0, .float 4)]) (st2 := [.int 4, .int (nI i), .float 4, .int (ys.getD ((i + 3)) 0), .int (ys.getD ((i + 2)) 0), .int (ys.getD ((i + 1)) 0), .ref 111]) (w3 := w1) rfl rfl ?_
  refine sx_RP.step (pc2 := 434) (ls2 := [(3, .int (nI i)), (2, .ref 111), (1, .ref 0), (0, .float 4)]) (st2 := [.int ((nI i) + 4), .float 4, .int (ys.getD ((i + 3)) 0), .int (ys.getD ((i + 2)) 0), .int (ys.getD ((i + 1)) 0), .ref 111]) (w3 := w1) rfl rfl ?_
  rw [show ((nI i) + 4 : Int32) = nI (i + 4) from nI_add i 4]
  refine sx_RP.scr (x := (i + 4)) rfl (by omega) hl (show _ = 435 from rfl) ?_
  refine sx_RP.callp (as2 := [.ref 111, .int (ys.getD ((i + 1)) 0), .int (ys.getD ((i + 2)) 0), .int (ys.getD ((i + 3)) 0), .int (ys.getD ((i + 4)) 0)]) (rest2 := []) rfl rfl (sx_inv_v2 (mi := 246) (k := 40) (st := [.int (ys.getD ((i + 4)) 0), .int (ys.getD ((i + 3)) 0), .int (ys.getD ((i + 2)) 0), .int (ys.getD ((i + 1)) 0), .ref 111]) (w := w1) rfl rfl hI2.1.o111 rfl rfl rfl) rfl rfl rfl (sx_RP.byk (r150 (d := 1) hI2 hR6 (ys.getD ((i + 1)) 0) (ys.getD ((i + 2)) 0) (ys.getD ((i + 3)) 0) (ys.getD ((i + 4)) 0))) (show _ = 438 from rfl) ?_
  rintro r4 w8 ⟨⟨rfl, hI9, ⟨hR10, lo11⟩⟩, hbk12⟩
  have hL13 : LI w8 := ⟨_, hC3.lo hI2 lo11, hR10, hbk12 hb7⟩
  show sx_RP _ _ _ _ _ [.int (gal2A s.1 (ys.getD ((i + 1)) 0) (ys.getD ((i + 2)) 0) (ys.getD ((i + 3)) 0) (ys.getD ((i + 4)) 0))] _ _
  refine sx_RP.step (pc2 := 439) (ls2 := [(3, .int (nI i)), (2, .ref 111), (1, .ref 0), (0, .float 4)]) (st2 := []) (w3 := w8) rfl rfl ?_
  refine sx_RP.step (pc2 := 1539) (ls2 := [(3, .int (nI i)), (2, .ref 111), (1, .ref 0), (0, .float 4)]) (st2 := []) (w3 := w8) rfl rfl ?_
  exact kk w8 hI9 hL13
set_option maxRecDepth 20000 in
set_option maxHeartbeats 4000000 in
theorem lc6 {ys : List Int32} {i : Nat} {w : List sx_C} {P : Option Value → List sx_C → Prop} (hl : ys.length ≤ 3072) (hn : i + 6 ≤ ys.length) (hI : WI w) (hL : LI w) (kk : ∀ w2, WI w2 → LI w2 → sx_RP (some ys) 9 246 1539 [(3, .int (nI i)), (2, .ref 111), (1, .ref 0), (0, .float 4)] [] w2 P) : sx_RP (some ys) 9 246 442 [(3, .int (nI i)), (2, .ref 111), (1, .ref 0), (0, .float 4)] [] w P := by
  obtain ⟨s, hC, hR, hb⟩ := hL
  refine sx_RP.step (pc2 := 443) (ls2 := [(3, .int (nI i)), (2, .ref 111), (1, .ref 0), (0, .float 4)]) (st2 := [.ref 0]) (w3 := w) rfl rfl ?_
  refine sx_RP.step (pc2 := 444) (ls2 := [(3, .int (nI i)), (2, .ref 111), (1, .ref 0), (0, .float 4)]) (st2 := [.float 4, .ref 0]) (w3 := w) rfl rfl ?_
  refine sx_RP.step (pc2 := 445) (ls2 := [(3, .int (nI i)), (2, .ref 111), (1, .ref 0), (0, .float 4)]) (st2 := [.int (nI i), .float 4, .ref 0]) (w3 := w) rfl rfl ?_
  refine sx_RP.step (pc2 := 446) (ls2 := [(3, .int (nI i)), (2, .ref 111), (1, .ref 0), (0, .float 4)]) (st2 := [.int 1, .int (nI i), .float 4, .ref 0]) (w3 := w) rfl rfl ?_
  refine sx_RP.step (pc2 := 447) (ls2 := [(3, .int (nI i)), (2, .ref 111), (1, .ref 0), (0, .float 4)]) (st2 := [.int ((nI i) + 1), .float 4, .ref 0]) (w3 := w) rfl rfl ?_
  rw [show ((nI i) + 1 : Int32) = nI (i + 1) from nI_add i 1]
  refine sx_RP.scr (x := (i + 1)) rfl (by omega) hl (show _ = 448 from rfl) ?_
  refine sx_RP.step (pc2 := 449) (ls2 := [(3, .int (nI i)), (2, .ref 111), (1, .ref 0), (0, .float 4)]) (st2 := [.float 4, .int (ys.getD ((i + 1)) 0), .ref 0]) (w3 := w) rfl rfl ?_
  refine sx_RP.step (pc2 := 450) (ls2 := [(3, .int (nI i)), (2, .ref 111), (1, .ref 0), (0, .float 4)]) (st2 := [.int (nI i), .float 4, .int (ys.getD ((i + 1)) 0), .ref 0]) (w3 := w) rfl rfl ?_
  refine sx_RP.step (pc2 := 451) (ls2 := [(3, .int (nI i)), (2, .ref 111), (1, .ref 0), (0, .float 4)]) (st2 := [.int 2, .int (nI i), .float 4, .int (ys.getD ((i + 1)) 0), .ref 0]) (w3 := w) rfl rfl ?_
  refine sx_RP.step (pc2 := 452) (ls2 := [(3, .int (nI i)), (2, .ref 111), (1, .ref 0), (0, .float 4)]) (st2 := [.int ((nI i) + 2), .float 4, .int (ys.getD ((i + 1)) 0), .ref 0]) (w3 := w) rfl rfl ?_
  rw [show ((nI i) + 2 : Int32) = nI (i + 2) from nI_add i 2]
  refine sx_RP.scr (x := (i + 2)) rfl (by omega) hl (show _ = 453 from rfl) ?_
  refine sx_RP.callp (as2 := [.ref 0, .int (ys.getD ((i + 1)) 0), .int (ys.getD ((i + 2)) 0)]) (rest2 := []) rfl rfl (sx_inv_v2 (mi := 246) (k := 41) (st := [.int (ys.getD ((i + 2)) 0), .int (ys.getD ((i + 1)) 0), .ref 0]) (w := w) rfl rfl hI.1.o0 rfl rfl rfl) rfl rfl rfl (sx_RP.byk (c26 (d := 1) hI hC (ys.getD ((i + 1)) 0) (ys.getD ((i + 2)) 0))) (show _ = 456 from rfl) ?_
  rintro r4 w1 ⟨⟨⟨v3, rfl⟩, hI2, ⟨hC4, hi5⟩⟩, hbk6⟩
  have hR7 := hR.hi hi5
  have hb8 := hbk6 hb
  show sx_RP _ _ _ _ _ [.int v3] _ _
  refine sx_RP.step (pc2 := 457) (ls2 := [(3, .int (nI i)), (2, .ref 111), (1, .ref 0), (0, .float 4)]) (st2 := []) (w3 := w1) rfl rfl ?_
  refine sx_RP.step (pc2 := 458) (ls2 := [(3, .int (nI i)), (2, .ref 111), (1, .ref 0), (0, .float 4)]) (st2 := [.ref 111]) (w3 := w1) rfl rfl ?_
  refine sx_RP.step (pc2 := 459) (ls2 := [(3, .int (nI i)), (2, .ref 111), (1, .ref 0), (0, .float 4)]) (st2 := [.float 4, .ref 111]) (w3 := w1) rfl rfl ?_
  refine sx_RP.step (pc2 := 460) (ls2 := [(3, .int (nI i)), (2, .ref 111), (1, .ref 0), (0, .float 4)]) (st2 := [.int (nI i), .float 4, .ref 111]) (w3 := w1) rfl rfl ?_
  refine sx_RP.step (pc2 := 461) (ls2 := [(3, .int (nI i)), (2, .ref 111), (1, .ref 0), (0, .float 4)]) (st2 := [.int 1, .int (nI i), .float 4, .ref 111]) (w3 := w1) rfl rfl ?_
  refine sx_RP.step (pc2 := 462) (ls2 := [(3, .int (nI i)), (2, .ref 111), (1, .ref 0), (0, .float 4)]) (st2 := [.int ((nI i) + 1), .float 4, .ref 111]) (w3 := w1) rfl rfl ?_
  rw [show ((nI i) + 1 : Int32) = nI (i + 1) from nI_add i 1]
  refine sx_RP.scr (x := (i + 1)) rfl (by omega) hl (show _ = 463 from rfl) ?_
  refine sx_RP.step (pc2 := 464) (ls2 := [(3, .int (nI i)), (2, .ref 111), (1, .ref 0), (0, .float 4)]) (st2 := [.float 4, .int (ys.getD ((i + 1)) 0), .ref 111]) (w3 := w1) rfl rfl ?_
  refine sx_RP.step (pc2 := 465) (ls2 := [(3, .int (nI i)), (2, .ref 111), (1, .ref 0), (0, .float 4)]) (st2 := [.int (nI i), .float 4, .int (ys.getD ((i + 1)) 0), .ref 111]) (w3 := w1) rfl rfl ?_
  refine sx_RP.step (pc2 := 466) (ls2 := [(3, .int (nI i)), (2, .ref 111), (1, .ref 0), (0, .float 4)]) (st2 := [.int 2, .int (nI i), .float 4, .int (ys.getD ((i + 1)) 0), .ref 111]) (w3 := w1) rfl rfl ?_
  refine sx_RP.step (pc2 := 467) (ls2 := [(3, .int (nI i)), (2, .ref 111), (1, .ref 0), (0, .float 4)]) (st2 := [.int ((nI i) + 2), .float 4, .int (ys.getD ((i + 1)) 0), .ref 111]) (w3 := w1) rfl rfl ?_
  rw [show ((nI i) + 2 : Int32) = nI (i + 2) from nI_add i 2]
  refine sx_RP.scr (x := (i + 2)) rfl (by omega) hl (show _ = 468 from rfl) ?_
  refine sx_RP.callp (as2 := [.ref 111, .int (ys.getD ((i + 1)) 0), .int (ys.getD ((i + 2)) 0)]) (rest2 := []) rfl rfl (sx_inv_v2 (mi := 246) (k := 44) (st := [.int (ys.getD ((i + 2)) 0), .int (ys.getD ((i + 1)) 0), .ref 111]) (w := w1) rfl rfl hI2.1.o111 rfl rfl rfl) rfl rfl rfl (sx_RP.byk (r155 (d := 1) hI2 hR7 (ys.getD ((i + 1)) 0) (ys.getD ((i + 2)) 0))) (show _ = 471 from rfl) ?_
  rintro r4 w9 ⟨⟨⟨v11, rfl⟩, hI10, ⟨hR12, lo13⟩⟩, hbk14⟩
  have hL15 : LI w9 := ⟨_, hC4.lo hI2 lo13, hR12, hbk14 hb8⟩
  show sx_RP _ _ _ _ _ [.int v11] _ _
  refine sx_RP.step (pc2 := 472) (ls2 := [(3, .int (nI i)), (2, .ref 111), (1, .ref 0), (0, .float 4)]) (st2 := []) (w3 := w9) rfl rfl ?_
  refine sx_RP.step (pc2 := 1539) (ls2 := [(3, .int (nI i)), (2, .ref 111), (1, .ref 0), (0, .float 4)]) (st2 := []) (w3 := w9) rfl rfl ?_
  exact kk w9 hI10 hL15
set_option maxRecDepth 20000 in
set_option maxHeartbeats 4000000 in
theorem lc7 {ys : List Int32} {i : Nat} {w : List sx_C} {P : Option Value → List sx_C → Prop} (hl : ys.length ≤ 3072) (hn : i + 6 ≤ ys.length) (hI : WI w) (hL : LI w) (kk : ∀ w2, WI w2 → LI w2 → sx_RP (some ys) 9 246 1539 [(3, .int (nI i)), (2, .ref 111), (1, .ref 0), (0, .float 4)] [] w2 P) : sx_RP (some ys) 9 246 475 [(3, .int (nI i)), (2, .ref 111), (1, .ref 0), (0, .float 4)] [] w P := by
  obtain ⟨s, hC, hR, hb⟩ := hL
  refine sx_RP.step (pc2 := 476) (ls2 := [(3, .int (nI i)), (2, .ref 111), (1, .ref 0), (0, .float 4)]) (st2 := [.ref 0]) (w3 := w) rfl rfl ?_
  refine sx_RP.step (pc2 := 477) (ls2 := [(3, .int (nI i)), (2, .ref 111), (1, .ref 0), (0, .float 4)]) (st2 := [.float 4, .ref 0]) (w3 := w) rfl rfl ?_
  refine sx_RP.step (pc2 := 478) (ls2 := [(3, .int (nI i)), (2, .ref 111), (1, .ref 0), (0, .float 4)]) (st2 := [.int (nI i), .float 4, .ref 0]) (w3 := w) rfl rfl ?_
  refine sx_RP.step (pc2 := 479) (ls2 := [(3, .int (nI i)), (2, .ref 111), (1, .ref 0), (0, .float 4)]) (st2 := [.int 1, .int (nI i), .float 4, .ref 0]) (w3 := w) rfl rfl ?_
  refine sx_RP.step (pc2 := 480) (ls2 := [(3, .int (nI i)), (2, .ref 111), (1, .ref 0), (0, .float 4)]) (st2 := [.int ((nI i) + 1), .float 4, .ref 0]) (w3 := w) rfl rfl ?_
  rw [show ((nI i) + 1 : Int32) = nI (i + 1) from nI_add i 1]
  refine sx_RP.scr (x := (i + 1)) rfl (by omega) hl (show _ = 481 from rfl) ?_
  refine sx_RP.step (pc2 := 482) (ls2 := [(3, .int (nI i)), (2, .ref 111), (1, .ref 0), (0, .float 4)]) (st2 := [.float 4, .int (ys.getD ((i + 1)) 0), .ref 0]) (w3 := w) rfl rfl ?_
  refine sx_RP.step (pc2 := 483) (ls2 := [(3, .int (nI i)), (2, .ref 111), (1, .ref 0), (0, .float 4)]) (st2 := [.int (nI i), .float 4, .int (ys.getD ((i + 1)) 0), .ref 0]) (w3 := w) rfl rfl ?_
  refine sx_RP.step (pc2 := 484) (ls2 := [(3, .int (nI i)), (2, .ref 111), (1, .ref 0), (0, .float 4)]) (st2 := [.int 2, .int (nI i), .float 4, .int (ys.getD ((i + 1)) 0), .ref 0]) (w3 := w) rfl rfl ?_
  refine sx_RP.step (pc2 := 485) (ls2 := [(3, .int (nI i)), (2, .ref 111), (1, .ref 0), (0, .float 4)]) (st2 := [.int ((nI i) + 2), .float 4, .int (ys.getD ((i + 1)) 0), .ref 0]) (w3 := w) rfl rfl ?_
  rw [show ((nI i) + 2 : Int32) = nI (i + 2) from nI_add i 2]
  refine sx_RP.scr (x := (i + 2)) rfl (by omega) hl (show _ = 486 from rfl) ?_
  refine sx_RP.callp (as2 := [.ref 0, .int (ys.getD ((i + 1)) 0), .int (ys.getD ((i + 2)) 0)]) (rest2 := []) rfl rfl (sx_inv_v2 (mi := 246) (k := 45) (st := [.int (ys.getD ((i + 2)) 0), .int (ys.getD ((i + 1)) 0), .ref 0]) (w := w) rfl rfl hI.1.o0 rfl rfl rfl) rfl rfl rfl (sx_RP.byk (c28 (d := 1) hI hC (ys.getD ((i + 1)) 0) (ys.getD ((i + 2)) 0))) (show _ = 489 from rfl) ?_
  rintro r4 w1 ⟨⟨rfl, hI2, ⟨hC3, hi4⟩⟩, hbk5⟩
  have hR6 := hR.hi hi4
  have hb7 := hbk5 hb
  show sx_RP _ _ _ _ _ [.int (turA s.1 (ys.getD ((i + 1)) 0) (ys.getD ((i + 2)) 0))] _ _
  refine sx_RP.step (pc2 := 490) (ls2 := [(3, .int (nI i)), (2, .ref 111), (1, .ref 0), (0, .float 4)]) (st2 := []) (w3 := w1) rfl rfl ?_
  refine sx_RP.step (pc2 := 491) (ls2 := [(3, .int (nI i)), (2, .ref 111), (1, .ref 0), (0, .float 4)]) (st2 := [.ref 111]) (w3 := w1) rfl rfl ?_
  refine sx_RP.step (pc2 := 492) (ls2 := [(3, .int (nI i)), (2, .ref 111), (1, .ref 0), (0, .float 4)]) (st2 := [.float 4, .ref 111]) (w3 := w1) rfl rfl ?_
  refine sx_RP.step (pc2 := 493) (ls2 := [(3, .int (nI i)), (2, .ref 111), (1, .ref 0), (0, .float 4)]) (st2 := [.int (nI i), .float 4, .ref 111]) (w3 := w1) rfl rfl ?_
  refine sx_RP.step (pc2 := 494) (ls2 := [(3, .int (nI i)), (2, .ref 111), (1, .ref 0), (0, .float 4)]) (st2 := [.int 1, .int (nI i), .float 4, .ref 111]) (w3 := w1) rfl rfl ?_
  refine sx_RP.step (pc2 := 495) (ls2 := [(3, .int (nI i)), (2, .ref 111), (1, .ref 0), (0, .float 4)]) (st2 := [.int ((nI i) + 1), .float 4, .ref 111]) (w3 := w1) rfl rfl ?_
  rw [show ((nI i) + 1 : Int32) = nI (i + 1) from nI_add i 1]
  refine sx_RP.scr (x := (i + 1)) rfl (by omega) hl (show _ = 496 from rfl) ?_
  refine sx_RP.step (pc2 := 497) (ls2 := [(3, .int (nI i)), (2, .ref 111), (1, .ref 0), (0, .float 4)]) (st2 := [.float 4, .int (ys.getD ((i + 1)) 0), .ref 111]) (w3 := w1) rfl rfl ?_
  refine sx_RP.step (pc2 := 498) (ls2 := [(3, .int (nI i)), (2, .ref 111), (1, .ref 0), (0, .float 4)]) (st2 := [.int (nI i), .float 4, .int (ys.getD ((i + 1)) 0), .ref 111]) (w3 := w1) rfl rfl ?_
  refine sx_RP.step (pc2 := 499) (ls2 := [(3, .int (nI i)), (2, .ref 111), (1, .ref 0), (0, .float 4)]) (st2 := [.int 2, .int (nI i), .float 4, .int (ys.getD ((i + 1)) 0), .ref 111]) (w3 := w1) rfl rfl ?_
  refine sx_RP.step (pc2 := 500) (ls2 := [(3, .int (nI i)), (2, .ref 111), (1, .ref 0), (0, .float 4)]) (st2 := [.int ((nI i) + 2), .float 4, .int (ys.getD ((i + 1)) 0), .ref 111]) (w3 := w1) rfl rfl ?_
  rw [show ((nI i) + 2 : Int32) = nI (i + 2) from nI_add i 2]
  refine sx_RP.scr (x := (i + 2)) rfl (by omega) hl (show _ = 501 from rfl) ?_
  refine sx_RP.callp (as2 := [.ref 111, .int (ys.getD ((i + 1)) 0), .int (ys.getD ((i + 2)) 0)]) (rest2 := []) rfl rfl (sx_inv_v2 (mi := 246) (k := 48) (st := [.int (ys.getD ((i + 2)) 0), .int (ys.getD ((i + 1)) 0), .ref 111]) (w := w1) rfl rfl hI2.1.o111 rfl rfl rfl) rfl rfl rfl (sx_RP.byk (r157 (d := 1) hI2 hR6 (ys.getD ((i + 1)) 0) (ys.getD ((i + 2)) 0))) (show _ = 504 from rfl) ?_
  rintro r4 w8 ⟨⟨rfl, hI9, ⟨hR10, lo11⟩⟩, hbk12⟩
  have hL13 : LI w8 := ⟨_, hC3.lo hI2 lo11, hR10, hbk12 hb7⟩
  show sx_RP _ _ _ _ _ [.int (turA s.1 (ys.getD ((i + 1)) 0) (ys.getD ((i + 2)) 0))] _ _
  refine sx_RP.step (pc2 := 505) (ls2 := [(3, .int (nI i)), (2, .ref 111), (1, .ref 0), (0, .float 4)]) (st2 := []) (w3 := w8) rfl rfl ?_
  refine sx_RP.step (pc2 := 1539) (ls2 := [(3, .int (nI i)), (2, .ref 111), (1, .ref 0), (0, .float 4)]) (st2 := []) (w3 := w8) rfl rfl ?_
  exact kk w8 hI9 hL13
set_option maxRecDepth 20000 in
set_option maxHeartbeats 4000000 in
theorem lc8 {ys : List Int32} {i : Nat} {w : List sx_C} {P : Option Value → List sx_C → Prop} (hl : ys.length ≤ 3072) (hn : i + 6 ≤ ys.length) (hI : WI w) (hL : LI w) (kk : ∀ w2, WI w2 → LI w2 → sx_RP (some ys) 9 246 1539 [(3, .int (nI i)), (2, .ref 111), (1, .ref 0), (0, .float 4)] [] w2 P) : sx_RP (some ys) 9 246 508 [(3, .int (nI i)), (2, .ref 111), (1, .ref 0), (0, .float 4)] [] w P := by
  obtain ⟨s, hC, hR, hb⟩ := hL
  refine sx_RP.step (pc2 := 509) (ls2 := [(3, .int (nI i)), (2, .ref 111), (1, .ref 0), (0, .float 4)]) (st2 := [.ref 0]) (w3 := w) rfl rfl ?_
  refine sx_RP.step (pc2 := 510) (ls2 := [(3, .int (nI i)), (2, .ref 111), (1, .ref 0), (0, .float 4)]) (st2 := [.float 4, .ref 0]) (w3 := w) rfl rfl ?_
  refine sx_RP.step (pc2 := 511) (ls2 := [(3, .int (nI i)), (2, .ref 111), (1, .ref 0), (0, .float 4)]) (st2 := [.int (nI i), .float 4, .ref 0]) (w3 := w) rfl rfl ?_
  refine sx_RP.step (pc2 := 512) (ls2 := [(3, .int (nI i)), (2, .ref 111), (1, .ref 0), (0, .float 4)]) (st2 := [.int 1, .int (nI i), .float 4, .ref 0]) (w3 := w) rfl rfl ?_
  refine sx_RP.step (pc2 := 513) (ls2 := [(3, .int (nI i)), (2, .ref 111), (1, .ref 0), (0, .float 4)]) (st2 := [.int ((nI i) + 1), .float 4, .ref 0]) (w3 := w) rfl rfl ?_
  rw [show ((nI i) + 1 : Int32) = nI (i + 1) from nI_add i 1]
  refine sx_RP.scr (x := (i + 1)) rfl (by omega) hl (show _ = 514 from rfl) ?_
  refine sx_RP.step (pc2 := 515) (ls2 := [(3, .int (nI i)), (2, .ref 111), (1, .ref 0), (0, .float 4)]) (st2 := [.float 4, .int (ys.getD ((i + 1)) 0), .ref 0]) (w3 := w) rfl rfl ?_
  refine sx_RP.step (pc2 := 516) (ls2 := [(3, .int (nI i)), (2, .ref 111), (1, .ref 0), (0, .float 4)]) (st2 := [.int (nI i), .float 4, .int (ys.getD ((i + 1)) 0), .ref 0]) (w3 := w) rfl rfl ?_
  refine sx_RP.step (pc2 := 517) (ls2 := [(3, .int (nI i)), (2, .ref 111), (1, .ref 0), (0, .float 4)]) (st2 := [.int 2, .int (nI i), .float 4, .int (ys.getD ((i + 1)) 0), .ref 0]) (w3 := w) rfl rfl ?_
  refine sx_RP.step (pc2 := 518) (ls2 := [(3, .int (nI i)), (2, .ref 111), (1, .ref 0), (0, .float 4)]) (st2 := [.int ((nI i) + 2), .float 4, .int (ys.getD ((i + 1)) 0), .ref 0]) (w3 := w) rfl rfl ?_
  rw [show ((nI i) + 2 : Int32) = nI (i + 2) from nI_add i 2]
  refine sx_RP.scr (x := (i + 2)) rfl (by omega) hl (show _ = 519 from rfl) ?_
  refine sx_RP.callp (as2 := [.ref 0, .int (ys.getD ((i + 1)) 0), .int (ys.getD ((i + 2)) 0)]) (rest2 := []) rfl rfl (sx_inv_v2 (mi := 246) (k := 49) (st := [.int (ys.getD ((i + 2)) 0), .int (ys.getD ((i + 1)) 0), .ref 0]) (w := w) rfl rfl hI.1.o0 rfl rfl rfl) rfl rfl rfl (sx_RP.byk (c29 (d := 1) hI hC (ys.getD ((i + 1)) 0) (ys.getD ((i + 2)) 0))) (show _ = 522 from rfl) ?_
  rintro r4 w1 ⟨⟨rfl, hI2, ⟨hC3, hi4⟩⟩, hbk5⟩
  have hR6 := hR.hi hi4
  have hb7 := hbk5 hb
  show sx_RP _ _ _ _ _ [.int (bec2A s.1 (ys.getD ((i + 1)) 0) (ys.getD ((i + 2)) 0))] _ _
  refine sx_RP.step (pc2 := 523) (ls2 := [(3, .int (nI i)), (2, .ref 111), (1, .ref 0), (0, .float 4)]) (st2 := []) (w3 := w1) rfl rfl ?_
  refine sx_RP.step (pc2 := 524) (ls2 := [(3, .int (nI i)), (2, .ref 111), (1, .ref 0), (0, .float 4)]) (st2 := [.ref 111]) (w3 := w1) rfl rfl ?_
  refine sx_RP.step (pc2 := 525) (ls2 := [(3, .int (nI i)), (2, .ref 111), (1, .ref 0), (0, .float 4)]) (st2 := [.float 4, .ref 111]) (w3 := w1) rfl rfl ?_
  refine sx_RP.step (pc2 := 526) (ls2 := [(3, .int (nI i)), (2, .ref 111), (1, .ref 0), (0, .float 4)]) (st2 := [.int (nI i), .float 4, .ref 111]) (w3 := w1) rfl rfl ?_
  refine sx_RP.step (pc2 := 527) (ls2 := [(3, .int (nI i)), (2, .ref 111), (1, .ref 0), (0, .float 4)]) (st2 := [.int 1, .int (nI i), .float 4, .ref 111]) (w3 := w1) rfl rfl ?_
  refine sx_RP.step (pc2 := 528) (ls2 := [(3, .int (nI i)), (2, .ref 111), (1, .ref 0), (0, .float 4)]) (st2 := [.int ((nI i) + 1), .float 4, .ref 111]) (w3 := w1) rfl rfl ?_
  rw [show ((nI i) + 1 : Int32) = nI (i + 1) from nI_add i 1]
  refine sx_RP.scr (x := (i + 1)) rfl (by omega) hl (show _ = 529 from rfl) ?_
  refine sx_RP.step (pc2 := 530) (ls2 := [(3, .int (nI i)), (2, .ref 111), (1, .ref 0), (0, .float 4)]) (st2 := [.float 4, .int (ys.getD ((i + 1)) 0), .ref 111]) (w3 := w1) rfl rfl ?_
  refine sx_RP.step (pc2 := 531) (ls2 := [(3, .int (nI i)), (2, .ref 111), (1, .ref 0), (0, .float 4)]) (st2 := [.int (nI i), .float 4, .int (ys.getD ((i + 1)) 0), .ref 111]) (w3 := w1) rfl rfl ?_
  refine sx_RP.step (pc2 := 532) (ls2 := [(3, .int (nI i)), (2, .ref 111), (1, .ref 0), (0, .float 4)]) (st2 := [.int 2, .int (nI i), .float 4, .int (ys.getD ((i + 1)) 0), .ref 111]) (w3 := w1) rfl rfl ?_
  refine sx_RP.step (pc2 := 533) (ls2 := [(3, .int (nI i)), (2, .ref 111), (1, .ref 0), (0, .float 4)]) (st2 := [.int ((nI i) + 2), .float 4, .int (ys.getD ((i + 1)) 0), .ref 111]) (w3 := w1) rfl rfl ?_
  rw [show ((nI i) + 2 : Int32) = nI (i + 2) from nI_add i 2]
  refine sx_RP.scr (x := (i + 2)) rfl (by omega) hl (show _ = 534 from rfl) ?_
  refine sx_RP.callp (as2 := [.ref 111, .int (ys.getD ((i + 1)) 0), .int (ys.getD ((i + 2)) 0)]) (rest2 := []) rfl rfl (sx_inv_v2 (mi := 246) (k := 52) (st := [.int (ys.getD ((i + 2)) 0), .int (ys.getD ((i + 1)) 0), .ref 111]) (w := w1) rfl rfl hI2.1.o111 rfl rfl rfl) rfl rfl rfl (sx_RP.byk (r158 (d := 1) hI2 hR6 (ys.getD ((i + 1)) 0) (ys.getD ((i + 2)) 0))) (show _ = 537 from rfl) ?_
  rintro r4 w8 ⟨⟨rfl, hI9, ⟨hR10, lo11⟩⟩, hbk12⟩
  have hL13 : LI w8 := ⟨_, hC3.lo hI2 lo11, hR10, hbk12 hb7⟩
  show sx_RP _ _ _ _ _ [.int (bec2A s.1 (ys.getD ((i + 1)) 0) (ys.getD ((i + 2)) 0))] _ _
  refine sx_RP.step (pc2 := 538) (ls2 := [(3, .int (nI i)), (2, .ref 111), (1, .ref 0), (0, .float 4)]) (st2 := []) (w3 := w8) rfl rfl ?_
  refine sx_RP.step (pc2 := 1539) (ls2 := [(3, .int (nI i)), (2, .ref 111), (1, .ref 0), (0, .float 4)]) (st2 := []) (w3 := w8) rfl rfl ?_
  exact kk w8 hI9 hL13
set_option maxRecDepth 20000 in
set_option maxHeartbeats 4000000 in
theorem lc9 {ys : List Int32} {i : Nat} {w : List sx_C} {P : Option Value → List sx_C → Prop} (hl : ys.length ≤ 3072) (hn : i + 6 ≤ ys.length) (hI : WI w) (hL : LI w) (kk : ∀ w2, WI w2 → LI w2 → sx_RP (some ys) 9 246 1539 [(3, .int (nI i)), (2, .ref 111), (1, .ref 0), (0, .float 4)] [] w2 P) : sx_RP (some ys) 9 246 541 [(3, .int (nI i)), (2, .ref 111), (1, .ref 0), (0, .float 4)] [] w P := by
  obtain ⟨s, hC, hR, hb⟩ := hL
  refine sx_RP.step (pc2 := 542) (ls2 := [(3, .int (nI i)), (2, .ref 111), (1, .ref 0), (0, .float 4)]) (st2 := [.ref 0]) (w3 := w) rfl rfl ?_
  refine sx_RP.step (pc2 := 543) (ls2 := [(3, .int (nI i)), (2, .ref 111), (1, .ref 0), (0, .float 4)]) (st2 := [.float 4, .ref 0]) (w3 := w) rfl rfl ?_
  refine sx_RP.step (pc2 := 544) (ls2 := [(3, .int (nI i)), (2, .ref 111), (1, .ref 0), (0, .float 4)]) (st2 := [.int (nI i), .float 4, .ref 0]) (w3 := w) rfl rfl ?_
  refine sx_RP.step (pc2 := 545) (ls2 := [(3, .int (nI i)), (2, .ref 111), (1, .ref 0), (0, .float 4)]) (st2 := [.int 1, .int (nI i), .float 4, .ref 0]) (w3 := w) rfl rfl ?_
  refine sx_RP.step (pc2 := 546) (ls2 := [(3, .int (nI i)), (2, .ref 111), (1, .ref 0), (0, .float 4)]) (st2 := [.int ((nI i) + 1), .float 4, .ref 0]) (w3 := w) rfl rfl ?_
  rw [show ((nI i) + 1 : Int32) = nI (i + 1) from nI_add i 1]
  refine sx_RP.scr (x := (i + 1)) rfl (by omega) hl (show _ = 547 from rfl) ?_
  refine sx_RP.step (pc2 := 548) (ls2 := [(3, .int (nI i)), (2, .ref 111), (1, .ref 0), (0, .float 4)]) (st2 := [.float 4, .int (ys.getD ((i + 1)) 0), .ref 0]) (w3 := w) rfl rfl ?_
  refine sx_RP.step (pc2 := 549) (ls2 := [(3, .int (nI i)), (2, .ref 111), (1, .ref 0), (0, .float 4)]) (st2 := [.int (nI i), .float 4, .int (ys.getD ((i + 1)) 0), .ref 0]) (w3 := w) rfl rfl ?_
  refine sx_RP.step (pc2 := 550) (ls2 := [(3, .int (nI i)), (2, .ref 111), (1, .ref 0), (0, .float 4)]) (st2 := [.int 2, .int (nI i), .float 4, .int (ys.getD ((i + 1)) 0), .ref 0]) (w3 := w) rfl rfl ?_
  refine sx_RP.step (pc2 := 551) (ls2 := [(3, .int (nI i)), (2, .ref 111), (1, .ref 0), (0, .float 4)]) (st2 := [.int ((nI i) + 2), .float 4, .int (ys.getD ((i + 1)) 0), .ref 0]) (w3 := w) rfl rfl ?_
  rw [show ((nI i) + 2 : Int32) = nI (i + 2) from nI_add i 2]
  refine sx_RP.scr (x := (i + 2)) rfl (by omega) hl (show _ = 552 from rfl) ?_
  refine sx_RP.callp (as2 := [.ref 0, .int (ys.getD ((i + 1)) 0), .int (ys.getD ((i + 2)) 0)]) (rest2 := []) rfl rfl (sx_inv_v2 (mi := 246) (k := 53) (st := [.int (ys.getD ((i + 2)) 0), .int (ys.getD ((i + 1)) 0), .ref 0]) (w := w) rfl rfl hI.1.o0 rfl rfl rfl) rfl rfl rfl (sx_RP.byk (c30 (d := 1) hI hC (ys.getD ((i + 1)) 0) (ys.getD ((i + 2)) 0))) (show _ = 555 from rfl) ?_
  rintro r4 w1 ⟨⟨⟨v3, rfl⟩, hI2, ⟨hC4, hi5⟩⟩, hbk6⟩
  have hR7 := hR.hi hi5
  have hb8 := hbk6 hb
  show sx_RP _ _ _ _ _ [.int v3] _ _
  refine sx_RP.step (pc2 := 556) (ls2 := [(3, .int (nI i)), (2, .ref 111), (1, .ref 0), (0, .float 4)]) (st2 := []) (w3 := w1) rfl rfl ?_
  refine sx_RP.step (pc2 := 557) (ls2 := [(3, .int (nI i)), (2, .ref 111), (1, .ref 0), (0, .float 4)]) (st2 := [.ref 111]) (w3 := w1) rfl rfl ?_
  refine sx_RP.step (pc2 := 558) (ls2 := [(3, .int (nI i)), (2, .ref 111), (1, .ref 0), (0, .float 4)]) (st2 := [.float 4, .ref 111]) (w3 := w1) rfl rfl ?_
  refine sx_RP.step (pc2 := 559) (ls2 := [(3, .int (nI i)), (2, .ref 111), (1, .ref 0), (0, .float 4)]) (st2 := [.int (nI i), .float 4, .ref 111]) (w3 := w1) rfl rfl ?_
  refine sx_RP.step (pc2 := 560) (ls2 := [(3, .int (nI i)), (2, .ref 111), (1, .ref 0), (0, .float 4)]) (st2 := [.int 1, .int (nI i), .float 4, .ref 111]) (w3 := w1) rfl rfl ?_
  refine sx_RP.step (pc2 := 561) (ls2 := [(3, .int (nI i)), (2, .ref 111), (1, .ref 0), (0, .float 4)]) (st2 := [.int ((nI i) + 1), .float 4, .ref 111]) (w3 := w1) rfl rfl ?_
  rw [show ((nI i) + 1 : Int32) = nI (i + 1) from nI_add i 1]
  refine sx_RP.scr (x := (i + 1)) rfl (by omega) hl (show _ = 562 from rfl) ?_
  refine sx_RP.step (pc2 := 563) (ls2 := [(3, .int (nI i)), (2, .ref 111), (1, .ref 0), (0, .float 4)]) (st2 := [.float 4, .int (ys.getD ((i + 1)) 0), .ref 111]) (w3 := w1) rfl rfl ?_
  refine sx_RP.step (pc2 := 564) (ls2 := [(3, .int (nI i)), (2, .ref 111), (1, .ref 0), (0, .float 4)]) (st2 := [.int (nI i), .float 4, .int (ys.getD ((i + 1)) 0), .ref 111]) (w3 := w1) rfl rfl ?_
  refine sx_RP.step (pc2 := 565) (ls2 := [(3, .int (nI i)), (2, .ref 111), (1, .ref 0), (0, .float 4)]) (st2 := [.int 2, .int (nI i), .float 4, .int (ys.getD ((i + 1)) 0), .ref 111]) (w3 := w1) rfl rfl ?_
  refine sx_RP.step (pc2 := 566) (ls2 := [(3, .int (nI i)), (2, .ref 111), (1, .ref 0), (0, .float 4)]) (st2 := [.int ((nI i) + 2), .float 4, .int (ys.getD ((i + 1)) 0), .ref 111]) (w3 := w1) rfl rfl ?_
  rw [show ((nI i) + 2 : Int32) = nI (i + 2) from nI_add i 2]
  refine sx_RP.scr (x := (i + 2)) rfl (by omega) hl (show _ = 567 from rfl) ?_
  refine sx_RP.callp (as2 := [.ref 111, .int (ys.getD ((i + 1)) 0), .int (ys.getD ((i + 2)) 0)]) (rest2 := []) rfl rfl (sx_inv_v2 (mi := 246) (k := 56) (st := [.int (ys.getD ((i + 2)) 0), .int (ys.getD ((i + 1)) 0), .ref 111]) (w := w1) rfl rfl hI2.1.o111 rfl rfl rfl) rfl rfl rfl (sx_RP.byk (r159 (d := 1) hI2 hR7 (ys.getD ((i + 1)) 0) (ys.getD ((i + 2)) 0))) (show _ = 570 from rfl) ?_
  rintro r4 w9 ⟨⟨⟨v11, rfl⟩, hI10, ⟨hR12, lo13⟩⟩, hbk14⟩
  have hL15 : LI w9 := ⟨_, hC4.lo hI2 lo13, hR12, hbk14 hb8⟩
  show sx_RP _ _ _ _ _ [.int v11] _ _
  refine sx_RP.step (pc2 := 571) (ls2 := [(3, .int (nI i)), (2, .ref 111), (1, .ref 0), (0, .float 4)]) (st2 := []) (w3 := w9) rfl rfl ?_
  refine sx_RP.step (pc2 := 1539) (ls2 := [(3, .int (nI i)), (2, .ref 111), (1, .ref 0), (0, .float 4)]) (st2 := []) (w3 := w9) rfl rfl ?_
  exact kk w9 hI10 hL15
set_option maxRecDepth 20000 in
set_option maxHeartbeats 4000000 in
theorem lc10 {ys : List Int32} {i : Nat} {w : List sx_C} {P : Option Value → List sx_C → Prop} (hl : ys.length ≤ 3072) (hn : i + 6 ≤ ys.length) (hI : WI w) (hL : LI w) (kk : ∀ w2, WI w2 → LI w2 → sx_RP (some ys) 9 246 1539 [(3, .int (nI i)), (2, .ref 111), (1, .ref 0), (0, .float 4)] [] w2 P) : sx_RP (some ys) 9 246 574 [(3, .int (nI i)), (2, .ref 111), (1, .ref 0), (0, .float 4)] [] w P := by
  obtain ⟨s, hC, hR, hb⟩ := hL
  refine sx_RP.step (pc2 := 575) (ls2 := [(3, .int (nI i)), (2, .ref 111), (1, .ref 0), (0, .float 4)]) (st2 := [.ref 0]) (w3 := w) rfl rfl ?_
  refine sx_RP.step (pc2 := 576) (ls2 := [(3, .int (nI i)), (2, .ref 111), (1, .ref 0), (0, .float 4)]) (st2 := [.float 4, .ref 0]) (w3 := w) rfl rfl ?_
  refine sx_RP.step (pc2 := 577) (ls2 := [(3, .int (nI i)), (2, .ref 111), (1, .ref 0), (0, .float 4)]) (st2 := [.int (nI i), .float 4, .ref 0]) (w3 := w) rfl rfl ?_
  refine sx_RP.step (pc2 := 578) (ls2 := [(3, .int (nI i)), (2, .ref 111), (1, .ref 0), (0, .float 4)]) (st2 := [.int 1, .int (nI i), .float 4, .ref 0]) (w3 := w) rfl rfl ?_
  refine sx_RP.step (pc2 := 579) (ls2 := [(3, .int (nI i)), (2, .ref 111), (1, .ref 0), (0, .float 4)]) (st2 := [.int ((nI i) + 1), .float 4, .ref 0]) (w3 := w) rfl rfl ?_
  rw [show ((nI i) + 1 : Int32) = nI (i + 1) from nI_add i 1]
  refine sx_RP.scr (x := (i + 1)) rfl (by omega) hl (show _ = 580 from rfl) ?_
  refine sx_RP.step (pc2 := 581) (ls2 := [(3, .int (nI i)), (2, .ref 111), (1, .ref 0), (0, .float 4)]) (st2 := [.float 4, .int (ys.getD ((i + 1)) 0), .ref 0]) (w3 := w) rfl rfl ?_
  refine sx_RP.step (pc2 := 582) (ls2 := [(3, .int (nI i)), (2, .ref 111), (1, .ref 0), (0, .float 4)]) (st2 := [.int (nI i), .float 4, .int (ys.getD ((i + 1)) 0), .ref 0]) (w3 := w) rfl rfl ?_
  refine sx_RP.step (pc2 := 583) (ls2 := [(3, .int (nI i)), (2, .ref 111), (1, .ref 0), (0, .float 4)]) (st2 := [.int 2, .int (nI i), .float 4, .int (ys.getD ((i + 1)) 0), .ref 0]) (w3 := w) rfl rfl ?_
  refine sx_RP.step (pc2 := 584) (ls2 := [(3, .int (nI i)), (2, .ref 111), (1, .ref 0), (0, .float 4)]) (st2 := [.int ((nI i) + 2), .float 4, .int (ys.getD ((i + 1)) 0), .ref 0]) (w3 := w) rfl rfl ?_
  rw [show ((nI i) + 2 : Int32) = nI (i + 2) from nI_add i 2]
  refine sx_RP.scr (x := (i + 2)) rfl (by omega) hl (show _ = 585 from rfl) ?_
  refine sx_RP.step (pc2 := 586) (ls2 := [(3, .int (nI i)), (2, .ref 111), (1, .ref 0), (0, .float 4)]) (st2 := [.float 4, .int (ys.getD ((i + 2)) 0), .int (ys.getD ((i + 1)) 0), .ref 0]) (w3 := w) rfl rfl ?_
  refine sx_RP.step (pc2 := 587) (ls2 := [(3, .int (nI i)), (2, .ref 111), (1, .ref 0), (0, .float 4)]) (st2 := [.int (nI i), .float 4, .int (ys.getD ((i + 2)) 0), .int (ys.getD ((i + 1)) 0), .ref 0]) (w3 := w) rfl rfl ?_
  refine sx_RP.step (pc2 := 588) (ls2 := [(3, .int (nI i)), (2, .ref 111), (1, .ref 0), (0, .float 4)]) (st2 := [.int 3, .int (nI i), .float 4, .int (ys.getD ((i + 2)) 0), .int (ys.getD ((i + 1)) 0), .ref 0]) (w3 := w) rfl rfl ?_
  refine sx_RP.step (pc2 := 589) (ls2 := [(3, .int (nI i)), (2, .ref 111), (1, .ref 0), (0, .float 4)]) (st2 := [.int ((nI i) + 3), .float 4, .int (ys.getD ((i + 2)) 0), .int (ys.getD ((i + 1)) 0), .ref 0]) (w3 := w) rfl rfl ?_
  rw [show ((nI i) + 3 : Int32) = nI (i + 3) from nI_add i 3]
  refine sx_RP.scr (x := (i + 3)) rfl (by omega) hl (show _ = 590 from rfl) ?_
  refine sx_RP.callp (as2 := [.ref 0, .int (ys.getD ((i + 1)) 0), .int (ys.getD ((i + 2)) 0), .int (ys.getD ((i + 3)) 0)]) (rest2 := []) rfl rfl (sx_inv_v2 (mi := 246) (k := 57) (st := [.int (ys.getD ((i + 3)) 0), .int (ys.getD ((i + 2)) 0), .int (ys.getD ((i + 1)) 0), .ref 0]) (w := w) rfl rfl hI.1.o0 rfl rfl rfl) rfl rfl rfl (sx_RP.byk (c32 (d := 1) hI hC (ys.getD ((i + 1)) 0) (ys.getD ((i + 2)) 0) (ys.getD ((i + 3)) 0))) (show _ = 593 from rfl) ?_
  rintro r4 w1 ⟨⟨⟨v3, rfl⟩, hI2, ⟨hC4, hi5⟩⟩, hbk6⟩
  have hR7 := hR.hi hi5
  have hb8 := hbk6 hb
  show sx_RP _ _ _ _ _ [.int v3] _ _
  refine sx_RP.step (pc2 := 594) (ls2 := [(3, .int (nI i)), (2, .ref 111), (1, .ref 0), (0, .float 4)]) (st2 := []) (w3 := w1) rfl rfl ?_
  refine sx_RP.step (pc2 := 595) (ls2 := [(3, .int (nI i)), (2, .ref 111), (1, .ref 0), (0, .float 4)]) (st2 := [.ref 111]) (w3 := w1) rfl rfl ?_
  refine sx_RP.step (pc2 := 596) (ls2 := [(3, .int (nI i)), (2, .ref 111), (1, .ref 0), (0, .float 4)]) (st2 := [.float 4, .ref 111]) (w3 := w1) rfl rfl ?_
  refine sx_RP.step (pc2 := 597) (ls2 := [(3, .int (nI i)), (2, .ref 111), (1, .ref 0), (0, .float 4)]) (st2 := [.int (nI i), .float 4, .ref 111]) (w3 := w1) rfl rfl ?_
  refine sx_RP.step (pc2 := 598) (ls2 := [(3, .int (nI i)), (2, .ref 111), (1, .ref 0), (0, .float 4)]) (st2 := [.int 1, .int (nI i), .float 4, .ref 111]) (w3 := w1) rfl rfl ?_
  refine sx_RP.step (pc2 := 599) (ls2 := [(3, .int (nI i)), (2, .ref 111), (1, .ref 0), (0, .float 4)]) (st2 := [.int ((nI i) + 1), .float 4, .ref 111]) (w3 := w1) rfl rfl ?_
  rw [show ((nI i) + 1 : Int32) = nI (i + 1) from nI_add i 1]
  refine sx_RP.scr (x := (i + 1)) rfl (by omega) hl (show _ = 600 from rfl) ?_
  refine sx_RP.step (pc2 := 601) (ls2 := [(3, .int (nI i)), (2, .ref 111), (1, .ref 0), (0, .float 4)]) (st2 := [.float 4, .int (ys.getD ((i + 1)) 0), .ref 111]) (w3 := w1) rfl rfl ?_
  refine sx_RP.step (pc2 := 602) (ls2 := [(3, .int (nI i)), (2, .ref 111), (1, .ref 0), (0, .float 4)]) (st2 := [.int (nI i), .float 4, .int (ys.getD ((i + 1)) 0), .ref 111]) (w3 := w1) rfl rfl ?_
  refine sx_RP.step (pc2 := 603) (ls2 := [(3, .int (nI i)), (2, .ref 111), (1, .ref 0), (0, .float 4)]) (st2 := [.int 2, .int (nI i), .float 4, .int (ys.getD ((i + 1)) 0), .ref 111]) (w3 := w1) rfl rfl ?_
  refine sx_RP.step (pc2 := 604) (ls2 := [(3, .int (nI i)), (2, .ref 111), (1, .ref 0), (0, .float 4)]) (st2 := [.int ((nI i) + 2), .float 4, .int (ys.getD ((i + 1)) 0), .ref 111]) (w3 := w1) rfl rfl ?_
  rw [show ((nI i) + 2 : Int32) = nI (i + 2) from nI_add i 2]
  refine sx_RP.scr (x := (i + 2)) rfl (by omega) hl (show _ = 605 from rfl) ?_
  refine sx_RP.step (pc2 := 606) (ls2 := [(3, .int (nI i)), (2, .ref 111), (1, .ref 0), (0, .float 4)]) (st2 := [.float 4, .int (ys.getD ((i + 2)) 0), .int (ys.getD ((i + 1)) 0), .ref 111]) (w3 := w1) rfl rfl ?_
  refine sx_RP.step (pc2 := 607) (ls2 := [(3, .int (nI i)), (2, .ref 111), (1, .ref 0), (0, .float 4)]) (st2 := [.int (nI i), .float 4, .int (ys.getD ((i + 2)) 0), .int (ys.getD ((i + 1)) 0), .ref 111]) (w3 := w1) rfl rfl ?_
  refine sx_RP.step (pc2 := 608) (ls2 := [(3, .int (nI i)), (2, .ref 111), (1, .ref 0), (0, .float 4)]) (st2 := [.int 3, .int (nI i), .float 4, .int (ys.getD ((i + 2)) 0), .int (ys.getD ((i + 1)) 0), .ref 111]) (w3 := w1) rfl rfl ?_
  refine sx_RP.step (pc2 := 609) (ls2 := [(3, .int (nI i)), (2, .ref 111), (1, .ref 0), (0, .float 4)]) (st2 := [.int ((nI i) + 3), .float 4, .int (ys.getD ((i + 2)) 0), .int (ys.getD ((i + 1)) 0), .ref 111]) (w3 := w1) rfl rfl ?_
  rw [show ((nI i) + 3 : Int32) = nI (i + 3) from nI_add i 3]
  refine sx_RP.scr (x := (i + 3)) rfl (by omega) hl (show _ = 610 from rfl) ?_
  refine sx_RP.callp (as2 := [.ref 111, .int (ys.getD ((i + 1)) 0), .int (ys.getD ((i + 2)) 0), .int (ys.getD ((i + 3)) 0)]) (rest2 := []) rfl rfl (sx_inv_v2 (mi := 246) (k := 61) (st := [.int (ys.getD ((i + 3)) 0), .int (ys.getD ((i + 2)) 0), .int (ys.getD ((i + 1)) 0), .ref 111]) (w := w1) rfl rfl hI2.1.o111 rfl rfl rfl) rfl rfl rfl (sx_RP.byk (r161 (d := 1) hI2 hR7 (ys.getD ((i + 1)) 0) (ys.getD ((i + 2)) 0) (ys.getD ((i + 3)) 0))) (show _ = 613 from rfl) ?_
  rintro r4 w9 ⟨⟨⟨v11, rfl⟩, hI10, ⟨hR12, lo13⟩⟩, hbk14⟩
  have hL15 : LI w9 := ⟨_, hC4.lo hI2 lo13, hR12, hbk14 hb8⟩
  show sx_RP _ _ _ _ _ [.int v11] _ _
  refine sx_RP.step (pc2 := 614) (ls2 := [(3, .int (nI i)), (2, .ref 111), (1, .ref 0), (0, .float 4)]) (st2 := []) (w3 := w9) rfl rfl ?_
  refine sx_RP.step (pc2 := 1539) (ls2 := [(3, .int (nI i)), (2, .ref 111), (1, .ref 0), (0, .float 4)]) (st2 := []) (w3 := w9) rfl rfl ?_
  exact kk w9 hI10 hL15
set_option maxRecDepth 20000 in
set_option maxHeartbeats 4000000 in
theorem lc11 {ys : List Int32} {i : Nat} {w : List sx_C} {P : Option Value → List sx_C → Prop} (hl : ys.length ≤ 3072) (hn : i + 6 ≤ ys.length) (hI : WI w) (hL : LI w) (kk : ∀ w2, WI w2 → LI w2 → sx_RP (some ys) 9 246 1539 [(3, .int (nI i)), (2, .ref 111), (1, .ref 0), (0, .float 4)] [] w2 P) : sx_RP (some ys) 9 246 617 [(3, .int (nI i)), (2, .ref 111), (1, .ref 0), (0, .float 4)] [] w P := by
  obtain ⟨s, hC, hR, hb⟩ := hL
  refine sx_RP.step (pc2 := 618) (ls2 := [(3, .int (nI i)), (2, .ref 111), (1, .ref 0), (0, .float 4)]) (st2 := [.ref 0]) (w3 := w) rfl rfl ?_
  refine sx_RP.step (pc2 := 619) (ls2 := [(3, .int (nI i)), (2, .ref 111), (1, .ref 0), (0, .float 4)]) (st2 := [.float 4, .ref 0]) (w3 := w) rfl rfl ?_
  refine sx_RP.step (pc2 := 620) (ls2 := [(3, .int (nI i)), (2, .ref 111), (1, .ref 0), (0, .float 4)]) (st2 := [.int (nI i), .float 4, .ref 0]) (w3 := w) rfl rfl ?_
  refine sx_RP.step (pc2 := 621) (ls2 := [(3, .int (nI i)), (2, .ref 111), (1, .ref 0), (0, .float 4)]) (st2 := [.int 1, .int (nI i), .float 4, .ref 0]) (w3 := w) rfl rfl ?_
  refine sx_RP.step (pc2 := 622) (ls2 := [(3, .int (nI i)), (2, .ref 111), (1, .ref 0), (0, .float 4)]) (st2 := [.int ((nI i) + 1), .float 4, .ref 0]) (w3 := w) rfl rfl ?_
  rw [show ((nI i) + 1 : Int32) = nI (i + 1) from nI_add i 1]
  refine sx_RP.scr (x := (i + 1)) rfl (by omega) hl (show _ = 623 from rfl) ?_
  refine sx_RP.callp (as2 := [.ref 0, .int (ys.getD ((i + 1)) 0)]) (rest2 := []) rfl rfl (sx_inv_v2 (mi := 246) (k := 62) (st := [.int (ys.getD ((i + 1)) 0), .ref 0]) (w := w) rfl rfl hI.1.o0 rfl rfl rfl) rfl rfl rfl (sx_RP.byk (c39 (d := 1) hI hC (ys.getD ((i + 1)) 0))) (show _ = 626 from rfl) ?_
  rintro r4 w1 ⟨⟨rfl, hI2, ⟨hC3, hi4⟩⟩, hbk5⟩
  have hR6 := hR.hi hi4
  have hb7 := hbk5 hb
  show sx_RP _ _ _ _ _ [.int (ntsA s.1 (ys.getD ((i + 1)) 0))] _ _
  refine sx_RP.step (pc2 := 627) (ls2 := [(3, .int (nI i)), (2, .ref 111), (1, .ref 0), (0, .float 4)]) (st2 := []) (w3 := w1) rfl rfl ?_
  refine sx_RP.step (pc2 := 628) (ls2 := [(3, .int (nI i)), (2, .ref 111), (1, .ref 0), (0, .float 4)]) (st2 := [.ref 111]) (w3 := w1) rfl rfl ?_
  refine sx_RP.step (pc2 := 629) (ls2 := [(3, .int (nI i)), (2, .ref 111), (1, .ref 0), (0, .float 4)]) (st2 := [.float 4, .ref 111]) (w3 := w1) rfl rfl ?_
  refine sx_RP.step (pc2 := 630) (ls2 := [(3, .int (nI i)), (2, .ref 111), (1, .ref 0), (0, .float 4)]) (st2 := [.int (nI i), .float 4, .ref 111]) (w3 := w1) rfl rfl ?_
  refine sx_RP.step (pc2 := 631) (ls2 := [(3, .int (nI i)), (2, .ref 111), (1, .ref 0), (0, .float 4)]) (st2 := [.int 1, .int (nI i), .float 4, .ref 111]) (w3 := w1) rfl rfl ?_
  refine sx_RP.step (pc2 := 632) (ls2 := [(3, .int (nI i)), (2, .ref 111), (1, .ref 0), (0, .float 4)]) (st2 := [.int ((nI i) + 1), .float 4, .ref 111]) (w3 := w1) rfl rfl ?_
  rw [show ((nI i) + 1 : Int32) = nI (i + 1) from nI_add i 1]
  refine sx_RP.scr (x := (i + 1)) rfl (by omega) hl (show _ = 633 from rfl) ?_
  refine sx_RP.callp (as2 := [.ref 111, .int (ys.getD ((i + 1)) 0)]) (rest2 := []) rfl rfl (sx_inv_v2 (mi := 246) (k := 66) (st := [.int (ys.getD ((i + 1)) 0), .ref 111]) (w := w1) rfl rfl hI2.1.o111 rfl rfl rfl) rfl rfl rfl (sx_RP.byk (r164 (d := 1) hI2 hR6 hC.1.1.wb (ys.getD ((i + 1)) 0))) (show _ = 636 from rfl) ?_
  rintro r4 w8 ⟨⟨rfl, hI9, ⟨hR10, lo11⟩⟩, hbk12⟩
  have hL13 : LI w8 := ⟨_, hC3.lo hI2 lo11, hR10, hbk12 hb7⟩
  show sx_RP _ _ _ _ _ [.int (ntsA s.1 (ys.getD ((i + 1)) 0))] _ _
  refine sx_RP.step (pc2 := 637) (ls2 := [(3, .int (nI i)), (2, .ref 111), (1, .ref 0), (0, .float 4)]) (st2 := []) (w3 := w8) rfl rfl ?_
  refine sx_RP.step (pc2 := 1539) (ls2 := [(3, .int (nI i)), (2, .ref 111), (1, .ref 0), (0, .float 4)]) (st2 := []) (w3 := w8) rfl rfl ?_
  exact kk w8 hI9 hL13
set_option maxRecDepth 20000 in
set_option maxHeartbeats 4000000 in
theorem lc12 {ys : List Int32} {i : Nat} {w : List sx_C} {P : Option Value → List sx_C → Prop} (hl : ys.length ≤ 3072) (hn : i + 6 ≤ ys.length) (hI : WI w) (hL : LI w) (kk : ∀ w2, WI w2 → LI w2 → sx_RP (some ys) 9 246 1539 [(3, .int (nI i)), (2, .ref 111), (1, .ref 0), (0, .float 4)] [] w2 P) : sx_RP (some ys) 9 246 640 [(3, .int (nI i)), (2, .ref 111), (1, .ref 0), (0, .float 4)] [] w P := by
  obtain ⟨s, hC, hR, hb⟩ := hL
  refine sx_RP.step (pc2 := 641) (ls2 := [(3, .int (nI i)), (2, .ref 111), (1, .ref 0), (0, .float 4)]) (st2 := [.ref 0]) (w3 := w) rfl rfl ?_
  refine sx_RP.step (pc2 := 642) (ls2 := [(3, .int (nI i)), (2, .ref 111), (1, .ref 0), (0, .float 4)]) (st2 := [.float 4, .ref 0]) (w3 := w) rfl rfl ?_
  refine sx_RP.step (pc2 := 643) (ls2 := [(3, .int (nI i)), (2, .ref 111), (1, .ref 0), (0, .float 4)]) (st2 := [.int (nI i), .float 4, .ref 0]) (w3 := w) rfl rfl ?_
  refine sx_RP.step (pc2 := 644) (ls2 := [(3, .int (nI i)), (2, .ref 111), (1, .ref 0), (0, .float 4)]) (st2 := [.int 1, .int (nI i), .float 4, .ref 0]) (w3 := w) rfl rfl ?_
  refine sx_RP.step (pc2 := 645) (ls2 := [(3, .int (nI i)), (2, .ref 111), (1, .ref 0), (0, .float 4)]) (st2 := [.int ((nI i) + 1), .float 4, .ref 0]) (w3 := w) rfl rfl ?_
  rw [show ((nI i) + 1 : Int32) = nI (i + 1) from nI_add i 1]
  refine sx_RP.scr (x := (i + 1)) rfl (by omega) hl (show _ = 646 from rfl) ?_
  refine sx_RP.callp (as2 := [.ref 0, .int (ys.getD ((i + 1)) 0)]) (rest2 := []) rfl rfl (sx_inv_v2 (mi := 246) (k := 67) (st := [.int (ys.getD ((i + 1)) 0), .ref 0]) (w := w) rfl rfl hI.1.o0 rfl rfl rfl) rfl rfl rfl (sx_RP.byk (c48 (d := 1) hI hC (ys.getD ((i + 1)) 0))) (show _ = 649 from rfl) ?_
  rintro r4 w1 ⟨⟨⟨v3, rfl⟩, hI2, ⟨hC4, hi5⟩⟩, hbk6⟩
  have hR7 := hR.hi hi5
  have hb8 := hbk6 hb
  show sx_RP _ _ _ _ _ [.int v3] _ _
  refine sx_RP.step (pc2 := 650) (ls2 := [(3, .int (nI i)), (2, .ref 111), (1, .ref 0), (0, .float 4)]) (st2 := []) (w3 := w1) rfl rfl ?_
  refine sx_RP.step (pc2 := 651) (ls2 := [(3, .int (nI i)), (2, .ref 111), (1, .ref 0), (0, .float 4)]) (st2 := [.ref 111]) (w3 := w1) rfl rfl ?_
  refine sx_RP.step (pc2 := 652) (ls2 := [(3, .int (nI i)), (2, .ref 111), (1, .ref 0), (0, .float 4)]) (st2 := [.float 4, .ref 111]) (w3 := w1) rfl rfl ?_
  refine sx_RP.step (pc2 := 653) (ls2 := [(3, .int (nI i)), (2, .ref 111), (1, .ref 0), (0, .float 4)]) (st2 := [.int (nI i), .float 4, .ref 111]) (w3 := w1) rfl rfl ?_
  refine sx_RP.step (pc2 := 654) (ls2 := [(3, .int (nI i)), (2, .ref 111), (1, .ref 0), (0, .float 4)]) (st2 := [.int 1, .int (nI i), .float 4, .ref 111]) (w3 := w1) rfl rfl ?_
  refine sx_RP.step (pc2 := 655) (ls2 := [(3, .int (nI i)), (2, .ref 111), (1, .ref 0), (0, .float 4)]) (st2 := [.int ((nI i) + 1), .float 4, .ref 111]) (w3 := w1) rfl rfl ?_
  rw [show ((nI i) + 1 : Int32) = nI (i + 1) from nI_add i 1]
  refine sx_RP.scr (x := (i + 1)) rfl (by omega) hl (show _ = 656 from rfl) ?_
  refine sx_RP.callp (as2 := [.ref 111, .int (ys.getD ((i + 1)) 0)]) (rest2 := []) rfl rfl (sx_inv_v2 (mi := 246) (k := 70) (st := [.int (ys.getD ((i + 1)) 0), .ref 111]) (w := w1) rfl rfl hI2.1.o111 rfl rfl rfl) rfl rfl rfl (sx_RP.byk (r173 (d := 1) hI2 hR7 (ys.getD ((i + 1)) 0))) (show _ = 659 from rfl) ?_
  rintro r4 w9 ⟨⟨⟨v11, rfl⟩, hI10, ⟨hR12, lo13⟩⟩, hbk14⟩
  have hL15 : LI w9 := ⟨_, hC4.lo hI2 lo13, hR12, hbk14 hb8⟩
  show sx_RP _ _ _ _ _ [.int v11] _ _
  refine sx_RP.step (pc2 := 660) (ls2 := [(3, .int (nI i)), (2, .ref 111), (1, .ref 0), (0, .float 4)]) (st2 := []) (w3 := w9) rfl rfl ?_
  refine sx_RP.step (pc2 := 1539) (ls2 := [(3, .int (nI i)), (2, .ref 111), (1, .ref 0), (0, .float 4)]) (st2 := []) (w3 := w9) rfl rfl ?_
  exact kk w9 hI10 hL15
set_option maxRecDepth 20000 in
set_option maxHeartbeats 4000000 in
theorem lc13 {ys : List Int32} {i : Nat} {w : List sx_C} {P : Option Value → List sx_C → Prop} (hl : ys.length ≤ 3072) (hn : i + 6 ≤ ys.length) (hI : WI w) (hL : LI w) (kk : ∀ w2, WI w2 → LI w2 → sx_RP (some ys) 9 246 1539 [(3, .int (nI i)), (2, .ref 111), (1, .ref 0), (0, .float 4)] [] w2 P) : sx_RP (some ys) 9 246 663 [(3, .int (nI i)), (2, .ref 111), (1, .ref 0), (0, .float 4)] [] w P := by
  obtain ⟨s, hC, hR, hb⟩ := hL
  refine sx_RP.step (pc2 := 664) (ls2 := [(3, .int (nI i)), (2, .ref 111), (1, .ref 0), (0, .float 4)]) (st2 := [.ref 0]) (w3 := w) rfl rfl ?_
  refine sx_RP.step (pc2 := 665) (ls2 := [(3, .int (nI i)), (2, .ref 111), (1, .ref 0), (0, .float 4)]) (st2 := [.float 4, .ref 0]) (w3 := w) rfl rfl ?_
  refine sx_RP.step (pc2 := 666) (ls2 := [(3, .int (nI i)), (2, .ref 111), (1, .ref 0), (0, .float 4)]) (st2 := [.int (nI i), .float 4, .ref 0]) (w3 := w) rfl rfl ?_
  refine sx_RP.step (pc2 := 667) (ls2 := [(3, .int (nI i)), (2, .ref 111), (1, .ref 0), (0, .float 4)]) (st2 := [.int 1, .int (nI i), .float 4, .ref 0]) (w3 := w) rfl rfl ?_
  refine sx_RP.step (pc2 := 668) (ls2 := [(3, .int (nI i)), (2, .ref 111), (1, .ref 0), (0, .float 4)]) (st2 := [.int ((nI i) + 1), .float 4, .ref 0]) (w3 := w) rfl rfl ?_
  rw [show ((nI i) + 1 : Int32) = nI (i + 1) from nI_add i 1]
  refine sx_RP.scr (x := (i + 1)) rfl (by omega) hl (show _ = 669 from rfl) ?_
  refine sx_RP.step (pc2 := 670) (ls2 := [(3, .int (nI i)), (2, .ref 111), (1, .ref 0), (0, .float 4)]) (st2 := [.float 4, .int (ys.getD ((i + 1)) 0), .ref 0]) (w3 := w) rfl rfl ?_
  refine sx_RP.step (pc2 := 671) (ls2 := [(3, .int (nI i)), (2, .ref 111), (1, .ref 0), (0, .float 4)]) (st2 := [.int (nI i), .float 4, .int (ys.getD ((i + 1)) 0), .ref 0]) (w3 := w) rfl rfl ?_
  refine sx_RP.step (pc2 := 672) (ls2 := [(3, .int (nI i)), (2, .ref 111), (1, .ref 0), (0, .float 4)]) (st2 := [.int 2, .int (nI i), .float 4, .int (ys.getD ((i + 1)) 0), .ref 0]) (w3 := w) rfl rfl ?_
  refine sx_RP.step (pc2 := 673) (ls2 := [(3, .int (nI i)), (2, .ref 111), (1, .ref 0), (0, .float 4)]) (st2 := [.int ((nI i) + 2), .float 4, .int (ys.getD ((i + 1)) 0), .ref 0]) (w3 := w) rfl rfl ?_
  rw [show ((nI i) + 2 : Int32) = nI (i + 2) from nI_add i 2]
  refine sx_RP.scr (x := (i + 2)) rfl (by omega) hl (show _ = 674 from rfl) ?_
  refine sx_RP.callp (as2 := [.ref 0, .int (ys.getD ((i + 1)) 0), .int (ys.getD ((i + 2)) 0)]) (rest2 := []) rfl rfl (sx_inv_v2 (mi := 246) (k := 71) (st := [.int (ys.getD ((i + 2)) 0), .int (ys.getD ((i + 1)) 0), .ref 0]) (w := w) rfl rfl hI.1.o0 rfl rfl rfl) rfl rfl rfl (sx_RP.byk (c49 (d := 1) hI hC (ys.getD ((i + 1)) 0) (ys.getD ((i + 2)) 0))) (show _ = 677 from rfl) ?_
  rintro r4 w1 ⟨⟨⟨v3, rfl⟩, hI2, ⟨hC4, hi5⟩⟩, hbk6⟩
  have hR7 := hR.hi hi5
  have hb8 := hbk6 hb
  show sx_RP _ _ _ _ _ [.int v3] _ _
  refine sx_RP.step (pc2 := 678) (ls2 := [(3, .int (nI i)), (2, .ref 111), (1, .ref 0), (0, .float 4)]) (st2 := []) (w3 := w1) rfl rfl ?_
  refine sx_RP.step (pc2 := 679) (ls2 := [(3, .int (nI i)), (2, .ref 111), (1, .ref 0), (0, .float 4)]) (st2 := [.ref 111]) (w3 := w1) rfl rfl ?_
  refine sx_RP.step (pc2 := 680) (ls2 := [(3, .int (nI i)), (2, .ref 111), (1, .ref 0), (0, .float 4)]) (st2 := [.float 4, .ref 111]) (w3 := w1) rfl rfl ?_
  refine sx_RP.step (pc2 := 681) (ls2 := [(3, .int (nI i)), (2, .ref 111), (1, .ref 0), (0, .float 4)]) (st2 := [.int (nI i), .float 4, .ref 111]) (w3 := w1) rfl rfl ?_
  refine sx_RP.step (pc2 := 682) (ls2 := [(3, .int (nI i)), (2, .ref 111), (1, .ref 0), (0, .float 4)]) (st2 := [.int 1, .int (nI i), .float 4, .ref 111]) (w3 := w1) rfl rfl ?_
  refine sx_RP.step (pc2 := 683) (ls2 := [(3, .int (nI i)), (2, .ref 111), (1, .ref 0), (0, .float 4)]) (st2 := [.int ((nI i) + 1), .float 4, .ref 111]) (w3 := w1) rfl rfl ?_
  rw [show ((nI i) + 1 : Int32) = nI (i + 1) from nI_add i 1]
  refine sx_RP.scr (x := (i + 1)) rfl (by omega) hl (show _ = 684 from rfl) ?_
  refine sx_RP.step (pc2 := 685) (ls2 := [(3, .int (nI i)), (2, .ref 111), (1, .ref 0), (0, .float 4)]) (st2 := [.float 4, .int (ys.getD ((i + 1)) 0), .ref 111]) (w3 := w1) rfl rfl ?_
  refine sx_RP.step (pc2 := 686) (ls2 := [(3, .int (nI i)), (2, .ref 111), (1, .ref 0), (0, .float 4)]) (st2 := [.int (nI i), .float 4, .int (ys.getD ((i + 1)) 0), .ref 111]) (w3 := w1) rfl rfl ?_
  refine sx_RP.step (pc2 := 687) (ls2 := [(3, .int (nI i)), (2, .ref 111), (1, .ref 0), (0, .float 4)]) (st2 := [.int 2, .int (nI i), .float 4, .int (ys.getD ((i + 1)) 0), .ref 111]) (w3 := w1) rfl rfl ?_
  refine sx_RP.step (pc2 := 688) (ls2 := [(3, .int (nI i)), (2, .ref 111), (1, .ref 0), (0, .float 4)]) (st2 := [.int ((nI i) + 2), .float 4, .int (ys.getD ((i + 1)) 0), .ref 111]) (w3 := w1) rfl rfl ?_
  rw [show ((nI i) + 2 : Int32) = nI (i + 2) from nI_add i 2]
  refine sx_RP.scr (x := (i + 2)) rfl (by omega) hl (show _ = 689 from rfl) ?_
  refine sx_RP.callp (as2 := [.ref 111, .int (ys.getD ((i + 1)) 0), .int (ys.getD ((i + 2)) 0)]) (rest2 := []) rfl rfl (sx_inv_v2 (mi := 246) (k := 74) (st := [.int (ys.getD ((i + 2)) 0), .int (ys.getD ((i + 1)) 0), .ref 111]) (w := w1) rfl rfl hI2.1.o111 rfl rfl rfl) rfl rfl rfl (sx_RP.byk (r174 (d := 1) hI2 hR7 (ys.getD ((i + 1)) 0) (ys.getD ((i + 2)) 0))) (show _ = 692 from rfl) ?_
  rintro r4 w9 ⟨⟨⟨v11, rfl⟩, hI10, ⟨hR12, lo13⟩⟩, hbk14⟩
  have hL15 : LI w9 := ⟨_, hC4.lo hI2 lo13, hR12, hbk14 hb8⟩
  show sx_RP _ _ _ _ _ [.int v11] _ _
  refine sx_RP.step (pc2 := 693) (ls2 := [(3, .int (nI i)), (2, .ref 111), (1, .ref 0), (0, .float 4)]) (st2 := []) (w3 := w9) rfl rfl ?_
  refine sx_RP.step (pc2 := 1539) (ls2 := [(3, .int (nI i)), (2, .ref 111), (1, .ref 0), (0, .float 4)]) (st2 := []) (w3 := w9) rfl rfl ?_
  exact kk w9 hI10 hL15
set_option maxRecDepth 20000 in
set_option maxHeartbeats 4000000 in
theorem lc14 {ys : List Int32} {i : Nat} {w : List sx_C} {P : Option Value → List sx_C → Prop} (hl : ys.length ≤ 3072) (hn : i + 6 ≤ ys.length) (hI : WI w) (hL : LI w) (kk : ∀ w2, WI w2 → LI w2 → sx_RP (some ys) 9 246 1539 [(3, .int (nI i)), (2, .ref 111), (1, .ref 0), (0, .float 4)] [] w2 P) : sx_RP (some ys) 9 246 696 [(3, .int (nI i)), (2, .ref 111), (1, .ref 0), (0, .float 4)] [] w P := by
  obtain ⟨s, hC, hR, hb⟩ := hL
  refine sx_RP.step (pc2 := 697) (ls2 := [(3, .int (nI i)), (2, .ref 111), (1, .ref 0), (0, .float 4)]) (st2 := [.ref 0]) (w3 := w) rfl rfl ?_
  refine sx_RP.step (pc2 := 698) (ls2 := [(3, .int (nI i)), (2, .ref 111), (1, .ref 0), (0, .float 4)]) (st2 := [.float 4, .ref 0]) (w3 := w) rfl rfl ?_
  refine sx_RP.step (pc2 := 699) (ls2 := [(3, .int (nI i)), (2, .ref 111), (1, .ref 0), (0, .float 4)]) (st2 := [.int (nI i), .float 4, .ref 0]) (w3 := w) rfl rfl ?_
  refine sx_RP.step (pc2 := 700) (ls2 := [(3, .int (nI i)), (2, .ref 111), (1, .ref 0), (0, .float 4)]) (st2 := [.int 1, .int (nI i), .float 4, .ref 0]) (w3 := w) rfl rfl ?_
  refine sx_RP.step (pc2 := 701) (ls2 := [(3, .int (nI i)), (2, .ref 111), (1, .ref 0), (0, .float 4)]) (st2 := [.int ((nI i) + 1), .float 4, .ref 0]) (w3 := w) rfl rfl ?_
  rw [show ((nI i) + 1 : Int32) = nI (i + 1) from nI_add i 1]
  refine sx_RP.scr (x := (i + 1)) rfl (by omega) hl (show _ = 702 from rfl) ?_
  refine sx_RP.callp (as2 := [.ref 0, .int (ys.getD ((i + 1)) 0)]) (rest2 := []) rfl rfl (sx_inv_v2 (mi := 246) (k := 75) (st := [.int (ys.getD ((i + 1)) 0), .ref 0]) (w := w) rfl rfl hI.1.o0 rfl rfl rfl) rfl rfl rfl (sx_RP.byk (c52 (d := 1) hI hC (ys.getD ((i + 1)) 0))) (show _ = 705 from rfl) ?_
  rintro r4 w1 ⟨⟨⟨v3, rfl⟩, hI2, ⟨hC4, hi5⟩⟩, hbk6⟩
  have hR7 := hR.hi hi5
  have hb8 := hbk6 hb
  show sx_RP _ _ _ _ _ [.int v3] _ _
  refine sx_RP.step (pc2 := 706) (ls2 := [(3, .int (nI i)), (2, .ref 111), (1, .ref 0), (0, .float 4)]) (st2 := []) (w3 := w1) rfl rfl ?_
  refine sx_RP.step (pc2 := 707) (ls2 := [(3, .int (nI i)), (2, .ref 111), (1, .ref 0), (0, .float 4)]) (st2 := [.ref 111]) (w3 := w1) rfl rfl ?_
  refine sx_RP.step (pc2 := 708) (ls2 := [(3, .int (nI i)), (2, .ref 111), (1, .ref 0), (0, .float 4)]) (st2 := [.float 4, .ref 111]) (w3 := w1) rfl rfl ?_
  refine sx_RP.step (pc2 := 709) (ls2 := [(3, .int (nI i)), (2, .ref 111), (1, .ref 0), (0, .float 4)]) (st2 := [.int (nI i), .float 4, .ref 111]) (w3 := w1) rfl rfl ?_
  refine sx_RP.step (pc2 := 710) (ls2 := [(3, .int (nI i)), (2, .ref 111), (1, .ref 0), (0, .float 4)]) (st2 := [.int 1, .int (nI i), .float 4, .ref 111]) (w3 := w1) rfl rfl ?_
  refine sx_RP.step (pc2 := 711) (ls2 := [(3, .int (nI i)), (2, .ref 111), (1, .ref 0), (0, .float 4)]) (st2 := [.int ((nI i) + 1), .float 4, .ref 111]) (w3 := w1) rfl rfl ?_
  rw [show ((nI i) + 1 : Int32) = nI (i + 1) from nI_add i 1]
  refine sx_RP.scr (x := (i + 1)) rfl (by omega) hl (show _ = 712 from rfl) ?_
  refine sx_RP.callp (as2 := [.ref 111, .int (ys.getD ((i + 1)) 0)]) (rest2 := []) rfl rfl (sx_inv_v2 (mi := 246) (k := 78) (st := [.int (ys.getD ((i + 1)) 0), .ref 111]) (w := w1) rfl rfl hI2.1.o111 rfl rfl rfl) rfl rfl rfl (sx_RP.byk (r176 (d := 1) hI2 hR7 (ys.getD ((i + 1)) 0))) (show _ = 715 from rfl) ?_
  rintro r4 w9 ⟨⟨⟨v11, rfl⟩, hI10, ⟨hR12, lo13⟩⟩, hbk14⟩
  have hL15 : LI w9 := ⟨_, hC4.lo hI2 lo13, hR12, hbk14 hb8⟩
  show sx_RP _ _ _ _ _ [.int v11] _ _
  refine sx_RP.step (pc2 := 716) (ls2 := [(3, .int (nI i)), (2, .ref 111), (1, .ref 0), (0, .float 4)]) (st2 := []) (w3 := w9) rfl rfl ?_
  refine sx_RP.step (pc2 := 1539) (ls2 := [(3, .int (nI i)), (2, .ref 111), (1, .ref 0), (0, .float 4)]) (st2 := []) (w3 := w9) rfl rfl ?_
  exact kk w9 hI10 hL15
end
-- 91b.cases.lean.txt
section
set_option maxRecDepth 20000 in
set_option maxHeartbeats 4000000 in
theorem lc15 {ys : List Int32} {i : Nat} {w : List sx_C} {P : Option Value → List sx_C → Prop} (hl : ys.length ≤ 3072) (hn : i + 6 ≤ ys.length) (hI : WI w) (hL : LI w) (kk : ∀ w2, WI w2 → LI w2 → sx_RP (some ys) 9 246 1539 [(3, .int (nI i)), (2, .ref 111), (1, .ref 0), (0, .float 4)] [] w2 P) : sx_RP (some ys) 9 246 719 [(3, .int (nI i)), (2, .ref 111), (1, .ref 0), (0, .float 4)] [] w P := by
  obtain ⟨s, hC, hR, hb⟩ := hL
  refine sx_RP.step (pc2 := 720) (ls2 := [(3, .int (nI i)), (2, .ref 111), (1, .ref 0), (0, .float 4)]) (st2 := [.ref 0]) (w3 := w) rfl rfl ?_
  refine sx_RP.callp (as2 := [.ref 0]) (rest2 := []) rfl rfl (sx_inv_v2 (mi := 246) (k := 79) (st := [.ref 0]) (w := w) rfl rfl hI.1.o0 rfl rfl rfl) rfl rfl rfl (sx_RP.byk (c53 (d := 1) hI hC)) (show _ = 723 from rfl) ?_
  rintro r4 w1 ⟨⟨⟨v3, rfl⟩, hI2, ⟨hC4, hi5⟩⟩, hbk6⟩
  have hR7 := hR.hi hi5
  have hb8 := hbk6 hb
  show sx_RP _ _ _ _ _ [.int v3] _ _
  refine sx_RP.step (pc2 := 724) (ls2 := [(3, .int (nI i)), (2, .ref 111), (1, .ref 0), (0, .float 4)]) (st2 := []) (w3 := w1) rfl rfl ?_
  refine sx_RP.step (pc2 := 725) (ls2 := [(3, .int (nI i)), (2, .ref 111), (1, .ref 0), (0, .float 4)]) (st2 := [.ref 111]) (w3 := w1) rfl rfl ?_
  refine sx_RP.callp (as2 := [.ref 111]) (rest2 := []) rfl rfl (sx_inv_v2 (mi := 246) (k := 83) (st := [.ref 111]) (w := w1) rfl rfl hI2.1.o111 rfl rfl rfl) rfl rfl rfl (sx_RP.byk (r177 (d := 1) hI2 hR7)) (show _ = 728 from rfl) ?_
  rintro r4 w9 ⟨⟨⟨v11, rfl⟩, hI10, ⟨hR12, lo13⟩⟩, hbk14⟩
  have hL15 : LI w9 := ⟨_, hC4.lo hI2 lo13, hR12, hbk14 hb8⟩
  show sx_RP _ _ _ _ _ [.int v11] _ _
  refine sx_RP.step (pc2 := 729) (ls2 := [(3, .int (nI i)), (2, .ref 111), (1, .ref 0), (0, .float 4)]) (st2 := []) (w3 := w9) rfl rfl ?_
  refine sx_RP.step (pc2 := 1539) (ls2 := [(3, .int (nI i)), (2, .ref 111), (1, .ref 0), (0, .float 4)]) (st2 := []) (w3 := w9) rfl rfl ?_
  exact kk w9 hI10 hL15
set_option maxRecDepth 20000 in
set_option maxHeartbeats 4000000 in
theorem lc16 {ys : List Int32} {i : Nat} {w : List sx_C} {P : Option Value → List sx_C → Prop} (hl : ys.length ≤ 3072) (hn : i + 6 ≤ ys.length) (hI : WI w) (hL : LI w) (kk : ∀ w2, WI w2 → LI w2 → sx_RP (some ys) 9 246 1539 [(3, .int (nI i)), (2, .ref 111), (1, .ref 0), (0, .float 4)] [] w2 P) : sx_RP (some ys) 9 246 732 [(3, .int (nI i)), (2, .ref 111), (1, .ref 0), (0, .float 4)] [] w P := by
  obtain ⟨s, hC, hR, hb⟩ := hL
  refine sx_RP.step (pc2 := 733) (ls2 := [(3, .int (nI i)), (2, .ref 111), (1, .ref 0), (0, .float 4)]) (st2 := [.ref 0]) (w3 := w) rfl rfl ?_
  refine sx_RP.step (pc2 := 734) (ls2 := [(3, .int (nI i)), (2, .ref 111), (1, .ref 0), (0, .float 4)]) (st2 := [.float 4, .ref 0]) (w3 := w) rfl rfl ?_
  refine sx_RP.step (pc2 := 735) (ls2 := [(3, .int (nI i)), (2, .ref 111), (1, .ref 0), (0, .float 4)]) (st2 := [.int (nI i), .float 4, .ref 0]) (w3 := w) rfl rfl ?_
  refine sx_RP.step (pc2 := 736) (ls2 := [(3, .int (nI i)), (2, .ref 111), (1, .ref 0), (0, .float 4)]) (st2 := [.int 1, .int (nI i), .float 4, .ref 0]) (w3 := w) rfl rfl ?_
  refine sx_RP.step (pc2 := 737) (ls2 := [(3, .int (nI i)), (2, .ref 111), (1, .ref 0), (0, .float 4)]) (st2 := [.int ((nI i) + 1), .float 4, .ref 0]) (w3 := w) rfl rfl ?_
  rw [show ((nI i) + 1 : Int32) = nI (i + 1) from nI_add i 1]
  refine sx_RP.scr (x := (i + 1)) rfl (by omega) hl (show _ = 738 from rfl) ?_
  refine sx_RP.step (pc2 := 739) (ls2 := [(3, .int (nI i)), (2, .ref 111), (1, .ref 0), (0, .float 4)]) (st2 := [.float 4, .int (ys.getD ((i + 1)) 0), .ref 0]) (w3 := w) rfl rfl ?_
  refine sx_RP.step (pc2 := 740) (ls2 := [(3, .int (nI i)), (2, .ref 111), (1, .ref 0), (0, .float 4)]) (st2 := [.int (nI i), .float 4, .int (ys.getD ((i + 1)) 0), .ref 0]) (w3 := w) rfl rfl ?_
  refine sx_RP.step (pc2 := 741) (ls2 := [(3, .int (nI i)), (2, .ref 111), (1, .ref 0), (0, .float 4)]) (st2 := [.int 2, .int (nI i), .float 4, .int (ys.getD ((i + 1)) 0), .ref 0]) (w3 := w) rfl rfl ?_
  refine sx_RP.step (pc2 := 742) (ls2 := [(3, .int (nI i)), (2, .ref 111), (1, .ref 0), (0, .float 4)]) (st2 := [.int ((nI i) + 2), .float 4, .int (ys.getD ((i + 1)) 0), .ref 0]) (w3 := w) rfl rfl ?_
  rw [show ((nI i) + 2 : Int32) = nI (i + 2) from nI_add i 2]
  refine sx_RP.scr (x := (i + 2)) rfl (by omega) hl (show _ = 743 from rfl) ?_
  refine sx_RP.callp (as2 := [.ref 0, .int (ys.getD ((i + 1)) 0), .int (ys.getD ((i + 2)) 0)]) (rest2 := []) rfl rfl (sx_inv_v2 (mi := 246) (k := 84) (st := [.int (ys.getD ((i + 2)) 0), .int (ys.getD ((i + 1)) 0), .ref 0]) (w := w) rfl rfl hI.1.o0 rfl rfl rfl) rfl rfl rfl (sx_RP.byk (c55 (d := 1) hI hC (ys.getD ((i + 1)) 0) (ys.getD ((i + 2)) 0))) (show _ = 746 from rfl) ?_
  rintro r4 w1 ⟨⟨⟨v3, rfl⟩, hI2, ⟨hC4, hi5⟩⟩, hbk6⟩
  have hR7 := hR.hi hi5
  have hb8 := hbk6 hb
  show sx_RP _ _ _ _ _ [.int v3] _ _
  refine sx_RP.step (pc2 := 747) (ls2 := [(3, .int (nI i)), (2, .ref 111), (1, .ref 0), (0, .float 4)]) (st2 := []) (w3 := w1) rfl rfl ?_
  refine sx_RP.step (pc2 := 748) (ls2 := [(3, .int (nI i)), (2, .ref 111), (1, .ref 0), (0, .float 4)]) (st2 := [.ref 111]) (w3 := w1) rfl rfl ?_
  refine sx_RP.step (pc2 := 749) (ls2 := [(3, .int (nI i)), (2, .ref 111), (1, .ref 0), (0, .float 4)]) (st2 := [.float 4, .ref 111]) (w3 := w1) rfl rfl ?_
  refine sx_RP.step (pc2 := 750) (ls2 := [(3, .int (nI i)), (2, .ref 111), (1, .ref 0), (0, .float 4)]) (st2 := [.int (nI i), .float 4, .ref 111]) (w3 := w1) rfl rfl ?_
  refine sx_RP.step (pc2 := 751) (ls2 := [(3, .int (nI i)), (2, .ref 111), (1, .ref 0), (0, .float 4)]) (st2 := [.int 1, .int (nI i), .float 4, .ref 111]) (w3 := w1) rfl rfl ?_
  refine sx_RP.step (pc2 := 752) (ls2 := [(3, .int (nI i)), (2, .ref 111), (1, .ref 0), (0, .float 4)]) (st2 := [.int ((nI i) + 1), .float 4, .ref 111]) (w3 := w1) rfl rfl ?_
  rw [show ((nI i) + 1 : Int32) = nI (i + 1) from nI_add i 1]
  refine sx_RP.scr (x := (i + 1)) rfl (by omega) hl (show _ = 753 from rfl) ?_
  refine sx_RP.step (pc2 := 754) (ls2 := [(3, .int (nI i)), (2, .ref 111), (1, .ref 0), (0, .float 4)]) (st2 := [.float 4, .int (ys.getD ((i + 1)) 0), .ref 111]) (w3 := w1) rfl rfl ?_
  refine sx_RP.step (pc2 := 755) (ls2 := [(3, .int (nI i)), (2, .ref 111), (1, .ref 0), (0, .float 4)]) (st2 := [.int (nI i), .float 4, .int (ys.getD ((i + 1)) 0), .ref 111]) (w3 := w1) rfl rfl ?_
  refine sx_RP.step (pc2 := 756) (ls2 := [(3, .int (nI i)), (2, .ref 111), (1, .ref 0), (0, .float 4)]) (st2 := [.int 2, .int (nI i), .float 4, .int (ys.getD ((i + 1)) 0), .ref 111]) (w3 := w1) rfl rfl ?_
  refine sx_RP.step (pc2 := 757) (ls2 := [(3, .int (nI i)), (2, .ref 111), (1, .ref 0), (0, .float 4)]) (st2 := [.int ((nI i) + 2), .float 4, .int (ys.getD ((i + 1)) 0), .ref 111]) (w3 := w1) rfl rfl ?_
  rw [show ((nI i) + 2 : Int32) = nI (i + 2) from nI_add i 2]
  refine sx_RP.scr (x := (i + 2)) rfl (by omega) hl (show _ = 758 from rfl) ?_
  refine sx_RP.callp (as2 := [.ref 111, .int (ys.getD ((i + 1)) 0), .int (ys.getD ((i + 2)) 0)]) (rest2 := []) rfl rfl (sx_inv_v2 (mi := 246) (k := 87) (st := [.int (ys.getD ((i + 2)) 0), .int (ys.getD ((i + 1)) 0), .ref 111]) (w := w1) rfl rfl hI2.1.o111 rfl rfl rfl) rfl rfl rfl (sx_RP.byk (r179 (d := 1) hI2 hR7 (ys.getD ((i + 1)) 0) (ys.getD ((i + 2)) 0))) (show _ = 761 from rfl) ?_
  rintro r4 w9 ⟨⟨⟨v11, rfl⟩, hI10, ⟨hR12, lo13⟩⟩, hbk14⟩
  have hL15 : LI w9 := ⟨_, hC4.lo hI2 lo13, hR12, hbk14 hb8⟩
  show sx_RP _ _ _ _ _ [.int v11] _ _
  refine sx_RP.step (pc2 := 762) (ls2 := [(3, .int (nI i)), (2, .ref 111), (1, .ref 0), (0, .float 4)]) (st2 := []) (w3 := w9) rfl rfl ?_
  refine sx_RP.step (pc2 := 1539) (ls2 := [(3, .int (nI i)), (2, .ref 111), (1, .ref 0), (0, .float 4)]) (st2 := []) (w3 := w9) rfl rfl ?_
  exact kk w9 hI10 hL15
set_option maxRecDepth 20000 in
set_option maxHeartbeats 4000000 in
theorem lc17 {ys : List Int32} {i : Nat} {w : List sx_C} {P : Option Value → List sx_C → Prop} (hl : ys.length ≤ 3072) (hn : i + 6 ≤ ys.length) (hI : WI w) (hL : LI w) (kk : ∀ w2, WI w2 → LI w2 → sx_RP (some ys) 9 246 1539 [(3, .int (nI i)), (2, .ref 111), (1, .ref 0), (0, .float 4)] [] w2 P) : sx_RP (some ys) 9 246 765 [(3, .int (nI i)), (2, .ref 111), (1, .ref 0), (0, .float 4)] [] w P := by
  obtain ⟨s, hC, hR, hb⟩ := hL
  refine sx_RP.step (pc2 := 766) (ls2 := [(3, .int (nI i)), (2, .ref 111), (1, .ref 0), (0, .float 4)]) (st2 := [.ref 0]) (w3 := w) rfl rfl ?_
  refine sx_RP.step (pc2 := 767) (ls2 := [(3, .int (nI i)), (2, .ref 111), (1, .ref 0), (0, .float 4)]) (st2 := [.float 4, .ref 0]) (w3 := w) rfl rfl ?_
  refine sx_RP.step (pc2 := 768) (ls2 := [(3, .int (nI i)), (2, .ref 111), (1, .ref 0), (0, .float 4)]) (st2 := [.int (nI i), .float 4, .ref 0]) (w3 := w) rfl rfl ?_
  refine sx_RP.step (pc2 := 769) (ls2 := [(3, .int (nI i)), (2, .ref 111), (1, .ref 0), (0, .float 4)]) (st2 := [.int 1, .int (nI i), .float 4, .ref 0]) (w3 := w) rfl rfl ?_
  refine sx_RP.step (pc2 := 770) (ls2 := [(3, .int (nI i)), (2, .ref 111), (1, .ref 0), (0, .float 4)]) (st2 := [.int ((nI i) + 1), .float 4, .ref 0]) (w3 := w) rfl rfl ?_
  rw [show ((nI i) + 1 : Int32) = nI (i + 1) from nI_add i 1]
  refine sx_RP.scr (x := (i + 1)) rfl (by omega) hl (show _ = 771 from rfl) ?_
  refine sx_RP.step (pc2 := 772) (ls2 := [(3, .int (nI i)), (2, .ref 111), (1, .ref 0), (0, .float 4)]) (st2 := [.float 4, .int (ys.getD ((i + 1)) 0), .ref 0]) (w3 := w) rfl rfl ?_
  refine sx_RP.step (pc2 := 773) (ls2 := [(3, .int (nI i)), (2, .ref 111), (1, .ref 0), (0, .float 4)]) (st2 := [.int (nI i), .float 4, .int (ys.getD ((i + 1)) 0), .ref 0]) (w3 := w) rfl rfl ?_
  refine sx_RP.step (pc2 := 774) (ls2 := [(3, .int (nI i)), (2, .ref 111), (1, .ref 0), (0, .float 4)]) (st2 := [.int 2, .int (nI i), .float 4, .int (ys.getD ((i + 1)) 0), .ref 0]) (w3 := w) rfl rfl ?_
  refine sx_RP.step (pc2 := 775) (ls2 := [(3, .int (nI i)), (2, .ref 111), (1, .ref 0), (0, .float 4)]) (st2 := [.int ((nI i) + 2), .float 4, .int (ys.getD ((i + 1)) 0), .ref 0]) (w3 := w) rfl rfl ?_
  rw [show ((nI i) + 2 : Int32) = nI (i + 2) from nI_add i 2]
  refine sx_RP.scr (x := (i + 2)) rfl (by omega) hl (show _ = 776 from rfl) ?_
  refine sx_RP.callp (as2 := [.ref 0, .int (ys.getD ((i + 1)) 0), .int (ys.getD ((i + 2)) 0)]) (rest2 := []) rfl rfl (sx_inv_v2 (mi := 246) (k := 88) (st := [.int (ys.getD ((i + 2)) 0), .int (ys.getD ((i + 1)) 0), .ref 0]) (w := w) rfl rfl hI.1.o0 rfl rfl rfl) rfl rfl rfl (sx_RP.byk (c58 (d := 1) hI hC (ys.getD ((i + 1)) 0) (ys.getD ((i + 2)) 0))) (show _ = 779 from rfl) ?_
  rintro r4 w1 ⟨⟨⟨v3, rfl⟩, hI2, ⟨hC4, hi5⟩⟩, hbk6⟩
  have hR7 := hR.hi hi5
  have hb8 := hbk6 hb
  show sx_RP _ _ _ _ _ [.int v3] _ _
  refine sx_RP.step (pc2 := 780) (ls2 := [(3, .int (nI i)), (2, .ref 111), (1, .ref 0), (0, .float 4)]) (st2 := []) (w3 := w1) rfl rfl ?_
  refine sx_RP.step (pc2 := 781) (ls2 := [(3, .int (nI i)), (2, .ref 111), (1, .ref 0), (0, .float 4)]) (st2 := [.ref 111]) (w3 := w1) rfl rfl ?_
  refine sx_RP.step (pc2 := 782) (ls2 := [(3, .int (nI i)), (2, .ref 111), (1, .ref 0), (0, .float 4)]) (st2 := [.float 4, .ref 111]) (w3 := w1) rfl rfl ?_
  refine sx_RP.step (pc2 := 783) (ls2 := [(3, .int (nI i)), (2, .ref 111), (1, .ref 0), (0, .float 4)]) (st2 := [.int (nI i), .float 4, .ref 111]) (w3 := w1) rfl rfl ?_
  refine sx_RP.step (pc2 := 784) (ls2 := [(3, .int (nI i)), (2, .ref 111), (1, .ref 0), (0, .float 4)]) (st2 := [.int 1, .int (nI i), .float 4, .ref 111]) (w3 := w1) rfl rfl ?_
  refine sx_RP.step (pc2 := 785) (ls2 := [(3, .int (nI i)), (2, .ref 111), (1, .ref 0), (0, .float 4)]) (st2 := [.int ((nI i) + 1), .float 4, .ref 111]) (w3 := w1) rfl rfl ?_
  rw [show ((nI i) + 1 : Int32) = nI (i + 1) from nI_add i 1]
  refine sx_RP.scr (x := (i + 1)) rfl (by omega) hl (show _ = 786 from rfl) ?_
  refine sx_RP.step (pc2 := 787) (ls2 := [(3, .int (nI i)), (2, .ref 111), (1, .ref 0), (0, .float 4)]) (st2 := [.float 4, .int (ys.getD ((i + 1)) 0), .ref 111]) (w3 := w1) rfl rfl ?_
  refine sx_RP.step (pc2 := 788) (ls2 := [(3, .int (nI i)), (2, .ref 111), (1, .ref 0), (0, .float 4)]) (st2 := [.int (nI i), .float 4, .int (ys.getD ((i + 1)) 0), .ref 111]) (w3 := w1) rfl rfl ?_
  refine sx_RP.step (pc2 := 789) (ls2 := [(3, .int (nI i)), (2, .ref 111), (1, .ref 0), (0, .float 4)]) (st2 := [.int 2, .int (nI i), .float 4, .int (ys.getD ((i + 1)) 0), .ref 111]) (w3 := w1) rfl rfl ?_
  refine sx_RP.step (pc2 := 790) (ls2 := [(3, .int (nI i)), (2, .ref 111), (1, .ref 0), (0, .float 4)]) (st2 := [.int ((nI i) + 2), .float 4, .int (ys.getD ((i + 1)) 0), .ref 111]) (w3 := w1) rfl rfl ?_
  rw [show ((nI i) + 2 : Int32) = nI (i + 2) from nI_add i 2]
  refine sx_RP.scr (x := (i + 2)) rfl (by omega) hl (show _ = 791 from rfl) ?_
  refine sx_RP.callp (as2 := [.ref 111, .int (ys.getD ((i + 1)) 0), .int (ys.getD ((i + 2)) 0)]) (rest2 := []) rfl rfl (sx_inv_v2 (mi := 246) (k := 91) (st := [.int (ys.getD ((i + 2)) 0), .int (ys.getD ((i + 1)) 0), .ref 111]) (w := w1) rfl rfl hI2.1.o111 rfl rfl rfl) rfl rfl rfl (sx_RP.byk (r180 (d := 1) hI2 hR7 (ys.getD ((i + 1)) 0) (ys.getD ((i + 2)) 0))) (show _ = 794 from rfl) ?_
  rintro r4 w9 ⟨⟨⟨v11, rfl⟩, hI10, ⟨hR12, lo13⟩⟩, hbk14⟩
  have hL15 : LI w9 := ⟨_, hC4.lo hI2 lo13, hR12, hbk14 hb8⟩
  show sx_RP _ _ _ _ _ [.int v11] _ _
  refine sx_RP.step (pc2 := 795) (ls2 := [(3, .int (nI i)), (2, .ref 111), (1, .ref 0), (0, .float 4)]) (st2 := []) (w3 := w9) rfl rfl ?_
  refine sx_RP.step (pc2 := 1539) (ls2 := [(3, .int (nI i)), (2, .ref 111), (1, .ref 0), (0, .float 4)]) (st2 := []) (w3 := w9) rfl rfl ?_
  exact kk w9 hI10 hL15
set_option maxRecDepth 20000 in
set_option maxHeartbeats 4000000 in
theorem lc18 {ys : List Int32} {i : Nat} {w : List sx_C} {P : Option Value → List sx_C → Prop} (hl : ys.length ≤ 3072) (hn : i + 6 ≤ ys.length) (hI : WI w) (hL : LI w) (kk : ∀ w2, WI w2 → LI w2 → sx_RP (some ys) 9 246 1539 [(3, .int (nI i)), (2, .ref 111), (1, .ref 0), (0, .float 4)] [] w2 P) : sx_RP (some ys) 9 246 798 [(3, .int (nI i)), (2, .ref 111), (1, .ref 0), (0, .float 4)] [] w P := by
  obtain ⟨s, hC, hR, hb⟩ := hL
  refine sx_RP.step (pc2 := 799) (ls2 := [(3, .int (nI i)), (2, .ref 111), (1, .ref 0), (0, .float 4)]) (st2 := [.ref 0]) (w3 := w) rfl rfl ?_
  refine sx_RP.step (pc2 := 800) (ls2 := [(3, .int (nI i)), (2, .ref 111), (1, .ref 0), (0, .float 4)]) (st2 := [.float 4, .ref 0]) (w3 := w) rfl rfl ?_
  refine sx_RP.step (pc2 := 801) (ls2 := [(3, .int (nI i)), (2, .ref 111), (1, .ref 0), (0, .float 4)]) (st2 := [.int (nI i), .float 4, .ref 0]) (w3 := w) rfl rfl ?_
  refine sx_RP.step (pc2 := 802) (ls2 := [(3, .int (nI i)), (2, .ref 111), (1, .ref 0), (0, .float 4)]) (st2 := [.int 1, .int (nI i), .float 4, .ref 0]) (w3 := w) rfl rfl ?_
  refine sx_RP.step (pc2 := 803) (ls2 := [(3, .int (nI i)), (2, .ref 111), (1, .ref 0), (0, .float 4)]) (st2 := [.int ((nI i) + 1), .float 4, .ref 0]) (w3 := w) rfl rfl ?_
  rw [show ((nI i) + 1 : Int32) = nI (i + 1) from nI_add i 1]
  refine sx_RP.scr (x := (i + 1)) rfl (by omega) hl (show _ = 804 from rfl) ?_
  refine sx_RP.callp (as2 := [.ref 0, .int (ys.getD ((i + 1)) 0)]) (rest2 := []) rfl rfl (sx_inv_v2 (mi := 246) (k := 92) (st := [.int (ys.getD ((i + 1)) 0), .ref 0]) (w := w) rfl rfl hI.1.o0 rfl rfl rfl) rfl rfl rfl (sx_RP.byk (c61 (d := 1) hI hC (ys.getD ((i + 1)) 0))) (show _ = 807 from rfl) ?_
  rintro r4 w1 ⟨⟨⟨v3, rfl⟩, hI2, ⟨hC4, hi5⟩⟩, hbk6⟩
  have hR7 := hR.hi hi5
  have hb8 := hbk6 hb
  show sx_RP _ _ _ _ _ [.int v3] _ _
  refine sx_RP.step (pc2 := 808) (ls2 := [(3, .int (nI i)), (2, .ref 111), (1, .ref 0), (0, .float 4)]) (st2 := []) (w3 := w1) rfl rfl ?_
  refine sx_RP.step (pc2 := 809) (ls2 := [(3, .int (nI i)), (2, .ref 111), (1, .ref 0), (0, .float 4)]) (st2 := [.ref 111]) (w3 := w1) rfl rfl ?_
  refine sx_RP.step (pc2 := 810) (ls2 := [(3, .int (nI i)), (2, .ref 111), (1, .ref 0), (0, .float 4)]) (st2 := [.float 4, .ref 111]) (w3 := w1) rfl rfl ?_
  refine sx_RP.step (pc2 := 811) (ls2 := [(3, .int (nI i)), (2, .ref 111), (1, .ref 0), (0, .float 4)]) (st2 := [.int (nI i), .float 4, .ref 111]) (w3 := w1) rfl rfl ?_
  refine sx_RP.step (pc2 := 812) (ls2 := [(3, .int (nI i)), (2, .ref 111), (1, .ref 0), (0, .float 4)]) (st2 := [.int 1, .int (nI i), .float 4, .ref 111]) (w3 := w1) rfl rfl ?_
  refine sx_RP.step (pc2 := 813) (ls2 := [(3, .int (nI i)), (2, .ref 111), (1, .ref 0), (0, .float 4)]) (st2 := [.int ((nI i) + 1), .float 4, .ref 111]) (w3 := w1) rfl rfl ?_
  rw [show ((nI i) + 1 : Int32) = nI (i + 1) from nI_add i 1]
  refine sx_RP.scr (x := (i + 1)) rfl (by omega) hl (show _ = 814 from rfl) ?_
  refine sx_RP.callp (as2 := [.ref 111, .int (ys.getD ((i + 1)) 0)]) (rest2 := []) rfl rfl (sx_inv_v2 (mi := 246) (k := 95) (st := [.int (ys.getD ((i + 1)) 0), .ref 111]) (w := w1) rfl rfl hI2.1.o111 rfl rfl rfl) rfl rfl rfl (sx_RP.byk (r183 (d := 1) hI2 hR7 (ys.getD ((i + 1)) 0))) (show _ = 817 from rfl) ?_
  rintro r4 w9 ⟨⟨⟨v11, rfl⟩, hI10, ⟨hR12, lo13⟩⟩, hbk14⟩
  have hL15 : LI w9 := ⟨_, hC4.lo hI2 lo13, hR12, hbk14 hb8⟩
  show sx_RP _ _ _ _ _ [.int v11] _ _
  refine sx_RP.step (pc2 := 818) (ls2 := [(3, .int (nI i)), (2, .ref 111), (1, .ref 0), (0, .float 4)]) (st2 := []) (w3 := w9) rfl rfl ?_
  refine sx_RP.step (pc2 := 1539) (ls2 := [(3, .int (nI i)), (2, .ref 111), (1, .ref 0), (0, .float 4)]) (st2 := []) (w3 := w9) rfl rfl ?_
  exact kk w9 hI10 hL15
set_option maxRecDepth 20000 in
set_option maxHeartbeats 4000000 in
theorem lc19 {ys : List Int32} {i : Nat} {w : List sx_C} {P : Option Value → List sx_C → Prop} (hl : ys.length ≤ 3072) (hn : i + 6 ≤ ys.length) (hI : WI w) (hL : LI w) (kk : ∀ w2, WI w2 → LI w2 → sx_RP (some ys) 9 246 1539 [(3, .int (nI i)), (2, .ref 111), (1, .ref 0), (0, .float 4)] [] w2 P) : sx_RP (some ys) 9 246 821 [(3, .int (nI i)), (2, .ref 111), (1, .ref 0), (0, .float 4)] [] w P := by
  obtain ⟨s, hC, hR, hb⟩ := hL
  refine sx_RP.step (pc2 := 822) (ls2 := [(3, .int (nI i)), (2, .ref 111), (1, .ref 0), (0, .float 4)]) (st2 := [.ref 0]) (w3 := w) rfl rfl ?_
  refine sx_RP.step (pc2 := 823) (ls2 := [(3, .int (nI i)), (2, .ref 111), (1, .ref 0), (0, .float 4)]) (st2 := [.float 4, .ref 0]) (w3 := w) rfl rfl ?_
  refine sx_RP.step (pc2 := 824) (ls2 := [(3, .int (nI i)), (2, .ref 111), (1, .ref 0), (0, .float 4)]) (st2 := [.int (nI i), .float 4, .ref 0]) (w3 := w) rfl rfl ?_
  refine sx_RP.step (pc2 := 825) (ls2 := [(3, .int (nI i)), (2, .ref 111), (1, .ref 0), (0, .float 4)]) (st2 := [.int 1, .int (nI i), .float 4, .ref 0]) (w3 := w) rfl rfl ?_
  refine sx_RP.step (pc2 := 826) (ls2 := [(3, .int (nI i)), (2, .ref 111), (1, .ref 0), (0, .float 4)]) (st2 := [.int ((nI i) + 1), .float 4, .ref 0]) (w3 := w) rfl rfl ?_
  rw [show ((nI i) + 1 : Int32) = nI (i + 1) from nI_add i 1]
  refine sx_RP.scr (x := (i + 1)) rfl (by omega) hl (show _ = 827 from rfl) ?_
  refine sx_RP.callp (as2 := [.ref 0, .int (ys.getD ((i + 1)) 0)]) (rest2 := []) rfl rfl (sx_inv_v2 (mi := 246) (k := 96) (st := [.int (ys.getD ((i + 1)) 0), .ref 0]) (w := w) rfl rfl hI.1.o0 rfl rfl rfl) rfl rfl rfl (sx_RP.byk (c62 (d := 1) hI hC (ys.getD ((i + 1)) 0))) (show _ = 830 from rfl) ?_
  rintro r4 w1 ⟨⟨rfl, hI2, ⟨hC3, hi4⟩⟩, hbk5⟩
  have hR6 := hR.hi hi4
  have hb7 := hbk5 hb
  show sx_RP _ _ _ _ _ [.int (dis2A s.1 (ys.getD ((i + 1)) 0))] _ _
  refine sx_RP.step (pc2 := 831) (ls2 := [(3, .int (nI i)), (2, .ref 111), (1, .ref 0), (0, .float 4)]) (st2 := []) (w3 := w1) rfl rfl ?_
  refine sx_RP.step (pc2 := 832) (ls2 := [(3, .int (nI i)), (2, .ref 111), (1, .ref 0), (0, .float 4)]) (st2 := [.ref 111]) (w3 := w1) rfl rfl ?_
  refine sx_RP.step (pc2 := 833) (ls2 := [(3, .int (nI i)), (2, .ref 111), (1, .ref 0), (0, .float 4)]) (st2 := [.float 4, .ref 111]) (w3 := w1) rfl rfl ?_
  refine sx_RP.step (pc2 := 834) (ls2 := [(3, .int (nI i)), (2, .ref 111), (1, .ref 0), (0, .float 4)]) (st2 := [.int (nI i), .float 4, .ref 111]) (w3 := w1) rfl rfl ?_
  refine sx_RP.step (pc2 := 835) (ls2 := [(3, .int (nI i)), (2, .ref 111), (1, .ref 0), (0, .float 4)]) (st2 := [.int 1, .int (nI i), .float 4, .ref 111]) (w3 := w1) rfl rfl ?_
  refine sx_RP.step (pc2 := 836) (ls2 := [(3, .int (nI i)), (2, .ref 111), (1, .ref 0), (0, .float 4)]) (st2 := [.int ((nI i) + 1), .float 4, .ref 111]) (w3 := w1) rfl rfl ?_
  rw [show ((nI i) + 1 : Int32) = nI (i + 1) from nI_add i 1]
  refine sx_RP.scr (x := (i + 1)) rfl (by omega) hl (show _ = 837 from rfl) ?_
  refine sx_RP.callp (as2 := [.ref 111, .int (ys.getD ((i + 1)) 0)]) (rest2 := []) rfl rfl (sx_inv_v2 (mi := 246) (k := 99) (st := [.int (ys.getD ((i + 1)) 0), .ref 111]) (w := w1) rfl rfl hI2.1.o111 rfl rfl rfl) rfl rfl rfl (sx_RP.byk (r184 (d := 1) hI2 hR6 (ys.getD ((i + 1)) 0))) (show _ = 840 from rfl) ?_
  rintro r4 w8 ⟨⟨rfl, hI9, ⟨hR10, lo11⟩⟩, hbk12⟩
  have hL13 : LI w8 := ⟨_, hC3.lo hI2 lo11, hR10, hbk12 hb7⟩
  show sx_RP _ _ _ _ _ [.int (dis2A s.1 (ys.getD ((i + 1)) 0))] _ _
  refine sx_RP.step (pc2 := 841) (ls2 := [(3, .int (nI i)), (2, .ref 111), (1, .ref 0), (0, .float 4)]) (st2 := []) (w3 := w8) rfl rfl ?_
  refine sx_RP.step (pc2 := 1539) (ls2 := [(3, .int (nI i)), (2, .ref 111), (1, .ref 0), (0, .float 4)]) (st2 := []) (w3 := w8) rfl rfl ?_
  exact kk w8 hI9 hL13
set_option maxRecDepth 20000 in
set_option maxHeartbeats 4000000 in
theorem lc20 {ys : List Int32} {i : Nat} {w : List sx_C} {P : Option Value → List sx_C → Prop} (hl : ys.length ≤ 3072) (hn : i + 6 ≤ ys.length) (hI : WI w) (hL : LI w) (kk : ∀ w2, WI w2 → LI w2 → sx_RP (some ys) 9 246 1539 [(3, .int (nI i)), (2, .ref 111), (1, .ref 0), (0, .float 4)] [] w2 P) : sx_RP (some ys) 9 246 844 [(3, .int (nI i)), (2, .ref 111), (1, .ref 0), (0, .float 4)] [] w P := by
  obtain ⟨s, hC, hR, hb⟩ := hL
  refine sx_RP.step (pc2 := 845) (ls2 := [(3, .int (nI i)), (2, .ref 111), (1, .ref 0), (0, .float 4)]) (st2 := [.ref 0]) (w3 := w) rfl rfl ?_
  refine sx_RP.step (pc2 := 846) (ls2 := [(3, .int (nI i)), (2, .ref 111), (1, .ref 0), (0, .float 4)]) (st2 := [.float 4, .ref 0]) (w3 := w) rfl rfl ?_
  refine sx_RP.step (pc2 := 847) (ls2 := [(3, .int (nI i)), (2, .ref 111), (1, .ref 0), (0, .float 4)]) (st2 := [.int (nI i), .float 4, .ref 0]) (w3 := w) rfl rfl ?_
  refine sx_RP.step (pc2 := 848) (ls2 := [(3, .int (nI i)), (2, .ref 111), (1, .ref 0), (0, .float 4)]) (st2 := [.int 1, .int (nI i), .float 4, .ref 0]) (w3 := w) rfl rfl ?_
  refine sx_RP.step (pc2 := 849) (ls2 := [(3, .int (nI i)), (2, .ref 111), (1, .ref 0), (0, .float 4)]) (st2 := [.int ((nI i) + 1), .float 4, .ref 0]) (w3 := w) rfl rfl ?_
  rw [show ((nI i) + 1 : Int32) = nI (i + 1) from nI_add i 1]
  refine sx_RP.scr (x := (i + 1)) rfl (by omega) hl (show _ = 850 from rfl) ?_
  refine sx_RP.step (pc2 := 851) (ls2 := [(3, .int (nI i)), (2, .ref 111), (1, .ref 0), (0, .float 4)]) (st2 := [.float 4, .int (ys.getD ((i + 1)) 0), .ref 0]) (w3 := w) rfl rfl ?_
  refine sx_RP.step (pc2 := 852) (ls2 := [(3, .int (nI i)), (2, .ref 111), (1, .ref 0), (0, .float 4)]) (st2 := [.int (nI i), .float 4, .int (ys.getD ((i + 1)) 0), .ref 0]) (w3 := w) rfl rfl ?_
  refine sx_RP.step (pc2 := 853) (ls2 := [(3, .int (nI i)), (2, .ref 111), (1, .ref 0), (0, .float 4)]) (st2 := [.int 2, .int (nI i), .float 4, .int (ys.getD ((i + 1)) 0), .ref 0]) (w3 := w) rfl rfl ?_
  refine sx_RP.step (pc2 := 854) (ls2 := [(3, .int (nI i)), (2, .ref 111), (1, .ref 0), (0, .float 4)]) (st2 := [.int ((nI i) + 2), .float 4, .int (ys.getD ((i + 1)) 0), .ref 0]) (w3 := w) rfl rfl ?_
  rw [show ((nI i) + 2 : Int32) = nI (i + 2) from nI_add i 2]
  refine sx_RP.scr (x := (i + 2)) rfl (by omega) hl (show _ = 855 from rfl) ?_
  refine sx_RP.callp (as2 := [.ref 0, .int (ys.getD ((i + 1)) 0), .int (ys.getD ((i + 2)) 0)]) (rest2 := []) rfl rfl (sx_inv_v2 (mi := 246) (k := 100) (st := [.int (ys.getD ((i + 2)) 0), .int (ys.getD ((i + 1)) 0), .ref 0]) (w := w) rfl rfl hI.1.o0 rfl rfl rfl) rfl rfl rfl (sx_RP.byk (c65 (d := 1) hI hC (ys.getD ((i + 1)) 0) (ys.getD ((i + 2)) 0))) (show _ = 858 from rfl) ?_
  rintro r4 w1 ⟨⟨rfl, hI2, ⟨hC3, hi4⟩⟩, hbk5⟩
  have hR6 := hR.hi hi4
  have hb7 := hbk5 hb
  show sx_RP _ _ _ _ _ [.int (mov2A s.1 (ys.getD ((i + 1)) 0) (ys.getD ((i + 2)) 0))] _ _
  refine sx_RP.step (pc2 := 859) (ls2 := [(3, .int (nI i)), (2, .ref 111), (1, .ref 0), (0, .float 4)]) (st2 := []) (w3 := w1) rfl rfl ?_
  refine sx_RP.step (pc2 := 860) (ls2 := [(3, .int (nI i)), (2, .ref 111), (1, .ref 0), (0, .float 4)]) (st2 := [.ref 111]) (w3 := w1) rfl rfl ?_
  refine sx_RP.step (pc2 := 861) (ls2 := [(3, .int (nI i)), (2, .ref 111), (1, .ref 0), (0, .float 4)]) (st2 := [.float 4, .ref 111]) (w3 := w1) rfl rfl ?_
  refine sx_RP.step (pc2 := 862) (ls2 := [(3, .int (nI i)), (2, .ref 111), (1, .ref 0), (0, .float 4)]) (st2 := [.int (nI i), .float 4, .ref 111]) (w3 := w1) rfl rfl ?_
  refine sx_RP.step (pc2 := 863) (ls2 := [(3, .int (nI i)), (2, .ref 111), (1, .ref 0), (0, .float 4)]) (st2 := [.int 1, .int (nI i), .float 4, .ref 111]) (w3 := w1) rfl rfl ?_
  refine sx_RP.step (pc2 := 864) (ls2 := [(3, .int (nI i)), (2, .ref 111), (1, .ref 0), (0, .float 4)]) (st2 := [.int ((nI i) + 1), .float 4, .ref 111]) (w3 := w1) rfl rfl ?_
  rw [show ((nI i) + 1 : Int32) = nI (i + 1) from nI_add i 1]
  refine sx_RP.scr (x := (i + 1)) rfl (by omega) hl (show _ = 865 from rfl) ?_
  refine sx_RP.step (pc2 := 866) (ls2 := [(3, .int (nI i)), (2, .ref 111), (1, .ref 0), (0, .float 4)]) (st2 := [.float 4, .int (ys.getD ((i + 1)) 0), .ref 111]) (w3 := w1) rfl rfl ?_
  refine sx_RP.step (pc2 := 867) (ls2 := [(3, .int (nI i)), (2, .ref 111), (1, .ref 0), (0, .float 4)]) (st2 := [.int (nI i), .float 4, .int (ys.getD ((i + 1)) 0), .ref 111]) (w3 := w1) rfl rfl ?_
  refine sx_RP.step (pc2 := 868) (ls2 := [(3, .int (nI i)), (2, .ref 111), (1, .ref 0), (0, .float 4)]) (st2 := [.int 2, .int (nI i), .float 4, .int (ys.getD ((i + 1)) 0), .ref 111]) (w3 := w1) rfl rfl ?_
  refine sx_RP.step (pc2 := 869) (ls2 := [(3, .int (nI i)), (2, .ref 111), (1, .ref 0), (0, .float 4)]) (st2 := [.int ((nI i) + 2), .float 4, .int (ys.getD ((i + 1)) 0), .ref 111]) (w3 := w1) rfl rfl ?_
  rw [show ((nI i) + 2 : Int32) = nI (i + 2) from nI_add i 2]
  refine sx_RP.scr (x := (i + 2)) rfl (by omega) hl (show _ = 870 from rfl) ?_
  refine sx_RP.callp (as2 := [.ref 111, .int (ys.getD ((i + 1)) 0), .int (ys.getD ((i + 2)) 0)]) (rest2 := []) rfl rfl (sx_inv_v2 (mi := 246) (k := 103) (st := [.int (ys.getD ((i + 2)) 0), .int (ys.getD ((i + 1)) 0), .ref 111]) (w := w1) rfl rfl hI2.1.o111 rfl rfl rfl) rfl rfl rfl (sx_RP.byk (r185 (d := 1) hI2 hR6 (ys.getD ((i + 1)) 0) (ys.getD ((i + 2)) 0))) (show _ = 873 from rfl) ?_
  rintro r4 w8 ⟨⟨rfl, hI9, ⟨hR10, lo11⟩⟩, hbk12⟩
  have hL13 : LI w8 := ⟨_, hC3.lo hI2 lo11, hR10, hbk12 hb7⟩
  show sx_RP _ _ _ _ _ [.int (mov2A s.1 (ys.getD ((i + 1)) 0) (ys.getD ((i + 2)) 0))] _ _
  refine sx_RP.step (pc2 := 874) (ls2 := [(3, .int (nI i)), (2, .ref 111), (1, .ref 0), (0, .float 4)]) (st2 := []) (w3 := w8) rfl rfl ?_
  refine sx_RP.step (pc2 := 1539) (ls2 := [(3, .int (nI i)), (2, .ref 111), (1, .ref 0), (0, .float 4)]) (st2 := []) (w3 := w8) rfl rfl ?_
  exact kk w8 hI9 hL13
set_option maxRecDepth 20000 in
set_option maxHeartbeats 4000000 in
theorem lc21 {ys : List Int32} {i : Nat} {w : List sx_C} {P : Option Value → List sx_C → Prop} (hl : ys.length ≤ 3072) (hn : i + 6 ≤ ys.length) (hI : WI w) (hL : LI w) (kk : ∀ w2, WI w2 → LI w2 → sx_RP (some ys) 9 246 1539 [(3, .int (nI i)), (2, .ref 111), (1, .ref 0), (0, .float 4)] [] w2 P) : sx_RP (some ys) 9 246 877 [(3, .int (nI i)), (2, .ref 111), (1, .ref 0), (0, .float 4)] [] w P := by
  obtain ⟨s, hC, hR, hb⟩ := hL
  refine sx_RP.step (pc2 := 878) (ls2 := [(3, .int (nI i)), (2, .ref 111), (1, .ref 0), (0, .float 4)]) (st2 := [.ref 0]) (w3 := w) rfl rfl ?_
  refine sx_RP.step (pc2 := 879) (ls2 := [(3, .int (nI i)), (2, .ref 111), (1, .ref 0), (0, .float 4)]) (st2 := [.float 4, .ref 0]) (w3 := w) rfl rfl ?_
  refine sx_RP.step (pc2 := 880) (ls2 := [(3, .int (nI i)), (2, .ref 111), (1, .ref 0), (0, .float 4)]) (st2 := [.int (nI i), .float 4, .ref 0]) (w3 := w) rfl rfl ?_
  refine sx_RP.step (pc2 := 881) (ls2 := [(3, .int (nI i)), (2, .ref 111), (1, .ref 0), (0, .float 4)]) (st2 := [.int 1, .int (nI i), .float 4, .ref 0]) (w3 := w) rfl rfl ?_
  refine sx_RP.step (pc2 := 882) (ls2 := [(3, .int (nI i)), (2, .ref 111), (1, .ref 0), (0, .float 4)]) (st2 := [.int ((nI i) + 1), .float 4, .ref 0]) (w3 := w) rfl rfl ?_
  rw [show ((nI i) + 1 : Int32) = nI (i + 1) from nI_add i 1]
  refine sx_RP.scr (x := (i + 1)) rfl (by omega) hl (show _ = 883 from rfl) ?_
  refine sx_RP.callp (as2 := [.ref 0, .int (ys.getD ((i + 1)) 0)]) (rest2 := []) rfl rfl (sx_inv_v2 (mi := 246) (k := 104) (st := [.int (ys.getD ((i + 1)) 0), .ref 0]) (w := w) rfl rfl hI.1.o0 rfl rfl rfl) rfl rfl rfl (sx_RP.byk (c67 (d := 1) hI hC (ys.getD ((i + 1)) 0))) (show _ = 886 from rfl) ?_
  rintro r4 w1 ⟨⟨⟨v3, rfl⟩, hI2, ⟨hC4, hi5⟩⟩, hbk6⟩
  have hR7 := hR.hi hi5
  have hb8 := hbk6 hb
  show sx_RP _ _ _ _ _ [.int v3] _ _
  refine sx_RP.step (pc2 := 887) (ls2 := [(3, .int (nI i)), (2, .ref 111), (1, .ref 0), (0, .float 4)]) (st2 := []) (w3 := w1) rfl rfl ?_
  refine sx_RP.step (pc2 := 888) (ls2 := [(3, .int (nI i)), (2, .ref 111), (1, .ref 0), (0, .float 4)]) (st2 := [.ref 111]) (w3 := w1) rfl rfl ?_
  refine sx_RP.step (pc2 := 889) (ls2 := [(3, .int (nI i)), (2, .ref 111), (1, .ref 0), (0, .float 4)]) (st2 := [.float 4, .ref 111]) (w3 := w1) rfl rfl ?_
  refine sx_RP.step (pc2 := 890) (ls2 := [(3, .int (nI i)), (2, .ref 111), (1, .ref 0), (0, .float 4)]) (st2 := [.int (nI i), .float 4, .ref 111]) (w3 := w1) rfl rfl ?_
  refine sx_RP.step (pc2 := 891) (ls2 := [(3, .int (nI i)), (2, .ref 111), (1, .ref 0), (0, .float 4)]) (st2 := [.int 1, .int (nI i), .float 4, .ref 111]) (w3 := w1) rfl rfl ?_
  refine sx_RP.step (pc2 := 892) (ls2 := [(3, .int (nI i)), (2, .ref 111), (1, .ref 0), (0, .float 4)]) (st2 := [.int ((nI i) + 1), .float 4, .ref 111]) (w3 := w1) rfl rfl ?_
  rw [show ((nI i) + 1 : Int32) = nI (i + 1) from nI_add i 1]
  refine sx_RP.scr (x := (i + 1)) rfl (by omega) hl (show _ = 893 from rfl) ?_
  refine sx_RP.callp (as2 := [.ref 111, .int (ys.getD ((i + 1)) 0)]) (rest2 := []) rfl rfl (sx_inv_v2 (mi := 246) (k := 107) (st := [.int (ys.getD ((i + 1)) 0), .ref 111]) (w := w1) rfl rfl hI2.1.o111 rfl rfl rfl) rfl rfl rfl (sx_RP.byk (r187 (d := 1) hI2 hR7 (ys.getD ((i + 1)) 0))) (show _ = 896 from rfl) ?_
  rintro r4 w9 ⟨⟨⟨v11, rfl⟩, hI10, ⟨hR12, lo13⟩⟩, hbk14⟩
  have hL15 : LI w9 := ⟨_, hC4.lo hI2 lo13, hR12, hbk14 hb8⟩
  show sx_RP _ _ _ _ _ [.int v11] _ _
  refine sx_RP.step (pc2 := 897) (ls2 := [(3, .int (nI i)), (2, .ref 111), (1, .ref 0), (0, .float 4)]) (st2 := []) (w3 := w9) rfl rfl ?_
  refine sx_RP.step (pc2 := 1539) (ls2 := [(3, .int (nI i)), (2, .ref 111), (1, .ref 0), (0, .float 4)]) (st2 := []) (w3 := w9) rfl rfl ?_
  exact kk w9 hI10 hL15
set_option maxRecDepth 20000 in
set_option maxHeartbeats 4000000 in
theorem lc22 {ys : List Int32} {i : Nat} {w : List sx_C} {P : Option Value → List sx_C → Prop} (hl : ys.length ≤ 3072) (hn : i + 6 ≤ ys.length) (hI : WI w) (hL : LI w) (kk : ∀ w2, WI w2 → LI w2 → sx_RP (some ys) 9 246 1539 [(3, .int (nI i)), (2, .ref 111), (1, .ref 0), (0, .float 4)] [] w2 P) : sx_RP (some ys) 9 246 900 [(3, .int (nI i)), (2, .ref 111), (1, .ref 0), (0, .float 4)] [] w P := by
  obtain ⟨s, hC, hR, hb⟩ := hL
  refine sx_RP.step (pc2 := 901) (ls2 := [(3, .int (nI i)), (2, .ref 111), (1, .ref 0), (0, .float 4)]) (st2 := [.ref 0]) (w3 := w) rfl rfl ?_
  refine sx_RP.step (pc2 := 902) (ls2 := [(3, .int (nI i)), (2, .ref 111), (1, .ref 0), (0, .float 4)]) (st2 := [.float 4, .ref 0]) (w3 := w) rfl rfl ?_
  refine sx_RP.step (pc2 := 903) (ls2 := [(3, .int (nI i)), (2, .ref 111), (1, .ref 0), (0, .float 4)]) (st2 := [.int (nI i), .float 4, .ref 0]) (w3 := w) rfl rfl ?_
  refine sx_RP.step (pc2 := 904) (ls2 := [(3, .int (nI i)), (2, .ref 111), (1, .ref 0), (0, .float 4)]) (st2 := [.int 1, .int (nI i), .float 4, .ref 0]) (w3 := w) rfl rfl ?_
  refine sx_RP.step (pc2 := 905) (ls2 := [(3, .int (nI i)), (2, .ref 111), (1, .ref 0), (0, .float 4)]) (st2 := [.int ((nI i) + 1), .float 4, .ref 0]) (w3 := w) rfl rfl ?_
  rw [show ((nI i) + 1 : Int32) = nI (i + 1) from nI_add i 1]
  refine sx_RP.scr (x := (i + 1)) rfl (by omega) hl (show _ = 906 from rfl) ?_
  refine sx_RP.step (pc2 := 907) (ls2 := [(3, .int (nI i)), (2, .ref 111), (1, .ref 0), (0, .float 4)]) (st2 := [.float 4, .int (ys.getD ((i + 1)) 0), .ref 0]) (w3 := w) rfl rfl ?_
  refine sx_RP.step (pc2 := 908) (ls2 := [(3, .int (nI i)), (2, .ref 111), (1, .ref 0), (0, .float 4)]) (st2 := [.int (nI i), .float 4, .int (ys.getD ((i + 1)) 0), .ref 0]) (w3 := w) rfl rfl ?_
  refine sx_RP.step (pc2 := 909) (ls2 := [(3, .int (nI i)), (2, .ref 111), (1, .ref 0), (0, .float 4)]) (st2 := [.int 2, .int (nI i), .float 4, .int (ys.getD ((i + 1)) 0), .ref 0]) (w3 := w) rfl rfl ?_
  refine sx_RP.step (pc2 := 910) (ls2 := [(3, .int (nI i)), (2, .ref 111), (1, .ref 0), (0, .float 4)]) (st2 := [.int ((nI i) + 2), .float 4, .int (ys.getD ((i + 1)) 0), .ref 0]) (w3 := w) rfl rfl ?_
  rw [show ((nI i) + 2 : Int32) = nI (i + 2) from nI_add i 2]
  refine sx_RP.scr (x := (i + 2)) rfl (by omega) hl (show _ = 911 from rfl) ?_
  refine sx_RP.callp (as2 := [.ref 0, .int (ys.getD ((i + 1)) 0), .int (ys.getD ((i + 2)) 0)]) (rest2 := []) rfl rfl (sx_inv_v2 (mi := 246) (k := 108) (st := [.int (ys.getD ((i + 2)) 0), .int (ys.getD ((i + 1)) 0), .ref 0]) (w := w) rfl rfl hI.1.o0 rfl rfl rfl) rfl rfl rfl (sx_RP.byk (c70 (d := 1) hI hC (ys.getD ((i + 1)) 0) (ys.getD ((i + 2)) 0))) (show _ = 914 from rfl) ?_
  rintro r4 w1 ⟨⟨⟨v3, rfl⟩, hI2, ⟨hC4, hi5⟩⟩, hbk6⟩
  have hR7 := hR.hi hi5
  have hb8 := hbk6 hb
  show sx_RP _ _ _ _ _ [.int v3] _ _
  refine sx_RP.step (pc2 := 915) (ls2 := [(3, .int (nI i)), (2, .ref 111), (1, .ref 0), (0, .float 4)]) (st2 := []) (w3 := w1) rfl rfl ?_
  refine sx_RP.step (pc2 := 916) (ls2 := [(3, .int (nI i)), (2, .ref 111), (1, .ref 0), (0, .float 4)]) (st2 := [.ref 111]) (w3 := w1) rfl rfl ?_
  refine sx_RP.step (pc2 := 917) (ls2 := [(3, .int (nI i)), (2, .ref 111), (1, .ref 0), (0, .float 4)]) (st2 := [.float 4, .ref 111]) (w3 := w1) rfl rfl ?_
  refine sx_RP.step (pc2 := 918) (ls2 := [(3, .int (nI i)), (2, .ref 111), (1, .ref 0), (0, .float 4)]) (st2 := [.int (nI i), .float 4, .ref 111]) (w3 := w1) rfl rfl ?_
  refine sx_RP.step (pc2 := 919) (ls2 := [(3, .int (nI i)), (2, .ref 111), (1, .ref 0), (0, .float 4)]) (st2 := [.int 1, .int (nI i), .float 4, .ref 111]) (w3 := w1) rfl rfl ?_
  refine sx_RP.step (pc2 := 920) (ls2 := [(3, .int (nI i)), (2, .ref 111), (1, .ref 0), (0, .float 4)]) (st2 := [.int ((nI i) + 1), .float 4, .ref 111]) (w3 := w1) rfl rfl ?_
  rw [show ((nI i) + 1 : Int32) = nI (i + 1) from nI_add i 1]
  refine sx_RP.scr (x := (i + 1)) rfl (by omega) hl (show _ = 921 from rfl) ?_
  refine sx_RP.step (pc2 := 922) (ls2 := [(3, .int (nI i)), (2, .ref 111), (1, .ref 0), (0, .float 4)]) (st2 := [.float 4, .int (ys.getD ((i + 1)) 0), .ref 111]) (w3 := w1) rfl rfl ?_
  refine sx_RP.step (pc2 := 923) (ls2 := [(3, .int (nI i)), (2, .ref 111), (1, .ref 0), (0, .float 4)]) (st2 := [.int (nI i), .float 4, .int (ys.getD ((i + 1)) 0), .ref 111]) (w3 := w1) rfl rfl ?_
  refine sx_RP.step (pc2 := 924) (ls2 := [(3, .int (nI i)), (2, .ref 111), (1, .ref 0), (0, .float 4)]) (st2 := [.int 2, .int (nI i), .float 4, .int (ys.getD ((i + 1)) 0), .ref 111]) (w3 := w1) rfl rfl ?_
  refine sx_RP.step (pc2 := 925) (ls2 := [(3, .int (nI i)), (2, .ref 111), (1, .ref 0), (0, .float 4)]) (st2 := [.int ((nI i) + 2), .float 4, .int (ys.getD ((i + 1)) 0), .ref 111]) (w3 := w1) rfl rfl ?_
  rw [show ((nI i) + 2 : Int32) = nI (i + 2) from nI_add i 2]
  refine sx_RP.scr (x := (i + 2)) rfl (by omega) hl (show _ = 926 from rfl) ?_
  refine sx_RP.callp (as2 := [.ref 111, .int (ys.getD ((i + 1)) 0), .int (ys.getD ((i + 2)) 0)]) (rest2 := []) rfl rfl (sx_inv_v2 (mi := 246) (k := 111) (st := [.int (ys.getD ((i + 2)) 0), .int (ys.getD ((i + 1)) 0), .ref 111]) (w := w1) rfl rfl hI2.1.o111 rfl rfl rfl) rfl rfl rfl (sx_RP.byk (r191 (d := 1) hI2 hR7 (ys.getD ((i + 1)) 0) (ys.getD ((i + 2)) 0))) (show _ = 929 from rfl) ?_
  rintro r4 w9 ⟨⟨⟨v11, rfl⟩, hI10, ⟨hR12, lo13⟩⟩, hbk14⟩
  have hL15 : LI w9 := ⟨_, hC4.lo hI2 lo13, hR12, hbk14 hb8⟩
  show sx_RP _ _ _ _ _ [.int v11] _ _
  refine sx_RP.step (pc2 := 930) (ls2 := [(3, .int (nI i)), (2, .ref 111), (1, .ref 0), (0, .float 4)]) (st2 := []) (w3 := w9) rfl rfl ?_
  refine sx_RP.step (pc2 := 1539) (ls2 := [(3, .int (nI i)), (2, .ref 111), (1, .ref 0), (0, .float 4)]) (st2 := []) (w3 := w9) rfl rfl ?_
  exact kk w9 hI10 hL15
set_option maxRecDepth 20000 in
set_option maxHeartbeats 4000000 in
theorem lc23 {ys : List Int32} {i : Nat} {w : List sx_C} {P : Option Value → List sx_C → Prop} (hl : ys.length ≤ 3072) (hn : i + 6 ≤ ys.length) (hI : WI w) (hL : LI w) (kk : ∀ w2, WI w2 → LI w2 → sx_RP (some ys) 9 246 1539 [(3, .int (nI i)), (2, .ref 111), (1, .ref 0), (0, .float 4)] [] w2 P) : sx_RP (some ys) 9 246 933 [(3, .int (nI i)), (2, .ref 111), (1, .ref 0), (0, .float 4)] [] w P := by
  obtain ⟨s, hC, hR, hb⟩ := hL
  refine sx_RP.step (pc2 := 934) (ls2 := [(3, .int (nI i)), (2, .ref 111), (1, .ref 0), (0, .float 4)]) (st2 := [.ref 0]) (w3 := w) rfl rfl ?_
  refine sx_RP.step (pc2 := 935) (ls2 := [(3, .int (nI i)), (2, .ref 111), (1, .ref 0), (0, .float 4)]) (st2 := [.float 4, .ref 0]) (w3 := w) rfl rfl ?_
  refine sx_RP.step (pc2 := 936) (ls2 := [(3, .int (nI i)), (2, .ref 111), (1, .ref 0), (0, .float 4)]) (st2 := [.int (nI i), .float 4, .ref 0]) (w3 := w) rfl rfl ?_
  refine sx_RP.step (pc2 := 937) (ls2 := [(3, .int (nI i)), (2, .ref 111), (1, .ref 0), (0, .float 4)]) (st2 := [.int 1, .int (nI i), .float 4, .ref 0]) (w3 := w) rfl rfl ?_
  refine sx_RP.step (pc2 := 938) (ls2 := [(3, .int (nI i)), (2, .ref 111), (1, .ref 0), (0, .float 4)]) (st2 := [.int ((nI i) + 1), .float 4, .ref 0]) (w3 := w) rfl rfl ?_
  rw [show ((nI i) + 1 : Int32) = nI (i + 1) from nI_add i 1]
  refine sx_RP.scr (x := (i + 1)) rfl (by omega) hl (show _ = 939 from rfl) ?_
  refine sx_RP.callp (as2 := [.ref 0, .int (ys.getD ((i + 1)) 0)]) (rest2 := []) rfl rfl (sx_inv_v2 (mi := 246) (k := 112) (st := [.int (ys.getD ((i + 1)) 0), .ref 0]) (w := w) rfl rfl hI.1.o0 rfl rfl rfl) rfl rfl rfl (sx_RP.byk (c71 (d := 1) hI hC (ys.getD ((i + 1)) 0))) (show _ = 942 from rfl) ?_
  rintro r4 w1 ⟨⟨⟨v3, rfl⟩, hI2, ⟨hC4, hi5⟩⟩, hbk6⟩
  have hR7 := hR.hi hi5
  have hb8 := hbk6 hb
  show sx_RP _ _ _ _ _ [.long v3] _ _
  refine sx_RP.step (pc2 := 943) (ls2 := [(3, .int (nI i)), (2, .ref 111), (1, .ref 0), (0, .float 4)]) (st2 := []) (w3 := w1) rfl rfl ?_
  refine sx_RP.step (pc2 := 944) (ls2 := [(3, .int (nI i)), (2, .ref 111), (1, .ref 0), (0, .float 4)]) (st2 := [.ref 111]) (w3 := w1) rfl rfl ?_
  refine sx_RP.step (pc2 := 945) (ls2 := [(3, .int (nI i)), (2, .ref 111), (1, .ref 0), (0, .float 4)]) (st2 := [.float 4, .ref 111]) (w3 := w1) rfl rfl ?_
  refine sx_RP.step (pc2 := 946) (ls2 := [(3, .int (nI i)), (2, .ref 111), (1, .ref 0), (0, .float 4)]) (st2 := [.int (nI i), .float 4, .ref 111]) (w3 := w1) rfl rfl ?_
  refine sx_RP.step (pc2 := 947) (ls2 := [(3, .int (nI i)), (2, .ref 111), (1, .ref 0), (0, .float 4)]) (st2 := [.int 1, .int (nI i), .float 4, .ref 111]) (w3 := w1) rfl rfl ?_
  refine sx_RP.step (pc2 := 948) (ls2 := [(3, .int (nI i)), (2, .ref 111), (1, .ref 0), (0, .float 4)]) (st2 := [.int ((nI i) + 1), .float 4, .ref 111]) (w3 := w1) rfl rfl ?_
  rw [show ((nI i) + 1 : Int32) = nI (i + 1) from nI_add i 1]
  refine sx_RP.scr (x := (i + 1)) rfl (by omega) hl (show _ = 949 from rfl) ?_
  refine sx_RP.callp (as2 := [.ref 111, .int (ys.getD ((i + 1)) 0)]) (rest2 := []) rfl rfl (sx_inv_v2 (mi := 246) (k := 116) (st := [.int (ys.getD ((i + 1)) 0), .ref 111]) (w := w1) rfl rfl hI2.1.o111 rfl rfl rfl) rfl rfl rfl (sx_RP.byk (r192 (d := 1) hI2 hR7 (ys.getD ((i + 1)) 0))) (show _ = 952 from rfl) ?_
  rintro r4 w9 ⟨⟨⟨v11, rfl⟩, hI10, ⟨hR12, lo13⟩⟩, hbk14⟩
  have hL15 : LI w9 := ⟨_, hC4.lo hI2 lo13, hR12, hbk14 hb8⟩
  show sx_RP _ _ _ _ _ [.long v11] _ _
  refine sx_RP.step (pc2 := 953) (ls2 := [(3, .int (nI i)), (2, .ref 111), (1, .ref 0), (0, .float 4)]) (st2 := []) (w3 := w9) rfl rfl ?_
  refine sx_RP.step (pc2 := 1539) (ls2 := [(3, .int (nI i)), (2, .ref 111), (1, .ref 0), (0, .float 4)]) (st2 := []) (w3 := w9) rfl rfl ?_
  exact kk w9 hI10 hL15
set_option maxRecDepth 20000 in
set_option maxHeartbeats 4000000 in
theorem lc24 {ys : List Int32} {i : Nat} {w : List sx_C} {P : Option Value → List sx_C → Prop} (hl : ys.length ≤ 3072) (hn : i + 6 ≤ ys.length) (hI : WI w) (hL : LI w) (kk : ∀ w2, WI w2 → LI w2 → sx_RP (some ys) 9 246 1539 [(3, .int (nI i)), (2, .ref 111), (1, .ref 0), (0, .float 4)] [] w2 P) : sx_RP (some ys) 9 246 956 [(3, .int (nI i)), (2, .ref 111), (1, .ref 0), (0, .float 4)] [] w P := by
  obtain ⟨s, hC, hR, hb⟩ := hL
  refine sx_RP.step (pc2 := 957) (ls2 := [(3, .int (nI i)), (2, .ref 111), (1, .ref 0), (0, .float 4)]) (st2 := [.ref 0]) (w3 := w) rfl rfl ?_
  refine sx_RP.step (pc2 := 958) (ls2 := [(3, .int (nI i)), (2, .ref 111), (1, .ref 0), (0, .float 4)]) (st2 := [.float 4, .ref 0]) (w3 := w) rfl rfl ?_
  refine sx_RP.step (pc2 := 959) (ls2 := [(3, .int (nI i)), (2, .ref 111), (1, .ref 0), (0, .float 4)]) (st2 := [.int (nI i), .float 4, .ref 0]) (w3 := w) rfl rfl ?_
  refine sx_RP.step (pc2 := 960) (ls2 := [(3, .int (nI i)), (2, .ref 111), (1, .ref 0), (0, .float 4)]) (st2 := [.int 1, .int (nI i), .float 4, .ref 0]) (w3 := w) rfl rfl ?_
  refine sx_RP.step (pc2 := 961) (ls2 := [(3, .int (nI i)), (2, .ref 111), (1, .ref 0), (0, .float 4)]) (st2 := [.int ((nI i) + 1), .float 4, .ref 0]) (w3 := w) rfl rfl ?_
  rw [show ((nI i) + 1 : Int32) = nI (i + 1) from nI_add i 1]
  refine sx_RP.scr (x := (i + 1)) rfl (by omega) hl (show _ = 962 from rfl) ?_
  refine sx_RP.callp (as2 := [.ref 0, .int (ys.getD ((i + 1)) 0)]) (rest2 := []) rfl rfl (sx_inv_v2 (mi := 246) (k := 117) (st := [.int (ys.getD ((i + 1)) 0), .ref 0]) (w := w) rfl rfl hI.1.o0 rfl rfl rfl) rfl rfl rfl (sx_RP.byk (a74 (d := 1) hI hC (ys.getD ((i + 1)) 0))) (show _ = 965 from rfl) ?_
  rintro r4 w1 ⟨⟨rfl, hI2, ⟨hC3, hi4⟩⟩, hbk5⟩
  have hR6 := hR.hi hi4
  have hb7 := hbk5 hb
  show sx_RP _ _ _ _ _ [.int (bstA s.1 (ys.getD ((i + 1)) 0))] _ _
  refine sx_RP.step (pc2 := 966) (ls2 := [(3, .int (nI i)), (2, .ref 111), (1, .ref 0), (0, .float 4)]) (st2 := [.ref 111, .int (bstA s.1 (ys.getD ((i + 1)) 0))]) (w3 := w1) rfl rfl ?_
  refine sx_RP.step (pc2 := 967) (ls2 := [(3, .int (nI i)), (2, .ref 111), (1, .ref 0), (0, .float 4)]) (st2 := [.float 4, .ref 111, .int (bstA s.1 (ys.getD ((i + 1)) 0))]) (w3 := w1) rfl rfl ?_
  refine sx_RP.step (pc2 := 968) (ls2 := [(3, .int (nI i)), (2, .ref 111), (1, .ref 0), (0, .float 4)]) (st2 := [.int (nI i), .float 4, .ref 111, .int (bstA s.1 (ys.getD ((i + 1)) 0))]) (w3 := w1) rfl rfl ?_
  refine sx_RP.step (pc2 := 969) (ls2 := [(3, .int (nI i)), (2, .ref 111), (1, .ref 0), (0, .float 4)]) (st2 := [.int 1, .int (nI i), .float 4, .ref 111, .int (bstA s.1 (ys.getD ((i + 1)) 0))]) (w3 := w1) rfl rfl ?_
  refine sx_RP.step (pc2 := 970) (ls2 := [(3, .int (nI i)), (2, .ref 111), (1, .ref 0), (0, .float 4)]) (st2 := [.int ((nI i) + 1), .float 4, .ref 111, .int (bstA s.1 (ys.getD ((i + 1)) 0))]) (w3 := w1) rfl rfl ?_
  rw [show ((nI i) + 1 : Int32) = nI (i + 1) from nI_add i 1]
  refine sx_RP.scr (x := (i + 1)) rfl (by omega) hl (show _ = 971 from rfl) ?_
  refine sx_RP.callp (as2 := [.ref 111, .int (ys.getD ((i + 1)) 0)]) (rest2 := [.int (bstA s.1 (ys.getD ((i + 1)) 0))]) rfl rfl (sx_inv_v2 (mi := 246) (k := 120) (st := [.int (ys.getD ((i + 1)) 0), .ref 111, .int (bstA s.1 (ys.getD ((i + 1)) 0))]) (w := w1) rfl rfl hI2.1.o111 rfl rfl rfl) rfl rfl rfl (sx_RP.byk (a194 (d := 1) hI2 hR6 (ys.getD ((i + 1)) 0))) (show _ = 974 from rfl) ?_
  rintro r4 w8 ⟨⟨rfl, hI9, ⟨hR10, lo11⟩⟩, hbk12⟩
  have hL13 : LI w8 := ⟨_, hC3.lo hI2 lo11, hR10, hbk12 hb7⟩
  show sx_RP _ _ _ _ _ [.int (bstA s.1 (ys.getD ((i + 1)) 0)), .int (bstA s.1 (ys.getD ((i + 1)) 0))] _ _
  refine sx_RP.br (p1 := 1539) (l1 := [(3, .int (nI i)), (2, .ref 111), (1, .ref 0), (0, .float 4)]) (s1 := []) (v1 := w8) rfl rfl (fun _ => ?_) (fun q => absurd rfl (of_decide_eq_false q))
  exact kk w8 hI9 hL13
set_option maxRecDepth 20000 in
set_option maxHeartbeats 4000000 in
theorem lc25 {ys : List Int32} {i : Nat} {w : List sx_C} {P : Option Value → List sx_C → Prop} (hl : ys.length ≤ 3072) (hn : i + 6 ≤ ys.length) (hI : WI w) (hL : LI w) (kk : ∀ w2, WI w2 → LI w2 → sx_RP (some ys) 9 246 1539 [(3, .int (nI i)), (2, .ref 111), (1, .ref 0), (0, .float 4)] [] w2 P) : sx_RP (some ys) 9 246 979 [(3, .int (nI i)), (2, .ref 111), (1, .ref 0), (0, .float 4)] [] w P := by
  obtain ⟨s, hC, hR, hb⟩ := hL
  refine sx_RP.step (pc2 := 980) (ls2 := [(3, .int (nI i)), (2, .ref 111), (1, .ref 0), (0, .float 4)]) (st2 := [.ref 0]) (w3 := w) rfl rfl ?_
  refine sx_RP.step (pc2 := 981) (ls2 := [(3, .int (nI i)), (2, .ref 111), (1, .ref 0), (0, .float 4)]) (st2 := [.float 4, .ref 0]) (w3 := w) rfl rfl ?_
  refine sx_RP.step (pc2 := 982) (ls2 := [(3, .int (nI i)), (2, .ref 111), (1, .ref 0), (0, .float 4)]) (st2 := [.int (nI i), .float 4, .ref 0]) (w3 := w) rfl rfl ?_
  refine sx_RP.step (pc2 := 983) (ls2 := [(3, .int (nI i)), (2, .ref 111), (1, .ref 0), (0, .float 4)]) (st2 := [.int 1, .int (nI i), .float 4, .ref 0]) (w3 := w) rfl rfl ?_
  refine sx_RP.step (pc2 := 984) (ls2 := [(3, .int (nI i)), (2, .ref 111), (1, .ref 0), (0, .float 4)]) (st2 := [.int ((nI i) + 1), .float 4, .ref 0]) (w3 := w) rfl rfl ?_
  rw [show ((nI i) + 1 : Int32) = nI (i + 1) from nI_add i 1]
  refine sx_RP.scr (x := (i + 1)) rfl (by omega) hl (show _ = 985 from rfl) ?_
  refine sx_RP.step (pc2 := 986) (ls2 := [(3, .int (nI i)), (2, .ref 111), (1, .ref 0), (0, .float 4)]) (st2 := [.float 4, .int (ys.getD ((i + 1)) 0), .ref 0]) (w3 := w) rfl rfl ?_
  refine sx_RP.step (pc2 := 987) (ls2 := [(3, .int (nI i)), (2, .ref 111), (1, .ref 0), (0, .float 4)]) (st2 := [.int (nI i), .float 4, .int (ys.getD ((i + 1)) 0), .ref 0]) (w3 := w) rfl rfl ?_
  refine sx_RP.step (pc2 := 988) (ls2 := [(3, .int (nI i)), (2, .ref 111), (1, .ref 0), (0, .float 4)]) (st2 := [.int 2, .int (nI i), .float 4, .int (ys.getD ((i + 1)) 0), .ref 0]) (w3 := w) rfl rfl ?_
  refine sx_RP.step (pc2 := 989) (ls2 := [(3, .int (nI i)), (2, .ref 111), (1, .ref 0), (0, .float 4)]) (st2 := [.int ((nI i) + 2), .float 4, .int (ys.getD ((i + 1)) 0), .ref 0]) (w3 := w) rfl rfl ?_
  rw [show ((nI i) + 2 : Int32) = nI (i + 2) from nI_add i 2]
  refine sx_RP.scr (x := (i + 2)) rfl (by omega) hl (show _ = 990 from rfl) ?_
  refine sx_RP.callp (as2 := [.ref 0, .int (ys.getD ((i + 1)) 0), .int (ys.getD ((i + 2)) 0)]) (rest2 := []) rfl rfl (sx_inv_v2 (mi := 246) (k := 121) (st := [.int (ys.getD ((i + 2)) 0), .int (ys.getD ((i + 1)) 0), .ref 0]) (w := w) rfl rfl hI.1.o0 rfl rfl rfl) rfl rfl rfl (sx_RP.byk (c76 (d := 1) hI hC (ys.getD ((i + 1)) 0) (ys.getD ((i + 2)) 0))) (show _ = 993 from rfl) ?_
  rintro r4 w1 ⟨⟨⟨v3, rfl⟩, hI2, ⟨hC4, hi5⟩⟩, hbk6⟩
  have hR7 := hR.hi hi5
  have hb8 := hbk6 hb
  show sx_RP _ _ _ _ _ [.int v3] _ _
  refine sx_RP.step (pc2 := 994) (ls2 := [(3, .int (nI i)), (2, .ref 111), (1, .ref 0), (0, .float 4)]) (st2 := []) (w3 := w1) rfl rfl ?_
  refine sx_RP.step (pc2 := 995) (ls2 := [(3, .int (nI i)), (2, .ref 111), (1, .ref 0), (0, .float 4)]) (st2 := [.ref 111]) (w3 := w1) rfl rfl ?_
  refine sx_RP.step (pc2 := 996) (ls2 := [(3, .int (nI i)), (2, .ref 111), (1, .ref 0), (0, .float 4)]) (st2 := [.float 4, .ref 111]) (w3 := w1) rfl rfl ?_
  refine sx_RP.step (pc2 := 997) (ls2 := [(3, .int (nI i)), (2, .ref 111), (1, .ref 0), (0, .float 4)]) (st2 := [.int (nI i), .float 4, .ref 111]) (w3 := w1) rfl rfl ?_
  refine sx_RP.step (pc2 := 998) (ls2 := [(3, .int (nI i)), (2, .ref 111), (1, .ref 0), (0, .float 4)]) (st2 := [.int 1, .int (nI i), .float 4, .ref 111]) (w3 := w1) rfl rfl ?_
  refine sx_RP.step (pc2 := 999) (ls2 := [(3, .int (nI i)), (2, .ref 111), (1, .ref 0), (0, .float 4)]) (st2 := [.int ((nI i) + 1), .float 4, .ref 111]) (w3 := w1) rfl rfl ?_
  rw [show ((nI i) + 1 : Int32) = nI (i + 1) from nI_add i 1]
  refine sx_RP.scr (x := (i + 1)) rfl (by omega) hl (show _ = 1000 from rfl) ?_
  refine sx_RP.step (pc2 := 1001) (ls2 := [(3, .int (nI i)), (2, .ref 111), (1, .ref 0), (0, .float 4)]) (st2 := [.float 4, .int (ys.getD ((i + 1)) 0), .ref 111]) (w3 := w1) rfl rfl ?_
  refine sx_RP.step (pc2 := 1002) (ls2 := [(3, .int (nI i)), (2, .ref 111), (1, .ref 0), (0, .float 4)]) (st2 := [.int (nI i), .float 4, .int (ys.getD ((i + 1)) 0), .ref 111]) (w3 := w1) rfl rfl ?_
  refine sx_RP.step (pc2 := 1003) (ls2 := [(3, .int (nI i)), (2, .ref 111), (1, .ref 0), (0, .float 4)]) (st2 := [.int 2, .int (nI i), .float 4, .int (ys.getD ((i + 1)) 0), .ref 111]) (w3 := w1) rfl rfl ?_
  refine sx_RP.step (pc2 := 1004) (ls2 := [(3, .int (nI i)), (2, .ref 111), (1, .ref 0), (0, .float 4)]) (st2 := [.int ((nI i) + 2), .float 4, .int (ys.getD ((i + 1)) 0), .ref 111]) (w3 := w1) rfl rfl ?_
  rw [show ((nI i) + 2 : Int32) = nI (i + 2) from nI_add i 2]
  refine sx_RP.scr (x := (i + 2)) rfl (by omega) hl (show _ = 1005 from rfl) ?_
  refine sx_RP.callp (as2 := [.ref 111, .int (ys.getD ((i + 1)) 0), .int (ys.getD ((i + 2)) 0)]) (rest2 := []) rfl rfl (sx_inv_v2 (mi := 246) (k := 124) (st := [.int (ys.getD ((i + 2)) 0), .int (ys.getD ((i + 1)) 0), .ref 111]) (w := w1) rfl rfl hI2.1.o111 rfl rfl rfl) rfl rfl rfl (sx_RP.byk (r196 (d := 1) hI2 hR7 (ys.getD ((i + 1)) 0) (ys.getD ((i + 2)) 0))) (show _ = 1008 from rfl) ?_
  rintro r4 w9 ⟨⟨⟨v11, rfl⟩, hI10, ⟨hR12, lo13⟩⟩, hbk14⟩
  have hL15 : LI w9 := ⟨_, hC4.lo hI2 lo13, hR12, hbk14 hb8⟩
  show sx_RP _ _ _ _ _ [.int v11] _ _
  refine sx_RP.step (pc2 := 1009) (ls2 := [(3, .int (nI i)), (2, .ref 111), (1, .ref 0), (0, .float 4)]) (st2 := []) (w3 := w9) rfl rfl ?_
  refine sx_RP.step (pc2 := 1539) (ls2 := [(3, .int (nI i)), (2, .ref 111), (1, .ref 0), (0, .float 4)]) (st2 := []) (w3 := w9) rfl rfl ?_
  exact kk w9 hI10 hL15
set_option maxRecDepth 20000 in
set_option maxHeartbeats 4000000 in
theorem lc26 {ys : List Int32} {i : Nat} {w : List sx_C} {P : Option Value → List sx_C → Prop} (hl : ys.length ≤ 3072) (hn : i + 6 ≤ ys.length) (hI : WI w) (hL : LI w) (kk : ∀ w2, WI w2 → LI w2 → sx_RP (some ys) 9 246 1539 [(3, .int (nI i)), (2, .ref 111), (1, .ref 0), (0, .float 4)] [] w2 P) : sx_RP (some ys) 9 246 1012 [(3, .int (nI i)), (2, .ref 111), (1, .ref 0), (0, .float 4)] [] w P := by
  obtain ⟨s, hC, hR, hb⟩ := hL
  refine sx_RP.step (pc2 := 1013) (ls2 := [(3, .int (nI i)), (2, .ref 111), (1, .ref 0), (0, .float 4)]) (st2 := [.ref 0]) (w3 := w) rfl rfl ?_
  refine sx_RP.step (pc2 := 1014) (ls2 := [(3, .int (nI i)), (2, .ref 111), (1, .ref 0), (0, .float 4)]) (st2 := [.float 4, .ref 0]) (w3 := w) rfl rfl ?_
  refine sx_RP.step (pc2 := 1015) (ls2 := [(3, .int (nI i)), (2, .ref 111), (1, .ref 0), (0, .float 4)]) (st2 := [.int (nI i), .float 4, .ref 0]) (w3 := w) rfl rfl ?_
  refine sx_RP.step (pc2 := 1016) (ls2 := [(3, .int (nI i)), (2, .ref 111), (1, .ref 0), (0, .float 4)]) (st2 := [.int 1, .int (nI i), .float 4, .ref 0]) (w3 := w) rfl rfl ?_
  refine sx_RP.step (pc2 := 1017) (ls2 := [(3, .int (nI i)), (2, .ref 111), (1, .ref 0), (0, .float 4)]) (st2 := [.int ((nI i) + 1), .float 4, .ref 0]) (w3 := w) rfl rfl ?_
  rw [show ((nI i) + 1 : Int32) = nI (i + 1) from nI_add i 1]
  refine sx_RP.scr (x := (i + 1)) rfl (by omega) hl (show _ = 1018 from rfl) ?_
  refine sx_RP.step (pc2 := 1019) (ls2 := [(3, .int (nI i)), (2, .ref 111), (1, .ref 0), (0, .float 4)]) (st2 := [.float 4, .int (ys.getD ((i + 1)) 0), .ref 0]) (w3 := w) rfl rfl ?_
  refine sx_RP.step (pc2 := 1020) (ls2 := [(3, .int (nI i)), (2, .ref 111), (1, .ref 0), (0, .float 4)]) (st2 := [.int (nI i), .float 4, .int (ys.getD ((i + 1)) 0), .ref 0]) (w3 := w) rfl rfl ?_
  refine sx_RP.step (pc2 := 1021) (ls2 := [(3, .int (nI i)), (2, .ref 111), (1, .ref 0), (0, .float 4)]) (st2 := [.int 2, .int (nI i), .float 4, .int (ys.getD ((i + 1)) 0), .ref 0]) (w3 := w) rfl rfl ?_
  refine sx_RP.step (pc2 := 1022) (ls2 := [(3, .int (nI i)), (2, .ref 111), (1, .ref 0), (0, .float 4)]) (st2 := [.int ((nI i) + 2), .float 4, .int (ys.getD ((i + 1)) 0), .ref 0]) (w3 := w) rfl rfl ?_
  rw [show ((nI i) + 2 : Int32) = nI (i + 2) from nI_add i 2]
  refine sx_RP.scr (x := (i + 2)) rfl (by omega) hl (show _ = 1023 from rfl) ?_
  refine sx_RP.callp (as2 := [.ref 0, .int (ys.getD ((i + 1)) 0), .int (ys.getD ((i + 2)) 0)]) (rest2 := []) rfl rfl (sx_inv_v2 (mi := 246) (k := 125) (st := [.int (ys.getD ((i + 2)) 0), .int (ys.getD ((i + 1)) 0), .ref 0]) (w := w) rfl rfl hI.1.o0 rfl rfl rfl) rfl rfl rfl (sx_RP.byk (c79 (d := 1) hI hC (ys.getD ((i + 1)) 0) (ys.getD ((i + 2)) 0))) (show _ = 1026 from rfl) ?_
  rintro r4 w1 ⟨⟨rfl, hI2, ⟨hC3, hi4⟩⟩, hbk5⟩
  have hR6 := hR.hi hi4
  have hb7 := hbk5 hb
  show sx_RP _ _ _ _ _ [.int (blwA s.1 (ys.getD ((i + 1)) 0) (ys.getD ((i + 2)) 0))] _ _
  refine sx_RP.step (pc2 := 1027) (ls2 := [(3, .int (nI i)), (2, .ref 111), (1, .ref 0), (0, .float 4)]) (st2 := []) (w3 := w1) rfl rfl ?_
  refine sx_RP.step (pc2 := 1028) (ls2 := [(3, .int (nI i)), (2, .ref 111), (1, .ref 0), (0, .float 4)]) (st2 := [.ref 111]) (w3 := w1) rfl rfl ?_
  refine sx_RP.step (pc2 := 1029) (ls2 := [(3, .int (nI i)), (2, .ref 111), (1, .ref 0), (0, .float 4)]) (st2 := [.float 4, .ref 111]) (w3 := w1) rfl rfl ?_
  refine sx_RP.step (pc2 := 1030) (ls2 := [(3, .int (nI i)), (2, .ref 111), (1, .ref 0), (0, .float 4)]) (st2 := [.int (nI i), .float 4, .ref 111]) (w3 := w1) rfl rfl ?_
  refine sx_RP.step (pc2 := 1031) (ls2 := [(3, .int (nI i)), (2, .ref 111), (1, .ref 0), (0, .float 4)]) (st2 := [.int 1, .int (nI i), .float 4, .ref 111]) (w3 := w1) rfl rfl ?_
  refine sx_RP.step (pc2 := 1032) (ls2 := [(3, .int (nI i)), (2, .ref 111), (1, .ref 0), (0, .float 4)]) (st2 := [.int ((nI i) + 1), .float 4, .ref 111]) (w3 := w1) rfl rfl ?_
  rw [show ((nI i) + 1 : Int32) = nI (i + 1) from nI_add i 1]
  refine sx_RP.scr (x := (i + 1)) rfl (by omega) hl (show _ = 1033 from rfl) ?_
  refine sx_RP.step (pc2 := 1034) (ls2 := [(3, .int (nI i)), (2, .ref 111), (1, .ref 0), (0, .float 4)]) (st2 := [.float 4, .int (ys.getD ((i + 1)) 0), .ref 111]) (w3 := w1) rfl rfl ?_
  refine sx_RP.step (pc2 := 1035) (ls2 := [(3, .int (nI i)), (2, .ref 111), (1, .ref 0), (0, .float 4)]) (st2 := [.int (nI i), .float 4, .int (ys.getD ((i + 1)) 0), .ref 111]) (w3 := w1) rfl rfl ?_
  refine sx_RP.step (pc2 := 1036) (ls2 := [(3, .int (nI i)), (2, .ref 111), (1, .ref 0), (0, .float 4)]) (st2 := [.int 2, .int (nI i), .float 4, .int (ys.getD ((i + 1)) 0), .ref 111]) (w3 := w1) rfl rfl ?_
  refine sx_RP.step (pc2 := 1037) (ls2 := [(3, .int (nI i)), (2, .ref 111), (1, .ref 0), (0, .float 4)]) (st2 := [.int ((nI i) + 2), .float 4, .int (ys.getD ((i + 1)) 0), .ref 111]) (w3 := w1) rfl rfl ?_
  rw [show ((nI i) + 2 : Int32) = nI (i + 2) from nI_add i 2]
  refine sx_RP.scr (x := (i + 2)) rfl (by omega) hl (show _ = 1038 from rfl) ?_
  refine sx_RP.callp (as2 := [.ref 111, .int (ys.getD ((i + 1)) 0), .int (ys.getD ((i + 2)) 0)]) (rest2 := []) rfl rfl (sx_inv_v2 (mi := 246) (k := 128) (st := [.int (ys.getD ((i + 2)) 0), .int (ys.getD ((i + 1)) 0), .ref 111]) (w := w1) rfl rfl hI2.1.o111 rfl rfl rfl) rfl rfl rfl (sx_RP.byk (r201 (d := 1) hI2 hR6 (ys.getD ((i + 1)) 0) (ys.getD ((i + 2)) 0))) (show _ = 1041 from rfl) ?_
  rintro r4 w8 ⟨⟨rfl, hI9, ⟨hR10, lo11⟩⟩, hbk12⟩
  have hL13 : LI w8 := ⟨_, hC3.lo hI2 lo11, hR10, hbk12 hb7⟩
  show sx_RP _ _ _ _ _ [.int (blwA s.1 (ys.getD ((i + 1)) 0) (ys.getD ((i + 2)) 0))] _ _
  refine sx_RP.step (pc2 := 1042) (ls2 := [(3, .int (nI i)), (2, .ref 111), (1, .ref 0), (0, .float 4)]) (st2 := []) (w3 := w8) rfl rfl ?_
  refine sx_RP.step (pc2 := 1539) (ls2 := [(3, .int (nI i)), (2, .ref 111), (1, .ref 0), (0, .float 4)]) (st2 := []) (w3 := w8) rfl rfl ?_
  exact kk w8 hI9 hL13
set_option maxRecDepth 20000 in
set_option maxHeartbeats 4000000 in
theorem lc27 {ys : List Int32} {i : Nat} {w : List sx_C} {P : Option Value → List sx_C → Prop} (hl : ys.length ≤ 3072) (hn : i + 6 ≤ ys.length) (hI : WI w) (hL : LI w) (kk : ∀ w2, WI w2 → LI w2 → sx_RP (some ys) 9 246 1539 [(3, .int (nI i)), (2, .ref 111), (1, .ref 0), (0, .float 4)] [] w2 P) : sx_RP (some ys) 9 246 1045 [(3, .int (nI i)), (2, .ref 111), (1, .ref 0), (0, .float 4)] [] w P := by
  obtain ⟨s, hC, hR, hb⟩ := hL
  refine sx_RP.step (pc2 := 1046) (ls2 := [(3, .int (nI i)), (2, .ref 111), (1, .ref 0), (0, .float 4)]) (st2 := [.ref 0]) (w3 := w) rfl rfl ?_
  refine sx_RP.step (pc2 := 1047) (ls2 := [(3, .int (nI i)), (2, .ref 111), (1, .ref 0), (0, .float 4)]) (st2 := [.float 4, .ref 0]) (w3 := w) rfl rfl ?_
  refine sx_RP.step (pc2 := 1048) (ls2 := [(3, .int (nI i)), (2, .ref 111), (1, .ref 0), (0, .float 4)]) (st2 := [.int (nI i), .float 4, .ref 0]) (w3 := w) rfl rfl ?_
  refine sx_RP.step (pc2 := 1049) (ls2 := [(3, .int (nI i)), (2, .ref 111), (1, .ref 0), (0, .float 4)]) (st2 := [.int 1, .int (nI i), .float 4, .ref 0]) (w3 := w) rfl rfl ?_
  refine sx_RP.step (pc2 := 1050) (ls2 := [(3, .int (nI i)), (2, .ref 111), (1, .ref 0), (0, .float 4)]) (st2 := [.int ((nI i) + 1), .float 4, .ref 0]) (w3 := w) rfl rfl ?_
  rw [show ((nI i) + 1 : Int32) = nI (i + 1) from nI_add i 1]
  refine sx_RP.scr (x := (i + 1)) rfl (by omega) hl (show _ = 1051 from rfl) ?_
  refine sx_RP.callp (as2 := [.ref 0, .int (ys.getD ((i + 1)) 0)]) (rest2 := []) rfl rfl (sx_inv_v2 (mi := 246) (k := 129) (st := [.int (ys.getD ((i + 1)) 0), .ref 0]) (w := w) rfl rfl hI.1.o0 rfl rfl rfl) rfl rfl rfl (sx_RP.byk (c81 (d := 1) hI hC (ys.getD ((i + 1)) 0))) (show _ = 1054 from rfl) ?_
  rintro r4 w1 ⟨⟨⟨v3, rfl⟩, hI2, ⟨hC4, hi5⟩⟩, hbk6⟩
  have hR7 := hR.hi hi5
  have hb8 := hbk6 hb
  show sx_RP _ _ _ _ _ [.int v3] _ _
  refine sx_RP.step (pc2 := 1055) (ls2 := [(3, .int (nI i)), (2, .ref 111), (1, .ref 0), (0, .float 4)]) (st2 := []) (w3 := w1) rfl rfl ?_
  refine sx_RP.step (pc2 := 1056) (ls2 := [(3, .int (nI i)), (2, .ref 111), (1, .ref 0), (0, .float 4)]) (st2 := [.ref 111]) (w3 := w1) rfl rfl ?_
  refine sx_RP.step (pc2 := 1057) (ls2 := [(3, .int (nI i)), (2, .ref 111), (1, .ref 0), (0, .float 4)]) (st2 := [.float 4, .ref 111]) (w3 := w1) rfl rfl ?_
  refine sx_RP.step (pc2 := 1058) (ls2 := [(3, .int (nI i)), (2, .ref 111), (1, .ref 0), (0, .float 4)]) (st2 := [.int (nI i), .float 4, .ref 111]) (w3 := w1) rfl rfl ?_
  refine sx_RP.step (pc2 := 1059) (ls2 := [(3, .int (nI i)), (2, .ref 111), (1, .ref 0), (0, .float 4)]) (st2 := [.int 1, .int (nI i), .float 4, .ref 111]) (w3 := w1) rfl rfl ?_
  refine sx_RP.step (pc2 := 1060) (ls2 := [(3, .int (nI i)), (2, .ref 111), (1, .ref 0), (0, .float 4)]) (st2 := [.int ((nI i) + 1), .float 4, .ref 111]) (w3 := w1) rfl rfl ?_
  rw [show ((nI i) + 1 : Int32) = nI (i + 1) from nI_add i 1]
  refine sx_RP.scr (x := (i + 1)) rfl (by omega) hl (show _ = 1061 from rfl) ?_
  refine sx_RP.callp (as2 := [.ref 111, .int (ys.getD ((i + 1)) 0)]) (rest2 := []) rfl rfl (sx_inv_v2 (mi := 246) (k := 132) (st := [.int (ys.getD ((i + 1)) 0), .ref 111]) (w := w1) rfl rfl hI2.1.o111 rfl rfl rfl) rfl rfl rfl (sx_RP.byk (r202 (d := 1) hI2 hR7 (ys.getD ((i + 1)) 0))) (show _ = 1064 from rfl) ?_
  rintro r4 w9 ⟨⟨⟨v11, rfl⟩, hI10, ⟨hR12, lo13⟩⟩, hbk14⟩
  have hL15 : LI w9 := ⟨_, hC4.lo hI2 lo13, hR12, hbk14 hb8⟩
  show sx_RP _ _ _ _ _ [.int v11] _ _
  refine sx_RP.step (pc2 := 1065) (ls2 := [(3, .int (nI i)), (2, .ref 111), (1, .ref 0), (0, .float 4)]) (st2 := []) (w3 := w9) rfl rfl ?_
  refine sx_RP.step (pc2 := 1539) (ls2 := [(3, .int (nI i)), (2, .ref 111), (1, .ref 0), (0, .float 4)]) (st2 := []) (w3 := w9) rfl rfl ?_
  exact kk w9 hI10 hL15
set_option maxRecDepth 20000 in
set_option maxHeartbeats 4000000 in
theorem lc28 {ys : List Int32} {i : Nat} {w : List sx_C} {P : Option Value → List sx_C → Prop} (hl : ys.length ≤ 3072) (hn : i + 6 ≤ ys.length) (hI : WI w) (hL : LI w) (kk : ∀ w2, WI w2 → LI w2 → sx_RP (some ys) 9 246 1539 [(3, .int (nI i)), (2, .ref 111), (1, .ref 0), (0, .float 4)] [] w2 P) : sx_RP (some ys) 9 246 1068 [(3, .int (nI i)), (2, .ref 111), (1, .ref 0), (0, .float 4)] [] w P := by
  obtain ⟨s, hC, hR, hb⟩ := hL
  refine sx_RP.step (pc2 := 1069) (ls2 := [(3, .int (nI i)), (2, .ref 111), (1, .ref 0), (0, .float 4)]) (st2 := [.ref 0]) (w3 := w) rfl rfl ?_
  refine sx_RP.step (pc2 := 1070) (ls2 := [(3, .int (nI i)), (2, .ref 111), (1, .ref 0), (0, .float 4)]) (st2 := [.float 4, .ref 0]) (w3 := w) rfl rfl ?_
  refine sx_RP.step (pc2 := 1071) (ls2 := [(3, .int (nI i)), (2, .ref 111), (1, .ref 0), (0, .float 4)]) (st2 := [.int (nI i), .float 4, .ref 0]) (w3 := w) rfl rfl ?_
  refine sx_RP.step (pc2 := 1072) (ls2 := [(3, .int (nI i)), (2, .ref 111), (1, .ref 0), (0, .float 4)]) (st2 := [.int 1, .int (nI i), .float 4, .ref 0]) (w3 := w) rfl rfl ?_
  refine sx_RP.step (pc2 := 1073) (ls2 := [(3, .int (nI i)), (2, .ref 111), (1, .ref 0), (0, .float 4)]) (st2 := [.int ((nI i) + 1), .float 4, .ref 0]) (w3 := w) rfl rfl ?_
  rw [show ((nI i) + 1 : Int32) = nI (i + 1) from nI_add i 1]
  refine sx_RP.scr (x := (i + 1)) rfl (by omega) hl (show _ = 1074 from rfl) ?_
  refine sx_RP.step (pc2 := 1075) (ls2 := [(3, .int (nI i)), (2, .ref 111), (1, .ref 0), (0, .float 4)]) (st2 := [.float 4, .int (ys.getD ((i + 1)) 0), .ref 0]) (w3 := w) rfl rfl ?_
  refine sx_RP.step (pc2 := 1076) (ls2 := [(3, .int (nI i)), (2, .ref 111), (1, .ref 0), (0, .float 4)]) (st2 := [.int (nI i), .float 4, .int (ys.getD ((i + 1)) 0), .ref 0]) (w3 := w) rfl rfl ?_
  refine sx_RP.step (pc2 := 1077) (ls2 := [(3, .int (nI i)), (2, .ref 111), (1, .ref 0), (0, .float 4)]) (st2 := [.int 2, .int (nI i), .float 4, .int (ys.getD ((i + 1)) 0), .ref 0]) (w3 := w) rfl rfl ?_
  refine sx_RP.step (pc2 := 1078) (ls2 := [(3, .int (nI i)), (2, .ref 111), (1, .ref 0), (0, .float 4)]) (st2 := [.int ((nI i) + 2), .float 4, .int (ys.getD ((i + 1)) 0), .ref 0]) (w3 := w) rfl rfl ?_
  rw [show ((nI i) + 2 : Int32) = nI (i + 2) from nI_add i 2]
  refine sx_RP.scr (x := (i + 2)) rfl (by omega) hl (show _ = 1079 from rfl) ?_
  refine sx_RP.callp (as2 := [.ref 0, .int (ys.getD ((i + 1)) 0), .int (ys.getD ((i + 2)) 0)]) (rest2 := []) rfl rfl (sx_inv_v2 (mi := 246) (k := 133) (st := [.int (ys.getD ((i + 2)) 0), .int (ys.getD ((i + 1)) 0), .ref 0]) (w := w) rfl rfl hI.1.o0 rfl rfl rfl) rfl rfl rfl (sx_RP.byk (c82 (d := 1) hI hC (ys.getD ((i + 1)) 0) (ys.getD ((i + 2)) 0))) (show _ = 1082 from rfl) ?_
  rintro r4 w1 ⟨⟨rfl, hI2, ⟨hC3, hi4⟩⟩, hbk5⟩
  have hR6 := hR.hi hi4
  have hb7 := hbk5 hb
  show sx_RP _ _ _ _ _ [.int (bre2A s.1 (ys.getD ((i + 1)) 0) (ys.getD ((i + 2)) 0))] _ _
  refine sx_RP.step (pc2 := 1083) (ls2 := [(3, .int (nI i)), (2, .ref 111), (1, .ref 0), (0, .float 4)]) (st2 := []) (w3 := w1) rfl rfl ?_
  refine sx_RP.step (pc2 := 1084) (ls2 := [(3, .int (nI i)), (2, .ref 111), (1, .ref 0), (0, .float 4)]) (st2 := [.ref 111]) (w3 := w1) rfl rfl ?_
  refine sx_RP.step (pc2 := 1085) (ls2 := [(3, .int (nI i)), (2, .ref 111), (1, .ref 0), (0, .float 4)]) (st2 := [.float 4, .ref 111]) (w3 := w1) rfl rfl ?_
  refine sx_RP.step (pc2 := 1086) (ls2 := [(3, .int (nI i)), (2, .ref 111), (1, .ref 0), (0, .float 4)]) (st2 := [.int (nI i), .float 4, .ref 111]) (w3 := w1) rfl rfl ?_
  refine sx_RP.step (pc2 := 1087) (ls2 := [(3, .int (nI i)), (2, .ref 111), (1, .ref 0), (0, .float 4)]) (st2 := [.int 1, .int (nI i), .float 4, .ref 111]) (w3 := w1) rfl rfl ?_
  refine sx_RP.step (pc2 := 1088) (ls2 := [(3, .int (nI i)), (2, .ref 111), (1, .ref 0), (0, .float 4)]) (st2 := [.int ((nI i) + 1), .float 4, .ref 111]) (w3 := w1) rfl rfl ?_
  rw [show ((nI i) + 1 : Int32) = nI (i + 1) from nI_add i 1]
  refine sx_RP.scr (x := (i + 1)) rfl (by omega) hl (show _ = 1089 from rfl) ?_
  refine sx_RP.step (pc2 := 1090) (ls2 := [(3, .int (nI i)), (2, .ref 111), (1, .ref 0), (0, .float 4)]) (st2 := [.float 4, .int (ys.getD ((i + 1)) 0), .ref 111]) (w3 := w1) rfl rfl ?_
  refine sx_RP.step (pc2 := 1091) (ls2 := [(3, .int (nI i)), (2, .ref 111), (1, .ref 0), (0, .float 4)]) (st2 := [.int (nI i), .float 4, .int (ys.getD ((i + 1)) 0), .ref 111]) (w3 := w1) rfl rfl ?_
  refine sx_RP.step (pc2 := 1092) (ls2 := [(3, .int (nI i)), (2, .ref 111), (1, .ref 0), (0, .float 4)]) (st2 := [.int 2, .int (nI i), .float 4, .int (ys.getD ((i + 1)) 0), .ref 111]) (w3 := w1) rfl rfl ?_
  refine sx_RP.step (pc2 := 1093) (ls2 := [(3, .int (nI i)), (2, .ref 111), (1, .ref 0), (0, .float 4)]) (st2 := [.int ((nI i) + 2), .float 4, .int (ys.getD ((i + 1)) 0), .ref 111]) (w3 := w1) rfl rfl ?_
  rw [show ((nI i) + 2 : Int32) = nI (i + 2) from nI_add i 2]
  refine sx_RP.scr (x := (i + 2)) rfl (by omega) hl (show _ = 1094 from rfl) ?_
  refine sx_RP.callp (as2 := [.ref 111, .int (ys.getD ((i + 1)) 0), .int (ys.getD ((i + 2)) 0)]) (rest2 := []) rfl rfl (sx_inv_v2 (mi := 246) (k := 136) (st := [.int (ys.getD ((i + 2)) 0), .int (ys.getD ((i + 1)) 0), .ref 111]) (w := w1) rfl rfl hI2.1.o111 rfl rfl rfl) rfl rfl rfl (sx_RP.byk (r203 (d := 1) hI2 hR6 (ys.getD ((i + 1)) 0) (ys.getD ((i + 2)) 0))) (show _ = 1097 from rfl) ?_
  rintro r4 w8 ⟨⟨rfl, hI9, ⟨hR10, lo11⟩⟩, hbk12⟩
  have hL13 : LI w8 := ⟨_, hC3.lo hI2 lo11, hR10, hbk12 hb7⟩
  show sx_RP _ _ _ _ _ [.int (bre2A s.1 (ys.getD ((i + 1)) 0) (ys.getD ((i + 2)) 0))] _ _
  refine sx_RP.step (pc2 := 1098) (ls2 := [(3, .int (nI i)), (2, .ref 111), (1, .ref 0), (0, .float 4)]) (st2 := []) (w3 := w8) rfl rfl ?_
  refine sx_RP.step (pc2 := 1539) (ls2 := [(3, .int (nI i)), (2, .ref 111), (1, .ref 0), (0, .float 4)]) (st2 := []) (w3 := w8) rfl rfl ?_
  exact kk w8 hI9 hL13
set_option maxRecDepth 20000 in
set_option maxHeartbeats 4000000 in
theorem lc29 {ys : List Int32} {i : Nat} {w : List sx_C} {P : Option Value → List sx_C → Prop} (hl : ys.length ≤ 3072) (hn : i + 6 ≤ ys.length) (hI : WI w) (hL : LI w) (kk : ∀ w2, WI w2 → LI w2 → sx_RP (some ys) 9 246 1539 [(3, .int (nI i)), (2, .ref 111), (1, .ref 0), (0, .float 4)] [] w2 P) : sx_RP (some ys) 9 246 1101 [(3, .int (nI i)), (2, .ref 111), (1, .ref 0), (0, .float 4)] [] w P := by
  obtain ⟨s, hC, hR, hb⟩ := hL
  refine sx_RP.step (pc2 := 1102) (ls2 := [(3, .int (nI i)), (2, .ref 111), (1, .ref 0), (0, .float 4)]) (st2 := [.ref 0]) (w3 := w) rfl rfl ?_
  refine sx_RP.callp (as2 := [.ref 0]) (rest2 := []) rfl rfl (sx_inv_v2 (mi := 246) (k := 137) (st := [.ref 0]) (w := w) rfl rfl hI.1.o0 rfl rfl rfl) rfl rfl rfl (sx_RP.byk (c83 (d := 1) hI hC)) (show _ = 1105 from rfl) ?_
  rintro r4 w1 ⟨⟨⟨v3, rfl⟩, hI2, ⟨hC4, hi5⟩⟩, hbk6⟩
  have hR7 := hR.hi hi5
  have hb8 := hbk6 hb
  show sx_RP _ _ _ _ _ [.int v3] _ _
  refine sx_RP.step (pc2 := 1106) (ls2 := [(3, .int (nI i)), (2, .ref 111), (1, .ref 0), (0, .float 4)]) (st2 := []) (w3 := w1) rfl rfl ?_
  refine sx_RP.step (pc2 := 1107) (ls2 := [(3, .int (nI i)), (2, .ref 111), (1, .ref 0), (0, .float 4)]) (st2 := [.ref 111]) (w3 := w1) rfl rfl ?_
  refine sx_RP.callp (as2 := [.ref 111]) (rest2 := []) rfl rfl (sx_inv_v2 (mi := 246) (k := 140) (st := [.ref 111]) (w := w1) rfl rfl hI2.1.o111 rfl rfl rfl) rfl rfl rfl (sx_RP.byk (r205 (d := 1) hI2 hR7)) (show _ = 1110 from rfl) ?_
  rintro r4 w9 ⟨⟨⟨v11, rfl⟩, hI10, ⟨hR12, lo13⟩⟩, hbk14⟩
  have hL15 : LI w9 := ⟨_, hC4.lo hI2 lo13, hR12, hbk14 hb8⟩
  show sx_RP _ _ _ _ _ [.int v11] _ _
  refine sx_RP.step (pc2 := 1111) (ls2 := [(3, .int (nI i)), (2, .ref 111), (1, .ref 0), (0, .float 4)]) (st2 := []) (w3 := w9) rfl rfl ?_
  refine sx_RP.step (pc2 := 1539) (ls2 := [(3, .int (nI i)), (2, .ref 111), (1, .ref 0), (0, .float 4)]) (st2 := []) (w3 := w9) rfl rfl ?_
  exact kk w9 hI10 hL15
end
