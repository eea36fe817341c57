-- answers: cellOf
def hsF (l : List Int32) (c : Nat) : Nat → Int32
  | 0 => 0
  | n + 1 => if gF l n 5 = 0 ∧ gF l n 2 = nI c then hsF l c n + 1 else hsF l c n
theorem hs_y {l : List Int32} {c j : Nat} (h : gF l j 5 = 0 ∧ gF l j 2 = nI c) : hsF l c j + 1 = hsF l c (j + 1) := (if_pos h).symm
theorem hs_n {l : List Int32} {c j : Nat} (h : ¬ (gF l j 5 = 0 ∧ gF l j 2 = nI c)) : hsF l c j = hsF l c (j + 1) := (if_neg h).symm
set_option maxRecDepth 20000 in
set_option maxHeartbeats 4000000 in
theorem x13L {xs : Option (List Int32)} {d c n : Nat} {w : List sx_C} {l : List Int32} (hI : WI w) (hR : rel w 1 l) (hc : c < 48) (hn : n ≤ 10) (en : l.getD 1 0 = nI n) : ∀ (q j : Nat), j + q = n → sx_RP xs d 13 4 [(0, .ref 1), (1, .int (nI c)), (2, .int (hsF l c j)), (3, .int (nI j))] [] w (fun r w2 => r = some (.int (hsF l c n)) ∧ w2 = w)
  | 0, j, hj => by
    obtain rfl : j = n := by omega
    refine sx_RP.step (pc2 := 5) (ls2 := [(0, .ref 1), (1, .int (nI c)), (2, .int (hsF l c j)), (3, .int (nI j))]) (st2 := [.int (nI j)]) (w3 := w) rfl rfl ?_
    refine sx_RP.step (pc2 := 6) (ls2 := [(0, .ref 1), (1, .int (nI c)), (2, .int (hsF l c j)), (3, .int (nI j))]) (st2 := [.ref 1, .int (nI j)]) (w3 := w) rfl rfl ?_
    refine sx_RP.gc (k := 3) hI (Or.inl rfl) rfl rfl (by omega) (show _ = 9 from rfl) ?_
    rw [(hR.many.trans en)]
    refine sx_RP.br (p1 := 46) (l1 := [(0, .ref 1), (1, .int (nI c)), (2, .int (hsF l c j)), (3, .int (nI j))]) (s1 := []) (v1 := w) rfl rfl (fun _ => ?_) (fun q => absurd (nI_le (a := j) (b := j) (by omega) (by omega)) (of_decide_eq_false q))
    refine sx_RP.step (pc2 := 47) (ls2 := [(0, .ref 1), (1, .int (nI c)), (2, .int (hsF l c j)), (3, .int (nI j))]) (st2 := [.int (hsF l c j)]) (w3 := w) rfl rfl ?_
    refine sx_RP.ret (r := (some (.int (hsF l c j)))) rfl rfl ?_
    exact ⟨rfl, rfl⟩
  | q + 1, j, hj => by
    refine sx_RP.step (pc2 := 5) (ls2 := [(0, .ref 1), (1, .int (nI c)), (2, .int (hsF l c j)), (3, .int (nI j))]) (st2 := [.int (nI j)]) (w3 := w) rfl rfl ?_
    refine sx_RP.step (pc2 := 6) (ls2 := [(0, .ref 1), (1, .int (nI c)), (2, .int (hsF l c j)), (3, .int (nI j))]) (st2 := [.ref 1, .int (nI j)]) (w3 := w) rfl rfl ?_
    refine sx_RP.gc (k := 3) hI (Or.inl rfl) rfl rfl (by omega) (show _ = 9 from rfl) ?_
    rw [(hR.many.trans en)]
    refine sx_RP.br (p2 := 12) (l2 := [(0, .ref 1), (1, .int (nI c)), (2, .int (hsF l c j)), (3, .int (nI j))]) (s2 := []) (v2 := w) rfl rfl (fun q => absurd (of_decide_eq_true q) (fun z => absurd ((nI_leI (a := n) (b := j) (by omega) (by omega)).mp z) (by omega))) (fun _ => ?_)
    refine sx_RP.step (pc2 := 13) (ls2 := [(0, .ref 1), (1, .int (nI c)), (2, .int (hsF l c j)), (3, .int (nI j))]) (st2 := [.ref 1]) (w3 := w) rfl rfl ?_
    refine sx_RP.gref (k := 2) (b := 3) hI (Or.inl rfl) rfl rfl (by omega) (show _ = 16 from rfl) ?_
    refine sx_RP.step (pc2 := 17) (ls2 := [(0, .ref 1), (1, .int (nI c)), (2, .int (hsF l c j)), (3, .int (nI j))]) (st2 := [.int (nI j), .ref 3]) (w3 := w) rfl rfl ?_
    refine sx_RP.ald (v := .ref (1 + 4 + j)) rfl (hI.1.aG (Or.inl rfl)) rfl (grA_at (show j < 10 by omega)) (show _ = 18 from rfl) ?_
    refine sx_RP.gg (k := 5) hI (gAd.of (Or.inl rfl) (show j < 10 by omega)) rfl rfl (by decide) (show _ = 21 from rfl) ?_
    obtain ⟨x1, hx2, ex3⟩ : inR (fi w (1 + 4 + j) 5) 1 := hI.gk (k := 5) (gAd.of (Or.inl rfl) (show j < 10 by omega)) (by decide)
    rw [ex3]
    refine sx_RP.br (p1 := 40) (l1 := [(0, .ref 1), (1, .int (nI c)), (2, .int (hsF l c j)), (3, .int (nI j))]) (s1 := []) (v1 := w) (p2 := 24) (l2 := [(0, .ref 1), (1, .int (nI c)), (2, .int (hsF l c j)), (3, .int (nI j))]) (s2 := []) (v2 := w) rfl rfl (fun q4 => ?_) (fun q4 => ?_)
    · replace q4 := of_decide_eq_true q4
      replace q4 := mt (nI_eq (a := x1) (b := 0) (by omega) (by omega)).mpr q4
      refine sx_RP.step (pc2 := 43) (ls2 := [(3, .int ((nI j) + 1)), (0, .ref 1), (1, .int (nI c)), (2, .int (hsF l c j))]) (st2 := []) (w3 := w) rfl rfl ?_
      rw [nI_1 j]
      refine sx_RP.step (pc2 := 4) (ls2 := [(3, .int (nI (j + 1))), (0, .ref 1), (1, .int (nI c)), (2, .int (hsF l c j))]) (st2 := []) (w3 := w) rfl rfl ?_
      have e9 := hs_n (l := l) (c := c) (j := j) (fun z => q4 ((nI_eq (a := x1) (b := 0) (by omega) (by decide)).mp (((hR.ga (i := j) (k := 5) (by rw [en, iN_n (by omega)]; omega) (by decide)).symm.trans ex3).symm.trans z.1)))
      rw [e9]
      exact sx_RP.ls (sx_lr.cons rfl (sx_lr.cons rfl (sx_lr.cons rfl (sx_lr.cons rfl sx_lr.nil)))) (x13L hI hR hc hn en q (j + 1) (by omega))
    · replace q4 := Decidable.not_not.mp (of_decide_eq_false q4)
      replace q4 := (nI_eq (a := x1) (b := 0) (by omega) (by omega)).mp q4
      refine sx_RP.step (pc2 := 25) (ls2 := [(0, .ref 1), (1, .int (nI c)), (2, .int (hsF l c j)), (3, .int (nI j))]) (st2 := [.ref 1]) (w3 := w) rfl rfl ?_
      refine sx_RP.gref (k := 2) (b := 3) hI (Or.inl rfl) rfl rfl (by omega) (show _ = 28 from rfl) ?_
      refine sx_RP.step (pc2 := 29) (ls2 := [(0, .ref 1), (1, .int (nI c)), (2, .int (hsF l c j)), (3, .int (nI j))]) (st2 := [.int (nI j), .ref 3]) (w3 := w) rfl rfl ?_
      refine sx_RP.ald (v := .ref (1 + 4 + j)) rfl (hI.1.aG (Or.inl rfl)) rfl (grA_at (show j < 10 by omega)) (show _ = 30 from rfl) ?_
      refine sx_RP.gg (k := 2) hI (gAd.of (Or.inl rfl) (show j < 10 by omega)) rfl rfl (by decide) (show _ = 33 from rfl) ?_
      obtain ⟨x5, hx6, ex7⟩ : inR (fi w (1 + 4 + j) 2) 47 := hI.gk (k := 2) (gAd.of (Or.inl rfl) (show j < 10 by omega)) (by decide)
      rw [ex7]
      refine sx_RP.step (pc2 := 34) (ls2 := [(0, .ref 1), (1, .int (nI c)), (2, .int (hsF l c j)), (3, .int (nI j))]) (st2 := [.int (nI c), .int (nI x5)]) (w3 := w) rfl rfl ?_
      refine sx_RP.br (p1 := 40) (l1 := [(0, .ref 1), (1, .int (nI c)), (2, .int (hsF l c j)), (3, .int (nI j))]) (s1 := []) (v1 := w) (p2 := 37) (l2 := [(0, .ref 1), (1, .int (nI c)), (2, .int (hsF l c j)), (3, .int (nI j))]) (s2 := []) (v2 := w) rfl rfl (fun q8 => ?_) (fun q8 => ?_)
      · replace q8 := of_decide_eq_true q8
        replace q8 := mt (nI_eq (a := x5) (b := c) (by omega) (by omega)).mpr q8
        refine sx_RP.step (pc2 := 43) (ls2 := [(3, .int ((nI j) + 1)), (0, .ref 1), (1, .int (nI c)), (2, .int (hsF l c j))]) (st2 := []) (w3 := w) rfl rfl ?_
        rw [nI_1 j]
        refine sx_RP.step (pc2 := 4) (ls2 := [(3, .int (nI (j + 1))), (0, .ref 1), (1, .int (nI c)), (2, .int (hsF l c j))]) (st2 := []) (w3 := w) rfl rfl ?_
        have e9 := hs_n (l := l) (c := c) (j := j) (fun z => q8 ((nI_eq (a := x5) (b := c) (by omega) (by omega)).mp (((hR.ga (i := j) (k := 2) (by rw [en, iN_n (by omega)]; omega) (by decide)).symm.trans ex7).symm.trans z.2)))
        rw [e9]
        exact sx_RP.ls (sx_lr.cons rfl (sx_lr.cons rfl (sx_lr.cons rfl (sx_lr.cons rfl sx_lr.nil)))) (x13L hI hR hc hn en q (j + 1) (by omega))
      · replace q8 := Decidable.not_not.mp (of_decide_eq_false q8)
        replace q8 := (nI_eq (a := x5) (b := c) (by omega) (by omega)).mp q8
        refine sx_RP.step (pc2 := 40) (ls2 := [(2, .int ((hsF l c j) + 1)), (0, .ref 1), (1, .int (nI c)), (3, .int (nI j))]) (st2 := []) (w3 := w) rfl rfl ?_
        refine sx_RP.step (pc2 := 43) (ls2 := [(3, .int ((nI j) + 1)), (2, .int ((hsF l c j) + 1)), (0, .ref 1), (1, .int (nI c))]) (st2 := []) (w3 := w) rfl rfl ?_
        rw [nI_1 j]
        refine sx_RP.step (pc2 := 4) (ls2 := [(3, .int (nI (j + 1))), (2, .int ((hsF l c j) + 1)), (0, .ref 1), (1, .int (nI c))]) (st2 := []) (w3 := w) rfl rfl ?_
        have e9 := hs_y (l := l) (c := c) (j := j) ⟨((hR.ga (i := j) (k := 5) (by rw [en, iN_n (by omega)]; omega) (by decide)).symm.trans ex3).trans (by rw [q4]; rfl), ((hR.ga (i := j) (k := 2) (by rw [en, iN_n (by omega)]; omega) (by decide)).symm.trans ex7).trans (by rw [q8])⟩
        rw [e9]
        exact sx_RP.ls (sx_lr.cons rfl (sx_lr.cons rfl (sx_lr.cons rfl (sx_lr.cons rfl sx_lr.nil)))) (x13L hI hR hc hn en q (j + 1) (by omega))
set_option maxRecDepth 20000 in
set_option maxHeartbeats 4000000 in
theorem x13 {xs : Option (List Int32)} {d : Nat} {w : List sx_C} (hI : WI w) {c n : Nat} {l : List Int32} (hR : rel w 1 l) (hc : c < 48) (hn : n ≤ 10) (en : l.getD 1 0 = nI n) : sx_RU xs d 13 0 (lv_args 0 [.ref 1, .int (nI c)]) [] w (some (.int (hsF l c n))) w := by
  have h : sx_RP xs d 13 0 (lv_args 0 [.ref 1, .int (nI c)]) [] w (fun r9 w2 => r9 = some (.int (hsF l c n)) ∧ w2 = w) := by
    refine sx_RP.step (pc2 := 1) (ls2 := [(0, .ref 1), (1, .int (nI c))]) (st2 := [.int 0]) (w3 := w) rfl rfl ?_
    refine sx_RP.step (pc2 := 2) (ls2 := [(2, .int 0), (0, .ref 1), (1, .int (nI c))]) (st2 := []) (w3 := w) rfl rfl ?_
    refine sx_RP.step (pc2 := 3) (ls2 := [(2, .int 0), (0, .ref 1), (1, .int (nI c))]) (st2 := [.int 0]) (w3 := w) rfl rfl ?_
    refine sx_RP.step (pc2 := 4) (ls2 := [(3, .int 0), (2, .int 0), (0, .ref 1), (1, .int (nI c))]) (st2 := []) (w3 := w) rfl rfl ?_
    exact sx_RP.ls (sx_lr.cons rfl (sx_lr.cons rfl (sx_lr.cons rfl (sx_lr.cons rfl sx_lr.nil)))) (x13L hI hR hc hn en n 0 (by omega))
  obtain ⟨r9, w2, h1, rfl, rfl⟩ := h
  exact h1
set_option maxRecDepth 20000 in
set_option maxHeartbeats 4000000 in
theorem x136L {xs : Option (List Int32)} {d c n : Nat} {w : List sx_C} (hI : WI w) (hc : c < 48) (hn : n ≤ 10) (en : (ia w 112).getD 1 0 = nI n) : ∀ (q j : Nat), j + q = n → sx_RP xs (d + 2) 136 4 [(0, .ref 111), (1, .int (nI c)), (2, .int (hsF (ia w 112) c j)), (3, .int (nI j))] [] w (fun r w2 => r = some (.int (hsF (ia w 112) c n)) ∧ w2 = w)
  | 0, j, hj => by
    obtain rfl : j = n := by omega
    refine sx_RP.step (pc2 := 5) (ls2 := [(0, .ref 111), (1, .int (nI c)), (2, .int (hsF (ia w 112) c j)), (3, .int (nI j))]) (st2 := [.int (nI j)]) (w3 := w) rfl rfl ?_
    refine sx_RP.step (pc2 := 6) (ls2 := [(0, .ref 111), (1, .int (nI c)), (2, .int (hsF (ia w 112) c j)), (3, .int (nI j))]) (st2 := [.ref 111, .int (nI j)]) (w3 := w) rfl rfl ?_
    refine sx_RP.gf (v := .ref 112) rfl rfl hI.1.o111 rfl rfl (show _ = 9 from rfl) ?_
    refine sx_RP.step (pc2 := 10) (ls2 := [(0, .ref 111), (1, .int (nI c)), (2, .int (hsF (ia w 112) c j)), (3, .int (nI j))]) (st2 := [.int 1, .ref 112, .int (nI j)]) (w3 := w) rfl rfl ?_
    refine sx_RP.ild (c := 1) rfl hI.1.a112.1 hI.1.a112.2 (sx_in_nI (show 1 < 172 by omega) (by decide)) (show (nI 1).toNatClampNeg = 1 from nI_clamp (by omega)) (show _ = 11 from rfl) ?_
    rw [en]
    refine sx_RP.br (p1 := 46) (l1 := [(0, .ref 111), (1, .int (nI c)), (2, .int (hsF (ia w 112) c j)), (3, .int (nI j))]) (s1 := []) (v1 := w) rfl rfl (fun _ => ?_) (fun q => absurd (nI_le (a := j) (b := j) (by omega) (by omega)) (of_decide_eq_false q))
    refine sx_RP.step (pc2 := 47) (ls2 := [(0, .ref 111), (1, .int (nI c)), (2, .int (hsF (ia w 112) c j)), (3, .int (nI j))]) (st2 := [.int (hsF (ia w 112) c j)]) (w3 := w) rfl rfl ?_
    refine sx_RP.ret (r := (some (.int (hsF (ia w 112) c j)))) rfl rfl ?_
    exact ⟨rfl, rfl⟩
  | q + 1, j, hj => by
    refine sx_RP.step (pc2 := 5) (ls2 := [(0, .ref 111), (1, .int (nI c)), (2, .int (hsF (ia w 112) c j)), (3, .int (nI j))]) (st2 := [.int (nI j)]) (w3 := w) rfl rfl ?_
    refine sx_RP.step (pc2 := 6) (ls2 := [(0, .ref 111), (1, .int (nI c)), (2, .int (hsF (ia w 112) c j)), (3, .int (nI j))]) (st2 := [.ref 111, .int (nI j)]) (w3 := w) rfl rfl ?_
    refine sx_RP.gf (v := .ref 112) rfl rfl hI.1.o111 rfl rfl (show _ = 9 from rfl) ?_
    refine sx_RP.step (pc2 := 10) (ls2 := [(0, .ref 111), (1, .int (nI c)), (2, .int (hsF (ia w 112) c j)), (3, .int (nI j))]) (st2 := [.int 1, .ref 112, .int (nI j)]) (w3 := w) rfl rfl ?_
    refine sx_RP.ild (c := 1) rfl hI.1.a112.1 hI.1.a112.2 (sx_in_nI (show 1 < 172 by omega) (by decide)) (show (nI 1).toNatClampNeg = 1 from nI_clamp (by omega)) (show _ = 11 from rfl) ?_
    rw [en]
    refine sx_RP.br (p2 := 14) (l2 := [(0, .ref 111), (1, .int (nI c)), (2, .int (hsF (ia w 112) c j)), (3, .int (nI j))]) (s2 := []) (v2 := w) rfl rfl (fun q => absurd (of_decide_eq_true q) (fun z => absurd ((nI_leI (a := n) (b := j) (by omega) (by omega)).mp z) (by omega))) (fun _ => ?_)
    refine sx_RP.step (pc2 := 15) (ls2 := [(0, .ref 111), (1, .int (nI c)), (2, .int (hsF (ia w 112) c j)), (3, .int (nI j))]) (st2 := [.int (hsF (ia w 112) c j)]) (w3 := w) rfl rfl ?_
    refine sx_RP.step (pc2 := 16) (ls2 := [(0, .ref 111), (1, .int (nI c)), (2, .int (hsF (ia w 112) c j)), (3, .int (nI j))]) (st2 := [.ref 111, .int (hsF (ia w 112) c j)]) (w3 := w) rfl rfl ?_
    refine sx_RP.step (pc2 := 17) (ls2 := [(0, .ref 111), (1, .int (nI c)), (2, .int (hsF (ia w 112) c j)), (3, .int (nI j))]) (st2 := [.int (nI j), .ref 111, .int (hsF (ia w 112) c j)]) (w3 := w) rfl rfl ?_
    rcases Decidable.em ((ia w 112).getD (103 + 6 * j + 5) 0 = 0) with ci | ci
    · refine sx_RP.cu (as := [.ref 111, .int (nI j)]) (rest2 := [.int (hsF (ia w 112) c j)]) (st3 := [.int 1, .int (hsF (ia w 112) c j)]) rfl rfl (sx_inv_v2 (mi := 136) (k := 74) (st := [.int (nI j), .ref 111, .int (hsF (ia w 112) c j)]) (w := w) rfl rfl hI.1.o111 rfl rfl rfl) rfl rfl (x137y hI (by omega) ci) rfl ?_
      refine sx_RP.step (pc2 := 23) (ls2 := [(0, .ref 111), (1, .int (nI c)), (2, .int (hsF (ia w 112) c j)), (3, .int (nI j))]) (st2 := [.int (hsF (ia w 112) c j)]) (w3 := w) rfl rfl ?_
      refine sx_RP.step (pc2 := 24) (ls2 := [(0, .ref 111), (1, .int (nI c)), (2, .int (hsF (ia w 112) c j)), (3, .int (nI j))]) (st2 := [.ref 111, .int (hsF (ia w 112) c j)]) (w3 := w) rfl rfl ?_
      refine sx_RP.step (pc2 := 25) (ls2 := [(0, .ref 111), (1, .int (nI c)), (2, .int (hsF (ia w 112) c j)), (3, .int (nI j))]) (st2 := [.int (nI j), .ref 111, .int (hsF (ia w 112) c j)]) (w3 := w) rfl rfl ?_
      refine sx_RP.step (pc2 := 26) (ls2 := [(0, .ref 111), (1, .int (nI c)), (2, .int (hsF (ia w 112) c j)), (3, .int (nI j))]) (st2 := [.int 2, .int (nI j), .ref 111, .int (hsF (ia w 112) c j)]) (w3 := w) rfl rfl ?_
      refine sx_RP.cu (as := [.ref 111, .int (nI j), .int 2]) (rest2 := [.int (hsF (ia w 112) c j)]) (st3 := [.int ((ia w 112).getD (103 + 6 * j + 2) 0), .int (hsF (ia w 112) c j)]) rfl rfl (sx_inv_v2 (mi := 136) (k := 59) (st := [.int 2, .int (nI j), .ref 111, .int (hsF (ia w 112) c j)]) (w := w) rfl rfl hI.1.o111 rfl rfl rfl) rfl rfl (x138 hI (show j < 10 by omega) (show 2 < 6 by decide)) rfl ?_
      refine sx_RP.step (pc2 := 30) (ls2 := [(0, .ref 111), (1, .int (nI c)), (2, .int (hsF (ia w 112) c j)), (3, .int (nI j))]) (st2 := [.int (nI c), .int ((ia w 112).getD (103 + 6 * j + 2) 0), .int (hsF (ia w 112) c j)]) (w3 := w) rfl rfl ?_
      refine sx_RP.br (p1 := 37) (l1 := [(0, .ref 111), (1, .int (nI c)), (2, .int (hsF (ia w 112) c j)), (3, .int (nI j))]) (s1 := [.int (hsF (ia w 112) c j)]) (v1 := w) (p2 := 33) (l2 := [(0, .ref 111), (1, .int (nI c)), (2, .int (hsF (ia w 112) c j)), (3, .int (nI j))]) (s2 := [.int (hsF (ia w 112) c j)]) (v2 := w) rfl rfl (fun q1 => ?_) (fun q1 => ?_)
      · replace q1 := of_decide_eq_true q1
        refine sx_RP.step (pc2 := 38) (ls2 := [(0, .ref 111), (1, .int (nI c)), (2, .int (hsF (ia w 112) c j)), (3, .int (nI j))]) (st2 := [.int 0, .int (hsF (ia w 112) c j)]) (w3 := w) rfl rfl ?_
        refine sx_RP.step (pc2 := 39) (ls2 := [(0, .ref 111), (1, .int (nI c)), (2, .int (hsF (ia w 112) c j)), (3, .int (nI j))]) (st2 := [.int ((hsF (ia w 112) c j) + 0)]) (w3 := w) rfl rfl ?_
        refine sx_RP.step (pc2 := 40) (ls2 := [(2, .int ((hsF (ia w 112) c j) + 0)), (0, .ref 111), (1, .int (nI c)), (3, .int (nI j))]) (st2 := []) (w3 := w) rfl rfl ?_
        refine sx_RP.step (pc2 := 43) (ls2 := [(3, .int ((nI j) + 1)), (2, .int ((hsF (ia w 112) c j) + 0)), (0, .ref 111), (1, .int (nI c))]) (st2 := []) (w3 := w) rfl rfl ?_
        rw [nI_1 j]
        refine sx_RP.step (pc2 := 4) (ls2 := [(3, .int (nI (j + 1))), (2, .int ((hsF (ia w 112) c j) + 0)), (0, .ref 111), (1, .int (nI c))]) (st2 := []) (w3 := w) rfl rfl ?_
        rw [Int32.add_zero, hs_n (l := ia w 112) (c := c) (j := j) (fun z => q1 z.2)]
        exact sx_RP.ls (sx_lr.cons rfl (sx_lr.cons rfl (sx_lr.cons rfl (sx_lr.cons rfl sx_lr.nil)))) (x136L hI hc hn en q (j + 1) (by omega))
      · replace q1 := Decidable.not_not.mp (of_decide_eq_false q1)
        refine sx_RP.step (pc2 := 34) (ls2 := [(0, .ref 111), (1, .int (nI c)), (2, .int (hsF (ia w 112) c j)), (3, .int (nI j))]) (st2 := [.int 1, .int (hsF (ia w 112) c j)]) (w3 := w) rfl rfl ?_
        refine sx_RP.step (pc2 := 38) (ls2 := [(0, .ref 111), (1, .int (nI c)), (2, .int (hsF (ia w 112) c j)), (3, .int (nI j))]) (st2 := [.int 1, .int (hsF (ia w 112) c j)]) (w3 := w) rfl rfl ?_
        refine sx_RP.step (pc2 := 39) (ls2 := [(0, .ref 111), (1, .int (nI c)), (2, .int (hsF (ia w 112) c j)), (3, .int (nI j))]) (st2 := [.int ((hsF (ia w 112) c j) + 1)]) (w3 := w) rfl rfl ?_
        refine sx_RP.step (pc2 := 40) (ls2 := [(2, .int ((hsF (ia w 112) c j) + 1)), (0, .ref 111), (1, .int (nI c)), (3, .int (nI j))]) (st2 := []) (w3 := w) rfl rfl ?_
        refine sx_RP.step (pc2 := 43) (ls2 := [(3, .int ((nI j) + 1)), (2, .int ((hsF (ia w 112) c j) + 1)), (0, .ref 111), (1, .int (nI c))]) (st2 := []) (w3 := w) rfl rfl ?_
        rw [nI_1 j]
        refine sx_RP.step (pc2 := 4) (ls2 := [(3, .int (nI (j + 1))), (2, .int ((hsF (ia w 112) c j) + 1)), (0, .ref 111), (1, .int (nI c))]) (st2 := []) (w3 := w) rfl rfl ?_
        rw [hs_y (l := ia w 112) (c := c) (j := j) ⟨ci, q1⟩]
        exact sx_RP.ls (sx_lr.cons rfl (sx_lr.cons rfl (sx_lr.cons rfl (sx_lr.cons rfl sx_lr.nil)))) (x136L hI hc hn en q (j + 1) (by omega))
    · refine sx_RP.cu (as := [.ref 111, .int (nI j)]) (rest2 := [.int (hsF (ia w 112) c j)]) (st3 := [.int 0, .int (hsF (ia w 112) c j)]) rfl rfl (sx_inv_v2 (mi := 136) (k := 74) (st := [.int (nI j), .ref 111, .int (hsF (ia w 112) c j)]) (w := w) rfl rfl hI.1.o111 rfl rfl rfl) rfl rfl (x137n hI (by omega) ci) rfl ?_
      refine sx_RP.step (pc2 := 37) (ls2 := [(0, .ref 111), (1, .int (nI c)), (2, .int (hsF (ia w 112) c j)), (3, .int (nI j))]) (st2 := [.int (hsF (ia w 112) c j)]) (w3 := w) rfl rfl ?_
      refine sx_RP.step (pc2 := 38) (ls2 := [(0, .ref 111), (1, .int (nI c)), (2, .int (hsF (ia w 112) c j)), (3, .int (nI j))]) (st2 := [.int 0, .int (hsF (ia w 112) c j)]) (w3 := w) rfl rfl ?_
      refine sx_RP.step (pc2 := 39) (ls2 := [(0, .ref 111), (1, .int (nI c)), (2, .int (hsF (ia w 112) c j)), (3, .int (nI j))]) (st2 := [.int ((hsF (ia w 112) c j) + 0)]) (w3 := w) rfl rfl ?_
      refine sx_RP.step (pc2 := 40) (ls2 := [(2, .int ((hsF (ia w 112) c j) + 0)), (0, .ref 111), (1, .int (nI c)), (3, .int (nI j))]) (st2 := []) (w3 := w) rfl rfl ?_
      refine sx_RP.step (pc2 := 43) (ls2 := [(3, .int ((nI j) + 1)), (2, .int ((hsF (ia w 112) c j) + 0)), (0, .ref 111), (1, .int (nI c))]) (st2 := []) (w3 := w) rfl rfl ?_
      rw [nI_1 j]
      refine sx_RP.step (pc2 := 4) (ls2 := [(3, .int (nI (j + 1))), (2, .int ((hsF (ia w 112) c j) + 0)), (0, .ref 111), (1, .int (nI c))]) (st2 := []) (w3 := w) rfl rfl ?_
      rw [Int32.add_zero, hs_n (l := ia w 112) (c := c) (j := j) (fun z => ci z.1)]
      exact sx_RP.ls (sx_lr.cons rfl (sx_lr.cons rfl (sx_lr.cons rfl (sx_lr.cons rfl sx_lr.nil)))) (x136L hI hc hn en q (j + 1) (by omega))
set_option maxRecDepth 20000 in
set_option maxHeartbeats 4000000 in
theorem x136 {xs : Option (List Int32)} {d : Nat} {w : List sx_C} (hI : WI w) {c n : Nat} (hc : c < 48) (hn : n ≤ 10) (en : (ia w 112).getD 1 0 = nI n) : sx_RU xs (d + 2) 136 0 (lv_args 0 [.ref 111, .int (nI c)]) [] w (some (.int (hsF (ia w 112) c n))) w := by
  have h : sx_RP xs (d + 2) 136 0 (lv_args 0 [.ref 111, .int (nI c)]) [] w (fun r9 w2 => r9 = some (.int (hsF (ia w 112) c n)) ∧ w2 = w) := by
    refine sx_RP.step (pc2 := 1) (ls2 := [(0, .ref 111), (1, .int (nI c))]) (st2 := [.int 0]) (w3 := w) rfl rfl ?_
    refine sx_RP.step (pc2 := 2) (ls2 := [(2, .int 0), (0, .ref 111), (1, .int (nI c))]) (st2 := []) (w3 := w) rfl rfl ?_
    refine sx_RP.step (pc2 := 3) (ls2 := [(2, .int 0), (0, .ref 111), (1, .int (nI c))]) (st2 := [.int 0]) (w3 := w) rfl rfl ?_
    refine sx_RP.step (pc2 := 4) (ls2 := [(3, .int 0), (2, .int 0), (0, .ref 111), (1, .int (nI c))]) (st2 := []) (w3 := w) rfl rfl ?_
    exact sx_RP.ls (sx_lr.cons rfl (sx_lr.cons rfl (sx_lr.cons rfl (sx_lr.cons rfl sx_lr.nil)))) (x136L hI hc hn en n 0 (by omega))
  obtain ⟨r9, w2, h1, rfl, rfl⟩ := h
  exact h1
def celA (l : List Int32) (a1 a2 : Int32) : Int32 := if 0 ≤ a1 ∧ a1 ≤ 47 then (if a2 = 0 then l.getD (7 + iN a1) 0 else (if a2 = 1 then l.getD (55 + iN a1) 0 else (if a2 = 2 then hsF l (iN a1) (iN (l.getD 1 0)) else -1000000001))) else -1000000001
theorem celA_1 {l : List Int32} {a1 a2 : Int32} (h : ¬ (0 ≤ a1 ∧ a1 ≤ 47)) : celA l a1 a2 = -1000000001 := if_neg h
theorem celA_2 {l : List Int32} {a1 a2 : Int32} (h : ¬ (0 ≤ a2 ∧ a2 ≤ 2)) : celA l a1 a2 = -1000000001 := by
  unfold celA
  by_cases hc : 0 ≤ a1 ∧ a1 ≤ 47
  · rw [if_pos hc, if_neg (fun e => h (by rw [e]; decide)), if_neg (fun e => h (by rw [e]; decide)), if_neg (fun e => h (by rw [e]; decide))]
  · rw [if_neg hc]
theorem in2_n {a2 : Int32} (h : a2.toInt < 0 ∨ ((2 : Nat) : Int) < a2.toInt) : ¬ (0 ≤ a2 ∧ a2 ≤ 2) := by
  rw [Int32.le_iff_toInt_le, Int32.le_iff_toInt_le, show (0 : Int32).toInt = 0 by decide, show (2 : Int32).toInt = 2 by decide]
  omega
theorem cel_in {c : Nat} (hc : c < 48) : 0 ≤ nI c ∧ nI c ≤ 47 := ⟨nI_le (a := 0) (Nat.zero_le _) (by omega), nI_le (b := 47) (by omega) (by decide)⟩
theorem celA_s {l : List Int32} {c : Nat} (hc : c < 48) : celA l (nI c) (nI 0) = l.getD (7 + c) 0 := by
  unfold celA
  rw [if_pos (cel_in hc), if_pos (show nI 0 = 0 from rfl), iN_n (by omega)]
theorem celA_w {l : List Int32} {c : Nat} (hc : c < 48) : celA l (nI c) (nI 1) = l.getD (55 + c) 0 := by
  unfold celA
  rw [if_pos (cel_in hc), if_neg (show ¬ nI 1 = 0 by decide), if_pos (show nI 1 = 1 by decide), iN_n (by omega)]
theorem celA_h {l : List Int32} {c n : Nat} (hc : c < 48) (en : l.getD 1 0 = nI n) (hn : n ≤ 10) : celA l (nI c) (nI 2) = hsF l c n := by
  unfold celA
  rw [if_pos (cel_in hc), if_neg (show ¬ nI 2 = 0 by decide), if_neg (show ¬ nI 2 = 1 by decide), if_pos (show nI 2 = 2 by decide), iN_n (by omega), en, iN_n (by omega)]
set_option maxRecDepth 20000 in
set_option maxHeartbeats 4000000 in
theorem A12 {xs : Option (List Int32)} {d : Nat} {w : List sx_C} (hI : WI w) (l : List Int32) (hR : rel w 1 l) (a1 a2 : Int32) : sx_RP xs (d + 7) 12 0 (lv_args 0 [.ref 0, .int a1, .int a2]) [] w (fun r w2 => r = some (.int (celA l a1 a2)) ∧ WI w2) := by
  obtain ⟨n, hn, en⟩ := hR.n10 hI (Or.inl rfl)
  have en0 := hR.many.trans en
  refine sx_RP.step (pc2 := 1) (ls2 := [(0, .ref 0), (1, .int a1), (2, .int a2)]) (st2 := [.int a1]) (w3 := w) rfl rfl ?_
  rcases in_cases a1 0 47 (m := 0) (n := 47) rfl rfl (by decide) (by decide) with q1 | ⟨x2, hx3, hx4, rfl⟩
  · refine sx_RP.cu (as := [.int a1]) (rest2 := []) (st3 := [.int 0]) rfl rfl rfl rfl rfl (cx_7n q1) rfl ?_
    refine sx_RP.step (pc2 := 7) (ls2 := [(0, .ref 0), (1, .int a1), (2, .int a2)]) (st2 := []) (w3 := w) rfl rfl ?_
    refine sx_RP.step (pc2 := 8) (ls2 := [(0, .ref 0), (1, .int a1), (2, .int a2)]) (st2 := [.ref 0]) (w3 := w) rfl rfl ?_
    refine sx_RP.step (pc2 := 10) (ls2 := [(0, .ref 0), (1, .int a1), (2, .int a2)]) (st2 := [.int (-1000000001), .ref 0]) (w3 := w) rfl rfl ?_
    refine sx_RP.callp (as2 := [.ref 0, .int (-1000000001)]) (rest2 := []) rfl rfl (sx_inv_v2 (mi := 12) (k := 78) (st := [.int (-1000000001), .ref 0]) (w := w) rfl rfl hI.1.o0 rfl rfl rfl) rfl rfl rfl (S9_0 hI) (show _ = 13 from rfl) ?_
    rintro r4 w7 ⟨rfl, hI8, hs6⟩
    show sx_RP _ _ _ _ _ [.int (-1000000001)] _ _
    refine sx_RP.ret (r := (some (.int (-1000000001)))) rfl rfl ?_
    exact ⟨by rw [celA_1 q1], hI8⟩
  · refine sx_RP.cu (as := [.int (nI x2)]) (rest2 := []) (st3 := [.int 1]) rfl rfl rfl rfl rfl (cx_7p ⟨nI_le (a := 0) hx3 (by omega), nI_le (b := 47) hx4 (by decide)⟩) rfl ?_
    refine sx_RP.step (pc2 := 14) (ls2 := [(0, .ref 0), (1, .int (nI x2)), (2, .int a2)]) (st2 := []) (w3 := w) rfl rfl ?_
    refine sx_RP.step (pc2 := 15) (ls2 := [(0, .ref 0), (1, .int (nI x2)), (2, .int a2)]) (st2 := [.int a2]) (w3 := w) rfl rfl ?_
    rcases sw_cases (n := 2) (a2) with q9 | ⟨x10, hx11, ex12⟩
    · refine sx_RP.swo (t := 76) rfl q9 rfl ?_
      refine sx_RP.step (pc2 := 77) (ls2 := [(0, .ref 0), (1, .int (nI x2)), (2, .int a2)]) (st2 := [.ref 0]) (w3 := w) rfl rfl ?_
      refine sx_RP.step (pc2 := 79) (ls2 := [(0, .ref 0), (1, .int (nI x2)), (2, .int a2)]) (st2 := [.int (-1000000001), .ref 0]) (w3 := w) rfl rfl ?_
      refine sx_RP.callp (as2 := [.ref 0, .int (-1000000001)]) (rest2 := []) rfl rfl (sx_inv_v2 (mi := 12) (k := 78) (st := [.int (-1000000001), .ref 0]) (w := w) rfl rfl hI.1.o0 rfl rfl rfl) rfl rfl rfl (S9_0 hI) (show _ = 82 from rfl) ?_
      rintro r4 w14 ⟨rfl, hI15, hs13⟩
      show sx_RP _ _ _ _ _ [.int (-1000000001)] _ _
      refine sx_RP.ret (r := (some (.int (-1000000001)))) rfl rfl ?_
      exact ⟨by rw [celA_2 (in2_n q9)], hI15⟩
    · rw [ex12]
      rcases (show x10 = 0 ∨ x10 = 1 ∨ x10 = 2 by omega) with rfl | rfl | rfl
      · refine sx_RP.step (pc2 := 40) (ls2 := [(0, .ref 0), (1, .int (nI x2)), (2, .int (nI 0))]) (st2 := []) (w3 := w) rfl rfl ?_
        refine sx_RP.step (pc2 := 41) (ls2 := [(0, .ref 0), (1, .int (nI x2)), (2, .int (nI 0))]) (st2 := [.ref 0]) (w3 := w) rfl rfl ?_
        refine sx_RP.gf (v := .ref 1) rfl rfl hI.1.o0 rfl rfl (show _ = 44 from rfl) ?_
        refine sx_RP.gref (k := 0) (b := 2) hI (Or.inl rfl) rfl rfl (by omega) (show _ = 47 from rfl) ?_
        refine sx_RP.step (pc2 := 48) (ls2 := [(0, .ref 0), (1, .int (nI x2)), (2, .int (nI 0))]) (st2 := [.int (nI x2), .ref 2]) (w3 := w) rfl rfl ?_
        refine sx_RP.ild (c := x2) rfl (hI.1.aS (Or.inl rfl)).1 (hI.1.aS (Or.inl rfl)).2 (sx_in_nI (show x2 < 48 by omega) (by decide)) (show (nI x2).toNatClampNeg = x2 from nI_clamp (by omega)) (show _ = 49 from rfl) ?_
        obtain ⟨x16, hx17, ex18⟩ : inR ((ia w 2).getD x2 0) 3 := hI.st (Or.inl rfl) (show x2 < 48 by omega)
        rw [ex18]
        refine sx_RP.ret (r := (some (.int (nI x16)))) rfl rfl ?_
        exact ⟨by rw [celA_s (by omega), show l.getD (7 + x2) 0 = nI x16 from (hR.gr (by omega)).symm.trans ex18], hI⟩
      · refine sx_RP.step (pc2 := 50) (ls2 := [(0, .ref 0), (1, .int (nI x2)), (2, .int (nI 1))]) (st2 := []) (w3 := w) rfl rfl ?_
        refine sx_RP.step (pc2 := 51) (ls2 := [(0, .ref 0), (1, .int (nI x2)), (2, .int (nI 1))]) (st2 := [.ref 0]) (w3 := w) rfl rfl ?_
        refine sx_RP.gf (v := .ref 1) rfl rfl hI.1.o0 rfl rfl (show _ = 54 from rfl) ?_
        refine sx_RP.step (pc2 := 55) (ls2 := [(0, .ref 0), (1, .int (nI x2)), (2, .int (nI 1))]) (st2 := [.int (nI x2), .ref 1]) (w3 := w) rfl rfl ?_
        rcases Bool.eq_false_or_eq_true (bitL (fj w 1 1) x2) with hb19 | hb19
        · refine sx_RP.cu (as := [.ref 1, .int (nI x2)]) (rest2 := []) (st3 := [.int 1]) rfl rfl (sx_inv_v2 (mi := 12) (k := 85) (st := [.int (nI x2), .ref 1]) (w := w) rfl rfl (hI.1.oC (Or.inl rfl)) rfl rfl rfl) rfl rfl (x11t hI (Or.inl rfl) (by omega) hb19) rfl ?_
          refine sx_RP.step (pc2 := 61) (ls2 := [(0, .ref 0), (1, .int (nI x2)), (2, .int (nI 1))]) (st2 := []) (w3 := w) rfl rfl ?_
          refine sx_RP.step (pc2 := 62) (ls2 := [(0, .ref 0), (1, .int (nI x2)), (2, .int (nI 1))]) (st2 := [.int 1]) (w3 := w) rfl rfl ?_
          refine sx_RP.step (pc2 := 66) (ls2 := [(0, .ref 0), (1, .int (nI x2)), (2, .int (nI 1))]) (st2 := [.int 1]) (w3 := w) rfl rfl ?_
          refine sx_RP.ret (r := (some (.int 1))) rfl rfl ?_
          exact ⟨by rw [celA_w (by omega), ← hR.w48 (by omega), hb19]; rfl, hI⟩
        · refine sx_RP.cu (as := [.ref 1, .int (nI x2)]) (rest2 := []) (st3 := [.int 0]) rfl rfl (sx_inv_v2 (mi := 12) (k := 85) (st := [.int (nI x2), .ref 1]) (w := w) rfl rfl (hI.1.oC (Or.inl rfl)) rfl rfl rfl) rfl rfl (x11f hI (Or.inl rfl) (by omega) hb19) rfl ?_
          refine sx_RP.step (pc2 := 65) (ls2 := [(0, .ref 0), (1, .int (nI x2)), (2, .int (nI 1))]) (st2 := []) (w3 := w) rfl rfl ?_
          refine sx_RP.step (pc2 := 66) (ls2 := [(0, .ref 0), (1, .int (nI x2)), (2, .int (nI 1))]) (st2 := [.int 0]) (w3 := w) rfl rfl ?_
          refine sx_RP.ret (r := (some (.int 0))) rfl rfl ?_
          exact ⟨by rw [celA_w (by omega), ← hR.w48 (by omega), hb19]; rfl, hI⟩
      · refine sx_RP.step (pc2 := 67) (ls2 := [(0, .ref 0), (1, .int (nI x2)), (2, .int (nI 2))]) (st2 := []) (w3 := w) rfl rfl ?_
        refine sx_RP.step (pc2 := 68) (ls2 := [(0, .ref 0), (1, .int (nI x2)), (2, .int (nI 2))]) (st2 := [.ref 0]) (w3 := w) rfl rfl ?_
        refine sx_RP.gf (v := .ref 1) rfl rfl hI.1.o0 rfl rfl (show _ = 71 from rfl) ?_
        refine sx_RP.step (pc2 := 72) (ls2 := [(0, .ref 0), (1, .int (nI x2)), (2, .int (nI 2))]) (st2 := [.int (nI x2), .ref 1]) (w3 := w) rfl rfl ?_
        refine sx_RP.cu (as := [.ref 1, .int (nI x2)]) (rest2 := []) (st3 := [.int (hsF l x2 n)]) rfl rfl (sx_inv_v2 (mi := 12) (k := 92) (st := [.int (nI x2), .ref 1]) (w := w) rfl rfl (hI.1.oC (Or.inl rfl)) rfl rfl rfl) rfl rfl (x13 hI hR (show x2 < 48 by omega) hn en) rfl ?_
        refine sx_RP.ret (r := (some (.int (hsF l x2 n)))) rfl rfl ?_
        exact ⟨by rw [celA_h (by omega) en (by omega)], hI⟩
set_option maxRecDepth 20000 in
set_option maxHeartbeats 4000000 in
theorem A135 {xs : Option (List Int32)} {d : Nat} {w : List sx_C} (hI : WI w) (a1 a2 : Int32) : sx_RP xs (d + 7) 135 0 (lv_args 0 [.ref 111, .int a1, .int a2]) [] w (fun r w2 => r = some (.int (celA (ia w 112) a1 a2)) ∧ WI w2) := by
  obtain ⟨n, hn, en⟩ := (hI.sA (a := 112) (by decide) 1 (by decide)).1 rfl
  refine sx_RP.step (pc2 := 1) (ls2 := [(0, .ref 111), (1, .int a1), (2, .int a2)]) (st2 := [.int a1]) (w3 := w) rfl rfl ?_
  rcases in_cases a1 0 47 (m := 0) (n := 47) rfl rfl (by decide) (by decide) with q1 | ⟨x2, hx3, hx4, rfl⟩
  · refine sx_RP.cu (as := [.int a1]) (rest2 := []) (st3 := [.int 0]) rfl rfl rfl rfl rfl (cx_131n q1) rfl ?_
    refine sx_RP.step (pc2 := 16) (ls2 := [(0, .ref 111), (1, .int a1), (2, .int a2)]) (st2 := []) (w3 := w) rfl rfl ?_
    refine sx_RP.step (pc2 := 17) (ls2 := [(0, .ref 111), (1, .int a1), (2, .int a2)]) (st2 := [.ref 111]) (w3 := w) rfl rfl ?_
    refine sx_RP.step (pc2 := 18) (ls2 := [(0, .ref 111), (1, .int a1), (2, .int a2)]) (st2 := [.int 0, .ref 111]) (w3 := w) rfl rfl ?_
    refine sx_RP.callp (as2 := [.ref 111, .int 0]) (rest2 := []) rfl rfl (sx_inv_v2 (mi := 135) (k := 70) (st := [.int 0, .ref 111]) (w := w) rfl rfl hI.1.o111 rfl rfl rfl) rfl rfl rfl (S133_0 hI) (show _ = 21 from rfl) ?_
    rintro r4 w7 ⟨rfl, hI8, hs6⟩
    show sx_RP _ _ _ _ _ [.int (-1000000001)] _ _
    refine sx_RP.ret (r := (some (.int (-1000000001)))) rfl rfl ?_
    exact ⟨by rw [celA_1 q1], hI8⟩
  · refine sx_RP.cu (as := [.int (nI x2)]) (rest2 := []) (st3 := [.int 1]) rfl rfl rfl rfl rfl (cx_131p ⟨nI_le (a := 0) hx3 (by omega), nI_le (b := 47) hx4 (by decide)⟩) rfl ?_
    refine sx_RP.step (pc2 := 7) (ls2 := [(0, .ref 111), (1, .int (nI x2)), (2, .int a2)]) (st2 := []) (w3 := w) rfl rfl ?_
    refine sx_RP.step (pc2 := 8) (ls2 := [(0, .ref 111), (1, .int (nI x2)), (2, .int a2)]) (st2 := [.int a2]) (w3 := w) rfl rfl ?_
    refine sx_RP.step (pc2 := 9) (ls2 := [(0, .ref 111), (1, .int (nI x2)), (2, .int a2)]) (st2 := [.int 0, .int a2]) (w3 := w) rfl rfl ?_
    refine sx_RP.step (pc2 := 10) (ls2 := [(0, .ref 111), (1, .int (nI x2)), (2, .int a2)]) (st2 := [.int 2, .int 0, .int a2]) (w3 := w) rfl rfl ?_
    rcases in_cases a2 0 2 (m := 0) (n := 2) rfl rfl (by decide) (by decide) with q9 | ⟨x10, hx11, hx12, rfl⟩
    · refine sx_RP.cu (as := [.int a2, .int 0, .int 2]) (rest2 := []) (st3 := [.int 0]) rfl rfl rfl rfl rfl (cx_132o q9) rfl ?_
      refine sx_RP.step (pc2 := 16) (ls2 := [(0, .ref 111), (1, .int (nI x2)), (2, .int a2)]) (st2 := []) (w3 := w) rfl rfl ?_
      refine sx_RP.step (pc2 := 17) (ls2 := [(0, .ref 111), (1, .int (nI x2)), (2, .int a2)]) (st2 := [.ref 111]) (w3 := w) rfl rfl ?_
      refine sx_RP.step (pc2 := 18) (ls2 := [(0, .ref 111), (1, .int (nI x2)), (2, .int a2)]) (st2 := [.int 0, .ref 111]) (w3 := w) rfl rfl ?_
      refine sx_RP.callp (as2 := [.ref 111, .int 0]) (rest2 := []) rfl rfl (sx_inv_v2 (mi := 135) (k := 70) (st := [.int 0, .ref 111]) (w := w) rfl rfl hI.1.o111 rfl rfl rfl) rfl rfl rfl (S133_0 hI) (show _ = 21 from rfl) ?_
      rintro r4 w15 ⟨rfl, hI16, hs14⟩
      show sx_RP _ _ _ _ _ [.int (-1000000001)] _ _
      refine sx_RP.ret (r := (some (.int (-1000000001)))) rfl rfl ?_
      exact ⟨by rw [celA_2 q9], hI16⟩
    · refine sx_RP.cu (as := [.int (nI x10), .int 0, .int 2]) (rest2 := []) (st3 := [.int 1]) rfl rfl rfl rfl rfl (cx_132p ⟨nI_le (a := 0) hx11 (by omega), nI_le (b := 2) hx12 (by decide)⟩) rfl ?_
      refine sx_RP.step (pc2 := 22) (ls2 := [(0, .ref 111), (1, .int (nI x2)), (2, .int (nI x10))]) (st2 := []) (w3 := w) rfl rfl ?_
      refine sx_RP.step (pc2 := 23) (ls2 := [(0, .ref 111), (1, .int (nI x2)), (2, .int (nI x10))]) (st2 := [.int (nI x10)]) (w3 := w) rfl rfl ?_
      refine sx_RP.br (p1 := 38) (l1 := [(0, .ref 111), (1, .int (nI x2)), (2, .int (nI x10))]) (s1 := []) (v1 := w) (p2 := 26) (l2 := [(0, .ref 111), (1, .int (nI x2)), (2, .int (nI x10))]) (s2 := []) (v2 := w) rfl rfl (fun q17 => ?_) (fun q17 => ?_)
      · replace q17 := of_decide_eq_true q17
        replace q17 := mt (nI_eq (a := x10) (b := 0) (by omega) (by omega)).mpr q17
        refine sx_RP.step (pc2 := 39) (ls2 := [(0, .ref 111), (1, .int (nI x2)), (2, .int (nI x10))]) (st2 := [.int (nI x10)]) (w3 := w) rfl rfl ?_
        refine sx_RP.step (pc2 := 40) (ls2 := [(0, .ref 111), (1, .int (nI x2)), (2, .int (nI x10))]) (st2 := [.int 1, .int (nI x10)]) (w3 := w) rfl rfl ?_
        refine sx_RP.br (p1 := 55) (l1 := [(0, .ref 111), (1, .int (nI x2)), (2, .int (nI x10))]) (s1 := []) (v1 := w) (p2 := 43) (l2 := [(0, .ref 111), (1, .int (nI x2)), (2, .int (nI x10))]) (s2 := []) (v2 := w) rfl rfl (fun q18 => ?_) (fun q18 => ?_)
        · replace q18 := of_decide_eq_true q18
          replace q18 := mt (nI_eq (a := x10) (b := 1) (by omega) (by omega)).mpr q18
          refine sx_RP.step (pc2 := 56) (ls2 := [(0, .ref 111), (1, .int (nI x2)), (2, .int (nI x10))]) (st2 := [.ref 111]) (w3 := w) rfl rfl ?_
          refine sx_RP.step (pc2 := 57) (ls2 := [(0, .ref 111), (1, .int (nI x2)), (2, .int (nI x10))]) (st2 := [.int (nI x2), .ref 111]) (w3 := w) rfl rfl ?_
          refine sx_RP.cu (as := [.ref 111, .int (nI x2)]) (rest2 := []) (st3 := [.int (hsF (ia w 112) x2 n)]) rfl rfl (sx_inv_v2 (mi := 135) (k := 77) (st := [.int (nI x2), .ref 111]) (w := w) rfl rfl hI.1.o111 rfl rfl rfl) rfl rfl (x136 hI (show x2 < 48 by omega) hn en) rfl ?_
          refine sx_RP.ret (r := (some (.int (hsF (ia w 112) x2 n)))) rfl rfl ?_
          obtain rfl : x10 = 2 := by omega
          exact ⟨by rw [celA_h (by omega) en (by omega)], hI⟩
        · replace q18 := Decidable.not_not.mp (of_decide_eq_false q18)
          replace q18 := (nI_eq (a := x10) (b := 1) (by omega) (by omega)).mp q18
          refine sx_RP.step (pc2 := 44) (ls2 := [(0, .ref 111), (1, .int (nI x2)), (2, .int (nI x10))]) (st2 := [.ref 111]) (w3 := w) rfl rfl ?_
          refine sx_RP.gf (v := .ref 112) rfl rfl hI.1.o111 rfl rfl (show _ = 47 from rfl) ?_
          refine sx_RP.step (pc2 := 49) (ls2 := [(0, .ref 111), (1, .int (nI x2)), (2, .int (nI x10))]) (st2 := [.int 55, .ref 112]) (w3 := w) rfl rfl ?_
          refine sx_RP.step (pc2 := 50) (ls2 := [(0, .ref 111), (1, .int (nI x2)), (2, .int (nI x10))]) (st2 := [.int (nI x2), .int 55, .ref 112]) (w3 := w) rfl rfl ?_
          refine sx_RP.step (pc2 := 51) (ls2 := [(0, .ref 111), (1, .int (nI x2)), (2, .int (nI x10))]) (st2 := [.int (55 + (nI x2)), .ref 112]) (w3 := w) rfl rfl ?_
          rw [show (55 + (nI x2) : Int32) = nI (55 + x2) from nI_add 55 x2]
          refine sx_RP.ild (c := (55 + x2)) rfl hI.1.a112.1 hI.1.a112.2 (sx_in_nI (show (55 + x2) < 172 by omega) (by decide)) (show (nI (55 + x2)).toNatClampNeg = (55 + x2) from nI_clamp (by omega)) (show _ = 52 from rfl) ?_
          refine sx_RP.step (pc2 := 60) (ls2 := [(0, .ref 111), (1, .int (nI x2)), (2, .int (nI x10))]) (st2 := [.int ((ia w 112).getD (55 + x2) 0)]) (w3 := w) rfl rfl ?_
          refine sx_RP.ret (r := (some (.int ((ia w 112).getD (55 + x2) 0)))) rfl rfl ?_
          obtain rfl : x10 = 1 := by omega
          exact ⟨by rw [celA_w (by omega)], hI⟩
      · replace q17 := Decidable.not_not.mp (of_decide_eq_false q17)
        replace q17 := (nI_eq (a := x10) (b := 0) (by omega) (by omega)).mp q17
        refine sx_RP.step (pc2 := 27) (ls2 := [(0, .ref 111), (1, .int (nI x2)), (2, .int (nI x10))]) (st2 := [.ref 111]) (w3 := w) rfl rfl ?_
        refine sx_RP.gf (v := .ref 112) rfl rfl hI.1.o111 rfl rfl (show _ = 30 from rfl) ?_
        refine sx_RP.step (pc2 := 32) (ls2 := [(0, .ref 111), (1, .int (nI x2)), (2, .int (nI x10))]) (st2 := [.int 7, .ref 112]) (w3 := w) rfl rfl ?_
        refine sx_RP.step (pc2 := 33) (ls2 := [(0, .ref 111), (1, .int (nI x2)), (2, .int (nI x10))]) (st2 := [.int (nI x2), .int 7, .ref 112]) (w3 := w) rfl rfl ?_
        refine sx_RP.step (pc2 := 34) (ls2 := [(0, .ref 111), (1, .int (nI x2)), (2, .int (nI x10))]) (st2 := [.int (7 + (nI x2)), .ref 112]) (w3 := w) rfl rfl ?_
        rw [show (7 + (nI x2) : Int32) = nI (7 + x2) from nI_add 7 x2]
        refine sx_RP.ild (c := (7 + x2)) rfl hI.1.a112.1 hI.1.a112.2 (sx_in_nI (show (7 + x2) < 172 by omega) (by decide)) (show (nI (7 + x2)).toNatClampNeg = (7 + x2) from nI_clamp (by omega)) (show _ = 35 from rfl) ?_
        obtain ⟨x19, hx20, ex21⟩ : inR ((ia w 112).getD (7 + x2) 0) 3 := (hI.s ((7 + x2)) (by omega)).2.2.1 (by omega)
        rw [ex21]
        refine sx_RP.step (pc2 := 60) (ls2 := [(0, .ref 111), (1, .int (nI x2)), (2, .int (nI x10))]) (st2 := [.int (nI x19)]) (w3 := w) rfl rfl ?_
        refine sx_RP.ret (r := (some (.int (nI x19)))) rfl rfl ?_
        obtain rfl : x10 = 0 := by omega
        exact ⟨by rw [celA_s (by omega), ex21], hI⟩
theorem a12 {xs : Option (List Int32)} {d : Nat} {w : List sx_C} {s : ST} (hI : WI w) (hC : CLS w s) (a1 a2 : Int32) : sx_RP xs (d + 7) 12 0 (lv_args 0 [.ref 0, .int a1, .int a2]) [] w (fun r w2 => r = some (.int (celA s.1 a1 a2)) ∧ WI w2 ∧ CLS w2 (s) ∧ ∀ a, 111 ≤ a → w2[a]? = w[a]?) :=
  ((c12 (xs := xs) (d := d) hI hC a1 a2).and (A12 hI s.1 hC.1.1 a1 a2)).mono9 (fun r w2 z => ⟨z.2.1, z.1.2.1, z.1.2.2.1, z.1.2.2.2⟩)
theorem a135 {xs : Option (List Int32)} {d : Nat} {w : List sx_C} {s : ST} (hI : WI w) (hR : REF w s) (a1 a2 : Int32) : sx_RP xs (d + 7) 135 0 (lv_args 0 [.ref 111, .int a1, .int a2]) [] w (fun r w2 => r = some (.int (celA s.1 a1 a2)) ∧ WI w2 ∧ REF w2 (s) ∧ ∀ a, a < 111 → w2[a]? = w[a]?) := by
  refine ((r135 (xs := xs) (d := d) hI hR a1 a2).and (A135 hI a1 a2)).mono9 (fun r w2 z => ⟨?_, z.1.2.1, z.1.2.2.1, z.1.2.2.2⟩)
  rw [z.2.1, hR.1.1]
