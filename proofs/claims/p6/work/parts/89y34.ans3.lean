-- answers: of
def ofA (l : List Int32) (a1 a2 : Int32) : Int32 := if 0 ≤ a1 ∧ a1 < l.getD 1 0 then (if 0 ≤ a2 ∧ a2 ≤ 5 then l.getD (103 + 6 * iN a1 + iN a2) 0 else -1000000001) else -1000000001
theorem ofA_1 {l : List Int32} {a1 a2 : Int32} {n : Nat} (en : l.getD 1 0 = nI n) (h : ¬ (0 ≤ a1 ∧ a1 < nI n)) : ofA l a1 a2 = -1000000001 := by
  unfold ofA
  rw [en, if_neg h]
theorem ofA_2 {l : List Int32} {a1 a2 : Int32} (h : ¬ (0 ≤ a2 ∧ a2 ≤ 5)) : ofA l a1 a2 = -1000000001 := by
  unfold ofA
  rw [if_neg h]
  split <;> rfl
theorem ofA_y {l : List Int32} {n x k : Nat} (en : l.getD 1 0 = nI n) (hx : x < 2 ^ 31) (h : 0 ≤ nI x ∧ nI x < nI n) (hk : k ≤ 5) : ofA l (nI x) (nI k) = l.getD (103 + 6 * x + k) 0 := by
  unfold ofA
  rw [en, if_pos h, if_pos ⟨nI_le (a := 0) (Nat.zero_le _) (by omega), nI_le (b := 5) (by omega) (by decide)⟩, iN_n hx, iN_n (by omega)]
theorem in5_n {a2 : Int32} (h : a2.toInt < 0 ∨ ((5 : Nat) : Int) < a2.toInt) : ¬ (0 ≤ a2 ∧ a2 ≤ 5) := by
  rw [Int32.le_iff_toInt_le, Int32.le_iff_toInt_le, show (0 : Int32).toInt = 0 by decide, show (5 : Int32).toInt = 5 by decide]
  omega
set_option maxRecDepth 20000 in
set_option maxHeartbeats 4000000 in
theorem A26 {xs : Option (List Int32)} {d : Nat} {w : List sx_C} (hI : WI w) (l : List Int32) (hR : rel w 1 l) (a1 a2 : Int32) : sx_RP xs (d + 7) 26 0 (lv_args 0 [.ref 0, .int a1, .int a2]) [] w (fun r w2 => r = some (.int (ofA l a1 a2)) ∧ WI w2) := by
  obtain ⟨n, hn, en⟩ := hR.n10 hI (Or.inl rfl)
  have en0 := hR.many.trans en
  refine sx_RP.step (pc2 := 1) (ls2 := [(0, .ref 0), (1, .int a1), (2, .int a2)]) (st2 := [.ref 0]) (w3 := w) rfl rfl ?_
  refine sx_RP.gf (v := .ref 1) rfl rfl hI.1.o0 rfl rfl (show _ = 4 from rfl) ?_
  refine sx_RP.step (pc2 := 5) (ls2 := [(0, .ref 0), (1, .int a1), (2, .int a2)]) (st2 := [.int a1, .ref 1]) (w3 := w) rfl rfl ?_
  rcases Decidable.em (0 ≤ a1 ∧ a1 < nI n) with c1 | c1
  · obtain ⟨x2, hx3, rfl⟩ := idx_get c1 (by omega)
    refine sx_RP.cu (as := [.ref 1, .int (nI x2)]) (rest2 := []) (st3 := [.int 1]) rfl rfl (sx_inv_v2 (mi := 26) (k := 120) (st := [.int (nI x2), .ref 1]) (w := w) rfl rfl (hI.1.oC (Or.inl rfl)) rfl rfl rfl) rfl rfl (p27y hI (Or.inl rfl) en0 hn c1) rfl ?_
    refine sx_RP.step (pc2 := 18) (ls2 := [(0, .ref 0), (1, .int (nI x2)), (2, .int a2)]) (st2 := []) (w3 := w) rfl rfl ?_
    refine sx_RP.step (pc2 := 19) (ls2 := [(0, .ref 0), (1, .int (nI x2)), (2, .int a2)]) (st2 := [.ref 0]) (w3 := w) rfl rfl ?_
    refine sx_RP.gf (v := .ref 1) rfl rfl hI.1.o0 rfl rfl (show _ = 22 from rfl) ?_
    refine sx_RP.gref (k := 2) (b := 3) hI (Or.inl rfl) rfl rfl (by omega) (show _ = 25 from rfl) ?_
    refine sx_RP.step (pc2 := 26) (ls2 := [(0, .ref 0), (1, .int (nI x2)), (2, .int a2)]) (st2 := [.int (nI x2), .ref 3]) (w3 := w) rfl rfl ?_
    refine sx_RP.ald (v := .ref (1 + 4 + x2)) rfl (hI.1.aG (Or.inl rfl)) rfl (grA_at (show x2 < 10 by omega)) (show _ = 27 from rfl) ?_
    refine sx_RP.step (pc2 := 28) (ls2 := [(3, .ref (1 + 4 + x2)), (0, .ref 0), (1, .int (nI x2)), (2, .int a2)]) (st2 := []) (w3 := w) rfl rfl ?_
    refine sx_RP.step (pc2 := 29) (ls2 := [(3, .ref (1 + 4 + x2)), (0, .ref 0), (1, .int (nI x2)), (2, .int a2)]) (st2 := [.int a2]) (w3 := w) rfl rfl ?_
    rcases sw_cases (n := 5) (a2) with q4 | ⟨x5, hx6, ex7⟩
    · refine sx_RP.swo (t := 106) rfl q4 rfl ?_
      refine sx_RP.step (pc2 := 107) (ls2 := [(3, .ref (1 + 4 + x2)), (0, .ref 0), (1, .int (nI x2)), (2, .int a2)]) (st2 := [.ref 0]) (w3 := w) rfl rfl ?_
      refine sx_RP.step (pc2 := 109) (ls2 := [(3, .ref (1 + 4 + x2)), (0, .ref 0), (1, .int (nI x2)), (2, .int a2)]) (st2 := [.int (-1000000001), .ref 0]) (w3 := w) rfl rfl ?_
      refine sx_RP.callp (as2 := [.ref 0, .int (-1000000001)]) (rest2 := []) rfl rfl (sx_inv_v2 (mi := 26) (k := 78) (st := [.int (-1000000001), .ref 0]) (w := w) rfl rfl hI.1.o0 rfl rfl rfl) rfl rfl rfl (S9_0 hI) (show _ = 112 from rfl) ?_
      rintro r4 w9 ⟨rfl, hI10, hs8⟩
      show sx_RP _ _ _ _ _ [.int (-1000000001)] _ _
      refine sx_RP.ret (r := (some (.int (-1000000001)))) rfl rfl ?_
      exact ⟨by rw [ofA_2 (in5_n q4)], hI10⟩
    · rw [ex7]
      rcases (show x5 = 0 ∨ x5 = 1 ∨ x5 = 2 ∨ x5 = 3 ∨ x5 = 4 ∨ x5 = 5 by omega) with rfl | rfl | rfl | rfl | rfl | rfl
      · refine sx_RP.step (pc2 := 68) (ls2 := [(3, .ref (1 + 4 + x2)), (0, .ref 0), (1, .int (nI x2)), (2, .int (nI 0))]) (st2 := []) (w3 := w) rfl rfl ?_
        refine sx_RP.step (pc2 := 69) (ls2 := [(3, .ref (1 + 4 + x2)), (0, .ref 0), (1, .int (nI x2)), (2, .int (nI 0))]) (st2 := [.ref (1 + 4 + x2)]) (w3 := w) rfl rfl ?_
        refine sx_RP.gg (k := 0) hI (gAd.of (Or.inl rfl) (show x2 < 10 by omega)) rfl rfl (by decide) (show _ = 72 from rfl) ?_
        obtain ⟨x11, hx12, ex13⟩ : inR (fi w (1 + 4 + x2) 0) 5 := hI.gk (k := 0) (gAd.of (Or.inl rfl) (show x2 < 10 by omega)) (by decide)
        rw [ex13]
        refine sx_RP.ret (r := (some (.int (nI x11)))) rfl rfl ?_
        exact ⟨by rw [ofA_y (k := 0) en (by omega) c1 (by decide), ← (hR.ga (i := x2) (k := 0) (by rw [en, iN_n (by omega)]; omega) (by decide)), ex13], hI⟩
      · refine sx_RP.step (pc2 := 73) (ls2 := [(3, .ref (1 + 4 + x2)), (0, .ref 0), (1, .int (nI x2)), (2, .int (nI 1))]) (st2 := []) (w3 := w) rfl rfl ?_
        refine sx_RP.step (pc2 := 74) (ls2 := [(3, .ref (1 + 4 + x2)), (0, .ref 0), (1, .int (nI x2)), (2, .int (nI 1))]) (st2 := [.ref (1 + 4 + x2)]) (w3 := w) rfl rfl ?_
        refine sx_RP.gg (k := 1) hI (gAd.of (Or.inl rfl) (show x2 < 10 by omega)) rfl rfl (by decide) (show _ = 77 from rfl) ?_
        obtain ⟨x14, hx15, ex16⟩ : inR (fi w (1 + 4 + x2) 1) 1 := hI.gk (k := 1) (gAd.of (Or.inl rfl) (show x2 < 10 by omega)) (by decide)
        rw [ex16]
        refine sx_RP.ret (r := (some (.int (nI x14)))) rfl rfl ?_
        exact ⟨by rw [ofA_y (k := 1) en (by omega) c1 (by decide), ← (hR.ga (i := x2) (k := 1) (by rw [en, iN_n (by omega)]; omega) (by decide)), ex16], hI⟩
      · refine sx_RP.step (pc2 := 78) (ls2 := [(3, .ref (1 + 4 + x2)), (0, .ref 0), (1, .int (nI x2)), (2, .int (nI 2))]) (st2 := []) (w3 := w) rfl rfl ?_
        refine sx_RP.step (pc2 := 79) (ls2 := [(3, .ref (1 + 4 + x2)), (0, .ref 0), (1, .int (nI x2)), (2, .int (nI 2))]) (st2 := [.ref (1 + 4 + x2)]) (w3 := w) rfl rfl ?_
        refine sx_RP.gg (k := 2) hI (gAd.of (Or.inl rfl) (show x2 < 10 by omega)) rfl rfl (by decide) (show _ = 82 from rfl) ?_
        obtain ⟨x17, hx18, ex19⟩ : inR (fi w (1 + 4 + x2) 2) 47 := hI.gk (k := 2) (gAd.of (Or.inl rfl) (show x2 < 10 by omega)) (by decide)
        rw [ex19]
        refine sx_RP.ret (r := (some (.int (nI x17)))) rfl rfl ?_
        exact ⟨by rw [ofA_y (k := 2) en (by omega) c1 (by decide), ← (hR.ga (i := x2) (k := 2) (by rw [en, iN_n (by omega)]; omega) (by decide)), ex19], hI⟩
      · refine sx_RP.step (pc2 := 83) (ls2 := [(3, .ref (1 + 4 + x2)), (0, .ref 0), (1, .int (nI x2)), (2, .int (nI 3))]) (st2 := []) (w3 := w) rfl rfl ?_
        refine sx_RP.step (pc2 := 84) (ls2 := [(3, .ref (1 + 4 + x2)), (0, .ref 0), (1, .int (nI x2)), (2, .int (nI 3))]) (st2 := [.ref (1 + 4 + x2)]) (w3 := w) rfl rfl ?_
        refine sx_RP.gg (k := 3) hI (gAd.of (Or.inl rfl) (show x2 < 10 by omega)) rfl rfl (by decide) (show _ = 87 from rfl) ?_
        obtain ⟨x20, hx21, ex22⟩ : inR (fi w (1 + 4 + x2) 3) 3 := hI.gk (k := 3) (gAd.of (Or.inl rfl) (show x2 < 10 by omega)) (by decide)
        rw [ex22]
        refine sx_RP.ret (r := (some (.int (nI x20)))) rfl rfl ?_
        exact ⟨by rw [ofA_y (k := 3) en (by omega) c1 (by decide), ← (hR.ga (i := x2) (k := 3) (by rw [en, iN_n (by omega)]; omega) (by decide)), ex22], hI⟩
      · refine sx_RP.step (pc2 := 88) (ls2 := [(3, .ref (1 + 4 + x2)), (0, .ref 0), (1, .int (nI x2)), (2, .int (nI 4))]) (st2 := []) (w3 := w) rfl rfl ?_
        refine sx_RP.step (pc2 := 89) (ls2 := [(3, .ref (1 + 4 + x2)), (0, .ref 0), (1, .int (nI x2)), (2, .int (nI 4))]) (st2 := [.ref (1 + 4 + x2)]) (w3 := w) rfl rfl ?_
        refine sx_RP.gg (k := 4) hI (gAd.of (Or.inl rfl) (show x2 < 10 by omega)) rfl rfl (by decide) (show _ = 92 from rfl) ?_
        refine sx_RP.ret (r := (some (.int (fi w (1 + 4 + x2) 4)))) rfl rfl ?_
        exact ⟨by rw [ofA_y (k := 4) en (by omega) c1 (by decide), ← (hR.ga (i := x2) (k := 4) (by rw [en, iN_n (by omega)]; omega) (by decide))], hI⟩
      · refine sx_RP.step (pc2 := 93) (ls2 := [(3, .ref (1 + 4 + x2)), (0, .ref 0), (1, .int (nI x2)), (2, .int (nI 5))]) (st2 := []) (w3 := w) rfl rfl ?_
        refine sx_RP.step (pc2 := 94) (ls2 := [(3, .ref (1 + 4 + x2)), (0, .ref 0), (1, .int (nI x2)), (2, .int (nI 5))]) (st2 := [.ref (1 + 4 + x2)]) (w3 := w) rfl rfl ?_
        refine sx_RP.gg (k := 5) hI (gAd.of (Or.inl rfl) (show x2 < 10 by omega)) rfl rfl (by decide) (show _ = 97 from rfl) ?_
        obtain ⟨x23, hx24, ex25⟩ : inR (fi w (1 + 4 + x2) 5) 1 := hI.gk (k := 5) (gAd.of (Or.inl rfl) (show x2 < 10 by omega)) (by decide)
        rw [ex25]
        refine sx_RP.br (p1 := 104) (l1 := [(3, .ref (1 + 4 + x2)), (0, .ref 0), (1, .int (nI x2)), (2, .int (nI 5))]) (s1 := []) (v1 := w) (p2 := 100) (l2 := [(3, .ref (1 + 4 + x2)), (0, .ref 0), (1, .int (nI x2)), (2, .int (nI 5))]) (s2 := []) (v2 := w) rfl rfl (fun q26 => ?_) (fun q26 => ?_)
        · replace q26 := of_decide_eq_true q26
          replace q26 := (nI_eq (a := x23) (b := 0) (by omega) (by omega)).mp q26
          refine sx_RP.step (pc2 := 105) (ls2 := [(3, .ref (1 + 4 + x2)), (0, .ref 0), (1, .int (nI x2)), (2, .int (nI 5))]) (st2 := [.int 0]) (w3 := w) rfl rfl ?_
          refine sx_RP.ret (r := (some (.int 0))) rfl rfl ?_
          exact ⟨by rw [ofA_y (k := 5) en (by omega) c1 (by decide), ← (hR.ga (i := x2) (k := 5) (by rw [en, iN_n (by omega)]; omega) (by decide)), ex25, show x23 = 0 by omega]; rfl, hI⟩
        · replace q26 := of_decide_eq_false q26
          replace q26 := mt (nI_eq (a := x23) (b := 0) (by omega) (by omega)).mpr q26
          refine sx_RP.step (pc2 := 101) (ls2 := [(3, .ref (1 + 4 + x2)), (0, .ref 0), (1, .int (nI x2)), (2, .int (nI 5))]) (st2 := [.int 1]) (w3 := w) rfl rfl ?_
          refine sx_RP.step (pc2 := 105) (ls2 := [(3, .ref (1 + 4 + x2)), (0, .ref 0), (1, .int (nI x2)), (2, .int (nI 5))]) (st2 := [.int 1]) (w3 := w) rfl rfl ?_
          refine sx_RP.ret (r := (some (.int 1))) rfl rfl ?_
          exact ⟨by rw [ofA_y (k := 5) en (by omega) c1 (by decide), ← (hR.ga (i := x2) (k := 5) (by rw [en, iN_n (by omega)]; omega) (by decide)), ex25, show x23 = 1 by omega]; rfl, hI⟩
  · refine sx_RP.cu (as := [.ref 1, .int a1]) (rest2 := []) (st3 := [.int 0]) rfl rfl (sx_inv_v2 (mi := 26) (k := 120) (st := [.int a1, .ref 1]) (w := w) rfl rfl (hI.1.oC (Or.inl rfl)) rfl rfl rfl) rfl rfl (p27n hI (Or.inl rfl) en0 hn c1) rfl ?_
    refine sx_RP.step (pc2 := 11) (ls2 := [(0, .ref 0), (1, .int a1), (2, .int a2)]) (st2 := []) (w3 := w) rfl rfl ?_
    refine sx_RP.step (pc2 := 12) (ls2 := [(0, .ref 0), (1, .int a1), (2, .int a2)]) (st2 := [.ref 0]) (w3 := w) rfl rfl ?_
    refine sx_RP.step (pc2 := 14) (ls2 := [(0, .ref 0), (1, .int a1), (2, .int a2)]) (st2 := [.int (-1000000001), .ref 0]) (w3 := w) rfl rfl ?_
    refine sx_RP.callp (as2 := [.ref 0, .int (-1000000001)]) (rest2 := []) rfl rfl (sx_inv_v2 (mi := 26) (k := 78) (st := [.int (-1000000001), .ref 0]) (w := w) rfl rfl hI.1.o0 rfl rfl rfl) rfl rfl rfl (S9_0 hI) (show _ = 17 from rfl) ?_
    rintro r4 w28 ⟨rfl, hI29, hs27⟩
    show sx_RP _ _ _ _ _ [.int (-1000000001)] _ _
    refine sx_RP.ret (r := (some (.int (-1000000001)))) rfl rfl ?_
    exact ⟨by rw [ofA_1 en c1], hI29⟩
set_option maxRecDepth 20000 in
set_option maxHeartbeats 4000000 in
theorem A155 {xs : Option (List Int32)} {d : Nat} {w : List sx_C} (hI : WI w) (a1 a2 : Int32) : sx_RP xs (d + 7) 155 0 (lv_args 0 [.ref 111, .int a1, .int a2]) [] w (fun r w2 => r = some (.int (ofA (ia w 112) a1 a2)) ∧ WI w2) := by
  obtain ⟨n, hn, en⟩ := (hI.sA (a := 112) (by decide) 1 (by decide)).1 rfl
  refine sx_RP.step (pc2 := 1) (ls2 := [(0, .ref 111), (1, .int a1), (2, .int a2)]) (st2 := [.ref 111]) (w3 := w) rfl rfl ?_
  refine sx_RP.step (pc2 := 2) (ls2 := [(0, .ref 111), (1, .int a1), (2, .int a2)]) (st2 := [.int a1, .ref 111]) (w3 := w) rfl rfl ?_
  rcases Decidable.em (0 ≤ a1 ∧ a1 < nI n) with c1 | c1
  · obtain ⟨x2, hx3, rfl⟩ := idx_get c1 (by omega)
    refine sx_RP.cu (as := [.ref 111, .int (nI x2)]) (rest2 := []) (st3 := [.int 1]) rfl rfl (sx_inv_v2 (mi := 155) (k := 124) (st := [.int (nI x2), .ref 111]) (w := w) rfl rfl hI.1.o111 rfl rfl rfl) rfl rfl (p156y hI en hn c1) rfl ?_
    refine sx_RP.step (pc2 := 8) (ls2 := [(0, .ref 111), (1, .int (nI x2)), (2, .int a2)]) (st2 := []) (w3 := w) rfl rfl ?_
    refine sx_RP.step (pc2 := 9) (ls2 := [(0, .ref 111), (1, .int (nI x2)), (2, .int a2)]) (st2 := [.int a2]) (w3 := w) rfl rfl ?_
    refine sx_RP.step (pc2 := 10) (ls2 := [(0, .ref 111), (1, .int (nI x2)), (2, .int a2)]) (st2 := [.int 0, .int a2]) (w3 := w) rfl rfl ?_
    refine sx_RP.step (pc2 := 11) (ls2 := [(0, .ref 111), (1, .int (nI x2)), (2, .int a2)]) (st2 := [.int 5, .int 0, .int a2]) (w3 := w) rfl rfl ?_
    rcases in_cases a2 0 5 (m := 0) (n := 5) rfl rfl (by decide) (by decide) with q4 | ⟨x5, hx6, hx7, rfl⟩
    · refine sx_RP.cu (as := [.int a2, .int 0, .int 5]) (rest2 := []) (st3 := [.int 0]) rfl rfl rfl rfl rfl (cx_132o q4) rfl ?_
      refine sx_RP.step (pc2 := 26) (ls2 := [(0, .ref 111), (1, .int (nI x2)), (2, .int a2)]) (st2 := []) (w3 := w) rfl rfl ?_
      refine sx_RP.step (pc2 := 27) (ls2 := [(0, .ref 111), (1, .int (nI x2)), (2, .int a2)]) (st2 := [.ref 111]) (w3 := w) rfl rfl ?_
      refine sx_RP.step (pc2 := 28) (ls2 := [(0, .ref 111), (1, .int (nI x2)), (2, .int a2)]) (st2 := [.int 0, .ref 111]) (w3 := w) rfl rfl ?_
      refine sx_RP.callp (as2 := [.ref 111, .int 0]) (rest2 := []) rfl rfl (sx_inv_v2 (mi := 155) (k := 70) (st := [.int 0, .ref 111]) (w := w) rfl rfl hI.1.o111 rfl rfl rfl) rfl rfl rfl (S133_0 hI) (show _ = 31 from rfl) ?_
      rintro r4 w10 ⟨rfl, hI11, hs9⟩
      show sx_RP _ _ _ _ _ [.int (-1000000001)] _ _
      refine sx_RP.ret (r := (some (.int (-1000000001)))) rfl rfl ?_
      exact ⟨by rw [ofA_2 q4], hI11⟩
    · refine sx_RP.cu (as := [.int (nI x5), .int 0, .int 5]) (rest2 := []) (st3 := [.int 1]) rfl rfl rfl rfl rfl (cx_132p ⟨nI_le (a := 0) hx6 (by omega), nI_le (b := 5) hx7 (by decide)⟩) rfl ?_
      refine sx_RP.step (pc2 := 17) (ls2 := [(0, .ref 111), (1, .int (nI x2)), (2, .int (nI x5))]) (st2 := []) (w3 := w) rfl rfl ?_
      refine sx_RP.step (pc2 := 18) (ls2 := [(0, .ref 111), (1, .int (nI x2)), (2, .int (nI x5))]) (st2 := [.ref 111]) (w3 := w) rfl rfl ?_
      refine sx_RP.step (pc2 := 19) (ls2 := [(0, .ref 111), (1, .int (nI x2)), (2, .int (nI x5))]) (st2 := [.int (nI x2), .ref 111]) (w3 := w) rfl rfl ?_
      refine sx_RP.step (pc2 := 20) (ls2 := [(0, .ref 111), (1, .int (nI x2)), (2, .int (nI x5))]) (st2 := [.int (nI x5), .int (nI x2), .ref 111]) (w3 := w) rfl rfl ?_
      refine sx_RP.cu (as := [.ref 111, .int (nI x2), .int (nI x5)]) (rest2 := []) (st3 := [.int ((ia w 112).getD (103 + 6 * x2 + x5) 0)]) rfl rfl (sx_inv_v2 (mi := 155) (k := 59) (st := [.int (nI x5), .int (nI x2), .ref 111]) (w := w) rfl rfl hI.1.o111 rfl rfl rfl) rfl rfl (x138 hI (show x2 < 10 by omega) (show x5 < 6 by omega)) rfl ?_
      refine sx_RP.step (pc2 := 31) (ls2 := [(0, .ref 111), (1, .int (nI x2)), (2, .int (nI x5))]) (st2 := [.int ((ia w 112).getD (103 + 6 * x2 + x5) 0)]) (w3 := w) rfl rfl ?_
      refine sx_RP.ret (r := (some (.int ((ia w 112).getD (103 + 6 * x2 + x5) 0)))) rfl rfl ?_
      exact ⟨by rw [ofA_y en (by omega) c1 (by omega)], hI⟩
  · refine sx_RP.cu (as := [.ref 111, .int a1]) (rest2 := []) (st3 := [.int 0]) rfl rfl (sx_inv_v2 (mi := 155) (k := 124) (st := [.int a1, .ref 111]) (w := w) rfl rfl hI.1.o111 rfl rfl rfl) rfl rfl (p156n hI en hn c1) rfl ?_
    refine sx_RP.step (pc2 := 26) (ls2 := [(0, .ref 111), (1, .int a1), (2, .int a2)]) (st2 := []) (w3 := w) rfl rfl ?_
    refine sx_RP.step (pc2 := 27) (ls2 := [(0, .ref 111), (1, .int a1), (2, .int a2)]) (st2 := [.ref 111]) (w3 := w) rfl rfl ?_
    refine sx_RP.step (pc2 := 28) (ls2 := [(0, .ref 111), (1, .int a1), (2, .int a2)]) (st2 := [.int 0, .ref 111]) (w3 := w) rfl rfl ?_
    refine sx_RP.callp (as2 := [.ref 111, .int 0]) (rest2 := []) rfl rfl (sx_inv_v2 (mi := 155) (k := 70) (st := [.int 0, .ref 111]) (w := w) rfl rfl hI.1.o111 rfl rfl rfl) rfl rfl rfl (S133_0 hI) (show _ = 31 from rfl) ?_
    rintro r4 w13 ⟨rfl, hI14, hs12⟩
    show sx_RP _ _ _ _ _ [.int (-1000000001)] _ _
    refine sx_RP.ret (r := (some (.int (-1000000001)))) rfl rfl ?_
    exact ⟨by rw [ofA_1 en c1], hI14⟩
theorem a26 {xs : Option (List Int32)} {d : Nat} {w : List sx_C} {s : ST} (hI : WI w) (hC : CLS w s) (a1 a2 : Int32) : sx_RP xs (d + 7) 26 0 (lv_args 0 [.ref 0, .int a1, .int a2]) [] w (fun r w2 => r = some (.int (ofA s.1 a1 a2)) ∧ WI w2 ∧ CLS w2 (s) ∧ ∀ a, 111 ≤ a → w2[a]? = w[a]?) :=
  ((c26 (xs := xs) (d := d) hI hC a1 a2).and (A26 hI s.1 hC.1.1 a1 a2)).mono9 (fun r w2 z => ⟨z.2.1, z.1.2.1, z.1.2.2.1, z.1.2.2.2⟩)
theorem a155 {xs : Option (List Int32)} {d : Nat} {w : List sx_C} {s : ST} (hI : WI w) (hR : REF w s) (a1 a2 : Int32) : sx_RP xs (d + 7) 155 0 (lv_args 0 [.ref 111, .int a1, .int a2]) [] w (fun r w2 => r = some (.int (ofA s.1 a1 a2)) ∧ WI w2 ∧ REF w2 (s) ∧ ∀ a, a < 111 → w2[a]? = w[a]?) := by
  refine ((r155 (xs := xs) (d := d) hI hR a1 a2).and (A155 hI a1 a2)).mono9 (fun r w2 z => ⟨?_, z.1.2.1, z.1.2.2.1, z.1.2.2.2⟩)
  rw [z.2.1, hR.1.1]
