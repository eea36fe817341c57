-- 54.itemC.lean.txt
section
-- safety: the items of the text
set_option maxRecDepth 20000 in
set_option maxHeartbeats 4000000 in
theorem s108 {xs : Option (List Int32)} {d : Nat} {w : List sx_C} (hI : WI w) {k : UInt32} {n0 : Nat} (hk : 100 ≤ k.toNat ∧ k.toNat < 120) (en : sx_sn.getD (k.toNat - 100) 0 = n0) (hn0 : n0 ≤ 7) {m n : Nat} (hm : m < 2 ^ 31) (hn : n < 2 ^ 31) : sx_RP xs (d + 3) 108 0 (lv_args 0 [.ref 96, .float k, .int (nI m), .int (nI n)]) [] w (fun r w2 => (r = some (.int 0) ∨ ((∃ v, (m ≤ v ∧ v ≤ n) ∧ fi w2 96 5 = nI v) ∧ r = some (.int 1))) ∧ WI w2 ∧ ET w w2) := by
  have hE : ET w w := ET.rf
  refine sx_RP.step (pc2 := 1) (ls2 := [(0, .ref 96), (1, .float k), (2, .int (nI m)), (3, .int (nI n))]) (st2 := [.ref 96]) (w3 := w) rfl rfl ?_
  refine sx_RP.step (pc2 := 2) (ls2 := [(0, .ref 96), (1, .float k), (2, .int (nI m)), (3, .int (nI n))]) (st2 := [.float k, .ref 96]) (w3 := w) rfl rfl ?_
  obtain ⟨x1, hx2, c3⟩ := p101 (xs := xs) hI hk en hn0
  refine sx_RP.cu (as := [.ref 96, .float k]) (rest2 := []) (st3 := [.int (nI x1)]) rfl rfl (sx_inv_v2 (mi := 108) (k := 52) (st := [.float k, .ref 96]) (w := w) rfl rfl hI.1.o96 rfl rfl rfl) rfl rfl (c3) rfl ?_
  refine sx_RP.br (p1 := 10) (l1 := [(0, .ref 96), (1, .float k), (2, .int (nI m)), (3, .int (nI n))]) (s1 := []) (v1 := w) (p2 := 8) (l2 := [(0, .ref 96), (1, .float k), (2, .int (nI m)), (3, .int (nI n))]) (s2 := []) (v2 := w) rfl rfl (fun q4 => ?_) (fun q4 => ?_)
  · replace q4 := of_decide_eq_true q4
    replace q4 := mt (nI_eq (a := x1) (b := 0) (by omega) (by omega)).mpr q4
    refine sx_RP.step (pc2 := 11) (ls2 := [(0, .ref 96), (1, .float k), (2, .int (nI m)), (3, .int (nI n))]) (st2 := [.ref 96]) (w3 := w) rfl rfl ?_
    refine sx_RP.callp (as2 := [.ref 96]) (rest2 := []) rfl rfl (sx_inv_v2 (mi := 108) (k := 29) (st := [.ref 96]) (w := w) rfl rfl hI.1.o96 rfl rfl rfl) rfl rfl rfl (s94 hI ) (show _ = 14 from rfl) ?_
    rintro r4 w5 ⟨rfl, hI6, hE8⟩
    have hE7 := hE.tr hE8
    show sx_RP _ _ _ _ _ [] _ _
    refine sx_RP.step (pc2 := 15) (ls2 := [(0, .ref 96), (1, .float k), (2, .int (nI m)), (3, .int (nI n))]) (st2 := [.ref 96]) (w3 := w5) rfl rfl ?_
    refine sx_RP.step (pc2 := 16) (ls2 := [(0, .ref 96), (1, .float k), (2, .int (nI m)), (3, .int (nI n))]) (st2 := [.int (nI m), .ref 96]) (w3 := w5) rfl rfl ?_
    refine sx_RP.step (pc2 := 17) (ls2 := [(0, .ref 96), (1, .float k), (2, .int (nI m)), (3, .int (nI n))]) (st2 := [.int (nI n), .int (nI m), .ref 96]) (w3 := w5) rfl rfl ?_
    rcases p103 (xs := xs) (m := m) (n := n) hI6 (by omega) (by omega) with c9 | ⟨⟨x10, hx11, ex12⟩, c9⟩
    · refine sx_RP.cu (as := [.ref 96, .int (nI m), .int (nI n)]) (rest2 := []) (st3 := [.int 0]) rfl rfl (sx_inv_v2 (mi := 108) (k := 66) (st := [.int (nI n), .int (nI m), .ref 96]) (w := w5) rfl rfl hI6.1.o96 rfl rfl rfl) rfl rfl (c9) rfl ?_
      refine sx_RP.ret (r := (some (.int 0))) rfl rfl ?_
      exact ⟨Or.inl rfl, hI6, hE7⟩
    · refine sx_RP.cu (as := [.ref 96, .int (nI m), .int (nI n)]) (rest2 := []) (st3 := [.int 1]) rfl rfl (sx_inv_v2 (mi := 108) (k := 66) (st := [.int (nI n), .int (nI m), .ref 96]) (w := w5) rfl rfl hI6.1.o96 rfl rfl rfl) rfl rfl (c9) rfl ?_
      refine sx_RP.ret (r := (some (.int 1))) rfl rfl ?_
      exact ⟨Or.inr ⟨⟨x10, by omega, ex12⟩, rfl⟩, hI6, hE7⟩
  · replace q4 := Decidable.not_not.mp (of_decide_eq_false q4)
    replace q4 := (nI_eq (a := x1) (b := 0) (by omega) (by omega)).mp q4
    refine sx_RP.step (pc2 := 9) (ls2 := [(0, .ref 96), (1, .float k), (2, .int (nI m)), (3, .int (nI n))]) (st2 := [.int 0]) (w3 := w) rfl rfl ?_
    refine sx_RP.ret (r := (some (.int 0))) rfl rfl ?_
    exact ⟨Or.inl rfl, hI, hE⟩
set_option maxRecDepth 20000 in
set_option maxHeartbeats 4000000 in
theorem s102B {xs : Option (List Int32)} {d : Nat} {w w0 : List sx_C} {A : Nat} (hA : isA A) {u : Nat} (hu : u ≤ 4) (hI : WI w) (hE : EC w0 w) {j : Nat} (hj : j ≤ 48) (l : Nat) (hl : l ≤ 47) (kk : ∀ (w4 : List sx_C) (ul : Nat), WI w4 → EC w0 w4 → j + 1 ≤ 48 → ul ≤ 47 → sx_RP xs (d + 4) 102 35 [(0, .ref 96), (1, .int (nI u)), (2, .ref A), (3, .int (nI ul)), (4, .int (nI (j + 1)))] [] w4 (fun r w2 => (∃ j, j ≤ 1 ∧ r = some (.int (nI j))) ∧ WI w2 ∧ EC w0 w2)) : sx_RP xs (d + 4) 102 35 [(0, .ref 96), (1, .int (nI u)), (2, .ref A), (3, .int (nI l)), (4, .int (nI j))] [] w (fun r w2 => (∃ j, j ≤ 1 ∧ r = some (.int (nI j))) ∧ WI w2 ∧ EC w0 w2) := by
  refine sx_RP.step (pc2 := 37) (ls2 := [(0, .ref 96), (1, .int (nI u)), (2, .ref A), (3, .int (nI l)), (4, .int (nI j))]) (st2 := [.int (nI j)]) (w3 := w) rfl rfl ?_
  refine sx_RP.step (pc2 := 39) (ls2 := [(0, .ref 96), (1, .int (nI u)), (2, .ref A), (3, .int (nI l)), (4, .int (nI j))]) (st2 := [.int 48, .int (nI j)]) (w3 := w) rfl rfl ?_
  refine sx_RP.br (p1 := 86) (l1 := [(0, .ref 96), (1, .int (nI u)), (2, .ref A), (3, .int (nI l)), (4, .int (nI j))]) (s1 := []) (v1 := w) (p2 := 42) (l2 := [(0, .ref 96), (1, .int (nI u)), (2, .ref A), (3, .int (nI l)), (4, .int (nI j))]) (s2 := []) (v2 := w) rfl rfl (fun q1 => ?_) (fun q1 => ?_)
  · replace q1 := of_decide_eq_true q1
    replace q1 := (nI_leI (a := 48) (b := j) (by omega) (by omega)).mp q1
    refine sx_RP.step (pc2 := 87) (ls2 := [(0, .ref 96), (1, .int (nI u)), (2, .ref A), (3, .int (nI l)), (4, .int (nI j))]) (st2 := [.ref 96]) (w3 := w) rfl rfl ?_
    refine sx_RP.step (pc2 := 89) (ls2 := [(0, .ref 96), (1, .int (nI u)), (2, .ref A), (3, .int (nI l)), (4, .int (nI j))]) (st2 := [.float 116, .ref 96]) (w3 := w) rfl rfl ?_
    obtain ⟨x2, hx3, c4⟩ := p101 (xs := xs) (k := 116) hI (by decide) rfl (by decide)
    refine sx_RP.cu (as := [.ref 96, .float 116]) (rest2 := []) (st3 := [.int (nI x2)]) rfl rfl (sx_inv_v2 (mi := 102) (k := 52) (st := [.float 116, .ref 96]) (w := w) rfl rfl hI.1.o96 rfl rfl rfl) rfl rfl (c4) rfl ?_
    refine sx_RP.br (p1 := 97) (l1 := [(0, .ref 96), (1, .int (nI u)), (2, .ref A), (3, .int (nI l)), (4, .int (nI j))]) (s1 := []) (v1 := w) (p2 := 95) (l2 := [(0, .ref 96), (1, .int (nI u)), (2, .ref A), (3, .int (nI l)), (4, .int (nI j))]) (s2 := []) (v2 := w) rfl rfl (fun q5 => ?_) (fun q5 => ?_)
    · replace q5 := of_decide_eq_true q5
      replace q5 := mt (nI_eq (a := x2) (b := 0) (by omega) (by omega)).mpr q5
      refine sx_RP.step (pc2 := 98) (ls2 := [(0, .ref 96), (1, .int (nI u)), (2, .ref A), (3, .int (nI l)), (4, .int (nI j))]) (st2 := [.ref 96]) (w3 := w) rfl rfl ?_
      refine sx_RP.callp (as2 := [.ref 96]) (rest2 := []) rfl rfl (sx_inv_v2 (mi := 102) (k := 29) (st := [.ref 96]) (w := w) rfl rfl hI.1.o96 rfl rfl rfl) rfl rfl rfl (s94 hI ) (show _ = 101 from rfl) ?_
      rintro r4 w6 ⟨rfl, hI7, hE9⟩
      have hE8 := hE.tr hE9.ec
      show sx_RP _ _ _ _ _ [] _ _
      refine sx_RP.step (pc2 := 102) (ls2 := [(0, .ref 96), (1, .int (nI u)), (2, .ref A), (3, .int (nI l)), (4, .int (nI j))]) (st2 := [.ref 96]) (w3 := w6) rfl rfl ?_
      refine sx_RP.step (pc2 := 103) (ls2 := [(0, .ref 96), (1, .int (nI u)), (2, .ref A), (3, .int (nI l)), (4, .int (nI j))]) (st2 := [.int (nI l), .ref 96]) (w3 := w6) rfl rfl ?_
      refine sx_RP.step (pc2 := 104) (ls2 := [(0, .ref 96), (1, .int (nI u)), (2, .ref A), (3, .int (nI l)), (4, .int (nI j))]) (st2 := [.int 1, .int (nI l), .ref 96]) (w3 := w6) rfl rfl ?_
      refine sx_RP.step (pc2 := 105) (ls2 := [(0, .ref 96), (1, .int (nI u)), (2, .ref A), (3, .int (nI l)), (4, .int (nI j))]) (st2 := [.int ((nI l) + 1), .ref 96]) (w3 := w6) rfl rfl ?_
      rw [show ((nI l) + 1 : Int32) = nI (l + 1) from nI_add l 1]
      refine sx_RP.step (pc2 := 107) (ls2 := [(0, .ref 96), (1, .int (nI u)), (2, .ref A), (3, .int (nI l)), (4, .int (nI j))]) (st2 := [.int 47, .int (nI (l + 1)), .ref 96]) (w3 := w6) rfl rfl ?_
      rcases p103 (xs := xs) (m := (l + 1)) (n := 47) hI7 (by omega) (by omega) with c10 | ⟨⟨x11, hx12, ex13⟩, c10⟩
      · refine sx_RP.cu (as := [.ref 96, .int (nI (l + 1)), .int 47]) (rest2 := []) (st3 := [.int 0]) rfl rfl (sx_inv_v2 (mi := 102) (k := 66) (st := [.int 47, .int (nI (l + 1)), .ref 96]) (w := w6) rfl rfl hI7.1.o96 rfl rfl rfl) rfl rfl (c10) rfl ?_
        refine sx_RP.step (pc2 := 113) (ls2 := [(0, .ref 96), (1, .int (nI u)), (2, .ref A), (3, .int (nI l)), (4, .int (nI j))]) (st2 := []) (w3 := w6) rfl rfl ?_
        refine sx_RP.step (pc2 := 114) (ls2 := [(0, .ref 96), (1, .int (nI u)), (2, .ref A), (3, .int (nI l)), (4, .int (nI j))]) (st2 := [.int 0]) (w3 := w6) rfl rfl ?_
        refine sx_RP.ret (r := (some (.int 0))) rfl rfl ?_
        exact ⟨⟨0, by decide, rfl⟩, hI7, hE8⟩
      · refine sx_RP.cu (as := [.ref 96, .int (nI (l + 1)), .int 47]) (rest2 := []) (st3 := [.int 1]) rfl rfl (sx_inv_v2 (mi := 102) (k := 66) (st := [.int 47, .int (nI (l + 1)), .ref 96]) (w := w6) rfl rfl hI7.1.o96 rfl rfl rfl) rfl rfl (c10) rfl ?_
        refine sx_RP.step (pc2 := 115) (ls2 := [(0, .ref 96), (1, .int (nI u)), (2, .ref A), (3, .int (nI l)), (4, .int (nI j))]) (st2 := []) (w3 := w6) rfl rfl ?_
        refine sx_RP.step (pc2 := 116) (ls2 := [(0, .ref 96), (1, .int (nI u)), (2, .ref A), (3, .int (nI l)), (4, .int (nI j))]) (st2 := [.ref A]) (w3 := w6) rfl rfl ?_
        refine sx_RP.step (pc2 := 117) (ls2 := [(0, .ref 96), (1, .int (nI u)), (2, .ref A), (3, .int (nI l)), (4, .int (nI j))]) (st2 := [.int (nI u), .ref A]) (w3 := w6) rfl rfl ?_
        refine sx_RP.step (pc2 := 118) (ls2 := [(0, .ref 96), (1, .int (nI u)), (2, .ref A), (3, .int (nI l)), (4, .int (nI j))]) (st2 := [.int (nI l), .int (nI u), .ref A]) (w3 := w6) rfl rfl ?_
        refine sx_RP.step (pc2 := 119) (ls2 := [(0, .ref 96), (1, .int (nI u)), (2, .ref A), (3, .int (nI l)), (4, .int (nI j))]) (st2 := [.int 1, .int (nI l), .int (nI u), .ref A]) (w3 := w6) rfl rfl ?_
        refine sx_RP.step (pc2 := 120) (ls2 := [(0, .ref 96), (1, .int (nI u)), (2, .ref A), (3, .int (nI l)), (4, .int (nI j))]) (st2 := [.int ((nI l) + 1), .int (nI u), .ref A]) (w3 := w6) rfl rfl ?_
        rw [show ((nI l) + 1 : Int32) = nI (l + 1) from nI_add l 1]
        refine sx_RP.step (pc2 := 121) (ls2 := [(0, .ref 96), (1, .int (nI u)), (2, .ref A), (3, .int (nI l)), (4, .int (nI j))]) (st2 := [.ref 96, .int (nI (l + 1)), .int (nI u), .ref A]) (w3 := w6) rfl rfl ?_
        refine sx_RP.gt (k := 5) hI7 rfl rfl (by decide) (show _ = 124 from rfl) ?_
        rw [ex13]
        refine sx_RP.callp (as2 := [.ref A, .int (nI u), .int (nI (l + 1)), .int (nI x11)]) (rest2 := []) rfl rfl (sx_inv_v2 (mi := 102) (k := 70) (st := [.int (nI x11), .int (nI (l + 1)), .int (nI u), .ref A]) (w := w6) rfl rfl (hI7.1.oC hA) rfl rfl rfl) rfl rfl rfl (s104 hI7 hA (show u ≤ 4 by omega) (show (l + 1) ≤ 48 by omega) (show x11 ≤ 47 by omega)) (show _ = 127 from rfl) ?_
        rintro r4 w14 ⟨rfl, hI15, hE17⟩
        have hE16 := hE8.tr hE17
        show sx_RP _ _ _ _ _ [] _ _
        refine sx_RP.step (pc2 := 128) (ls2 := [(0, .ref 96), (1, .int (nI u)), (2, .ref A), (3, .int (nI l)), (4, .int (nI j))]) (st2 := [.ref 96]) (w3 := w14) rfl rfl ?_
        refine sx_RP.callp (as2 := [.ref 96]) (rest2 := []) rfl rfl (sx_inv_v2 (mi := 102) (k := 29) (st := [.ref 96]) (w := w14) rfl rfl hI15.1.o96 rfl rfl rfl) rfl rfl rfl (s94 hI15 ) (show _ = 131 from rfl) ?_
        rintro r4 w18 ⟨rfl, hI19, hE21⟩
        have hE20 := hE16.tr hE21.ec
        show sx_RP _ _ _ _ _ [] _ _
        refine sx_RP.step (pc2 := 132) (ls2 := [(0, .ref 96), (1, .int (nI u)), (2, .ref A), (3, .int (nI l)), (4, .int (nI j))]) (st2 := [.int 1]) (w3 := w18) rfl rfl ?_
        refine sx_RP.ret (r := (some (.int 1))) rfl rfl ?_
        exact ⟨⟨1, by decide, rfl⟩, hI19, hE20⟩
    · replace q5 := Decidable.not_not.mp (of_decide_eq_false q5)
      replace q5 := (nI_eq (a := x2) (b := 0) (by omega) (by omega)).mp q5
      refine sx_RP.step (pc2 := 96) (ls2 := [(0, .ref 96), (1, .int (nI u)), (2, .ref A), (3, .int (nI l)), (4, .int (nI j))]) (st2 := [.int 1]) (w3 := w) rfl rfl ?_
      refine sx_RP.ret (r := (some (.int 1))) rfl rfl ?_
      exact ⟨⟨1, by decide, rfl⟩, hI, hE⟩
  · replace q1 := of_decide_eq_false q1
    replace q1 := mt (nI_leI (a := 48) (b := j) (by omega) (by omega)).mpr q1
    refine sx_RP.step (pc2 := 43) (ls2 := [(0, .ref 96), (1, .int (nI u)), (2, .ref A), (3, .int (nI l)), (4, .int (nI j))]) (st2 := [.ref 96]) (w3 := w) rfl rfl ?_
    refine sx_RP.gt (k := 2) hI rfl rfl (by decide) (show _ = 46 from rfl) ?_
    refine sx_RP.step (pc2 := 47) (ls2 := [(0, .ref 96), (1, .int (nI u)), (2, .ref A), (3, .int (nI l)), (4, .int (nI j))]) (st2 := [.int 2, .int (fi w 96 2)]) (w3 := w) rfl rfl ?_
    refine sx_RP.br (p1 := 86) (l1 := [(0, .ref 96), (1, .int (nI u)), (2, .ref A), (3, .int (nI l)), (4, .int (nI j))]) (s1 := []) (v1 := w) (p2 := 50) (l2 := [(0, .ref 96), (1, .int (nI u)), (2, .ref A), (3, .int (nI l)), (4, .int (nI j))]) (s2 := []) (v2 := w) rfl rfl (fun q22 => ?_) (fun q22 => ?_)
    · replace q22 := of_decide_eq_true q22
      refine sx_RP.step (pc2 := 87) (ls2 := [(0, .ref 96), (1, .int (nI u)), (2, .ref A), (3, .int (nI l)), (4, .int (nI j))]) (st2 := [.ref 96]) (w3 := w) rfl rfl ?_
      refine sx_RP.step (pc2 := 89) (ls2 := [(0, .ref 96), (1, .int (nI u)), (2, .ref A), (3, .int (nI l)), (4, .int (nI j))]) (st2 := [.float 116, .ref 96]) (w3 := w) rfl rfl ?_
      obtain ⟨x23, hx24, c25⟩ := p101 (xs := xs) (k := 116) hI (by decide) rfl (by decide)
      refine sx_RP.cu (as := [.ref 96, .float 116]) (rest2 := []) (st3 := [.int (nI x23)]) rfl rfl (sx_inv_v2 (mi := 102) (k := 52) (st := [.float 116, .ref 96]) (w := w) rfl rfl hI.1.o96 rfl rfl rfl) rfl rfl (c25) rfl ?_
      refine sx_RP.br (p1 := 97) (l1 := [(0, .ref 96), (1, .int (nI u)), (2, .ref A), (3, .int (nI l)), (4, .int (nI j))]) (s1 := []) (v1 := w) (p2 := 95) (l2 := [(0, .ref 96), (1, .int (nI u)), (2, .ref A), (3, .int (nI l)), (4, .int (nI j))]) (s2 := []) (v2 := w) rfl rfl (fun q26 => ?_) (fun q26 => ?_)
      · replace q26 := of_decide_eq_true q26
        replace q26 := mt (nI_eq (a := x23) (b := 0) (by omega) (by omega)).mpr q26
        refine sx_RP.step (pc2 := 98) (ls2 := [(0, .ref 96), (1, .int (nI u)), (2, .ref A), (3, .int (nI l)), (4, .int (nI j))]) (st2 := [.ref 96]) (w3 := w) rfl rfl ?_
        refine sx_RP.callp (as2 := [.ref 96]) (rest2 := []) rfl rfl (sx_inv_v2 (mi := 102) (k := 29) (st := [.ref 96]) (w := w) rfl rfl hI.1.o96 rfl rfl rfl) rfl rfl rfl (s94 hI ) (show _ = 101 from rfl) ?_
        rintro r4 w27 ⟨rfl, hI28, hE30⟩
        have hE29 := hE.tr hE30.ec
        show sx_RP _ _ _ _ _ [] _ _
        refine sx_RP.step (pc2 := 102) (ls2 := [(0, .ref 96), (1, .int (nI u)), (2, .ref A), (3, .int (nI l)), (4, .int (nI j))]) (st2 := [.ref 96]) (w3 := w27) rfl rfl ?_
        refine sx_RP.step (pc2 := 103) (ls2 := [(0, .ref 96), (1, .int (nI u)), (2, .ref A), (3, .int (nI l)), (4, .int (nI j))]) (st2 := [.int (nI l), .ref 96]) (w3 := w27) rfl rfl ?_
        refine sx_RP.step (pc2 := 104) (ls2 := [(0, .ref 96), (1, .int (nI u)), (2, .ref A), (3, .int (nI l)), (4, .int (nI j))]) (st2 := [.int 1, .int (nI l), .ref 96]) (w3 := w27) rfl rfl ?_
        refine sx_RP.step (pc2 := 105) (ls2 := [(0, .ref 96), (1, .int (nI u)), (2, .ref A), (3, .int (nI l)), (4, .int (nI j))]) (st2 := [.int ((nI l) + 1), .ref 96]) (w3 := w27) rfl rfl ?_
        rw [show ((nI l) + 1 : Int32) = nI (l + 1) from nI_add l 1]
        refine sx_RP.step (pc2 := 107) (ls2 := [(0, .ref 96), (1, .int (nI u)), (2, .ref A), (3, .int (nI l)), (4, .int (nI j))]) (st2 := [.int 47, .int (nI (l + 1)), .ref 96]) (w3 := w27) rfl rfl ?_
        rcases p103 (xs := xs) (m := (l + 1)) (n := 47) hI28 (by omega) (by omega) with c31 | ⟨⟨x32, hx33, ex34⟩, c31⟩
        · refine sx_RP.cu (as := [.ref 96, .int (nI (l + 1)), .int 47]) (rest2 := []) (st3 := [.int 0]) rfl rfl (sx_inv_v2 (mi := 102) (k := 66) (st := [.int 47, .int (nI (l + 1)), .ref 96]) (w := w27) rfl rfl hI28.1.o96 rfl rfl rfl) rfl rfl (c31) rfl ?_
          refine sx_RP.step (pc2 := 113) (ls2 := [(0, .ref 96), (1, .int (nI u)), (2, .ref A), (3, .int (nI l)), (4, .int (nI j))]) (st2 := []) (w3 := w27) rfl rfl ?_
          refine sx_RP.step (pc2 := 114) (ls2 := [(0, .ref 96), (1, .int (nI u)), (2, .ref A), (3, .int (nI l)), (4, .int (nI j))]) (st2 := [.int 0]) (w3 := w27) rfl rfl ?_
          refine sx_RP.ret (r := (some (.int 0))) rfl rfl ?_
          exact ⟨⟨0, by decide, rfl⟩, hI28, hE29⟩
        · refine sx_RP.cu (as := [.ref 96, .int (nI (l + 1)), .int 47]) (rest2 := []) (st3 := [.int 1]) rfl rfl (sx_inv_v2 (mi := 102) (k := 66) (st := [.int 47, .int (nI (l + 1)), .ref 96]) (w := w27) rfl rfl hI28.1.o96 rfl rfl rfl) rfl rfl (c31) rfl ?_
          refine sx_RP.step (pc2 := 115) (ls2 := [(0, .ref 96), (1, .int (nI u)), (2, .ref A), (3, .int (nI l)), (4, .int (nI j))]) (st2 := []) (w3 := w27) rfl rfl ?_
          refine sx_RP.step (pc2 := 116) (ls2 := [(0, .ref 96), (1, .int (nI u)), (2, .ref A), (3, .int (nI l)), (4, .int (nI j))]) (st2 := [.ref A]) (w3 := w27) rfl rfl ?_
          refine sx_RP.step (pc2 := 117) (ls2 := [(0, .ref 96), (1, .int (nI u)), (2, .ref A), (3, .int (nI l)), (4, .int (nI j))]) (st2 := [.int (nI u), .ref A]) (w3 := w27) rfl rfl ?_
          refine sx_RP.step (pc2 := 118) (ls2 := [(0, .ref 96), (1, .int (nI u)), (2, .ref A), (3, .int (nI l)), (4, .int (nI j))]) (st2 := [.int (nI l), .int (nI u), .ref A]) (w3 := w27) rfl rfl ?_
          refine sx_RP.step (pc2 := 119) (ls2 := [(0, .ref 96), (1, .int (nI u)), (2, .ref A), (3, .int (nI l)), (4, .int (nI j))]) (st2 := [.int 1, .int (nI l), .int (nI u), .ref A]) (w3 := w27) rfl rfl ?_
          refine sx_RP.step (pc2 := 120) (ls2 := [(0, .ref 96), (1, .int (nI u)), (2, .ref A), (3, .int (nI l)), (4, .int (nI j))]) (st2 := [.int ((nI l) + 1), .int (nI u), .ref A]) (w3 := w27) rfl rfl ?_
          rw [show ((nI l) + 1 : Int32) = nI (l + 1) from nI_add l 1]
          refine sx_RP.step (pc2 := 121) (ls2 := [(0, .ref 96), (1, .int (nI u)), (2, .ref A), (3, .int (nI l)), (4, .int (nI j))]) (st2 := [.ref 96, .int (nI (l + 1)), .int (nI u), .ref A]) (w3 := w27) rfl rfl ?_
          refine sx_RP.gt (k := 5) hI28 rfl rfl (by decide) (show _ = 124 from rfl) ?_
          rw [ex34]
          refine sx_RP.callp (as2 := [.ref A, .int (nI u), .int (nI (l + 1)), .int (nI x32)]) (rest2 := []) rfl rfl (sx_inv_v2 (mi := 102) (k := 70) (st := [.int (nI x32), .int (nI (l + 1)), .int (nI u), .ref A]) (w := w27) rfl rfl (hI28.1.oC hA) rfl rfl rfl) rfl rfl rfl (s104 hI28 hA (show u ≤ 4 by omega) (show (l + 1) ≤ 48 by omega) (show x32 ≤ 47 by omega)) (show _ = 127 from rfl) ?_
          rintro r4 w35 ⟨rfl, hI36, hE38⟩
          have hE37 := hE29.tr hE38
          show sx_RP _ _ _ _ _ [] _ _
          refine sx_RP.step (pc2 := 128) (ls2 := [(0, .ref 96), (1, .int (nI u)), (2, .ref A), (3, .int (nI l)), (4, .int (nI j))]) (st2 := [.ref 96]) (w3 := w35) rfl rfl ?_
          refine sx_RP.callp (as2 := [.ref 96]) (rest2 := []) rfl rfl (sx_inv_v2 (mi := 102) (k := 29) (st := [.ref 96]) (w := w35) rfl rfl hI36.1.o96 rfl rfl rfl) rfl rfl rfl (s94 hI36 ) (show _ = 131 from rfl) ?_
          rintro r4 w39 ⟨rfl, hI40, hE42⟩
          have hE41 := hE37.tr hE42.ec
          show sx_RP _ _ _ _ _ [] _ _
          refine sx_RP.step (pc2 := 132) (ls2 := [(0, .ref 96), (1, .int (nI u)), (2, .ref A), (3, .int (nI l)), (4, .int (nI j))]) (st2 := [.int 1]) (w3 := w39) rfl rfl ?_
          refine sx_RP.ret (r := (some (.int 1))) rfl rfl ?_
          exact ⟨⟨1, by decide, rfl⟩, hI40, hE41⟩
      · replace q26 := Decidable.not_not.mp (of_decide_eq_false q26)
        replace q26 := (nI_eq (a := x23) (b := 0) (by omega) (by omega)).mp q26
        refine sx_RP.step (pc2 := 96) (ls2 := [(0, .ref 96), (1, .int (nI u)), (2, .ref A), (3, .int (nI l)), (4, .int (nI j))]) (st2 := [.int 1]) (w3 := w) rfl rfl ?_
        refine sx_RP.ret (r := (some (.int 1))) rfl rfl ?_
        exact ⟨⟨1, by decide, rfl⟩, hI, hE⟩
    · replace q22 := Decidable.not_not.mp (of_decide_eq_false q22)
      refine sx_RP.step (pc2 := 51) (ls2 := [(0, .ref 96), (1, .int (nI u)), (2, .ref A), (3, .int (nI l)), (4, .int (nI j))]) (st2 := [.ref 96]) (w3 := w) rfl rfl ?_
      refine sx_RP.step (pc2 := 52) (ls2 := [(0, .ref 96), (1, .int (nI u)), (2, .ref A), (3, .int (nI l)), (4, .int (nI j))]) (st2 := [.int (nI l), .ref 96]) (w3 := w) rfl rfl ?_
      refine sx_RP.step (pc2 := 53) (ls2 := [(0, .ref 96), (1, .int (nI u)), (2, .ref A), (3, .int (nI l)), (4, .int (nI j))]) (st2 := [.int 1, .int (nI l), .ref 96]) (w3 := w) rfl rfl ?_
      refine sx_RP.step (pc2 := 54) (ls2 := [(0, .ref 96), (1, .int (nI u)), (2, .ref A), (3, .int (nI l)), (4, .int (nI j))]) (st2 := [.int ((nI l) + 1), .ref 96]) (w3 := w) rfl rfl ?_
      rw [show ((nI l) + 1 : Int32) = nI (l + 1) from nI_add l 1]
      refine sx_RP.step (pc2 := 56) (ls2 := [(0, .ref 96), (1, .int (nI u)), (2, .ref A), (3, .int (nI l)), (4, .int (nI j))]) (st2 := [.int 47, .int (nI (l + 1)), .ref 96]) (w3 := w) rfl rfl ?_
      rcases p103 (xs := xs) (m := (l + 1)) (n := 47) hI (by omega) (by omega) with c43 | ⟨⟨x44, hx45, ex46⟩, c43⟩
      · refine sx_RP.cu (as := [.ref 96, .int (nI (l + 1)), .int 47]) (rest2 := []) (st3 := [.int 0]) rfl rfl (sx_inv_v2 (mi := 102) (k := 66) (st := [.int 47, .int (nI (l + 1)), .ref 96]) (w := w) rfl rfl hI.1.o96 rfl rfl rfl) rfl rfl (c43) rfl ?_
        refine sx_RP.step (pc2 := 62) (ls2 := [(0, .ref 96), (1, .int (nI u)), (2, .ref A), (3, .int (nI l)), (4, .int (nI j))]) (st2 := []) (w3 := w) rfl rfl ?_
        refine sx_RP.step (pc2 := 63) (ls2 := [(0, .ref 96), (1, .int (nI u)), (2, .ref A), (3, .int (nI l)), (4, .int (nI j))]) (st2 := [.int 0]) (w3 := w) rfl rfl ?_
        refine sx_RP.ret (r := (some (.int 0))) rfl rfl ?_
        exact ⟨⟨0, by decide, rfl⟩, hI, hE⟩
      · refine sx_RP.cu (as := [.ref 96, .int (nI (l + 1)), .int 47]) (rest2 := []) (st3 := [.int 1]) rfl rfl (sx_inv_v2 (mi := 102) (k := 66) (st := [.int 47, .int (nI (l + 1)), .ref 96]) (w := w) rfl rfl hI.1.o96 rfl rfl rfl) rfl rfl (c43) rfl ?_
        refine sx_RP.step (pc2 := 64) (ls2 := [(0, .ref 96), (1, .int (nI u)), (2, .ref A), (3, .int (nI l)), (4, .int (nI j))]) (st2 := []) (w3 := w) rfl rfl ?_
        refine sx_RP.step (pc2 := 65) (ls2 := [(0, .ref 96), (1, .int (nI u)), (2, .ref A), (3, .int (nI l)), (4, .int (nI j))]) (st2 := [.ref 96]) (w3 := w) rfl rfl ?_
        refine sx_RP.gt (k := 5) hI rfl rfl (by decide) (show _ = 68 from rfl) ?_
        rw [ex46]
        refine sx_RP.step (pc2 := 69) (ls2 := [(3, .int (nI x44)), (0, .ref 96), (1, .int (nI u)), (2, .ref A), (4, .int (nI j))]) (st2 := []) (w3 := w) rfl rfl ?_
        refine sx_RP.step (pc2 := 70) (ls2 := [(3, .int (nI x44)), (0, .ref 96), (1, .int (nI u)), (2, .ref A), (4, .int (nI j))]) (st2 := [.ref A]) (w3 := w) rfl rfl ?_
        refine sx_RP.step (pc2 := 71) (ls2 := [(3, .int (nI x44)), (0, .ref 96), (1, .int (nI u)), (2, .ref A), (4, .int (nI j))]) (st2 := [.int (nI u), .ref A]) (w3 := w) rfl rfl ?_
        refine sx_RP.step (pc2 := 72) (ls2 := [(3, .int (nI x44)), (0, .ref 96), (1, .int (nI u)), (2, .ref A), (4, .int (nI j))]) (st2 := [.int (nI x44), .int (nI u), .ref A]) (w3 := w) rfl rfl ?_
        refine sx_RP.step (pc2 := 73) (ls2 := [(3, .int (nI x44)), (0, .ref 96), (1, .int (nI u)), (2, .ref A), (4, .int (nI j))]) (st2 := [.int (nI x44), .int (nI x44), .int (nI u), .ref A]) (w3 := w) rfl rfl ?_
        refine sx_RP.callp (as2 := [.ref A, .int (nI u), .int (nI x44), .int (nI x44)]) (rest2 := []) rfl rfl (sx_inv_v2 (mi := 102) (k := 70) (st := [.int (nI x44), .int (nI x44), .int (nI u), .ref A]) (w := w) rfl rfl (hI.1.oC hA) rfl rfl rfl) rfl rfl rfl (s104 hI hA (show u ≤ 4 by omega) (show x44 ≤ 48 by omega) (show x44 ≤ 47 by omega)) (show _ = 76 from rfl) ?_
        rintro r4 w47 ⟨rfl, hI48, hE50⟩
        have hE49 := hE.tr hE50
        show sx_RP _ _ _ _ _ [] _ _
        refine sx_RP.step (pc2 := 77) (ls2 := [(3, .int (nI x44)), (0, .ref 96), (1, .int (nI u)), (2, .ref A), (4, .int (nI j))]) (st2 := [.ref 96]) (w3 := w47) rfl rfl ?_
        refine sx_RP.callp (as2 := [.ref 96]) (rest2 := []) rfl rfl (sx_inv_v2 (mi := 102) (k := 29) (st := [.ref 96]) (w := w47) rfl rfl hI48.1.o96 rfl rfl rfl) rfl rfl rfl (s94 hI48 ) (show _ = 80 from rfl) ?_
        rintro r4 w51 ⟨rfl, hI52, hE54⟩
        have hE53 := hE49.tr hE54.ec
        show sx_RP _ _ _ _ _ [] _ _
        refine sx_RP.step (pc2 := 83) (ls2 := [(4, .int ((nI j) + 1)), (3, .int (nI x44)), (0, .ref 96), (1, .int (nI u)), (2, .ref A)]) (st2 := []) (w3 := w51) rfl rfl ?_
        rw [nI_1 j]
        refine sx_RP.step (pc2 := 35) (ls2 := [(4, .int (nI (j + 1))), (3, .int (nI x44)), (0, .ref 96), (1, .int (nI u)), (2, .ref A)]) (st2 := []) (w3 := w51) rfl rfl ?_
        exact sx_RP.ls (sx_lr.cons rfl (sx_lr.cons rfl (sx_lr.cons rfl (sx_lr.cons rfl (sx_lr.cons rfl sx_lr.nil))))) (kk w51 x44 hI52 hE53 (by omega) (by omega))
set_option maxRecDepth 20000 in
set_option maxHeartbeats 4000000 in
theorem s102L {xs : Option (List Int32)} {d : Nat} {w0 : List sx_C} {A : Nat} (hA : isA A) {u : Nat} (hu : u ≤ 4) : ∀ (fz j : Nat) (w : List sx_C) (l : Nat) , 48 ≤ j + fz * 1 → j ≤ 48 → WI w → EC w0 w → l ≤ 47 → sx_RP xs (d + 4) 102 35 [(0, .ref 96), (1, .int (nI u)), (2, .ref A), (3, .int (nI l)), (4, .int (nI j))] [] w (fun r w2 => (∃ j, j ≤ 1 ∧ r = some (.int (nI j))) ∧ WI w2 ∧ EC w0 w2)
  | 0, j, w, l, h, hj, hI, hE, hl => s102B hA hu hI hE hj l hl (fun w4 ul hI4 hE4 hlt hul => absurd hlt (by omega)) 
  | fz + 1, j, w, l, h, hj, hI, hE, hl => s102B hA hu hI hE hj l hl (fun w4 ul hI4 hE4 hlt hul => s102L hA hu  fz (j + 1) w4 ul (by omega) hlt hI4 hE4 hul) 
set_option maxRecDepth 20000 in
set_option maxHeartbeats 4000000 in
theorem s102 {xs : Option (List Int32)} {d : Nat} {w : List sx_C} (hI : WI w) {A : Nat} (hA : isA A) {u : Nat} (hu : u ≤ 4) : sx_RP xs (d + 4) 102 0 (lv_args 0 [.ref 96, .int (nI u), .ref A]) [] w (fun r w2 => (∃ j, j ≤ 1 ∧ r = some (.int (nI j))) ∧ WI w2 ∧ EC w w2) := by
  have hE : EC w w := EC.rf
  refine sx_RP.step (pc2 := 1) (ls2 := [(0, .ref 96), (1, .int (nI u)), (2, .ref A)]) (st2 := [.ref 96]) (w3 := w) rfl rfl ?_
  refine sx_RP.callp (as2 := [.ref 96]) (rest2 := []) rfl rfl (sx_inv_v2 (mi := 102) (k := 29) (st := [.ref 96]) (w := w) rfl rfl hI.1.o96 rfl rfl rfl) rfl rfl rfl (s94 hI ) (show _ = 4 from rfl) ?_
  rintro r4 w1 ⟨rfl, hI2, hE4⟩
  have hE3 := hE.tr hE4.ec
  show sx_RP _ _ _ _ _ [] _ _
  refine sx_RP.step (pc2 := 5) (ls2 := [(0, .ref 96), (1, .int (nI u)), (2, .ref A)]) (st2 := [.ref 96]) (w3 := w1) rfl rfl ?_
  refine sx_RP.step (pc2 := 6) (ls2 := [(0, .ref 96), (1, .int (nI u)), (2, .ref A)]) (st2 := [.int 0, .ref 96]) (w3 := w1) rfl rfl ?_
  refine sx_RP.step (pc2 := 8) (ls2 := [(0, .ref 96), (1, .int (nI u)), (2, .ref A)]) (st2 := [.int 47, .int 0, .ref 96]) (w3 := w1) rfl rfl ?_
  rcases p103 (xs := xs) (m := 0) (n := 47) hI2 (by omega) (by omega) with c5 | ⟨⟨x6, hx7, ex8⟩, c5⟩
  · refine sx_RP.cu (as := [.ref 96, .int 0, .int 47]) (rest2 := []) (st3 := [.int 0]) rfl rfl (sx_inv_v2 (mi := 102) (k := 66) (st := [.int 47, .int 0, .ref 96]) (w := w1) rfl rfl hI2.1.o96 rfl rfl rfl) rfl rfl (c5) rfl ?_
    refine sx_RP.step (pc2 := 14) (ls2 := [(0, .ref 96), (1, .int (nI u)), (2, .ref A)]) (st2 := []) (w3 := w1) rfl rfl ?_
    refine sx_RP.step (pc2 := 15) (ls2 := [(0, .ref 96), (1, .int (nI u)), (2, .ref A)]) (st2 := [.int 0]) (w3 := w1) rfl rfl ?_
    refine sx_RP.ret (r := (some (.int 0))) rfl rfl ?_
    exact ⟨⟨0, by decide, rfl⟩, hI2, hE3⟩
  · refine sx_RP.cu (as := [.ref 96, .int 0, .int 47]) (rest2 := []) (st3 := [.int 1]) rfl rfl (sx_inv_v2 (mi := 102) (k := 66) (st := [.int 47, .int 0, .ref 96]) (w := w1) rfl rfl hI2.1.o96 rfl rfl rfl) rfl rfl (c5) rfl ?_
    refine sx_RP.step (pc2 := 16) (ls2 := [(0, .ref 96), (1, .int (nI u)), (2, .ref A)]) (st2 := []) (w3 := w1) rfl rfl ?_
    refine sx_RP.step (pc2 := 17) (ls2 := [(0, .ref 96), (1, .int (nI u)), (2, .ref A)]) (st2 := [.ref 96]) (w3 := w1) rfl rfl ?_
    refine sx_RP.gt (k := 5) hI2 rfl rfl (by decide) (show _ = 20 from rfl) ?_
    rw [ex8]
    refine sx_RP.step (pc2 := 21) (ls2 := [(3, .int (nI x6)), (0, .ref 96), (1, .int (nI u)), (2, .ref A)]) (st2 := []) (w3 := w1) rfl rfl ?_
    refine sx_RP.step (pc2 := 22) (ls2 := [(3, .int (nI x6)), (0, .ref 96), (1, .int (nI u)), (2, .ref A)]) (st2 := [.ref A]) (w3 := w1) rfl rfl ?_
    refine sx_RP.step (pc2 := 23) (ls2 := [(3, .int (nI x6)), (0, .ref 96), (1, .int (nI u)), (2, .ref A)]) (st2 := [.int (nI u), .ref A]) (w3 := w1) rfl rfl ?_
    refine sx_RP.step (pc2 := 24) (ls2 := [(3, .int (nI x6)), (0, .ref 96), (1, .int (nI u)), (2, .ref A)]) (st2 := [.int (nI x6), .int (nI u), .ref A]) (w3 := w1) rfl rfl ?_
    refine sx_RP.step (pc2 := 25) (ls2 := [(3, .int (nI x6)), (0, .ref 96), (1, .int (nI u)), (2, .ref A)]) (st2 := [.int (nI x6), .int (nI x6), .int (nI u), .ref A]) (w3 := w1) rfl rfl ?_
    refine sx_RP.callp (as2 := [.ref A, .int (nI u), .int (nI x6), .int (nI x6)]) (rest2 := []) rfl rfl (sx_inv_v2 (mi := 102) (k := 70) (st := [.int (nI x6), .int (nI x6), .int (nI u), .ref A]) (w := w1) rfl rfl (hI2.1.oC hA) rfl rfl rfl) rfl rfl rfl (s104 hI2 hA (show u ≤ 4 by omega) (show x6 ≤ 48 by omega) (show x6 ≤ 47 by omega)) (show _ = 28 from rfl) ?_
    rintro r4 w9 ⟨rfl, hI10, hE12⟩
    have hE11 := hE3.tr hE12
    show sx_RP _ _ _ _ _ [] _ _
    refine sx_RP.step (pc2 := 29) (ls2 := [(3, .int (nI x6)), (0, .ref 96), (1, .int (nI u)), (2, .ref A)]) (st2 := [.ref 96]) (w3 := w9) rfl rfl ?_
    refine sx_RP.callp (as2 := [.ref 96]) (rest2 := []) rfl rfl (sx_inv_v2 (mi := 102) (k := 29) (st := [.ref 96]) (w := w9) rfl rfl hI10.1.o96 rfl rfl rfl) rfl rfl rfl (s94 hI10 ) (show _ = 32 from rfl) ?_
    rintro r4 w13 ⟨rfl, hI14, hE16⟩
    have hE15 := hE11.tr hE16.ec
    show sx_RP _ _ _ _ _ [] _ _
    refine sx_RP.step (pc2 := 33) (ls2 := [(3, .int (nI x6)), (0, .ref 96), (1, .int (nI u)), (2, .ref A)]) (st2 := [.int 0]) (w3 := w13) rfl rfl ?_
    refine sx_RP.step (pc2 := 35) (ls2 := [(4, .int 0), (3, .int (nI x6)), (0, .ref 96), (1, .int (nI u)), (2, .ref A)]) (st2 := []) (w3 := w13) rfl rfl ?_
    exact sx_RP.ls (sx_lr.cons rfl (sx_lr.cons rfl (sx_lr.cons rfl (sx_lr.cons rfl (sx_lr.cons rfl sx_lr.nil))))) (s102L hA hu 48 0 w13 x6 (by omega) (by omega) hI14 hE15 (by omega))
set_option maxRecDepth 20000 in
set_option maxHeartbeats 4000000 in
theorem s107 {xs : Option (List Int32)} {d : Nat} {w : List sx_C} (hI : WI w) {A : Nat} (hA : isA A) {u : Nat} (hu : u ≤ 5) : sx_RP xs (d + 4) 107 0 (lv_args 0 [.ref 96, .int (nI u), .ref A]) [] w (fun r w2 => (∃ j, j ≤ 1 ∧ r = some (.int (nI j))) ∧ WI w2 ∧ EC w w2) := by
  have hE : EC w w := EC.rf
  refine sx_RP.step (pc2 := 1) (ls2 := [(0, .ref 96), (1, .int (nI u)), (2, .ref A)]) (st2 := [.ref A]) (w3 := w) rfl rfl ?_
  rcases p24 (xs := xs) hI hA with c1 | ⟨⟨x2, hx3, ex4⟩, c1⟩
  · refine sx_RP.cu (as := [.ref A]) (rest2 := []) (st3 := [.int 0]) rfl rfl (sx_inv_v2 (mi := 107) (k := 78) (st := [.ref A]) (w := w) rfl rfl (hI.1.oC hA) rfl rfl rfl) rfl rfl (c1) rfl ?_
    refine sx_RP.step (pc2 := 7) (ls2 := [(0, .ref 96), (1, .int (nI u)), (2, .ref A)]) (st2 := []) (w3 := w) rfl rfl ?_
    refine sx_RP.step (pc2 := 8) (ls2 := [(0, .ref 96), (1, .int (nI u)), (2, .ref A)]) (st2 := [.int 0]) (w3 := w) rfl rfl ?_
    refine sx_RP.ret (r := (some (.int 0))) rfl rfl ?_
    exact ⟨⟨0, by decide, rfl⟩, hI, hE⟩
  · refine sx_RP.cu (as := [.ref A]) (rest2 := []) (st3 := [.int 1]) rfl rfl (sx_inv_v2 (mi := 107) (k := 78) (st := [.ref A]) (w := w) rfl rfl (hI.1.oC hA) rfl rfl rfl) rfl rfl (c1) rfl ?_
    refine sx_RP.step (pc2 := 9) (ls2 := [(0, .ref 96), (1, .int (nI u)), (2, .ref A)]) (st2 := []) (w3 := w) rfl rfl ?_
    refine sx_RP.step (pc2 := 10) (ls2 := [(0, .ref 96), (1, .int (nI u)), (2, .ref A)]) (st2 := [.ref 96]) (w3 := w) rfl rfl ?_
    refine sx_RP.callp (as2 := [.ref 96]) (rest2 := []) rfl rfl (sx_inv_v2 (mi := 107) (k := 29) (st := [.ref 96]) (w := w) rfl rfl hI.1.o96 rfl rfl rfl) rfl rfl rfl (s94 hI ) (show _ = 13 from rfl) ?_
    rintro r4 w5 ⟨rfl, hI6, hE8⟩
    have hE7 := hE.tr hE8.ec
    have ex9 := (hE8.fi (a := A) (by have := hA; unfold isA at this; omega) 3).trans ex4
    show sx_RP _ _ _ _ _ [] _ _
    refine sx_RP.step (pc2 := 14) (ls2 := [(0, .ref 96), (1, .int (nI u)), (2, .ref A)]) (st2 := [.ref 96]) (w3 := w5) rfl rfl ?_
    refine sx_RP.step (pc2 := 16) (ls2 := [(0, .ref 96), (1, .int (nI u)), (2, .ref A)]) (st2 := [.float 115, .ref 96]) (w3 := w5) rfl rfl ?_
    obtain ⟨x10, hx11, c12⟩ := p101 (xs := xs) (k := 115) hI6 (by decide) rfl (by decide)
    refine sx_RP.cu (as := [.ref 96, .float 115]) (rest2 := []) (st3 := [.int (nI x10)]) rfl rfl (sx_inv_v2 (mi := 107) (k := 52) (st := [.float 115, .ref 96]) (w := w5) rfl rfl hI6.1.o96 rfl rfl rfl) rfl rfl (c12) rfl ?_
    refine sx_RP.br (p1 := 26) (l1 := [(0, .ref 96), (1, .int (nI u)), (2, .ref A)]) (s1 := []) (v1 := w5) (p2 := 22) (l2 := [(0, .ref 96), (1, .int (nI u)), (2, .ref A)]) (s2 := []) (v2 := w5) rfl rfl (fun q13 => ?_) (fun q13 => ?_)
    · replace q13 := of_decide_eq_true q13
      replace q13 := (nI_eq (a := x10) (b := 0) (by omega) (by omega)).mp q13
      refine sx_RP.step (pc2 := 27) (ls2 := [(0, .ref 96), (1, .int (nI u)), (2, .ref A)]) (st2 := [.int 1]) (w3 := w5) rfl rfl ?_
      refine sx_RP.step (pc2 := 28) (ls2 := [(3, .int 1), (0, .ref 96), (1, .int (nI u)), (2, .ref A)]) (st2 := []) (w3 := w5) rfl rfl ?_
      refine sx_RP.step (pc2 := 29) (ls2 := [(3, .int 1), (0, .ref 96), (1, .int (nI u)), (2, .ref A)]) (st2 := [.int 1]) (w3 := w5) rfl rfl ?_
      refine sx_RP.step (pc2 := 30) (ls2 := [(3, .int 1), (0, .ref 96), (1, .int (nI u)), (2, .ref A)]) (st2 := [.int 1, .int 1]) (w3 := w5) rfl rfl ?_
      refine sx_RP.step (pc2 := 33) (ls2 := [(3, .int 1), (0, .ref 96), (1, .int (nI u)), (2, .ref A)]) (st2 := []) (w3 := w5) rfl rfl ?_
      refine sx_RP.step (pc2 := 34) (ls2 := [(3, .int 1), (0, .ref 96), (1, .int (nI u)), (2, .ref A)]) (st2 := [.ref 96]) (w3 := w5) rfl rfl ?_
      refine sx_RP.step (pc2 := 36) (ls2 := [(3, .int 1), (0, .ref 96), (1, .int (nI u)), (2, .ref A)]) (st2 := [.float 109, .ref 96]) (w3 := w5) rfl rfl ?_
      obtain ⟨x14, hx15, c16⟩ := p101 (xs := xs) (k := 109) hI6 (by decide) rfl (by decide)
      refine sx_RP.cu (as := [.ref 96, .float 109]) (rest2 := []) (st3 := [.int (nI x14)]) rfl rfl (sx_inv_v2 (mi := 107) (k := 52) (st := [.float 109, .ref 96]) (w := w5) rfl rfl hI6.1.o96 rfl rfl rfl) rfl rfl (c16) rfl ?_
      refine sx_RP.br (p1 := 44) (l1 := [(3, .int 1), (0, .ref 96), (1, .int (nI u)), (2, .ref A)]) (s1 := []) (v1 := w5) (p2 := 42) (l2 := [(3, .int 1), (0, .ref 96), (1, .int (nI u)), (2, .ref A)]) (s2 := []) (v2 := w5) rfl rfl (fun q17 => ?_) (fun q17 => ?_)
      · replace q17 := of_decide_eq_true q17
        replace q17 := mt (nI_eq (a := x14) (b := 0) (by omega) (by omega)).mpr q17
        refine sx_RP.step (pc2 := 45) (ls2 := [(3, .int 1), (0, .ref 96), (1, .int (nI u)), (2, .ref A)]) (st2 := [.ref 96]) (w3 := w5) rfl rfl ?_
        refine sx_RP.callp (as2 := [.ref 96]) (rest2 := []) rfl rfl (sx_inv_v2 (mi := 107) (k := 29) (st := [.ref 96]) (w := w5) rfl rfl hI6.1.o96 rfl rfl rfl) rfl rfl rfl (s94 hI6 ) (show _ = 48 from rfl) ?_
        rintro r4 w18 ⟨rfl, hI19, hE21⟩
        have hE20 := hE7.tr hE21.ec
        have ex22 := (hE21.fi (a := A) (by have := hA; unfold isA at this; omega) 3).trans ex9
        show sx_RP _ _ _ _ _ [] _ _
        refine sx_RP.step (pc2 := 49) (ls2 := [(3, .int 1), (0, .ref 96), (1, .int (nI u)), (2, .ref A)]) (st2 := [.ref 96]) (w3 := w18) rfl rfl ?_
        refine sx_RP.step (pc2 := 51) (ls2 := [(3, .int 1), (0, .ref 96), (1, .int (nI u)), (2, .ref A)]) (st2 := [.float 100, .ref 96]) (w3 := w18) rfl rfl ?_
        refine sx_RP.step (pc2 := 52) (ls2 := [(3, .int 1), (0, .ref 96), (1, .int (nI u)), (2, .ref A)]) (st2 := [.int 0, .float 100, .ref 96]) (w3 := w18) rfl rfl ?_
        refine sx_RP.step (pc2 := 54) (ls2 := [(3, .int 1), (0, .ref 96), (1, .int (nI u)), (2, .ref A)]) (st2 := [.int 47, .int 0, .float 100, .ref 96]) (w3 := w18) rfl rfl ?_
        refine sx_RP.callp (as2 := [.ref 96, .float 100, .int 0, .int 47]) (rest2 := []) rfl rfl (sx_inv_v2 (mi := 107) (k := 90) (st := [.int 47, .int 0, .float 100, .ref 96]) (w := w18) rfl rfl hI19.1.o96 rfl rfl rfl) rfl rfl rfl (s108 (k := 100) (m := 0) (n := 47) hI19 (by decide) rfl (by decide) (by omega) (by omega)) (show _ = 57 from rfl) ?_
        rintro r4 w26 ⟨(rfl | ⟨⟨x23, hx24, ex25⟩, rfl⟩), hI27, hE29⟩
        · have hE28 := hE20.tr hE29.ec
          have ex30 := (hE29.fi (a := A) (by have := hA; unfold isA at this; omega) 3).trans ex22
          show sx_RP _ _ _ _ _ [.int 0] _ _
          refine sx_RP.step (pc2 := 60) (ls2 := [(3, .int 1), (0, .ref 96), (1, .int (nI u)), (2, .ref A)]) (st2 := []) (w3 := w26) rfl rfl ?_
          refine sx_RP.step (pc2 := 61) (ls2 := [(3, .int 1), (0, .ref 96), (1, .int (nI u)), (2, .ref A)]) (st2 := [.int 0]) (w3 := w26) rfl rfl ?_
          refine sx_RP.ret (r := (some (.int 0))) rfl rfl ?_
          exact ⟨⟨0, by decide, rfl⟩, hI27, hE28⟩
        · have hE28 := hE20.tr hE29.ec
          have ex31 := (hE29.fi (a := A) (by have := hA; unfold isA at this; omega) 3).trans ex22
          show sx_RP _ _ _ _ _ [.int 1] _ _
          refine sx_RP.step (pc2 := 62) (ls2 := [(3, .int 1), (0, .ref 96), (1, .int (nI u)), (2, .ref A)]) (st2 := []) (w3 := w26) rfl rfl ?_
          refine sx_RP.step (pc2 := 63) (ls2 := [(3, .int 1), (0, .ref 96), (1, .int (nI u)), (2, .ref A)]) (st2 := [.ref 96]) (w3 := w26) rfl rfl ?_
          refine sx_RP.gt (k := 5) hI27 rfl rfl (by decide) (show _ = 66 from rfl) ?_
          rw [ex25]
          refine sx_RP.step (pc2 := 68) (ls2 := [(4, .int (nI x23)), (3, .int 1), (0, .ref 96), (1, .int (nI u)), (2, .ref A)]) (st2 := []) (w3 := w26) rfl rfl ?_
          refine sx_RP.step (pc2 := 69) (ls2 := [(4, .int (nI x23)), (3, .int 1), (0, .ref 96), (1, .int (nI u)), (2, .ref A)]) (st2 := [.ref 96]) (w3 := w26) rfl rfl ?_
          refine sx_RP.callp (as2 := [.ref 96]) (rest2 := []) rfl rfl (sx_inv_v2 (mi := 107) (k := 29) (st := [.ref 96]) (w := w26) rfl rfl hI27.1.o96 rfl rfl rfl) rfl rfl rfl (s94 hI27 ) (show _ = 72 from rfl) ?_
          rintro r4 w32 ⟨rfl, hI33, hE35⟩
          have hE34 := hE28.tr hE35.ec
          have ex36 := (hE35.fi (a := A) (by have := hA; unfold isA at this; omega) 3).trans ex31
          show sx_RP _ _ _ _ _ [] _ _
          refine sx_RP.step (pc2 := 73) (ls2 := [(4, .int (nI x23)), (3, .int 1), (0, .ref 96), (1, .int (nI u)), (2, .ref A)]) (st2 := [.ref 96]) (w3 := w32) rfl rfl ?_
          refine sx_RP.step (pc2 := 75) (ls2 := [(4, .int (nI x23)), (3, .int 1), (0, .ref 96), (1, .int (nI u)), (2, .ref A)]) (st2 := [.float 119, .ref 96]) (w3 := w32) rfl rfl ?_
          refine sx_RP.step (pc2 := 76) (ls2 := [(4, .int (nI x23)), (3, .int 1), (0, .ref 96), (1, .int (nI u)), (2, .ref A)]) (st2 := [.int 0, .float 119, .ref 96]) (w3 := w32) rfl rfl ?_
          refine sx_RP.step (pc2 := 77) (ls2 := [(4, .int (nI x23)), (3, .int 1), (0, .ref 96), (1, .int (nI u)), (2, .ref A)]) (st2 := [.int 3, .int 0, .float 119, .ref 96]) (w3 := w32) rfl rfl ?_
          refine sx_RP.callp (as2 := [.ref 96, .float 119, .int 0, .int 3]) (rest2 := []) rfl rfl (sx_inv_v2 (mi := 107) (k := 90) (st := [.int 3, .int 0, .float 119, .ref 96]) (w := w32) rfl rfl hI33.1.o96 rfl rfl rfl) rfl rfl rfl (s108 (k := 119) (m := 0) (n := 3) hI33 (by decide) rfl (by decide) (by omega) (by omega)) (show _ = 80 from rfl) ?_
          rintro r4 w40 ⟨(rfl | ⟨⟨x37, hx38, ex39⟩, rfl⟩), hI41, hE43⟩
          · have hE42 := hE34.tr hE43.ec
            have ex44 := (hE43.fi (a := A) (by have := hA; unfold isA at this; omega) 3).trans ex36
            show sx_RP _ _ _ _ _ [.int 0] _ _
            refine sx_RP.step (pc2 := 83) (ls2 := [(4, .int (nI x23)), (3, .int 1), (0, .ref 96), (1, .int (nI u)), (2, .ref A)]) (st2 := []) (w3 := w40) rfl rfl ?_
            refine sx_RP.step (pc2 := 84) (ls2 := [(4, .int (nI x23)), (3, .int 1), (0, .ref 96), (1, .int (nI u)), (2, .ref A)]) (st2 := [.int 0]) (w3 := w40) rfl rfl ?_
            refine sx_RP.ret (r := (some (.int 0))) rfl rfl ?_
            exact ⟨⟨0, by decide, rfl⟩, hI41, hE42⟩
          · have hE42 := hE34.tr hE43.ec
            have ex45 := (hE43.fi (a := A) (by have := hA; unfold isA at this; omega) 3).trans ex36
            show sx_RP _ _ _ _ _ [.int 1] _ _
            refine sx_RP.step (pc2 := 85) (ls2 := [(4, .int (nI x23)), (3, .int 1), (0, .ref 96), (1, .int (nI u)), (2, .ref A)]) (st2 := []) (w3 := w40) rfl rfl ?_
            refine sx_RP.step (pc2 := 86) (ls2 := [(4, .int (nI x23)), (3, .int 1), (0, .ref 96), (1, .int (nI u)), (2, .ref A)]) (st2 := [.ref A]) (w3 := w40) rfl rfl ?_
            refine sx_RP.step (pc2 := 87) (ls2 := [(4, .int (nI x23)), (3, .int 1), (0, .ref 96), (1, .int (nI u)), (2, .ref A)]) (st2 := [.int (nI u), .ref A]) (w3 := w40) rfl rfl ?_
            refine sx_RP.step (pc2 := 88) (ls2 := [(4, .int (nI x23)), (3, .int 1), (0, .ref 96), (1, .int (nI u)), (2, .ref A)]) (st2 := [.int 1, .int (nI u), .ref A]) (w3 := w40) rfl rfl ?_
            refine sx_RP.step (pc2 := 90) (ls2 := [(4, .int (nI x23)), (3, .int 1), (0, .ref 96), (1, .int (nI u)), (2, .ref A)]) (st2 := [.int (nI x23), .int 1, .int (nI u), .ref A]) (w3 := w40) rfl rfl ?_
            refine sx_RP.step (pc2 := 91) (ls2 := [(4, .int (nI x23)), (3, .int 1), (0, .ref 96), (1, .int (nI u)), (2, .ref A)]) (st2 := [.ref 96, .int (nI x23), .int 1, .int (nI u), .ref A]) (w3 := w40) rfl rfl ?_
            refine sx_RP.gt (k := 5) hI41 rfl rfl (by decide) (show _ = 94 from rfl) ?_
            rw [ex39]
            refine sx_RP.callp (as2 := [.ref A, .int (nI u), .int 1, .int (nI x23), .int (nI x37)]) (rest2 := []) rfl rfl (sx_inv_v2 (mi := 107) (k := 96) (st := [.int (nI x37), .int (nI x23), .int 1, .int (nI u), .ref A]) (w := w40) rfl rfl (hI41.1.oC hA) rfl rfl rfl) rfl rfl rfl (s25 hI41 hA (by omega) ex45 (show u ≤ 5 by omega) (show 1 ≤ 1 by omega) (show x23 < 48 by omega) (show x37 ≤ 3 by omega)) (show _ = 97 from rfl) ?_
            rintro r4 w47 ⟨⟨v46, rfl⟩, hI48, hE50⟩
            have hE49 := hE42.tr hE50
            show sx_RP _ _ _ _ _ [.int v46] _ _
            refine sx_RP.step (pc2 := 98) (ls2 := [(4, .int (nI x23)), (3, .int 1), (0, .ref 96), (1, .int (nI u)), (2, .ref A)]) (st2 := []) (w3 := w47) rfl rfl ?_
            refine sx_RP.step (pc2 := 99) (ls2 := [(4, .int (nI x23)), (3, .int 1), (0, .ref 96), (1, .int (nI u)), (2, .ref A)]) (st2 := [.ref 96]) (w3 := w47) rfl rfl ?_
            refine sx_RP.callp (as2 := [.ref 96]) (rest2 := []) rfl rfl (sx_inv_v2 (mi := 107) (k := 29) (st := [.ref 96]) (w := w47) rfl rfl hI48.1.o96 rfl rfl rfl) rfl rfl rfl (s94 hI48 ) (show _ = 102 from rfl) ?_
            rintro r4 w51 ⟨rfl, hI52, hE54⟩
            have hE53 := hE49.tr hE54.ec
            show sx_RP _ _ _ _ _ [] _ _
            refine sx_RP.step (pc2 := 103) (ls2 := [(4, .int (nI x23)), (3, .int 1), (0, .ref 96), (1, .int (nI u)), (2, .ref A)]) (st2 := [.int 1]) (w3 := w51) rfl rfl ?_
            refine sx_RP.ret (r := (some (.int 1))) rfl rfl ?_
            exact ⟨⟨1, by decide, rfl⟩, hI52, hE53⟩
      · replace q17 := Decidable.not_not.mp (of_decide_eq_false q17)
        replace q17 := (nI_eq (a := x14) (b := 0) (by omega) (by omega)).mp q17
        refine sx_RP.step (pc2 := 43) (ls2 := [(3, .int 1), (0, .ref 96), (1, .int (nI u)), (2, .ref A)]) (st2 := [.int 0]) (w3 := w5) rfl rfl ?_
        refine sx_RP.ret (r := (some (.int 0))) rfl rfl ?_
        exact ⟨⟨0, by decide, rfl⟩, hI6, hE7⟩
    · replace q13 := of_decide_eq_false q13
      replace q13 := mt (nI_eq (a := x10) (b := 0) (by omega) (by omega)).mpr q13
      refine sx_RP.step (pc2 := 23) (ls2 := [(0, .ref 96), (1, .int (nI u)), (2, .ref A)]) (st2 := [.int 0]) (w3 := w5) rfl rfl ?_
      refine sx_RP.step (pc2 := 27) (ls2 := [(0, .ref 96), (1, .int (nI u)), (2, .ref A)]) (st2 := [.int 0]) (w3 := w5) rfl rfl ?_
      refine sx_RP.step (pc2 := 28) (ls2 := [(3, .int 0), (0, .ref 96), (1, .int (nI u)), (2, .ref A)]) (st2 := []) (w3 := w5) rfl rfl ?_
      refine sx_RP.step (pc2 := 29) (ls2 := [(3, .int 0), (0, .ref 96), (1, .int (nI u)), (2, .ref A)]) (st2 := [.int 0]) (w3 := w5) rfl rfl ?_
      refine sx_RP.step (pc2 := 30) (ls2 := [(3, .int 0), (0, .ref 96), (1, .int (nI u)), (2, .ref A)]) (st2 := [.int 1, .int 0]) (w3 := w5) rfl rfl ?_
      refine sx_RP.step (pc2 := 44) (ls2 := [(3, .int 0), (0, .ref 96), (1, .int (nI u)), (2, .ref A)]) (st2 := []) (w3 := w5) rfl rfl ?_
      refine sx_RP.step (pc2 := 45) (ls2 := [(3, .int 0), (0, .ref 96), (1, .int (nI u)), (2, .ref A)]) (st2 := [.ref 96]) (w3 := w5) rfl rfl ?_
      refine sx_RP.callp (as2 := [.ref 96]) (rest2 := []) rfl rfl (sx_inv_v2 (mi := 107) (k := 29) (st := [.ref 96]) (w := w5) rfl rfl hI6.1.o96 rfl rfl rfl) rfl rfl rfl (s94 hI6 ) (show _ = 48 from rfl) ?_
      rintro r4 w55 ⟨rfl, hI56, hE58⟩
      have hE57 := hE7.tr hE58.ec
      have ex59 := (hE58.fi (a := A) (by have := hA; unfold isA at this; omega) 3).trans ex9
      show sx_RP _ _ _ _ _ [] _ _
      refine sx_RP.step (pc2 := 49) (ls2 := [(3, .int 0), (0, .ref 96), (1, .int (nI u)), (2, .ref A)]) (st2 := [.ref 96]) (w3 := w55) rfl rfl ?_
      refine sx_RP.step (pc2 := 51) (ls2 := [(3, .int 0), (0, .ref 96), (1, .int (nI u)), (2, .ref A)]) (st2 := [.float 100, .ref 96]) (w3 := w55) rfl rfl ?_
      refine sx_RP.step (pc2 := 52) (ls2 := [(3, .int 0), (0, .ref 96), (1, .int (nI u)), (2, .ref A)]) (st2 := [.int 0, .float 100, .ref 96]) (w3 := w55) rfl rfl ?_
      refine sx_RP.step (pc2 := 54) (ls2 := [(3, .int 0), (0, .ref 96), (1, .int (nI u)), (2, .ref A)]) (st2 := [.int 47, .int 0, .float 100, .ref 96]) (w3 := w55) rfl rfl ?_
      refine sx_RP.callp (as2 := [.ref 96, .float 100, .int 0, .int 47]) (rest2 := []) rfl rfl (sx_inv_v2 (mi := 107) (k := 90) (st := [.int 47, .int 0, .float 100, .ref 96]) (w := w55) rfl rfl hI56.1.o96 rfl rfl rfl) rfl rfl rfl (s108 (k := 100) (m := 0) (n := 47) hI56 (by decide) rfl (by decide) (by omega) (by omega)) (show _ = 57 from rfl) ?_
      rintro r4 w63 ⟨(rfl | ⟨⟨x60, hx61, ex62⟩, rfl⟩), hI64, hE66⟩
      · have hE65 := hE57.tr hE66.ec
        have ex67 := (hE66.fi (a := A) (by have := hA; unfold isA at this; omega) 3).trans ex59
        show sx_RP _ _ _ _ _ [.int 0] _ _
        refine sx_RP.step (pc2 := 60) (ls2 := [(3, .int 0), (0, .ref 96), (1, .int (nI u)), (2, .ref A)]) (st2 := []) (w3 := w63) rfl rfl ?_
        refine sx_RP.step (pc2 := 61) (ls2 := [(3, .int 0), (0, .ref 96), (1, .int (nI u)), (2, .ref A)]) (st2 := [.int 0]) (w3 := w63) rfl rfl ?_
        refine sx_RP.ret (r := (some (.int 0))) rfl rfl ?_
        exact ⟨⟨0, by decide, rfl⟩, hI64, hE65⟩
      · have hE65 := hE57.tr hE66.ec
        have ex68 := (hE66.fi (a := A) (by have := hA; unfold isA at this; omega) 3).trans ex59
        show sx_RP _ _ _ _ _ [.int 1] _ _
        refine sx_RP.step (pc2 := 62) (ls2 := [(3, .int 0), (0, .ref 96), (1, .int (nI u)), (2, .ref A)]) (st2 := []) (w3 := w63) rfl rfl ?_
        refine sx_RP.step (pc2 := 63) (ls2 := [(3, .int 0), (0, .ref 96), (1, .int (nI u)), (2, .ref A)]) (st2 := [.ref 96]) (w3 := w63) rfl rfl ?_
        refine sx_RP.gt (k := 5) hI64 rfl rfl (by decide) (show _ = 66 from rfl) ?_
        rw [ex62]
        refine sx_RP.step (pc2 := 68) (ls2 := [(4, .int (nI x60)), (3, .int 0), (0, .ref 96), (1, .int (nI u)), (2, .ref A)]) (st2 := []) (w3 := w63) rfl rfl ?_
        refine sx_RP.step (pc2 := 69) (ls2 := [(4, .int (nI x60)), (3, .int 0), (0, .ref 96), (1, .int (nI u)), (2, .ref A)]) (st2 := [.ref 96]) (w3 := w63) rfl rfl ?_
        refine sx_RP.callp (as2 := [.ref 96]) (rest2 := []) rfl rfl (sx_inv_v2 (mi := 107) (k := 29) (st := [.ref 96]) (w := w63) rfl rfl hI64.1.o96 rfl rfl rfl) rfl rfl rfl (s94 hI64 ) (show _ = 72 from rfl) ?_
        rintro r4 w69 ⟨rfl, hI70, hE72⟩
        have hE71 := hE65.tr hE72.ec
        have ex73 := (hE72.fi (a := A) (by have := hA; unfold isA at this; omega) 3).trans ex68
        show sx_RP _ _ _ _ _ [] _ _
        refine sx_RP.step (pc2 := 73) (ls2 := [(4, .int (nI x60)), (3, .int 0), (0, .ref 96), (1, .int (nI u)), (2, .ref A)]) (st2 := [.ref 96]) (w3 := w69) rfl rfl ?_
        refine sx_RP.step (pc2 := 75) (ls2 := [(4, .int (nI x60)), (3, .int 0), (0, .ref 96), (1, .int (nI u)), (2, .ref A)]) (st2 := [.float 119, .ref 96]) (w3 := w69) rfl rfl ?_
        refine sx_RP.step (pc2 := 76) (ls2 := [(4, .int (nI x60)), (3, .int 0), (0, .ref 96), (1, .int (nI u)), (2, .ref A)]) (st2 := [.int 0, .float 119, .ref 96]) (w3 := w69) rfl rfl ?_
        refine sx_RP.step (pc2 := 77) (ls2 := [(4, .int (nI x60)), (3, .int 0), (0, .ref 96), (1, .int (nI u)), (2, .ref A)]) (st2 := [.int 3, .int 0, .float 119, .ref 96]) (w3 := w69) rfl rfl ?_
        refine sx_RP.callp (as2 := [.ref 96, .float 119, .int 0, .int 3]) (rest2 := []) rfl rfl (sx_inv_v2 (mi := 107) (k := 90) (st := [.int 3, .int 0, .float 119, .ref 96]) (w := w69) rfl rfl hI70.1.o96 rfl rfl rfl) rfl rfl rfl (s108 (k := 119) (m := 0) (n := 3) hI70 (by decide) rfl (by decide) (by omega) (by omega)) (show _ = 80 from rfl) ?_
        rintro r4 w77 ⟨(rfl | ⟨⟨x74, hx75, ex76⟩, rfl⟩), hI78, hE80⟩
        · have hE79 := hE71.tr hE80.ec
          have ex81 := (hE80.fi (a := A) (by have := hA; unfold isA at this; omega) 3).trans ex73
          show sx_RP _ _ _ _ _ [.int 0] _ _
          refine sx_RP.step (pc2 := 83) (ls2 := [(4, .int (nI x60)), (3, .int 0), (0, .ref 96), (1, .int (nI u)), (2, .ref A)]) (st2 := []) (w3 := w77) rfl rfl ?_
          refine sx_RP.step (pc2 := 84) (ls2 := [(4, .int (nI x60)), (3, .int 0), (0, .ref 96), (1, .int (nI u)), (2, .ref A)]) (st2 := [.int 0]) (w3 := w77) rfl rfl ?_
          refine sx_RP.ret (r := (some (.int 0))) rfl rfl ?_
          exact ⟨⟨0, by decide, rfl⟩, hI78, hE79⟩
        · have hE79 := hE71.tr hE80.ec
          have ex82 := (hE80.fi (a := A) (by have := hA; unfold isA at this; omega) 3).trans ex73
          show sx_RP _ _ _ _ _ [.int 1] _ _
          refine sx_RP.step (pc2 := 85) (ls2 := [(4, .int (nI x60)), (3, .int 0), (0, .ref 96), (1, .int (nI u)), (2, .ref A)]) (st2 := []) (w3 := w77) rfl rfl ?_
          refine sx_RP.step (pc2 := 86) (ls2 := [(4, .int (nI x60)), (3, .int 0), (0, .ref 96), (1, .int (nI u)), (2, .ref A)]) (st2 := [.ref A]) (w3 := w77) rfl rfl ?_
          refine sx_RP.step (pc2 := 87) (ls2 := [(4, .int (nI x60)), (3, .int 0), (0, .ref 96), (1, .int (nI u)), (2, .ref A)]) (st2 := [.int (nI u), .ref A]) (w3 := w77) rfl rfl ?_
          refine sx_RP.step (pc2 := 88) (ls2 := [(4, .int (nI x60)), (3, .int 0), (0, .ref 96), (1, .int (nI u)), (2, .ref A)]) (st2 := [.int 0, .int (nI u), .ref A]) (w3 := w77) rfl rfl ?_
          refine sx_RP.step (pc2 := 90) (ls2 := [(4, .int (nI x60)), (3, .int 0), (0, .ref 96), (1, .int (nI u)), (2, .ref A)]) (st2 := [.int (nI x60), .int 0, .int (nI u), .ref A]) (w3 := w77) rfl rfl ?_
          refine sx_RP.step (pc2 := 91) (ls2 := [(4, .int (nI x60)), (3, .int 0), (0, .ref 96), (1, .int (nI u)), (2, .ref A)]) (st2 := [.ref 96, .int (nI x60), .int 0, .int (nI u), .ref A]) (w3 := w77) rfl rfl ?_
          refine sx_RP.gt (k := 5) hI78 rfl rfl (by decide) (show _ = 94 from rfl) ?_
          rw [ex76]
          refine sx_RP.callp (as2 := [.ref A, .int (nI u), .int 0, .int (nI x60), .int (nI x74)]) (rest2 := []) rfl rfl (sx_inv_v2 (mi := 107) (k := 96) (st := [.int (nI x74), .int (nI x60), .int 0, .int (nI u), .ref A]) (w := w77) rfl rfl (hI78.1.oC hA) rfl rfl rfl) rfl rfl rfl (s25 hI78 hA (by omega) ex82 (show u ≤ 5 by omega) (show 0 ≤ 1 by omega) (show x60 < 48 by omega) (show x74 ≤ 3 by omega)) (show _ = 97 from rfl) ?_
          rintro r4 w84 ⟨⟨v83, rfl⟩, hI85, hE87⟩
          have hE86 := hE79.tr hE87
          show sx_RP _ _ _ _ _ [.int v83] _ _
          refine sx_RP.step (pc2 := 98) (ls2 := [(4, .int (nI x60)), (3, .int 0), (0, .ref 96), (1, .int (nI u)), (2, .ref A)]) (st2 := []) (w3 := w84) rfl rfl ?_
          refine sx_RP.step (pc2 := 99) (ls2 := [(4, .int (nI x60)), (3, .int 0), (0, .ref 96), (1, .int (nI u)), (2, .ref A)]) (st2 := [.ref 96]) (w3 := w84) rfl rfl ?_
          refine sx_RP.callp (as2 := [.ref 96]) (rest2 := []) rfl rfl (sx_inv_v2 (mi := 107) (k := 29) (st := [.ref 96]) (w := w84) rfl rfl hI85.1.o96 rfl rfl rfl) rfl rfl rfl (s94 hI85 ) (show _ = 102 from rfl) ?_
          rintro r4 w88 ⟨rfl, hI89, hE91⟩
          have hE90 := hE86.tr hE91.ec
          show sx_RP _ _ _ _ _ [] _ _
          refine sx_RP.step (pc2 := 103) (ls2 := [(4, .int (nI x60)), (3, .int 0), (0, .ref 96), (1, .int (nI u)), (2, .ref A)]) (st2 := [.int 1]) (w3 := w88) rfl rfl ?_
          refine sx_RP.ret (r := (some (.int 1))) rfl rfl ?_
          exact ⟨⟨1, by decide, rfl⟩, hI89, hE90⟩
set_option maxRecDepth 20000 in
set_option maxHeartbeats 4000000 in
theorem s109 {xs : Option (List Int32)} {d : Nat} {w : List sx_C} (hI : WI w) {A : Nat} (hA : isA A) : sx_RP xs (d + 4) 109 0 (lv_args 0 [.ref 96, .ref A]) [] w (fun r w2 => (∃ j, j ≤ 1 ∧ r = some (.int (nI j))) ∧ WI w2 ∧ EC w w2) := by
  have hE : EC w w := EC.rf
  refine sx_RP.step (pc2 := 1) (ls2 := [(0, .ref 96), (1, .ref A)]) (st2 := [.ref A]) (w3 := w) rfl rfl ?_
  rcases p63 (xs := xs) hI hA with c1 | ⟨⟨x2, hx3, ex4⟩, c1⟩
  · refine sx_RP.cu (as := [.ref A]) (rest2 := []) (st3 := [.int 0]) rfl rfl (sx_inv_v2 (mi := 109) (k := 100) (st := [.ref A]) (w := w) rfl rfl (hI.1.oC hA) rfl rfl rfl) rfl rfl (c1) rfl ?_
    refine sx_RP.step (pc2 := 7) (ls2 := [(0, .ref 96), (1, .ref A)]) (st2 := []) (w3 := w) rfl rfl ?_
    refine sx_RP.step (pc2 := 8) (ls2 := [(0, .ref 96), (1, .ref A)]) (st2 := [.int 0]) (w3 := w) rfl rfl ?_
    refine sx_RP.ret (r := (some (.int 0))) rfl rfl ?_
    exact ⟨⟨0, by decide, rfl⟩, hI, hE⟩
  · refine sx_RP.cu (as := [.ref A]) (rest2 := []) (st3 := [.int 1]) rfl rfl (sx_inv_v2 (mi := 109) (k := 100) (st := [.ref A]) (w := w) rfl rfl (hI.1.oC hA) rfl rfl rfl) rfl rfl (c1) rfl ?_
    refine sx_RP.step (pc2 := 9) (ls2 := [(0, .ref 96), (1, .ref A)]) (st2 := []) (w3 := w) rfl rfl ?_
    refine sx_RP.step (pc2 := 10) (ls2 := [(0, .ref 96), (1, .ref A)]) (st2 := [.ref 96]) (w3 := w) rfl rfl ?_
    refine sx_RP.callp (as2 := [.ref 96]) (rest2 := []) rfl rfl (sx_inv_v2 (mi := 109) (k := 29) (st := [.ref 96]) (w := w) rfl rfl hI.1.o96 rfl rfl rfl) rfl rfl rfl (s94 hI ) (show _ = 13 from rfl) ?_
    rintro r4 w5 ⟨rfl, hI6, hE8⟩
    have hE7 := hE.tr hE8.ec
    have ex9 := (hE8.fi (a := A) (by have := hA; unfold isA at this; omega) 5).trans ex4
    show sx_RP _ _ _ _ _ [] _ _
    refine sx_RP.step (pc2 := 14) (ls2 := [(0, .ref 96), (1, .ref A)]) (st2 := [.ref 96]) (w3 := w5) rfl rfl ?_
    refine sx_RP.step (pc2 := 15) (ls2 := [(0, .ref 96), (1, .ref A)]) (st2 := [.int 0, .ref 96]) (w3 := w5) rfl rfl ?_
    refine sx_RP.step (pc2 := 17) (ls2 := [(0, .ref 96), (1, .ref A)]) (st2 := [.int 47, .int 0, .ref 96]) (w3 := w5) rfl rfl ?_
    rcases p103 (xs := xs) (m := 0) (n := 47) hI6 (by omega) (by omega) with c10 | ⟨⟨x11, hx12, ex13⟩, c10⟩
    · refine sx_RP.cu (as := [.ref 96, .int 0, .int 47]) (rest2 := []) (st3 := [.int 0]) rfl rfl (sx_inv_v2 (mi := 109) (k := 66) (st := [.int 47, .int 0, .ref 96]) (w := w5) rfl rfl hI6.1.o96 rfl rfl rfl) rfl rfl (c10) rfl ?_
      refine sx_RP.step (pc2 := 23) (ls2 := [(0, .ref 96), (1, .ref A)]) (st2 := []) (w3 := w5) rfl rfl ?_
      refine sx_RP.step (pc2 := 24) (ls2 := [(0, .ref 96), (1, .ref A)]) (st2 := [.int 0]) (w3 := w5) rfl rfl ?_
      refine sx_RP.ret (r := (some (.int 0))) rfl rfl ?_
      exact ⟨⟨0, by decide, rfl⟩, hI6, hE7⟩
    · refine sx_RP.cu (as := [.ref 96, .int 0, .int 47]) (rest2 := []) (st3 := [.int 1]) rfl rfl (sx_inv_v2 (mi := 109) (k := 66) (st := [.int 47, .int 0, .ref 96]) (w := w5) rfl rfl hI6.1.o96 rfl rfl rfl) rfl rfl (c10) rfl ?_
      refine sx_RP.step (pc2 := 25) (ls2 := [(0, .ref 96), (1, .ref A)]) (st2 := []) (w3 := w5) rfl rfl ?_
      refine sx_RP.step (pc2 := 26) (ls2 := [(0, .ref 96), (1, .ref A)]) (st2 := [.ref A]) (w3 := w5) rfl rfl ?_
      refine sx_RP.step (pc2 := 27) (ls2 := [(0, .ref 96), (1, .ref A)]) (st2 := [.ref 96, .ref A]) (w3 := w5) rfl rfl ?_
      refine sx_RP.gt (k := 5) hI6 rfl rfl (by decide) (show _ = 30 from rfl) ?_
      rw [ex13]
      refine sx_RP.callp (as2 := [.ref A, .int (nI x11)]) (rest2 := []) rfl rfl (sx_inv_v2 (mi := 109) (k := 103) (st := [.int (nI x11), .ref A]) (w := w5) rfl rfl (hI6.1.oC hA) rfl rfl rfl) rfl rfl rfl (s64 hI6 hA (by omega) ex9 (show x11 < 48 by omega)) (show _ = 33 from rfl) ?_
      rintro r4 w15 ⟨⟨v14, rfl⟩, hI16, hE18⟩
      have hE17 := hE7.tr hE18
      show sx_RP _ _ _ _ _ [.int v14] _ _
      refine sx_RP.step (pc2 := 34) (ls2 := [(0, .ref 96), (1, .ref A)]) (st2 := []) (w3 := w15) rfl rfl ?_
      refine sx_RP.step (pc2 := 35) (ls2 := [(0, .ref 96), (1, .ref A)]) (st2 := [.ref 96]) (w3 := w15) rfl rfl ?_
      refine sx_RP.callp (as2 := [.ref 96]) (rest2 := []) rfl rfl (sx_inv_v2 (mi := 109) (k := 29) (st := [.ref 96]) (w := w15) rfl rfl hI16.1.o96 rfl rfl rfl) rfl rfl rfl (s94 hI16 ) (show _ = 38 from rfl) ?_
      rintro r4 w19 ⟨rfl, hI20, hE22⟩
      have hE21 := hE17.tr hE22.ec
      show sx_RP _ _ _ _ _ [] _ _
      refine sx_RP.step (pc2 := 39) (ls2 := [(0, .ref 96), (1, .ref A)]) (st2 := [.int 1]) (w3 := w19) rfl rfl ?_
      refine sx_RP.ret (r := (some (.int 1))) rfl rfl ?_
      exact ⟨⟨1, by decide, rfl⟩, hI20, hE21⟩
set_option maxRecDepth 20000 in
set_option maxHeartbeats 4000000 in
theorem s110 {xs : Option (List Int32)} {d : Nat} {w : List sx_C} (hI : WI w) {A : Nat} (hA : isA A) : sx_RP xs (d + 4) 110 0 (lv_args 0 [.ref 96, .ref A]) [] w (fun r w2 => (∃ j, j ≤ 1 ∧ r = some (.int (nI j))) ∧ WI w2 ∧ EC w w2) := by
  have hE : EC w w := EC.rf
  refine sx_RP.step (pc2 := 1) (ls2 := [(0, .ref 96), (1, .ref A)]) (st2 := [.ref 96]) (w3 := w) rfl rfl ?_
  refine sx_RP.callp (as2 := [.ref 96]) (rest2 := []) rfl rfl (sx_inv_v2 (mi := 110) (k := 29) (st := [.ref 96]) (w := w) rfl rfl hI.1.o96 rfl rfl rfl) rfl rfl rfl (s94 hI ) (show _ = 4 from rfl) ?_
  rintro r4 w1 ⟨rfl, hI2, hE4⟩
  have hE3 := hE.tr hE4.ec
  show sx_RP _ _ _ _ _ [] _ _
  refine sx_RP.step (pc2 := 5) (ls2 := [(0, .ref 96), (1, .ref A)]) (st2 := [.ref 96]) (w3 := w1) rfl rfl ?_
  refine sx_RP.step (pc2 := 6) (ls2 := [(0, .ref 96), (1, .ref A)]) (st2 := [.int 0, .ref 96]) (w3 := w1) rfl rfl ?_
  refine sx_RP.step (pc2 := 8) (ls2 := [(0, .ref 96), (1, .ref A)]) (st2 := [.int 999999, .int 0, .ref 96]) (w3 := w1) rfl rfl ?_
  rcases p103 (xs := xs) (m := 0) (n := 999999) hI2 (by omega) (by omega) with c5 | ⟨⟨x6, hx7, ex8⟩, c5⟩
  · refine sx_RP.cu (as := [.ref 96, .int 0, .int 999999]) (rest2 := []) (st3 := [.int 0]) rfl rfl (sx_inv_v2 (mi := 110) (k := 66) (st := [.int 999999, .int 0, .ref 96]) (w := w1) rfl rfl hI2.1.o96 rfl rfl rfl) rfl rfl (c5) rfl ?_
    refine sx_RP.step (pc2 := 14) (ls2 := [(0, .ref 96), (1, .ref A)]) (st2 := []) (w3 := w1) rfl rfl ?_
    refine sx_RP.step (pc2 := 15) (ls2 := [(0, .ref 96), (1, .ref A)]) (st2 := [.int 0]) (w3 := w1) rfl rfl ?_
    refine sx_RP.ret (r := (some (.int 0))) rfl rfl ?_
    exact ⟨⟨0, by decide, rfl⟩, hI2, hE3⟩
  · refine sx_RP.cu (as := [.ref 96, .int 0, .int 999999]) (rest2 := []) (st3 := [.int 1]) rfl rfl (sx_inv_v2 (mi := 110) (k := 66) (st := [.int 999999, .int 0, .ref 96]) (w := w1) rfl rfl hI2.1.o96 rfl rfl rfl) rfl rfl (c5) rfl ?_
    refine sx_RP.step (pc2 := 16) (ls2 := [(0, .ref 96), (1, .ref A)]) (st2 := []) (w3 := w1) rfl rfl ?_
    refine sx_RP.step (pc2 := 17) (ls2 := [(0, .ref 96), (1, .ref A)]) (st2 := [.ref A]) (w3 := w1) rfl rfl ?_
    refine sx_RP.step (pc2 := 18) (ls2 := [(0, .ref 96), (1, .ref A)]) (st2 := [.ref 96, .ref A]) (w3 := w1) rfl rfl ?_
    refine sx_RP.gt (k := 5) hI2 rfl rfl (by decide) (show _ = 21 from rfl) ?_
    rw [ex8]
    refine sx_RP.putc (k := 8) hI2 hE3 hA rfl rfl (by omega) rfl trivial (show _ = 24 from rfl) (fun w9 hI10 hE11 => ?_)
    refine sx_RP.step (pc2 := 25) (ls2 := [(0, .ref 96), (1, .ref A)]) (st2 := [.ref 96]) (w3 := w9) rfl rfl ?_
    refine sx_RP.callp (as2 := [.ref 96]) (rest2 := []) rfl rfl (sx_inv_v2 (mi := 110) (k := 29) (st := [.ref 96]) (w := w9) rfl rfl hI10.1.o96 rfl rfl rfl) rfl rfl rfl (s94 hI10 ) (show _ = 28 from rfl) ?_
    rintro r4 w12 ⟨rfl, hI13, hE15⟩
    have hE14 := hE11.tr hE15.ec
    show sx_RP _ _ _ _ _ [] _ _
    refine sx_RP.step (pc2 := 29) (ls2 := [(0, .ref 96), (1, .ref A)]) (st2 := [.ref 96]) (w3 := w12) rfl rfl ?_
    refine sx_RP.step (pc2 := 31) (ls2 := [(0, .ref 96), (1, .ref A)]) (st2 := [.float 108, .ref 96]) (w3 := w12) rfl rfl ?_
    obtain ⟨x16, hx17, c18⟩ := p101 (xs := xs) (k := 108) hI13 (by decide) rfl (by decide)
    refine sx_RP.cu (as := [.ref 96, .float 108]) (rest2 := []) (st3 := [.int (nI x16)]) rfl rfl (sx_inv_v2 (mi := 110) (k := 52) (st := [.float 108, .ref 96]) (w := w12) rfl rfl hI13.1.o96 rfl rfl rfl) rfl rfl (c18) rfl ?_
    refine sx_RP.br (p1 := 64) (l1 := [(0, .ref 96), (1, .ref A)]) (s1 := []) (v1 := w12) (p2 := 37) (l2 := [(0, .ref 96), (1, .ref A)]) (s2 := []) (v2 := w12) rfl rfl (fun q19 => ?_) (fun q19 => ?_)
    · replace q19 := of_decide_eq_true q19
      replace q19 := (nI_eq (a := x16) (b := 0) (by omega) (by omega)).mp q19
      refine sx_RP.step (pc2 := 65) (ls2 := [(0, .ref 96), (1, .ref A)]) (st2 := [.ref 96]) (w3 := w12) rfl rfl ?_
      refine sx_RP.step (pc2 := 67) (ls2 := [(0, .ref 96), (1, .ref A)]) (st2 := [.float 111, .ref 96]) (w3 := w12) rfl rfl ?_
      obtain ⟨x20, hx21, c22⟩ := p101 (xs := xs) (k := 111) hI13 (by decide) rfl (by decide)
      refine sx_RP.cu (as := [.ref 96, .float 111]) (rest2 := []) (st3 := [.int (nI x20)]) rfl rfl (sx_inv_v2 (mi := 110) (k := 52) (st := [.float 111, .ref 96]) (w := w12) rfl rfl hI13.1.o96 rfl rfl rfl) rfl rfl (c22) rfl ?_
      refine sx_RP.br (p1 := 99) (l1 := [(0, .ref 96), (1, .ref A)]) (s1 := []) (v1 := w12) (p2 := 73) (l2 := [(0, .ref 96), (1, .ref A)]) (s2 := []) (v2 := w12) rfl rfl (fun q23 => ?_) (fun q23 => ?_)
      · replace q23 := of_decide_eq_true q23
        replace q23 := (nI_eq (a := x20) (b := 0) (by omega) (by omega)).mp q23
        refine sx_RP.step (pc2 := 100) (ls2 := [(0, .ref 96), (1, .ref A)]) (st2 := [.int 1]) (w3 := w12) rfl rfl ?_
        refine sx_RP.ret (r := (some (.int 1))) rfl rfl ?_
        exact ⟨⟨1, by decide, rfl⟩, hI13, hE14⟩
      · replace q23 := of_decide_eq_false q23
        replace q23 := mt (nI_eq (a := x20) (b := 0) (by omega) (by omega)).mpr q23
        refine sx_RP.step (pc2 := 74) (ls2 := [(0, .ref 96), (1, .ref A)]) (st2 := [.ref 96]) (w3 := w12) rfl rfl ?_
        refine sx_RP.step (pc2 := 76) (ls2 := [(0, .ref 96), (1, .ref A)]) (st2 := [.float 111, .ref 96]) (w3 := w12) rfl rfl ?_
        refine sx_RP.step (pc2 := 77) (ls2 := [(0, .ref 96), (1, .ref A)]) (st2 := [.int 1, .float 111, .ref 96]) (w3 := w12) rfl rfl ?_
        refine sx_RP.step (pc2 := 79) (ls2 := [(0, .ref 96), (1, .ref A)]) (st2 := [.int 99, .int 1, .float 111, .ref 96]) (w3 := w12) rfl rfl ?_
        refine sx_RP.callp (as2 := [.ref 96, .float 111, .int 1, .int 99]) (rest2 := []) rfl rfl (sx_inv_v2 (mi := 110) (k := 90) (st := [.int 99, .int 1, .float 111, .ref 96]) (w := w12) rfl rfl hI13.1.o96 rfl rfl rfl) rfl rfl rfl (s108 (k := 111) (m := 1) (n := 99) hI13 (by decide) rfl (by decide) (by omega) (by omega)) (show _ = 82 from rfl) ?_
        rintro r4 w27 ⟨(rfl | ⟨⟨x24, hx25, ex26⟩, rfl⟩), hI28, hE30⟩
        · have hE29 := hE14.tr hE30.ec
          show sx_RP _ _ _ _ _ [.int 0] _ _
          refine sx_RP.step (pc2 := 85) (ls2 := [(0, .ref 96), (1, .ref A)]) (st2 := []) (w3 := w27) rfl rfl ?_
          refine sx_RP.step (pc2 := 86) (ls2 := [(0, .ref 96), (1, .ref A)]) (st2 := [.int 0]) (w3 := w27) rfl rfl ?_
          refine sx_RP.ret (r := (some (.int 0))) rfl rfl ?_
          exact ⟨⟨0, by decide, rfl⟩, hI28, hE29⟩
        · have hE29 := hE14.tr hE30.ec
          show sx_RP _ _ _ _ _ [.int 1] _ _
          refine sx_RP.step (pc2 := 87) (ls2 := [(0, .ref 96), (1, .ref A)]) (st2 := []) (w3 := w27) rfl rfl ?_
          refine sx_RP.step (pc2 := 88) (ls2 := [(0, .ref 96), (1, .ref A)]) (st2 := [.ref A]) (w3 := w27) rfl rfl ?_
          refine sx_RP.step (pc2 := 89) (ls2 := [(0, .ref 96), (1, .ref A)]) (st2 := [.ref 96, .ref A]) (w3 := w27) rfl rfl ?_
          refine sx_RP.gt (k := 5) hI28 rfl rfl (by decide) (show _ = 92 from rfl) ?_
          rw [ex26]
          refine sx_RP.putc (k := 10) hI28 hE29 hA rfl rfl (by omega) rfl trivial (show _ = 95 from rfl) (fun w31 hI32 hE33 => ?_)
          refine sx_RP.step (pc2 := 96) (ls2 := [(0, .ref 96), (1, .ref A)]) (st2 := [.ref 96]) (w3 := w31) rfl rfl ?_
          refine sx_RP.callp (as2 := [.ref 96]) (rest2 := []) rfl rfl (sx_inv_v2 (mi := 110) (k := 29) (st := [.ref 96]) (w := w31) rfl rfl hI32.1.o96 rfl rfl rfl) rfl rfl rfl (s94 hI32 ) (show _ = 99 from rfl) ?_
          rintro r4 w34 ⟨rfl, hI35, hE37⟩
          have hE36 := hE33.tr hE37.ec
          show sx_RP _ _ _ _ _ [] _ _
          refine sx_RP.step (pc2 := 100) (ls2 := [(0, .ref 96), (1, .ref A)]) (st2 := [.int 1]) (w3 := w34) rfl rfl ?_
          refine sx_RP.ret (r := (some (.int 1))) rfl rfl ?_
          exact ⟨⟨1, by decide, rfl⟩, hI35, hE36⟩
    · replace q19 := of_decide_eq_false q19
      replace q19 := mt (nI_eq (a := x16) (b := 0) (by omega) (by omega)).mpr q19
      refine sx_RP.step (pc2 := 38) (ls2 := [(0, .ref 96), (1, .ref A)]) (st2 := [.ref 96]) (w3 := w12) rfl rfl ?_
      refine sx_RP.step (pc2 := 40) (ls2 := [(0, .ref 96), (1, .ref A)]) (st2 := [.float 108, .ref 96]) (w3 := w12) rfl rfl ?_
      refine sx_RP.step (pc2 := 41) (ls2 := [(0, .ref 96), (1, .ref A)]) (st2 := [.int 1, .float 108, .ref 96]) (w3 := w12) rfl rfl ?_
      refine sx_RP.step (pc2 := 44) (ls2 := [(0, .ref 96), (1, .ref A)]) (st2 := [.int 999, .int 1, .float 108, .ref 96]) (w3 := w12) rfl rfl ?_
      refine sx_RP.callp (as2 := [.ref 96, .float 108, .int 1, .int 999]) (rest2 := []) rfl rfl (sx_inv_v2 (mi := 110) (k := 90) (st := [.int 999, .int 1, .float 108, .ref 96]) (w := w12) rfl rfl hI13.1.o96 rfl rfl rfl) rfl rfl rfl (s108 (k := 108) (m := 1) (n := 999) hI13 (by decide) rfl (by decide) (by omega) (by omega)) (show _ = 47 from rfl) ?_
      rintro r4 w41 ⟨(rfl | ⟨⟨x38, hx39, ex40⟩, rfl⟩), hI42, hE44⟩
      · have hE43 := hE14.tr hE44.ec
        show sx_RP _ _ _ _ _ [.int 0] _ _
        refine sx_RP.step (pc2 := 50) (ls2 := [(0, .ref 96), (1, .ref A)]) (st2 := []) (w3 := w41) rfl rfl ?_
        refine sx_RP.step (pc2 := 51) (ls2 := [(0, .ref 96), (1, .ref A)]) (st2 := [.int 0]) (w3 := w41) rfl rfl ?_
        refine sx_RP.ret (r := (some (.int 0))) rfl rfl ?_
        exact ⟨⟨0, by decide, rfl⟩, hI42, hE43⟩
      · have hE43 := hE14.tr hE44.ec
        show sx_RP _ _ _ _ _ [.int 1] _ _
        refine sx_RP.step (pc2 := 52) (ls2 := [(0, .ref 96), (1, .ref A)]) (st2 := []) (w3 := w41) rfl rfl ?_
        refine sx_RP.step (pc2 := 53) (ls2 := [(0, .ref 96), (1, .ref A)]) (st2 := [.ref A]) (w3 := w41) rfl rfl ?_
        refine sx_RP.step (pc2 := 54) (ls2 := [(0, .ref 96), (1, .ref A)]) (st2 := [.ref 96, .ref A]) (w3 := w41) rfl rfl ?_
        refine sx_RP.gt (k := 5) hI42 rfl rfl (by decide) (show _ = 57 from rfl) ?_
        rw [ex40]
        refine sx_RP.putc (k := 9) hI42 hE43 hA rfl rfl (by omega) rfl trivial (show _ = 60 from rfl) (fun w45 hI46 hE47 => ?_)
        refine sx_RP.step (pc2 := 61) (ls2 := [(0, .ref 96), (1, .ref A)]) (st2 := [.ref 96]) (w3 := w45) rfl rfl ?_
        refine sx_RP.callp (as2 := [.ref 96]) (rest2 := []) rfl rfl (sx_inv_v2 (mi := 110) (k := 29) (st := [.ref 96]) (w := w45) rfl rfl hI46.1.o96 rfl rfl rfl) rfl rfl rfl (s94 hI46 ) (show _ = 64 from rfl) ?_
        rintro r4 w48 ⟨rfl, hI49, hE51⟩
        have hE50 := hE47.tr hE51.ec
        show sx_RP _ _ _ _ _ [] _ _
        refine sx_RP.step (pc2 := 65) (ls2 := [(0, .ref 96), (1, .ref A)]) (st2 := [.ref 96]) (w3 := w48) rfl rfl ?_
        refine sx_RP.step (pc2 := 67) (ls2 := [(0, .ref 96), (1, .ref A)]) (st2 := [.float 111, .ref 96]) (w3 := w48) rfl rfl ?_
        obtain ⟨x52, hx53, c54⟩ := p101 (xs := xs) (k := 111) hI49 (by decide) rfl (by decide)
        refine sx_RP.cu (as := [.ref 96, .float 111]) (rest2 := []) (st3 := [.int (nI x52)]) rfl rfl (sx_inv_v2 (mi := 110) (k := 52) (st := [.float 111, .ref 96]) (w := w48) rfl rfl hI49.1.o96 rfl rfl rfl) rfl rfl (c54) rfl ?_
        refine sx_RP.br (p1 := 99) (l1 := [(0, .ref 96), (1, .ref A)]) (s1 := []) (v1 := w48) (p2 := 73) (l2 := [(0, .ref 96), (1, .ref A)]) (s2 := []) (v2 := w48) rfl rfl (fun q55 => ?_) (fun q55 => ?_)
        · replace q55 := of_decide_eq_true q55
          replace q55 := (nI_eq (a := x52) (b := 0) (by omega) (by omega)).mp q55
          refine sx_RP.step (pc2 := 100) (ls2 := [(0, .ref 96), (1, .ref A)]) (st2 := [.int 1]) (w3 := w48) rfl rfl ?_
          refine sx_RP.ret (r := (some (.int 1))) rfl rfl ?_
          exact ⟨⟨1, by decide, rfl⟩, hI49, hE50⟩
        · replace q55 := of_decide_eq_false q55
          replace q55 := mt (nI_eq (a := x52) (b := 0) (by omega) (by omega)).mpr q55
          refine sx_RP.step (pc2 := 74) (ls2 := [(0, .ref 96), (1, .ref A)]) (st2 := [.ref 96]) (w3 := w48) rfl rfl ?_
          refine sx_RP.step (pc2 := 76) (ls2 := [(0, .ref 96), (1, .ref A)]) (st2 := [.float 111, .ref 96]) (w3 := w48) rfl rfl ?_
          refine sx_RP.step (pc2 := 77) (ls2 := [(0, .ref 96), (1, .ref A)]) (st2 := [.int 1, .float 111, .ref 96]) (w3 := w48) rfl rfl ?_
          refine sx_RP.step (pc2 := 79) (ls2 := [(0, .ref 96), (1, .ref A)]) (st2 := [.int 99, .int 1, .float 111, .ref 96]) (w3 := w48) rfl rfl ?_
          refine sx_RP.callp (as2 := [.ref 96, .float 111, .int 1, .int 99]) (rest2 := []) rfl rfl (sx_inv_v2 (mi := 110) (k := 90) (st := [.int 99, .int 1, .float 111, .ref 96]) (w := w48) rfl rfl hI49.1.o96 rfl rfl rfl) rfl rfl rfl (s108 (k := 111) (m := 1) (n := 99) hI49 (by decide) rfl (by decide) (by omega) (by omega)) (show _ = 82 from rfl) ?_
          rintro r4 w59 ⟨(rfl | ⟨⟨x56, hx57, ex58⟩, rfl⟩), hI60, hE62⟩
          · have hE61 := hE50.tr hE62.ec
            show sx_RP _ _ _ _ _ [.int 0] _ _
            refine sx_RP.step (pc2 := 85) (ls2 := [(0, .ref 96), (1, .ref A)]) (st2 := []) (w3 := w59) rfl rfl ?_
            refine sx_RP.step (pc2 := 86) (ls2 := [(0, .ref 96), (1, .ref A)]) (st2 := [.int 0]) (w3 := w59) rfl rfl ?_
            refine sx_RP.ret (r := (some (.int 0))) rfl rfl ?_
            exact ⟨⟨0, by decide, rfl⟩, hI60, hE61⟩
          · have hE61 := hE50.tr hE62.ec
            show sx_RP _ _ _ _ _ [.int 1] _ _
            refine sx_RP.step (pc2 := 87) (ls2 := [(0, .ref 96), (1, .ref A)]) (st2 := []) (w3 := w59) rfl rfl ?_
            refine sx_RP.step (pc2 := 88) (ls2 := [(0, .ref 96), (1, .ref A)]) (st2 := [.ref A]) (w3 := w59) rfl rfl ?_
            refine sx_RP.step (pc2 := 89) (ls2 := [(0, .ref 96), (1, .ref A)]) (st2 := [.ref 96, .ref A]) (w3 := w59) rfl rfl ?_
            refine sx_RP.gt (k := 5) hI60 rfl rfl (by decide) (show _ = 92 from rfl) ?_
            rw [ex58]
            refine sx_RP.putc (k := 10) hI60 hE61 hA rfl rfl (by omega) rfl trivial (show _ = 95 from rfl) (fun w63 hI64 hE65 => ?_)
            refine sx_RP.step (pc2 := 96) (ls2 := [(0, .ref 96), (1, .ref A)]) (st2 := [.ref 96]) (w3 := w63) rfl rfl ?_
            refine sx_RP.callp (as2 := [.ref 96]) (rest2 := []) rfl rfl (sx_inv_v2 (mi := 110) (k := 29) (st := [.ref 96]) (w := w63) rfl rfl hI64.1.o96 rfl rfl rfl) rfl rfl rfl (s94 hI64 ) (show _ = 99 from rfl) ?_
            rintro r4 w66 ⟨rfl, hI67, hE69⟩
            have hE68 := hE65.tr hE69.ec
            show sx_RP _ _ _ _ _ [] _ _
            refine sx_RP.step (pc2 := 100) (ls2 := [(0, .ref 96), (1, .ref A)]) (st2 := [.int 1]) (w3 := w66) rfl rfl ?_
            refine sx_RP.ret (r := (some (.int 1))) rfl rfl ?_
            exact ⟨⟨1, by decide, rfl⟩, hI67, hE68⟩
set_option maxRecDepth 20000 in
set_option maxHeartbeats 4000000 in
theorem s98 {xs : Option (List Int32)} {d : Nat} {w : List sx_C} (hI : WI w) {A : Nat} (hA : isA A) : sx_RP xs (d + 5) 98 0 (lv_args 0 [.ref 96, .ref A]) [] w (fun r w2 => (∃ j, j ≤ 1 ∧ r = some (.int (nI j))) ∧ WI w2 ∧ EC w w2) := by
  have hE : EC w w := EC.rf
  refine sx_RP.step (pc2 := 1) (ls2 := [(0, .ref 96), (1, .ref A)]) (st2 := [.ref 96]) (w3 := w) rfl rfl ?_
  rcases p99 (xs := xs) hI with c1 | ⟨x2, hx3, c1⟩
  · refine sx_RP.cu (as := [.ref 96]) (rest2 := []) (st3 := [.int (-1)]) rfl rfl (sx_inv_v2 (mi := 98) (k := 36) (st := [.ref 96]) (w := w) rfl rfl hI.1.o96 rfl rfl rfl) rfl rfl (c1) rfl ?_
    refine sx_RP.step (pc2 := 5) (ls2 := [(2, .int (-1)), (0, .ref 96), (1, .ref A)]) (st2 := []) (w3 := w) rfl rfl ?_
    refine sx_RP.step (pc2 := 6) (ls2 := [(2, .int (-1)), (0, .ref 96), (1, .ref A)]) (st2 := [.int (-1)]) (w3 := w) rfl rfl ?_
    refine sx_RP.step (pc2 := 7) (ls2 := [(2, .int (-1)), (0, .ref 96), (1, .ref A)]) (st2 := [.int (-1), .int (-1)]) (w3 := w) rfl rfl ?_
    refine sx_RP.step (pc2 := 17) (ls2 := [(2, .int (-1)), (0, .ref 96), (1, .ref A)]) (st2 := []) (w3 := w) rfl rfl ?_
    refine sx_RP.step (pc2 := 18) (ls2 := [(2, .int (-1)), (0, .ref 96), (1, .ref A)]) (st2 := [.ref 96]) (w3 := w) rfl rfl ?_
    rcases p105 (xs := xs) hI with c4 | ⟨x5, hx6, c4⟩
    · refine sx_RP.cu (as := [.ref 96]) (rest2 := []) (st3 := [.int (-1)]) rfl rfl (sx_inv_v2 (mi := 98) (k := 44) (st := [.ref 96]) (w := w) rfl rfl hI.1.o96 rfl rfl rfl) rfl rfl (c4) rfl ?_
      refine sx_RP.step (pc2 := 22) (ls2 := [(3, .int (-1)), (2, .int (-1)), (0, .ref 96), (1, .ref A)]) (st2 := []) (w3 := w) rfl rfl ?_
      refine sx_RP.step (pc2 := 23) (ls2 := [(3, .int (-1)), (2, .int (-1)), (0, .ref 96), (1, .ref A)]) (st2 := [.int (-1)]) (w3 := w) rfl rfl ?_
      refine sx_RP.step (pc2 := 24) (ls2 := [(3, .int (-1)), (2, .int (-1)), (0, .ref 96), (1, .ref A)]) (st2 := [.int (-1), .int (-1)]) (w3 := w) rfl rfl ?_
      refine sx_RP.step (pc2 := 34) (ls2 := [(3, .int (-1)), (2, .int (-1)), (0, .ref 96), (1, .ref A)]) (st2 := []) (w3 := w) rfl rfl ?_
      refine sx_RP.step (pc2 := 35) (ls2 := [(3, .int (-1)), (2, .int (-1)), (0, .ref 96), (1, .ref A)]) (st2 := [.ref 96]) (w3 := w) rfl rfl ?_
      refine sx_RP.step (pc2 := 37) (ls2 := [(3, .int (-1)), (2, .int (-1)), (0, .ref 96), (1, .ref A)]) (st2 := [.float 104, .ref 96]) (w3 := w) rfl rfl ?_
      obtain ⟨x7, hx8, c9⟩ := p101 (xs := xs) (k := 104) hI (by decide) rfl (by decide)
      refine sx_RP.cu (as := [.ref 96, .float 104]) (rest2 := []) (st3 := [.int (nI x7)]) rfl rfl (sx_inv_v2 (mi := 98) (k := 52) (st := [.float 104, .ref 96]) (w := w) rfl rfl hI.1.o96 rfl rfl rfl) rfl rfl (c9) rfl ?_
      refine sx_RP.br (p1 := 49) (l1 := [(3, .int (-1)), (2, .int (-1)), (0, .ref 96), (1, .ref A)]) (s1 := []) (v1 := w) (p2 := 43) (l2 := [(3, .int (-1)), (2, .int (-1)), (0, .ref 96), (1, .ref A)]) (s2 := []) (v2 := w) rfl rfl (fun q10 => ?_) (fun q10 => ?_)
      · replace q10 := of_decide_eq_true q10
        replace q10 := (nI_eq (a := x7) (b := 0) (by omega) (by omega)).mp q10
        refine sx_RP.step (pc2 := 50) (ls2 := [(3, .int (-1)), (2, .int (-1)), (0, .ref 96), (1, .ref A)]) (st2 := [.ref 96]) (w3 := w) rfl rfl ?_
        refine sx_RP.step (pc2 := 52) (ls2 := [(3, .int (-1)), (2, .int (-1)), (0, .ref 96), (1, .ref A)]) (st2 := [.float 101, .ref 96]) (w3 := w) rfl rfl ?_
        obtain ⟨x11, hx12, c13⟩ := p101 (xs := xs) (k := 101) hI (by decide) rfl (by decide)
        refine sx_RP.cu (as := [.ref 96, .float 101]) (rest2 := []) (st3 := [.int (nI x11)]) rfl rfl (sx_inv_v2 (mi := 98) (k := 52) (st := [.float 101, .ref 96]) (w := w) rfl rfl hI.1.o96 rfl rfl rfl) rfl rfl (c13) rfl ?_
        refine sx_RP.br (p1 := 70) (l1 := [(3, .int (-1)), (2, .int (-1)), (0, .ref 96), (1, .ref A)]) (s1 := []) (v1 := w) (p2 := 58) (l2 := [(3, .int (-1)), (2, .int (-1)), (0, .ref 96), (1, .ref A)]) (s2 := []) (v2 := w) rfl rfl (fun q14 => ?_) (fun q14 => ?_)
        · replace q14 := of_decide_eq_true q14
          replace q14 := (nI_eq (a := x11) (b := 0) (by omega) (by omega)).mp q14
          refine sx_RP.step (pc2 := 71) (ls2 := [(3, .int (-1)), (2, .int (-1)), (0, .ref 96), (1, .ref A)]) (st2 := [.int 0]) (w3 := w) rfl rfl ?_
          refine sx_RP.ret (r := (some (.int 0))) rfl rfl ?_
          exact ⟨⟨0, by decide, rfl⟩, hI, hE⟩
        · replace q14 := of_decide_eq_false q14
          replace q14 := mt (nI_eq (a := x11) (b := 0) (by omega) (by omega)).mpr q14
          refine sx_RP.step (pc2 := 59) (ls2 := [(3, .int (-1)), (2, .int (-1)), (0, .ref 96), (1, .ref A)]) (st2 := [.ref 96]) (w3 := w) rfl rfl ?_
          refine sx_RP.step (pc2 := 60) (ls2 := [(3, .int (-1)), (2, .int (-1)), (0, .ref 96), (1, .ref A)]) (st2 := [.ref A, .ref 96]) (w3 := w) rfl rfl ?_
          refine sx_RP.callp (as2 := [.ref 96, .ref A]) (rest2 := []) rfl rfl (sx_inv_v2 (mi := 98) (k := 61) (st := [.ref A, .ref 96]) (w := w) rfl rfl hI.1.o96 rfl rfl rfl) rfl rfl rfl (s110 hI hA) (show _ = 63 from rfl) ?_
          rintro r4 w17 ⟨⟨x15, hx16, rfl⟩, hI18, hE20⟩
          have hE19 := hE.tr hE20
          show sx_RP _ _ _ _ _ [.int (nI x15)] _ _
          refine sx_RP.br (p1 := 70) (l1 := [(3, .int (-1)), (2, .int (-1)), (0, .ref 96), (1, .ref A)]) (s1 := []) (v1 := w17) (p2 := 66) (l2 := [(3, .int (-1)), (2, .int (-1)), (0, .ref 96), (1, .ref A)]) (s2 := []) (v2 := w17) rfl rfl (fun q21 => ?_) (fun q21 => ?_)
          · replace q21 := of_decide_eq_true q21
            replace q21 := (nI_eq (a := x15) (b := 0) (by omega) (by omega)).mp q21
            refine sx_RP.step (pc2 := 71) (ls2 := [(3, .int (-1)), (2, .int (-1)), (0, .ref 96), (1, .ref A)]) (st2 := [.int 0]) (w3 := w17) rfl rfl ?_
            refine sx_RP.ret (r := (some (.int 0))) rfl rfl ?_
            exact ⟨⟨0, by decide, rfl⟩, hI18, hE19⟩
          · replace q21 := of_decide_eq_false q21
            replace q21 := mt (nI_eq (a := x15) (b := 0) (by omega) (by omega)).mpr q21
            refine sx_RP.step (pc2 := 67) (ls2 := [(3, .int (-1)), (2, .int (-1)), (0, .ref 96), (1, .ref A)]) (st2 := [.int 1]) (w3 := w17) rfl rfl ?_
            refine sx_RP.step (pc2 := 71) (ls2 := [(3, .int (-1)), (2, .int (-1)), (0, .ref 96), (1, .ref A)]) (st2 := [.int 1]) (w3 := w17) rfl rfl ?_
            refine sx_RP.ret (r := (some (.int 1))) rfl rfl ?_
            exact ⟨⟨1, by decide, rfl⟩, hI18, hE19⟩
      · replace q10 := of_decide_eq_false q10
        replace q10 := mt (nI_eq (a := x7) (b := 0) (by omega) (by omega)).mpr q10
        refine sx_RP.step (pc2 := 44) (ls2 := [(3, .int (-1)), (2, .int (-1)), (0, .ref 96), (1, .ref A)]) (st2 := [.ref 96]) (w3 := w) rfl rfl ?_
        refine sx_RP.step (pc2 := 45) (ls2 := [(3, .int (-1)), (2, .int (-1)), (0, .ref 96), (1, .ref A)]) (st2 := [.ref A, .ref 96]) (w3 := w) rfl rfl ?_
        refine sx_RP.callp (as2 := [.ref 96, .ref A]) (rest2 := []) rfl rfl (sx_inv_v2 (mi := 98) (k := 56) (st := [.ref A, .ref 96]) (w := w) rfl rfl hI.1.o96 rfl rfl rfl) rfl rfl rfl (s109 hI hA) (show _ = 48 from rfl) ?_
        rintro r4 w24 ⟨⟨x22, hx23, rfl⟩, hI25, hE27⟩
        have hE26 := hE.tr hE27
        show sx_RP _ _ _ _ _ [.int (nI x22)] _ _
        refine sx_RP.ret (r := (some (.int (nI x22)))) rfl (bo_ret rfl (inR.n (show x22 ≤ 1 by omega))) ?_
        exact ⟨⟨x22, by omega, rfl⟩, hI25, hE26⟩
    · refine sx_RP.cu (as := [.ref 96]) (rest2 := []) (st3 := [.int (nI x5)]) rfl rfl (sx_inv_v2 (mi := 98) (k := 44) (st := [.ref 96]) (w := w) rfl rfl hI.1.o96 rfl rfl rfl) rfl rfl (c4) rfl ?_
      refine sx_RP.step (pc2 := 22) (ls2 := [(3, .int (nI x5)), (2, .int (-1)), (0, .ref 96), (1, .ref A)]) (st2 := []) (w3 := w) rfl rfl ?_
      refine sx_RP.step (pc2 := 23) (ls2 := [(3, .int (nI x5)), (2, .int (-1)), (0, .ref 96), (1, .ref A)]) (st2 := [.int (nI x5)]) (w3 := w) rfl rfl ?_
      refine sx_RP.step (pc2 := 24) (ls2 := [(3, .int (nI x5)), (2, .int (-1)), (0, .ref 96), (1, .ref A)]) (st2 := [.int (-1), .int (nI x5)]) (w3 := w) rfl rfl ?_
      refine sx_RP.br (p2 := 27) (l2 := [(3, .int (nI x5)), (2, .int (-1)), (0, .ref 96), (1, .ref A)]) (s2 := []) (v2 := w) rfl rfl (fun q => absurd (of_decide_eq_true q) (nI_ne1 (by omega))) (fun _ => ?_)
      refine sx_RP.step (pc2 := 28) (ls2 := [(3, .int (nI x5)), (2, .int (-1)), (0, .ref 96), (1, .ref A)]) (st2 := [.ref 96]) (w3 := w) rfl rfl ?_
      refine sx_RP.step (pc2 := 29) (ls2 := [(3, .int (nI x5)), (2, .int (-1)), (0, .ref 96), (1, .ref A)]) (st2 := [.int (nI x5), .ref 96]) (w3 := w) rfl rfl ?_
      refine sx_RP.step (pc2 := 30) (ls2 := [(3, .int (nI x5)), (2, .int (-1)), (0, .ref 96), (1, .ref A)]) (st2 := [.ref A, .int (nI x5), .ref 96]) (w3 := w) rfl rfl ?_
      refine sx_RP.callp (as2 := [.ref 96, .int (nI x5), .ref A]) (rest2 := []) rfl rfl (sx_inv_v2 (mi := 98) (k := 47) (st := [.ref A, .int (nI x5), .ref 96]) (w := w) rfl rfl hI.1.o96 rfl rfl rfl) rfl rfl rfl (s107 hI hA (show x5 ≤ 5 by omega)) (show _ = 33 from rfl) ?_
      rintro r4 w30 ⟨⟨x28, hx29, rfl⟩, hI31, hE33⟩
      have hE32 := hE.tr hE33
      show sx_RP _ _ _ _ _ [.int (nI x28)] _ _
      refine sx_RP.ret (r := (some (.int (nI x28)))) rfl (bo_ret rfl (inR.n (show x28 ≤ 1 by omega))) ?_
      exact ⟨⟨x28, by omega, rfl⟩, hI31, hE32⟩
  · refine sx_RP.cu (as := [.ref 96]) (rest2 := []) (st3 := [.int (nI x2)]) rfl rfl (sx_inv_v2 (mi := 98) (k := 36) (st := [.ref 96]) (w := w) rfl rfl hI.1.o96 rfl rfl rfl) rfl rfl (c1) rfl ?_
    refine sx_RP.step (pc2 := 5) (ls2 := [(2, .int (nI x2)), (0, .ref 96), (1, .ref A)]) (st2 := []) (w3 := w) rfl rfl ?_
    refine sx_RP.step (pc2 := 6) (ls2 := [(2, .int (nI x2)), (0, .ref 96), (1, .ref A)]) (st2 := [.int (nI x2)]) (w3 := w) rfl rfl ?_
    refine sx_RP.step (pc2 := 7) (ls2 := [(2, .int (nI x2)), (0, .ref 96), (1, .ref A)]) (st2 := [.int (-1), .int (nI x2)]) (w3 := w) rfl rfl ?_
    refine sx_RP.br (p2 := 10) (l2 := [(2, .int (nI x2)), (0, .ref 96), (1, .ref A)]) (s2 := []) (v2 := w) rfl rfl (fun q => absurd (of_decide_eq_true q) (nI_ne1 (by omega))) (fun _ => ?_)
    refine sx_RP.step (pc2 := 11) (ls2 := [(2, .int (nI x2)), (0, .ref 96), (1, .ref A)]) (st2 := [.ref 96]) (w3 := w) rfl rfl ?_
    refine sx_RP.step (pc2 := 12) (ls2 := [(2, .int (nI x2)), (0, .ref 96), (1, .ref A)]) (st2 := [.int (nI x2), .ref 96]) (w3 := w) rfl rfl ?_
    refine sx_RP.step (pc2 := 13) (ls2 := [(2, .int (nI x2)), (0, .ref 96), (1, .ref A)]) (st2 := [.ref A, .int (nI x2), .ref 96]) (w3 := w) rfl rfl ?_
    refine sx_RP.callp (as2 := [.ref 96, .int (nI x2), .ref A]) (rest2 := []) rfl rfl (sx_inv_v2 (mi := 98) (k := 40) (st := [.ref A, .int (nI x2), .ref 96]) (w := w) rfl rfl hI.1.o96 rfl rfl rfl) rfl rfl rfl (s102 hI hA (show x2 ≤ 4 by omega)) (show _ = 16 from rfl) ?_
    rintro r4 w36 ⟨⟨x34, hx35, rfl⟩, hI37, hE39⟩
    have hE38 := hE.tr hE39
    show sx_RP _ _ _ _ _ [.int (nI x34)] _ _
    refine sx_RP.ret (r := (some (.int (nI x34)))) rfl (bo_ret rfl (inR.n (show x34 ≤ 1 by omega))) ?_
    exact ⟨⟨x34, by omega, rfl⟩, hI37, hE38⟩
set_option maxRecDepth 20000 in
set_option maxHeartbeats 4000000 in
theorem s93B {xs : Option (List Int32)} {d : Nat} {w w0 : List sx_C} {A : Nat} (hA : isA A) (hI : WI w) (hE : EC w0 w) {j : Nat} (hj : j ≤ 121) (n : Int32) (kk : ∀ (w4 : List sx_C) (un : Int32), WI w4 → EC w0 w4 → j + 1 ≤ 121 → sx_RP xs (d + 6) 93 13 [(0, .ref 96), (1, .ref A), (2, .int un), (3, .int (nI (j + 1)))] [] w4 (fun r w2 => (∃ v : Int32, r = some (.int v)) ∧ WI w2 ∧ EC w0 w2)) : sx_RP xs (d + 6) 93 13 [(0, .ref 96), (1, .ref A), (2, .int n), (3, .int (nI j))] [] w (fun r w2 => (∃ v : Int32, r = some (.int v)) ∧ WI w2 ∧ EC w0 w2) := by
  refine sx_RP.step (pc2 := 14) (ls2 := [(0, .ref 96), (1, .ref A), (2, .int n), (3, .int (nI j))]) (st2 := [.int (nI j)]) (w3 := w) rfl rfl ?_
  refine sx_RP.step (pc2 := 16) (ls2 := [(0, .ref 96), (1, .ref A), (2, .int n), (3, .int (nI j))]) (st2 := [.int 120, .int (nI j)]) (w3 := w) rfl rfl ?_
  refine sx_RP.br (p1 := 63) (l1 := [(0, .ref 96), (1, .ref A), (2, .int n), (3, .int (nI j))]) (s1 := []) (v1 := w) (p2 := 19) (l2 := [(0, .ref 96), (1, .ref A), (2, .int n), (3, .int (nI j))]) (s2 := []) (v2 := w) rfl rfl (fun q1 => ?_) (fun q1 => ?_)
  · replace q1 := of_decide_eq_true q1
    replace q1 := (nI_ltI (a := 120) (b := j) (by omega) (by omega)).mp q1
    refine sx_RP.step (pc2 := 64) (ls2 := [(0, .ref 96), (1, .ref A), (2, .int n), (3, .int (nI j))]) (st2 := [.int (-1)]) (w3 := w) rfl rfl ?_
    refine sx_RP.step (pc2 := 65) (ls2 := [(0, .ref 96), (1, .ref A), (2, .int n), (3, .int (nI j))]) (st2 := [.ref 96, .int (-1)]) (w3 := w) rfl rfl ?_
    refine sx_RP.gt (k := 3) hI rfl rfl (by decide) (show _ = 68 from rfl) ?_
    obtain ⟨x2, hx3, ex4⟩ : inR (fi w 96 3) 120 := hI.t.2.1
    rw [ex4]
    refine sx_RP.step (pc2 := 69) (ls2 := [(0, .ref 96), (1, .ref A), (2, .int n), (3, .int (nI j))]) (st2 := [.int ((-1) - (nI x2))]) (w3 := w) rfl rfl ?_
    refine sx_RP.ret (r := (some (.int ((-1) - (nI x2))))) rfl rfl ?_
    exact ⟨⟨_, rfl⟩, hI, hE⟩
  · replace q1 := of_decide_eq_false q1
    replace q1 := mt (nI_ltI (a := 120) (b := j) (by omega) (by omega)).mpr q1
    refine sx_RP.step (pc2 := 20) (ls2 := [(0, .ref 96), (1, .ref A), (2, .int n), (3, .int (nI j))]) (st2 := [.ref 96]) (w3 := w) rfl rfl ?_
    refine sx_RP.step (pc2 := 21) (ls2 := [(0, .ref 96), (1, .ref A), (2, .int n), (3, .int (nI j))]) (st2 := [.ref A, .ref 96]) (w3 := w) rfl rfl ?_
    refine sx_RP.callp (as2 := [.ref 96, .ref A]) (rest2 := []) rfl rfl (sx_inv_v2 (mi := 93) (k := 32) (st := [.ref A, .ref 96]) (w := w) rfl rfl hI.1.o96 rfl rfl rfl) rfl rfl rfl (s98 hI hA) (show _ = 24 from rfl) ?_
    rintro r4 w7 ⟨⟨x5, hx6, rfl⟩, hI8, hE10⟩
    have hE9 := hE.tr hE10
    show sx_RP _ _ _ _ _ [.int (nI x5)] _ _
    refine sx_RP.br (p1 := 30) (l1 := [(0, .ref 96), (1, .ref A), (2, .int n), (3, .int (nI j))]) (s1 := []) (v1 := w7) (p2 := 27) (l2 := [(0, .ref 96), (1, .ref A), (2, .int n), (3, .int (nI j))]) (s2 := []) (v2 := w7) rfl rfl (fun q11 => ?_) (fun q11 => ?_)
    · replace q11 := of_decide_eq_true q11
      replace q11 := mt (nI_eq (a := x5) (b := 0) (by omega) (by omega)).mpr q11
      refine sx_RP.step (pc2 := 33) (ls2 := [(2, .int (n + 1)), (0, .ref 96), (1, .ref A), (3, .int (nI j))]) (st2 := []) (w3 := w7) rfl rfl ?_
      refine sx_RP.step (pc2 := 34) (ls2 := [(2, .int (n + 1)), (0, .ref 96), (1, .ref A), (3, .int (nI j))]) (st2 := [.ref 96]) (w3 := w7) rfl rfl ?_
      refine sx_RP.gt (k := 2) hI8 rfl rfl (by decide) (show _ = 37 from rfl) ?_
      refine sx_RP.br (p1 := 42) (l1 := [(2, .int (n + 1)), (0, .ref 96), (1, .ref A), (3, .int (nI j))]) (s1 := []) (v1 := w7) (p2 := 40) (l2 := [(2, .int (n + 1)), (0, .ref 96), (1, .ref A), (3, .int (nI j))]) (s2 := []) (v2 := w7) rfl rfl (fun q12 => ?_) (fun q12 => ?_)
      · replace q12 := of_decide_eq_true q12
        refine sx_RP.step (pc2 := 43) (ls2 := [(2, .int (n + 1)), (0, .ref 96), (1, .ref A), (3, .int (nI j))]) (st2 := [.ref 96]) (w3 := w7) rfl rfl ?_
        refine sx_RP.gt (k := 2) hI8 rfl rfl (by decide) (show _ = 46 from rfl) ?_
        refine sx_RP.step (pc2 := 47) (ls2 := [(2, .int (n + 1)), (0, .ref 96), (1, .ref A), (3, .int (nI j))]) (st2 := [.int 3, .int (fi w7 96 2)]) (w3 := w7) rfl rfl ?_
        refine sx_RP.br (p1 := 53) (l1 := [(2, .int (n + 1)), (0, .ref 96), (1, .ref A), (3, .int (nI j))]) (s1 := []) (v1 := w7) (p2 := 50) (l2 := [(2, .int (n + 1)), (0, .ref 96), (1, .ref A), (3, .int (nI j))]) (s2 := []) (v2 := w7) rfl rfl (fun q13 => ?_) (fun q13 => ?_)
        · replace q13 := of_decide_eq_true q13
          refine sx_RP.step (pc2 := 54) (ls2 := [(2, .int (n + 1)), (0, .ref 96), (1, .ref A), (3, .int (nI j))]) (st2 := [.ref 96]) (w3 := w7) rfl rfl ?_
          refine sx_RP.callp (as2 := [.ref 96]) (rest2 := []) rfl rfl (sx_inv_v2 (mi := 93) (k := 29) (st := [.ref 96]) (w := w7) rfl rfl hI8.1.o96 rfl rfl rfl) rfl rfl rfl (s94 hI8 ) (show _ = 57 from rfl) ?_
          rintro r4 w14 ⟨rfl, hI15, hE17⟩
          have hE16 := hE9.tr hE17.ec
          show sx_RP _ _ _ _ _ [] _ _
          refine sx_RP.step (pc2 := 60) (ls2 := [(3, .int ((nI j) + 1)), (2, .int (n + 1)), (0, .ref 96), (1, .ref A)]) (st2 := []) (w3 := w14) rfl rfl ?_
          rw [nI_1 j]
          refine sx_RP.step (pc2 := 13) (ls2 := [(3, .int (nI (j + 1))), (2, .int (n + 1)), (0, .ref 96), (1, .ref A)]) (st2 := []) (w3 := w14) rfl rfl ?_
          exact sx_RP.ls (sx_lr.cons rfl (sx_lr.cons rfl (sx_lr.cons rfl (sx_lr.cons rfl sx_lr.nil)))) (kk w14 (n + 1) hI15 hE16 (by omega))
        · replace q13 := of_decide_eq_false q13
          refine sx_RP.step (pc2 := 63) (ls2 := [(2, .int (n + 1)), (0, .ref 96), (1, .ref A), (3, .int (nI j))]) (st2 := []) (w3 := w7) rfl rfl ?_
          refine sx_RP.step (pc2 := 64) (ls2 := [(2, .int (n + 1)), (0, .ref 96), (1, .ref A), (3, .int (nI j))]) (st2 := [.int (-1)]) (w3 := w7) rfl rfl ?_
          refine sx_RP.step (pc2 := 65) (ls2 := [(2, .int (n + 1)), (0, .ref 96), (1, .ref A), (3, .int (nI j))]) (st2 := [.ref 96, .int (-1)]) (w3 := w7) rfl rfl ?_
          refine sx_RP.gt (k := 3) hI8 rfl rfl (by decide) (show _ = 68 from rfl) ?_
          obtain ⟨x18, hx19, ex20⟩ : inR (fi w7 96 3) 120 := hI8.t.2.1
          rw [ex20]
          refine sx_RP.step (pc2 := 69) (ls2 := [(2, .int (n + 1)), (0, .ref 96), (1, .ref A), (3, .int (nI j))]) (st2 := [.int ((-1) - (nI x18))]) (w3 := w7) rfl rfl ?_
          refine sx_RP.ret (r := (some (.int ((-1) - (nI x18))))) rfl rfl ?_
          exact ⟨⟨_, rfl⟩, hI8, hE9⟩
      · replace q12 := Decidable.not_not.mp (of_decide_eq_false q12)
        refine sx_RP.step (pc2 := 41) (ls2 := [(2, .int (n + 1)), (0, .ref 96), (1, .ref A), (3, .int (nI j))]) (st2 := [.int (n + 1)]) (w3 := w7) rfl rfl ?_
        refine sx_RP.ret (r := (some (.int (n + 1)))) rfl rfl ?_
        exact ⟨⟨_, rfl⟩, hI8, hE9⟩
    · replace q11 := Decidable.not_not.mp (of_decide_eq_false q11)
      replace q11 := (nI_eq (a := x5) (b := 0) (by omega) (by omega)).mp q11
      refine sx_RP.step (pc2 := 63) (ls2 := [(0, .ref 96), (1, .ref A), (2, .int n), (3, .int (nI j))]) (st2 := []) (w3 := w7) rfl rfl ?_
      refine sx_RP.step (pc2 := 64) (ls2 := [(0, .ref 96), (1, .ref A), (2, .int n), (3, .int (nI j))]) (st2 := [.int (-1)]) (w3 := w7) rfl rfl ?_
      refine sx_RP.step (pc2 := 65) (ls2 := [(0, .ref 96), (1, .ref A), (2, .int n), (3, .int (nI j))]) (st2 := [.ref 96, .int (-1)]) (w3 := w7) rfl rfl ?_
      refine sx_RP.gt (k := 3) hI8 rfl rfl (by decide) (show _ = 68 from rfl) ?_
      obtain ⟨x21, hx22, ex23⟩ : inR (fi w7 96 3) 120 := hI8.t.2.1
      rw [ex23]
      refine sx_RP.step (pc2 := 69) (ls2 := [(0, .ref 96), (1, .ref A), (2, .int n), (3, .int (nI j))]) (st2 := [.int ((-1) - (nI x21))]) (w3 := w7) rfl rfl ?_
      refine sx_RP.ret (r := (some (.int ((-1) - (nI x21))))) rfl rfl ?_
      exact ⟨⟨_, rfl⟩, hI8, hE9⟩
set_option maxRecDepth 20000 in
set_option maxHeartbeats 4000000 in
theorem s93L {xs : Option (List Int32)} {d : Nat} {w0 : List sx_C} {A : Nat} (hA : isA A) : ∀ (fz j : Nat) (w : List sx_C) (n : Int32) , 121 ≤ j + fz * 1 → j ≤ 121 → WI w → EC w0 w → sx_RP xs (d + 6) 93 13 [(0, .ref 96), (1, .ref A), (2, .int n), (3, .int (nI j))] [] w (fun r w2 => (∃ v : Int32, r = some (.int v)) ∧ WI w2 ∧ EC w0 w2)
  | 0, j, w, n, h, hj, hI, hE => s93B hA hI hE hj n  (fun w4 un hI4 hE4 hlt  => absurd hlt (by omega)) 
  | fz + 1, j, w, n, h, hj, hI, hE => s93B hA hI hE hj n  (fun w4 un hI4 hE4 hlt  => s93L hA  fz (j + 1) w4 un (by omega) hlt hI4 hE4 ) 
set_option maxRecDepth 20000 in
set_option maxHeartbeats 4000000 in
theorem s93 {xs : Option (List Int32)} {d : Nat} {w : List sx_C} (hI : WI w) {A : Nat} (hA : isA A) : sx_RP xs (d + 6) 93 0 (lv_args 0 [.ref 96, .ref A]) [] w (fun r w2 => (∃ v : Int32, r = some (.int v)) ∧ WI w2 ∧ EC w w2) := by
  have hE : EC w w := EC.rf
  refine sx_RP.step (pc2 := 1) (ls2 := [(0, .ref 96), (1, .ref A)]) (st2 := [.ref 96]) (w3 := w) rfl rfl ?_
  refine sx_RP.step (pc2 := 2) (ls2 := [(0, .ref 96), (1, .ref A)]) (st2 := [.int 0, .ref 96]) (w3 := w) rfl rfl ?_
  refine sx_RP.pt (k := 4) hI hE rfl rfl (by decide) rfl (show inR 0 120 from ⟨0, by decide, rfl⟩) (show _ = 5 from rfl) (fun w1 hI2 hE3 ht4 ht5 ht6 => ?_)
  refine sx_RP.step (pc2 := 6) (ls2 := [(0, .ref 96), (1, .ref A)]) (st2 := [.ref 96]) (w3 := w1) rfl rfl ?_
  refine sx_RP.callp (as2 := [.ref 96]) (rest2 := []) rfl rfl (sx_inv_v2 (mi := 93) (k := 29) (st := [.ref 96]) (w := w1) rfl rfl hI2.1.o96 rfl rfl rfl) rfl rfl rfl (s94 hI2 ) (show _ = 9 from rfl) ?_
  rintro r4 w7 ⟨rfl, hI8, hE10⟩
  have hE9 := hE3.tr hE10.ec
  show sx_RP _ _ _ _ _ [] _ _
  refine sx_RP.step (pc2 := 10) (ls2 := [(0, .ref 96), (1, .ref A)]) (st2 := [.int 0]) (w3 := w7) rfl rfl ?_
  refine sx_RP.step (pc2 := 11) (ls2 := [(2, .int 0), (0, .ref 96), (1, .ref A)]) (st2 := []) (w3 := w7) rfl rfl ?_
  refine sx_RP.step (pc2 := 12) (ls2 := [(2, .int 0), (0, .ref 96), (1, .ref A)]) (st2 := [.int 0]) (w3 := w7) rfl rfl ?_
  refine sx_RP.step (pc2 := 13) (ls2 := [(3, .int 0), (2, .int 0), (0, .ref 96), (1, .ref A)]) (st2 := []) (w3 := w7) rfl rfl ?_
  exact sx_RP.ls (sx_lr.cons rfl (sx_lr.cons rfl (sx_lr.cons rfl (sx_lr.cons rfl sx_lr.nil)))) (s93L hA 121 0 w7 0 (by omega) (by omega) hI8 hE9 )
end
-- 55.special.lean.txt
section
-- runs that change one cell's kept part
def EX (b : Nat) (w w2 : List sx_C) : Prop := ∀ a, a ≠ b → (a < 111 → (w2[a]?).map (kp a) = (w[a]?).map (kp a)) ∧ (111 ≤ a → w2[a]? = w[a]?)
theorem EC.ex {b : Nat} {w w2 : List sx_C} (h : EC w w2) : EX b w w2 := fun a _ => h a
theorem EX.rf {b : Nat} {w : List sx_C} : EX b w w := fun _ _ => ⟨fun _ => rfl, fun _ => rfl⟩
theorem EX.tr {b : Nat} {w w1 w2 : List sx_C} (h : EX b w w1) (h2 : EX b w1 w2) : EX b w w2 := fun a ha => ⟨fun z => ((h2 a ha).1 z).trans ((h a ha).1 z), fun z => ((h2 a ha).2 z).trans ((h a ha).2 z)⟩
theorem EX.at {b : Nat} {w : List sx_C} {c : sx_C} : EX b w (w.set b c) := by
  intro a ha
  rw [List.getElem?_set_ne (Ne.symm ha)]
  exact ⟨fun _ => rfl, fun _ => rfl⟩
section SXX
variable {xs : Option (List Int32)} {d mi pc pc2 idx p : Nat} {ls : sx_L} {r : List Value} {w w0 : List sx_C} {P : Option Value → List sx_C → Prop}
/-- the tape's length -/
theorem sx_RP.pl {v : Int32} (hI : WI w) (hi : sx_ins mi pc = some (.putfield idx, 3)) (hq : sx_lk (sx_fl (sx_own mi)) idx = some (4, 1, p)) (hf : sx_fin mi 4 1 = true) (hv : inR v 120) (hp : pc + 3 = pc2) (kk : ∀ w2, WI w2 → EX 96 w w2 → fi w2 96 1 = v → sx_RP xs d mi pc2 ls r w2 P) : sx_RP xs d mi pc ls (.int v :: .ref 96 :: r) w P := by
  have hw := hI.1.o96
  have q := hI.t
  exact sx_RP.pf hi hq hw (by rw [hf]; rfl) rfl rfl hp (kk _ (hI.set hw rfl (cOK.t ⟨hv, q.2⟩)) EX.at (by unfold fi; rw [fs_set hw]; rfl))
/-- whether an image is kept -/
theorem sx_RP.pk {v : Int32} (hI : WI w) (hi : sx_ins mi pc = some (.putfield idx, 3)) (hq : sx_lk (sx_fl (sx_own mi)) idx = some (0, 3, p)) (hf : sx_fin mi 0 3 = true) (hv : inR v 1) (hp : pc + 3 = pc2) (kk : ∀ w2, WI w2 → EX 0 w w2 → fi w2 0 3 = v → sx_RP xs d mi pc2 ls r w2 P) : sx_RP xs d mi pc ls (.int v :: .ref 0 :: r) w P := by
  have hw := hI.1.o0
  exact sx_RP.pf hi hq hw (by rw [hf, show sx_okv (sx_ty 0 3) (.int v) = (v == 0 || v == 1) from rfl, inR.bo hv]; rfl) rfl rfl hp (kk _ (hI.set hw rfl (cOK.o hv)) EX.at (by unfold fi; rw [fs_set hw]; rfl))
/-- a sheet's bits, its size -/
theorem sx_RP.psb {v : Int32} {s : Nat} (hI : WI w) (hs : s < 4) (hi : sx_ins mi pc = some (.putfield idx, 3)) (hq : sx_lk (sx_fl (sx_own mi)) idx = some (5, 1, p)) (hf : sx_fin mi 5 1 = true) (hp : pc + 3 = pc2) (kk : ∀ w2, WI w2 → EX (103 + 2 * s) w w2 → fi w2 (103 + 2 * s) 1 = v → sx_RP xs d mi pc2 ls r w2 P) : sx_RP xs d mi pc ls (.int v :: .ref (103 + 2 * s) :: r) w P := by
  have hw := hI.1.oS hs
  exact sx_RP.pf hi hq hw (by rw [hf]; rfl) rfl rfl hp (kk _ (hI.set hw rfl (cOK.sh hs (hI.sh hs))) EX.at (by unfold fi; rw [fs_set hw]; rfl))
theorem sx_RP.pss {v : Int32} {s : Nat} (hI : WI w) (hs : s < 4) (hi : sx_ins mi pc = some (.putfield idx, 3)) (hq : sx_lk (sx_fl (sx_own mi)) idx = some (5, 2, p)) (hf : sx_fin mi 5 2 = true) (hv : inR v 40) (hp : pc + 3 = pc2) (kk : ∀ w2, WI w2 → EX (103 + 2 * s) w w2 → fi w2 (103 + 2 * s) 2 = v → fi w2 (103 + 2 * s) 1 = fi w (103 + 2 * s) 1 → sx_RP xs d mi pc2 ls r w2 P) : sx_RP xs d mi pc ls (.int v :: .ref (103 + 2 * s) :: r) w P := by
  have hw := hI.1.oS hs
  exact sx_RP.pf hi hq hw (by rw [hf]; rfl) rfl rfl hp (kk _ (hI.set hw rfl (cOK.sh hs hv)) EX.at (by unfold fi; rw [fs_set hw]; rfl) (by unfold fi; rw [fs_set hw]; rfl))
end SXX
-- what EC keeps, in words
theorem fs3 {c : sx_C} {k : Nat} {a : Nat} (h : kp a c = (((cf c)[k]?).toList, [])) : True := trivial
theorem kp_eq {a : Nat} {w w2 : List sx_C} {c c2 : sx_C} (h : (w2[a]?).map (kp a) = (w[a]?).map (kp a)) (h1 : w[a]? = some c) (h2 : w2[a]? = some c2) : kp a c2 = kp a c := by
  rw [h1, h2] at h
  exact Option.some.inj h
theorem keep0 {w w2 : List sx_C} (hI : WI w) (hI2 : WI w2) (h : (w2[0]?).map (kp 0) = (w[0]?).map (kp 0)) : fi w2 0 3 = fi w 0 3 := by
  have e := kp_eq h hI.1.o0 hI2.1.o0
  have e1 := (Prod.mk.inj e).1
  exact Value.int.inj (List.cons.inj e1).1
theorem keep96 {w w2 : List sx_C} (hI : WI w) (hI2 : WI w2) (h : (w2[96]?).map (kp 96) = (w[96]?).map (kp 96)) : fi w2 96 1 = fi w 96 1 := by
  have e := kp_eq h hI.1.o96 hI2.1.o96
  have e1 := (Prod.mk.inj e).1
  exact Value.int.inj (List.cons.inj e1).1
theorem keep111 {w w2 : List sx_C} (hI : WI w) (hI2 : WI w2) (h : (w2[111]?).map (kp 111) = (w[111]?).map (kp 111)) : fi w2 111 4 = fi w 111 4 ∧ fi w2 111 11 = fi w 111 11 := by
  have e := kp_eq h hI.1.o111 hI2.1.o111
  have e1 := (Prod.mk.inj e).1
  exact ⟨Value.int.inj (List.cons.inj e1).1, Value.int.inj (List.cons.inj (List.cons.inj e1).2).1⟩
set_option maxRecDepth 20000 in
set_option maxHeartbeats 4000000 in
theorem s91 {xs : Option (List Int32)} {d : Nat} {w : List sx_C} (hI : WI w) : sx_RP xs d 91 0 (lv_args 0 [.ref 96]) [] w (fun r w2 => r = some (.int (fi w 96 1)) ∧ WI w2 ∧ EX 96 w w2 ∧ fi w2 96 1 = 0) := by
  refine sx_RP.step (pc2 := 1) (ls2 := [(0, .ref 96)]) (st2 := [.ref 96]) (w3 := w) rfl rfl ?_
  refine sx_RP.gt (k := 1) hI rfl rfl (by decide) (show _ = 4 from rfl) ?_
  refine sx_RP.step (pc2 := 5) (ls2 := [(1, .int (fi w 96 1)), (0, .ref 96)]) (st2 := []) (w3 := w) rfl rfl ?_
  refine sx_RP.step (pc2 := 6) (ls2 := [(1, .int (fi w 96 1)), (0, .ref 96)]) (st2 := [.ref 96]) (w3 := w) rfl rfl ?_
  refine sx_RP.step (pc2 := 7) (ls2 := [(1, .int (fi w 96 1)), (0, .ref 96)]) (st2 := [.int 0, .ref 96]) (w3 := w) rfl rfl ?_
  refine sx_RP.pl hI rfl rfl rfl ⟨0, by decide, rfl⟩ (show _ = 10 from rfl) (fun w2 hI2 hE2 h2 => ?_)
  refine sx_RP.step (pc2 := 11) (ls2 := [(1, .int (fi w 96 1)), (0, .ref 96)]) (st2 := [.int (fi w 96 1)]) (w3 := w2) rfl rfl ?_
  refine sx_RP.ret rfl rfl ?_
  exact ⟨rfl, hI2, hE2, h2⟩
set_option maxRecDepth 20000 in
set_option maxHeartbeats 4000000 in
theorem s90 {xs : Option (List Int32)} {d : Nat} {w : List sx_C} (hI : WI w) : sx_RP xs (d + 7) 90 0 (lv_args 0 [.ref 0]) [] w (fun r w2 => r = some (.int (fi w 96 1)) ∧ WI w2 ∧ EX 96 w w2 ∧ fi w2 96 1 = 0) := by
  refine sx_RP.step (pc2 := 1) (ls2 := [(0, .ref 0)]) (st2 := [.ref 0]) (w3 := w) rfl rfl ?_
  refine sx_RP.gf (v := .ref 96) rfl rfl hI.1.o0 rfl rfl (show _ = 4 from rfl) ?_
  refine sx_RP.callp (as2 := [.ref 96]) (rest2 := []) rfl rfl (sx_inv_v2 (mi := 90) (k := 289) (st := [.ref 96]) (w := w) rfl rfl hI.1.o96 rfl rfl rfl) rfl rfl rfl (s91 hI) (show _ = 7 from rfl) ?_
  rintro r4 w2 ⟨rfl, hI2, hE2, h2⟩
  refine sx_RP.ret rfl rfl ?_
  exact ⟨rfl, hI2, hE2, h2⟩
set_option maxRecDepth 20000 in
set_option maxHeartbeats 4000000 in
theorem s126 {xs : Option (List Int32)} {d : Nat} {w : List sx_C} (hI : WI w) : sx_RP xs (d + 7) 126 0 (lv_args 0 [.ref 0]) [] w (fun r w2 => r = some (.int (fi w 0 3)) ∧ WI w2 ∧ EX 0 w w2 ∧ fi w2 0 3 = 0) := by
  obtain ⟨j, hj, e⟩ := hI.kp
  refine sx_RP.step (pc2 := 1) (ls2 := [(0, .ref 0)]) (st2 := [.ref 0]) (w3 := w) rfl rfl ?_
  refine sx_RP.gf (v := .int (fi w 0 3)) rfl rfl hI.1.o0 rfl rfl (show _ = 4 from rfl) ?_
  rw [e]
  rcases (show j = 0 ∨ j = 1 by omega) with rfl | rfl
  · refine sx_RP.step (pc2 := 11) (ls2 := [(0, .ref 0)]) (st2 := []) (w3 := w) rfl rfl ?_
    refine sx_RP.step (pc2 := 12) (ls2 := [(0, .ref 0)]) (st2 := [.int 0]) (w3 := w) rfl rfl ?_
    refine sx_RP.step (pc2 := 13) (ls2 := [(1, .int 0), (0, .ref 0)]) (st2 := []) (w3 := w) rfl rfl ?_
    refine sx_RP.step (pc2 := 14) (ls2 := [(1, .int 0), (0, .ref 0)]) (st2 := [.ref 0]) (w3 := w) rfl rfl ?_
    refine sx_RP.step (pc2 := 15) (ls2 := [(1, .int 0), (0, .ref 0)]) (st2 := [.int 0, .ref 0]) (w3 := w) rfl rfl ?_
    refine sx_RP.pk hI rfl rfl rfl ⟨0, by decide, rfl⟩ (show _ = 18 from rfl) (fun w2 hI2 hE2 h2 => ?_)
    refine sx_RP.step (pc2 := 19) (ls2 := [(1, .int 0), (0, .ref 0)]) (st2 := [.int 0]) (w3 := w2) rfl rfl ?_
    refine sx_RP.ret rfl rfl ?_
    exact ⟨rfl, hI2, hE2, h2⟩
  · refine sx_RP.step (pc2 := 7) (ls2 := [(0, .ref 0)]) (st2 := []) (w3 := w) rfl rfl ?_
    refine sx_RP.step (pc2 := 8) (ls2 := [(0, .ref 0)]) (st2 := [.int 1]) (w3 := w) rfl rfl ?_
    refine sx_RP.step (pc2 := 12) (ls2 := [(0, .ref 0)]) (st2 := [.int 1]) (w3 := w) rfl rfl ?_
    refine sx_RP.step (pc2 := 13) (ls2 := [(1, .int 1), (0, .ref 0)]) (st2 := []) (w3 := w) rfl rfl ?_
    refine sx_RP.step (pc2 := 14) (ls2 := [(1, .int 1), (0, .ref 0)]) (st2 := [.ref 0]) (w3 := w) rfl rfl ?_
    refine sx_RP.step (pc2 := 15) (ls2 := [(1, .int 1), (0, .ref 0)]) (st2 := [.int 0, .ref 0]) (w3 := w) rfl rfl ?_
    refine sx_RP.pk hI rfl rfl rfl ⟨0, by decide, rfl⟩ (show _ = 18 from rfl) (fun w2 hI2 hE2 h2 => ?_)
    refine sx_RP.step (pc2 := 19) (ls2 := [(1, .int 1), (0, .ref 0)]) (st2 := [.int 1]) (w3 := w2) rfl rfl ?_
    refine sx_RP.ret rfl rfl ?_
    exact ⟨rfl, hI2, hE2, h2⟩
set_option maxRecDepth 20000 in
set_option maxHeartbeats 4000000 in
theorem s124 {xs : Option (List Int32)} {d : Nat} {w : List sx_C} (hI : WI w) : sx_RP xs (d + 7) 124 0 (lv_args 0 [.ref 0]) [] w (fun r w2 => r = some (.int 1) ∧ WI w2 ∧ EX 0 w w2 ∧ fi w2 0 3 = 1) := by
  refine sx_RP.step (pc2 := 1) (ls2 := [(0, .ref 0)]) (st2 := [.ref 0]) (w3 := w) rfl rfl ?_
  refine sx_RP.gf (v := .ref 15) rfl rfl hI.1.o0 rfl rfl (show _ = 4 from rfl) ?_
  refine sx_RP.step (pc2 := 5) (ls2 := [(0, .ref 0)]) (st2 := [.ref 0, .ref 15]) (w3 := w) rfl rfl ?_
  refine sx_RP.gf (v := .ref 1) rfl rfl hI.1.o0 rfl rfl (show _ = 8 from rfl) ?_
  refine sx_RP.callp (as2 := [.ref 15, .ref 1]) (rest2 := []) rfl rfl (sx_inv_v2 (mi := 124) (k := 179) (st := [.ref 1, .ref 15]) (w := w) rfl rfl (hI.1.oC (Or.inr (Or.inl rfl))) rfl rfl rfl) rfl rfl rfl (s50 hI (Or.inr (Or.inl rfl)) (Or.inl rfl)) (show _ = 11 from rfl) ?_
  rintro r4 w1 ⟨rfl, hI1, hE1⟩
  show sx_RP _ _ _ _ _ [] _ _
  refine sx_RP.step (pc2 := 12) (ls2 := [(0, .ref 0)]) (st2 := [.ref 0]) (w3 := w1) rfl rfl ?_
  refine sx_RP.step (pc2 := 13) (ls2 := [(0, .ref 0)]) (st2 := [.int 1, .ref 0]) (w3 := w1) rfl rfl ?_
  refine sx_RP.pk hI1 rfl rfl rfl ⟨1, by decide, rfl⟩ (show _ = 16 from rfl) (fun w2 hI2 hE2 h2 => ?_)
  refine sx_RP.step (pc2 := 17) (ls2 := [(0, .ref 0)]) (st2 := [.int 1]) (w3 := w2) rfl rfl ?_
  refine sx_RP.ret rfl rfl ?_
  exact ⟨rfl, hI2, hE1.ex.tr hE2, h2⟩
set_option maxRecDepth 20000 in
set_option maxHeartbeats 4000000 in
theorem s92 {xs : Option (List Int32)} {d : Nat} {w : List sx_C} (hI : WI w) : sx_RP xs (d + 7) 92 0 (lv_args 0 [.ref 0]) [] w (fun r w2 => (∃ v : Int32, r = some (.int v)) ∧ WI w2 ∧ EX 96 w w2 ∧ fi w2 96 1 = 0) := by
  refine sx_RP.step (pc2 := 1) (ls2 := [(0, .ref 0)]) (st2 := [.ref 0]) (w3 := w) rfl rfl ?_
  refine sx_RP.gf (v := .ref 29) rfl rfl hI.1.o0 rfl rfl (show _ = 4 from rfl) ?_
  refine sx_RP.step (pc2 := 5) (ls2 := [(0, .ref 0)]) (st2 := [.ref 0, .ref 29]) (w3 := w) rfl rfl ?_
  refine sx_RP.gf (v := .ref 1) rfl rfl hI.1.o0 rfl rfl (show _ = 8 from rfl) ?_
  refine sx_RP.callp (as2 := [.ref 29, .ref 1]) (rest2 := []) rfl rfl (sx_inv_v2 (mi := 92) (k := 179) (st := [.ref 1, .ref 29]) (w := w) rfl rfl (hI.1.oC (Or.inr (Or.inr rfl))) rfl rfl rfl) rfl rfl rfl (s50 hI (Or.inr (Or.inr rfl)) (Or.inl rfl)) (show _ = 11 from rfl) ?_
  rintro r4 w1 ⟨rfl, hI1, hE1⟩
  show sx_RP _ _ _ _ _ [] _ _
  refine sx_RP.step (pc2 := 12) (ls2 := [(0, .ref 0)]) (st2 := [.ref 0]) (w3 := w1) rfl rfl ?_
  refine sx_RP.gf (v := .ref 96) rfl rfl hI1.1.o0 rfl rfl (show _ = 15 from rfl) ?_
  refine sx_RP.step (pc2 := 16) (ls2 := [(0, .ref 0)]) (st2 := [.ref 0, .ref 96]) (w3 := w1) rfl rfl ?_
  refine sx_RP.gf (v := .ref 29) rfl rfl hI1.1.o0 rfl rfl (show _ = 19 from rfl) ?_
  refine sx_RP.callp (as2 := [.ref 96, .ref 29]) (rest2 := []) rfl rfl (sx_inv_v2 (mi := 92) (k := 292) (st := [.ref 29, .ref 96]) (w := w1) rfl rfl hI1.1.o96 rfl rfl rfl) rfl rfl rfl (s93 hI1 (Or.inr (Or.inr rfl))) (show _ = 22 from rfl) ?_
  rintro r4 w2 ⟨⟨v, rfl⟩, hI2, hE2⟩
  show sx_RP _ _ _ _ _ [.int v] _ _
  refine sx_RP.step (pc2 := 23) (ls2 := [(1, .int v), (0, .ref 0)]) (st2 := []) (w3 := w2) rfl rfl ?_
  refine sx_RP.step (pc2 := 24) (ls2 := [(1, .int v), (0, .ref 0)]) (st2 := [.ref 0]) (w3 := w2) rfl rfl ?_
  refine sx_RP.gf (v := .ref 96) rfl rfl hI2.1.o0 rfl rfl (show _ = 27 from rfl) ?_
  refine sx_RP.callp (as2 := [.ref 96]) (rest2 := []) rfl rfl (sx_inv_v2 (mi := 92) (k := 289) (st := [.ref 96]) (w := w2) rfl rfl hI2.1.o96 rfl rfl rfl) rfl rfl rfl (s91 hI2) (show _ = 30 from rfl) ?_
  rintro r4 w3 ⟨rfl, hI3, hE3, h3⟩
  show sx_RP _ _ _ _ _ [.int (fi w2 96 1)] _ _
  have hEE : EX 96 w w3 := (hE1.ex.tr hE2.ex).tr hE3
  refine sx_RP.step (pc2 := 31) (ls2 := [(1, .int v), (0, .ref 0)]) (st2 := []) (w3 := w3) rfl rfl ?_
  refine sx_RP.step (pc2 := 32) (ls2 := [(1, .int v), (0, .ref 0)]) (st2 := [.int v]) (w3 := w3) rfl rfl ?_
  refine sx_RP.br (p1 := 46) (l1 := [(1, .int v), (0, .ref 0)]) (s1 := []) (v1 := w3) (p2 := 35) (l2 := [(1, .int v), (0, .ref 0)]) (s2 := []) (v2 := w3) rfl rfl (fun q => ?_) (fun q => ?_)
  · refine sx_RP.step (pc2 := 47) (ls2 := [(1, .int v), (0, .ref 0)]) (st2 := [.int v]) (w3 := w3) rfl rfl ?_
    refine sx_RP.ret rfl rfl ?_
    exact ⟨⟨_, rfl⟩, hI3, hEE, h3⟩
  · refine sx_RP.step (pc2 := 36) (ls2 := [(1, .int v), (0, .ref 0)]) (st2 := [.ref 0]) (w3 := w3) rfl rfl ?_
    refine sx_RP.gf (v := .ref 1) rfl rfl hI3.1.o0 rfl rfl (show _ = 39 from rfl) ?_
    refine sx_RP.step (pc2 := 40) (ls2 := [(1, .int v), (0, .ref 0)]) (st2 := [.ref 0, .ref 1]) (w3 := w3) rfl rfl ?_
    refine sx_RP.gf (v := .ref 29) rfl rfl hI3.1.o0 rfl rfl (show _ = 43 from rfl) ?_
    refine sx_RP.callp (as2 := [.ref 1, .ref 29]) (rest2 := []) rfl rfl (sx_inv_v2 (mi := 92) (k := 179) (st := [.ref 29, .ref 1]) (w := w3) rfl rfl (hI3.1.oC (Or.inl rfl)) rfl rfl rfl) rfl rfl rfl (s50 hI3 (Or.inl rfl) (Or.inr (Or.inr rfl))) (show _ = 46 from rfl) ?_
    rintro r4 w4 ⟨rfl, hI4, hE4⟩
    show sx_RP _ _ _ _ _ [] _ _
    refine sx_RP.step (pc2 := 47) (ls2 := [(1, .int v), (0, .ref 0)]) (st2 := [.int v]) (w3 := w4) rfl rfl ?_
    refine sx_RP.ret rfl rfl ?_
    exact ⟨⟨_, rfl⟩, hI4, hEE.tr hE4.ex, (keep96 hI3 hI4 ((hE4 96).1 (by decide))).trans h3⟩
end
-- 55z.copy.lean.txt
section
-- copying among sheets
theorem cpy_len {α : Type} {f g : List α} {sp dp n : Nat} (h1 : sp + n ≤ f.length) (h2 : dp + n ≤ g.length) : (sx_cpy f g sp dp n).length = g.length := by
  unfold sx_cpy
  rw [List.length_append, List.length_append, List.length_take, List.length_take, List.length_drop, List.length_drop]
  omega
section SXK2
variable {xs : Option (List Int32)} {d mi pc pc2 idx p : Nat} {ls : sx_L} {r : List Value} {w w0 : List sx_C} {P : Option Value → List sx_C → Prop}
theorem sx_RP.acN {s t f g n : Nat} (hI : WI w) (hE : EC w0 w) (hs : s < 4) (ht : t < 4) (h1 : f + n ≤ 40) (h2 : g + n ≤ 40) (hi : sx_ins mi pc = some (.invokestatic idx, 3)) (hq : sx_lk (sx_ac (sx_own mi)) idx = some p) (hr : Nat.ble (r.map (fun v => v.category)).sum 8 = true) (hp : pc + 3 = pc2) (kk : ∀ w2, WI w2 → EC w0 w2 → sx_RP xs d mi pc2 ls r w2 P) : sx_RP xs d mi pc ls (.int (nI n) :: .int (nI g) :: .ref (104 + 2 * t) :: .int (nI f) :: .ref (104 + 2 * s) :: r) w P := by
  subst hp
  have ha := hI.1.aN ht
  have hb := hI.1.aN hs
  have hl := cpy_len (f := ja w (104 + 2 * s)) (g := ja w (104 + 2 * t)) (sp := f) (dp := g) (n := n) (by omega) (by omega)
  have hsh : sx_sh (.inr (.inl (3, sx_cpy (ja w (104 + 2 * s)) (ja w (104 + 2 * t)) f g n))) = sx_sh (.inr (.inl (3, ja w (104 + 2 * t)))) := by
    show (.inr (.inl (3, List.replicate (sx_cpy (ja w (104 + 2 * s)) (ja w (104 + 2 * t)) f g n).length 0)) : sx_C) = .inr (.inl (3, List.replicate (ja w (104 + 2 * t)).length 0))
    rw [hl]
  refine sx_RP.step hi (show sx_acp (sx_own mi) idx ls pc (.int (nI n) :: .int (nI g) :: .ref (104 + 2 * t) :: .int (nI f) :: .ref (104 + 2 * s) :: r) w = some (pc + 3, ls, r, w.set (104 + 2 * t) (.inr (.inl (3, sx_cpy (ja w (104 + 2 * s)) (ja w (104 + 2 * t)) f g n)))) from ?_) (kk _ (hI.set ha.1 hsh (cOK.free (by omega))) (hE.set ha.1 (by omega) (kp_n (by omega))))
  unfold sx_acp
  simp only
  rw [hq]
  simp only
  rw [decide_eq_false (nI_pos (n := f) (by omega)), decide_eq_false (nI_pos (n := g) (by omega)), decide_eq_false (nI_pos (n := n) (by omega)), hr, hb.1, ha.1]
  simp only [Bool.not_false, Bool.and_self, cond_true]
  rw [nI_clamp (n := f) (by omega), nI_clamp (n := g) (by omega), nI_clamp (n := n) (by omega), hb.2, ha.2, show Nat.ble (f + n) 40 = true from Nat.ble_eq.mpr h1, show Nat.ble (g + n) 40 = true from Nat.ble_eq.mpr h2]
  rfl
end SXK2
theorem run_of {x y : Int32} {n : Nat} (hn : n ≤ 40) (q1 : ¬ x < 0) (q2 : ¬ y < 0) (q3 : ¬ nI n < x) (q4 : ¬ nI n - x < y) : ∃ f m, x = nI f ∧ y = nI m ∧ f + m ≤ 40 := by
  obtain ⟨f, hf, rfl⟩ := nI_of q1
  obtain ⟨m, hm, rfl⟩ := nI_of q2
  have h3 := mt (nI_ltI (by omega) hf).mpr q3
  rw [nI_sub (by omega)] at q4
  have h4 := mt (nI_ltI (by omega) hm).mpr q4
  exact ⟨f, m, rfl, rfl, by omega⟩
end
-- 57.rowsM.lean.txt
section
-- rows of the reference
theorem WI.sA {w : List sx_C} (h : WI w) {a : Nat} (ha : 112 ≤ a ∧ a ≤ 115) : sOK (ia w a) := by
  rcases (show a = 112 ∨ a = 113 ∨ a = 114 ∨ a = 115 by omega) with rfl | rfl | rfl | rfl
  · exact h.s
  · exact (h.2 113 _ h.1.a113.1).2.2.2.2.2.2.2.2.1 (by decide)
  · exact (h.2 114 _ h.1.a114.1).2.2.2.2.2.2.2.2.1 (by decide)
  · exact (h.2 115 _ h.1.a115.1).2.2.2.2.2.2.2.2.1 (by decide)
theorem Ty.aM {w : List sx_C} (h : Ty w) {a : Nat} (ha : 112 ≤ a ∧ a ≤ 115) : w[a]? = some (.inl (0, ia w a)) ∧ (ia w a).length = 172 := by
  rcases (show a = 112 ∨ a = 113 ∨ a = 114 ∨ a = 115 by omega) with rfl | rfl | rfl | rfl
  · exact h.a112
  · exact h.a113
  · exact h.a114
  · exact h.a115
theorem eOK_g {g c : Nat} {v : Int32} (hg : g < 10) (hc : c < 6) (hv : gR c v) : eOK (103 + 6 * g + c) v := by
  unfold eOK
  refine ⟨fun z => by omega, fun z => by omega, fun z => by omega, fun z => ?_, fun z => ?_, fun z => ?_, fun z => ?_, fun z => ?_, fun z => by omega⟩
  · obtain rfl : c = 0 := by omega
    exact hv
  · obtain rfl : c = 1 := by omega
    exact hv
  · obtain rfl : c = 2 := by omega
    exact hv
  · obtain rfl : c = 3 := by omega
    exact hv
  · obtain rfl : c = 5 := by omega
    exact hv
theorem eOK_n {k : Nat} {v : Int32} (h : k = 0 ∨ (3 ≤ k ∧ k ≤ 6) ∨ (55 ≤ k ∧ k < 103)) : eOK k v := by
  unfold eOK
  refine ⟨fun z => by omega, fun z => by omega, fun z => by omega, fun z => by omega, fun z => by omega, fun z => by omega, fun z => by omega, fun z => by omega, fun z => by omega⟩
theorem eOK_1 {v : Int32} (h : inR v 10) : eOK 1 v := by
  unfold eOK
  refine ⟨fun _ => h, fun z => by omega, fun z => by omega, fun z => by omega, fun z => by omega, fun z => by omega, fun z => by omega, fun z => by omega, fun z => by omega⟩
theorem eOK_2 {v : Int32} (h : inR v 9) : eOK 2 v := by
  unfold eOK
  refine ⟨fun z => by omega, fun _ => h, fun z => by omega, fun z => by omega, fun z => by omega, fun z => by omega, fun z => by omega, fun z => by omega, fun z => by omega⟩
theorem eOK_st {k : Nat} {v : Int32} (hk : 7 ≤ k ∧ k < 55) (h : inR v 3) : eOK k v := by
  unfold eOK
  refine ⟨fun z => by omega, fun z => by omega, fun _ => h, fun z => by omega, fun z => by omega, fun z => by omega, fun z => by omega, fun z => by omega, fun z => by omega⟩
theorem eOK_d {k : Nat} {v : Int32} (hk : 163 ≤ k) (h : inR v 47) : eOK k v := by
  unfold eOK
  refine ⟨fun z => by omega, fun z => by omega, fun z => by omega, fun z => by omega, fun z => by omega, fun z => by omega, fun z => by omega, fun z => by omega, fun _ => h⟩
theorem sOK.set {l : List Int32} {i : Nat} {v : Int32} (h : sOK l) (hl : l.length = 172) (hi : i < 172) (hv : eOK i v) : sOK (l.set i v) := by
  intro k hk
  rw [List.getD_eq_getElem?_getD, List.getElem?_set]
  by_cases e : i = k
  · subst e
    rw [if_pos rfl, if_pos (by omega)]
    exact hv
  · rw [if_neg e, ← List.getD_eq_getElem?_getD]
    exact h k hk
section SXMR
variable {xs : Option (List Int32)} {d mi pc pc2 a idx p : Nat} {ls : sx_L} {r : List Value} {w w0 : List sx_C} {P : Option Value → List sx_C → Prop}
theorem sx_RP.mS {i x : Int32} {k : Nat} (hI : WI w) (hE : EM w0 w) (ha : 112 ≤ a ∧ a ≤ 115) (hi : sx_ins mi pc = some (.iastore, 1)) (hx : i = nI k) (hk : k < 172) (hv : eOK k x) (hp : pc + 1 = pc2) (kk : ∀ w2, WI w2 → EM w0 w2 → (∀ j, j < 172 → j ≠ k → (ia w2 112).getD j 0 = (ia w 112).getD j 0) → sx_RP xs d mi pc2 ls r w2 P) : sx_RP xs d mi pc ls (.int x :: .int i :: .ref a :: r) w P := by
  subst hx
  have hw := hI.1.aM ha
  refine sx_RP.ist (c := k) hi hw.1 hw.2 (sx_in_nI hk (by decide)) (nI_clamp (by omega)) rfl hp (kk _ (hI.set hw.1 sh_set (cOK.s ha ((hI.sA ha).set hw.2 hk hv))) (hE.set hw.1 (by omega) (kp_n (by omega))) ?_)
  intro j hj hne
  by_cases e : a = 112
  · subst e
    rw [ia_set hw.1, List.getD_eq_getElem?_getD, List.getElem?_set_ne (Ne.symm hne), ← List.getD_eq_getElem?_getD]
  · rw [ia_ne (Ne.symm e)]
theorem sx_RP.mF {i x : Int32} {n : Nat} (hI : WI w) (hE : EM w0 w) (hi : sx_ins mi pc = some (.iastore, 1)) (hw : w[a]? = some (.inl (0, ia w a)) ∧ (ia w a).length = n) (hn : sx_in i n = true) (hf : a = 116 ∨ a = 117 ∨ a = 119 ∨ a = 121) (hp : pc + 1 = pc2) (kk : ∀ w2, WI w2 → EM w0 w2 → (∀ j, (ia w2 112).getD j 0 = (ia w 112).getD j 0) → sx_RP xs d mi pc2 ls r w2 P) : sx_RP xs d mi pc ls (.int x :: .int i :: .ref a :: r) w P :=
  sx_RP.ist hi hw.1 hw.2 hn rfl rfl hp (kk _ (hI.set hw.1 sh_set (cOK.free (by omega))) (hE.set hw.1 (by omega) (kp_n (by omega))) (fun j => by rw [ia_ne (by omega)]))
theorem sx_RP.mB {i x : Int32} {n : Nat} (hI : WI w) (hE : EM w0 w) (hi : sx_ins mi pc = some (.bastore, 1)) (hw : w[a]? = some (.inl (1, ia w a)) ∧ (ia w a).length = n) (hn : sx_in i n = true) (hf : a = 118 ∨ a = 120) (hp : pc + 1 = pc2) (kk : ∀ w2, WI w2 → EM w0 w2 → (∀ j, (ia w2 112).getD j 0 = (ia w 112).getD j 0) → sx_RP xs d mi pc2 ls r w2 P) : sx_RP xs d mi pc ls (.int x :: .int i :: .ref a :: r) w P :=
  sx_RP.bst1 hi hw.1 hw.2 hn rfl rfl hp (kk _ (hI.set hw.1 sh_set (cOK.free (by omega))) (hE.set hw.1 (by omega) (kp_n (by omega))) (fun j => by rw [ia_ne (by omega)]))
theorem sx_RP.mN {i : Int32} {x : Int64} {n : Nat} (hI : WI w) (hE : EM w0 w) (hi : sx_ins mi pc = some (.lastore, 1)) (hw : w[a]? = some (.inr (.inl (3, ja w a))) ∧ (ja w a).length = n) (hn : sx_in i n = true) (hf : a = 124 ∨ a = 125) (hp : pc + 1 = pc2) (kk : ∀ w2, WI w2 → EM w0 w2 → (∀ j, (ia w2 112).getD j 0 = (ia w 112).getD j 0) → sx_RP xs d mi pc2 ls r w2 P) : sx_RP xs d mi pc ls (.long x :: .int i :: .ref a :: r) w P := by
  have hl := hw.2
  subst hl
  exact sx_RP.last hi hw.1 hn rfl hp (kk _ (hI.set hw.1 shj_set (cOK.free (by omega))) (hE.set hw.1 (by omega) (kp_n (by omega))) (fun j => by rw [ia_ne (by omega)]))
def mR (k : Nat) (v : Int32) : Prop := match k with
  | 12 => inR v 120
  | _ => True
theorem sx_RP.pm {k : Nat} {v : Int32} (hI : WI w) (hE : EM w0 w) (hi : sx_ins mi pc = some (.putfield idx, 3)) (hq : sx_lk (sx_fl (sx_own mi)) idx = some (6, k, p)) (hk : 12 ≤ k ∧ k < 15) (hf : sx_fin mi 6 k = true) (hv : mR k v) (hp : pc + 3 = pc2) (kk : ∀ w2, WI w2 → EM w0 w2 → fi w2 111 k = v → (∀ j, j ≠ k → fi w2 111 j = fi w 111 j) → (∀ a, a ≠ 111 → w2[a]? = w[a]?) → sx_RP xs d mi pc2 ls r w2 P) : sx_RP xs d mi pc ls (.int v :: .ref 111 :: r) w P := by
  have hw := hI.1.o111
  have q := hI.m
  have hfs : fs_ w 111 = [.ref 112, .ref 113, .ref 114, .ref 115, .int (fi w 111 4), .ref 116, .ref 117, .ref 118, .ref 119, .ref 120, .ref 121, .int (fi w 111 11), .int (fi w 111 12), .int (fi w 111 13), .int (fi w 111 14), .ref 122, .ref 123, .ref 124, .ref 125] := by unfold fs_; rw [hw]
  have hne : ∀ (fs : List Value) (j : Nat), j ≠ k → fi (w.set 111 (.inr (.inr (.inr (6, fs.set k (.int v)))))) 111 j = vi fs[j]? := by
    intro fs j hj
    unfold fi
    rw [fs_set hw, List.getElem?_set_ne (Ne.symm hj)]
  have hfr : ∀ (c : sx_C) (a : Nat), a ≠ 111 → (w.set 111 c)[a]? = w[a]? := fun c a ha => List.getElem?_set_ne (Ne.symm ha)
  rcases (show k = 12 ∨ k = 13 ∨ k = 14 by omega) with rfl | rfl | rfl
  · refine sx_RP.pf hi hq hw (by rw [hf]; rfl) rfl rfl hp (kk _ (hI.set hw rfl (cOK.m ⟨q.1, q.2.1, hv⟩)) (hE.set hw (by decide) rfl) (by unfold fi; rw [fs_set hw]; rfl) (fun j hj => ?_) (hfr _))
    rw [hne _ j hj, ← hfs]
    rfl
  · refine sx_RP.pf hi hq hw (by rw [hf]; rfl) rfl rfl hp (kk _ (hI.set hw rfl (cOK.m q)) (hE.set hw (by decide) rfl) (by unfold fi; rw [fs_set hw]; rfl) (fun j hj => ?_) (hfr _))
    rw [hne _ j hj, ← hfs]
    rfl
  · refine sx_RP.pf hi hq hw (by rw [hf]; rfl) rfl rfl hp (kk _ (hI.set hw rfl (cOK.m q)) (hE.set hw (by decide) rfl) (by unfold fi; rw [fs_set hw]; rfl) (fun j hj => ?_) (hfr _))
    rw [hne _ j hj, ← hfs]
    rfl
end SXMR
section SXMT
variable {xs : Option (List Int32)} {d : Nat} {w : List sx_C} {x : Int32}
theorem cx_131n (q : ¬ (0 ≤ x ∧ x ≤ 47)) : sx_RU xs (d + 1) 131 0 (lv_args 0 [.int x]) [] w (some (.int 0)) w := by
  refine sx_RU.step rfl rfl (sx_RU.step rfl rfl (sx_RU.step rfl rfl ?_))
  exact sx_RU.call rfl rfl rfl rfl (cx_132o q) (sx_RU.ret rfl rfl)
theorem cx_131p (q : 0 ≤ x ∧ x ≤ 47) : sx_RU xs (d + 1) 131 0 (lv_args 0 [.int x]) [] w (some (.int 1)) w := by
  refine sx_RU.step rfl rfl (sx_RU.step rfl rfl (sx_RU.step rfl rfl ?_))
  exact sx_RU.call rfl rfl rfl rfl (cx_132p q) (sx_RU.ret rfl rfl)
theorem cx_151n (q : ¬ (0 ≤ x ∧ x ≤ 5)) : sx_RU xs (d + 1) 151 0 (lv_args 0 [.int x]) [] w (some (.int 0)) w := by
  refine sx_RU.step rfl rfl (sx_RU.step rfl rfl (sx_RU.step rfl rfl ?_))
  exact sx_RU.call rfl rfl rfl rfl (cx_132o q) (sx_RU.ret rfl rfl)
theorem cx_151p (q : 0 ≤ x ∧ x ≤ 5) : sx_RU xs (d + 1) 151 0 (lv_args 0 [.int x]) [] w (some (.int 1)) w := by
  refine sx_RU.step rfl rfl (sx_RU.step rfl rfl (sx_RU.step rfl rfl ?_))
  exact sx_RU.call rfl rfl rfl rfl (cx_132p q) (sx_RU.ret rfl rfl)
theorem cx_152n (q : ¬ (0 ≤ x ∧ x ≤ 3)) : sx_RU xs (d + 1) 152 0 (lv_args 0 [.int x]) [] w (some (.int 0)) w := by
  refine sx_RU.step rfl rfl (sx_RU.step rfl rfl (sx_RU.step rfl rfl ?_))
  exact sx_RU.call rfl rfl rfl rfl (cx_132o q) (sx_RU.ret rfl rfl)
theorem cx_152p (q : 0 ≤ x ∧ x ≤ 3) : sx_RU xs (d + 1) 152 0 (lv_args 0 [.int x]) [] w (some (.int 1)) w := by
  refine sx_RU.step rfl rfl (sx_RU.step rfl rfl (sx_RU.step rfl rfl ?_))
  exact sx_RU.call rfl rfl rfl rfl (cx_132p q) (sx_RU.ret rfl rfl)
theorem cx_197n (q : ¬ (1 ≤ x ∧ x ≤ 30)) : sx_RU xs (d + 1) 197 0 (lv_args 0 [.int x]) [] w (some (.int 0)) w := by
  refine sx_RU.step rfl rfl (sx_RU.step rfl rfl (sx_RU.step rfl rfl ?_))
  exact sx_RU.call rfl rfl rfl rfl (cx_132o q) (sx_RU.ret rfl rfl)
theorem cx_197p (q : 1 ≤ x ∧ x ≤ 30) : sx_RU xs (d + 1) 197 0 (lv_args 0 [.int x]) [] w (some (.int 1)) w := by
  refine sx_RU.step rfl rfl (sx_RU.step rfl rfl (sx_RU.step rfl rfl ?_))
  exact sx_RU.call rfl rfl rfl rfl (cx_132p q) (sx_RU.ret rfl rfl)
theorem cx_231n (q : ¬ (0 ≤ x ∧ x ≤ 3)) : sx_RU xs (d + 1) 231 0 (lv_args 0 [.int x]) [] w (some (.int 0)) w := by
  refine sx_RU.step rfl rfl (sx_RU.step rfl rfl (sx_RU.step rfl rfl ?_))
  exact sx_RU.call rfl rfl rfl rfl (cx_132o q) (sx_RU.ret rfl rfl)
theorem cx_231p (q : 0 ≤ x ∧ x ≤ 3) : sx_RU xs (d + 1) 231 0 (lv_args 0 [.int x]) [] w (some (.int 1)) w := by
  refine sx_RU.step rfl rfl (sx_RU.step rfl rfl (sx_RU.step rfl rfl ?_))
  exact sx_RU.call rfl rfl rfl rfl (cx_132p q) (sx_RU.ret rfl rfl)
theorem cx_218n (q : ¬ (97 ≤ x ∧ x ≤ 122)) : sx_RU xs (d + 1) 218 0 (lv_args 0 [.int x]) [] w (some (.int 0)) w := by
  refine sx_RU.step rfl rfl (sx_RU.step rfl rfl (sx_RU.step rfl rfl ?_))
  exact sx_RU.call rfl rfl rfl rfl (cx_132o q) (sx_RU.ret rfl rfl)
theorem cx_218p (q : 97 ≤ x ∧ x ≤ 122) : sx_RU xs (d + 1) 218 0 (lv_args 0 [.int x]) [] w (some (.int 1)) w := by
  refine sx_RU.step rfl rfl (sx_RU.step rfl rfl (sx_RU.step rfl rfl ?_))
  exact sx_RU.call rfl rfl rfl rfl (cx_132p q) (sx_RU.ret rfl rfl)
theorem cx_221n (q : ¬ (48 ≤ x ∧ x ≤ 57)) : sx_RU xs (d + 1) 221 0 (lv_args 0 [.int x]) [] w (some (.int 0)) w := by
  refine sx_RU.step rfl rfl (sx_RU.step rfl rfl (sx_RU.step rfl rfl ?_))
  exact sx_RU.call rfl rfl rfl rfl (cx_132o q) (sx_RU.ret rfl rfl)
theorem cx_221p (q : 48 ≤ x ∧ x ≤ 57) : sx_RU xs (d + 1) 221 0 (lv_args 0 [.int x]) [] w (some (.int 1)) w := by
  refine sx_RU.step rfl rfl (sx_RU.step rfl rfl (sx_RU.step rfl rfl ?_))
  exact sx_RU.call rfl rfl rfl rfl (cx_132p q) (sx_RU.ret rfl rfl)
end SXMT
theorem ia_of {w w2 : List sx_C} {a : Nat} (h : w2[a]? = w[a]?) : ia w2 a = ia w a := by
  unfold ia
  rw [h]
end
