-- safety: lays and copy of the reference
set_option maxRecDepth 20000 in
set_option maxHeartbeats 4000000 in
theorem s235B {xs : Option (List Int32)} {d : Nat} {w w0 : List sx_C} {k c : Nat} (hk : k < 4) (hc : c < 48) (hI : WI w) (hE : EM w0 w) {j : Nat} (hj : j ≤ 40) (m : Int32) (kk : ∀ (w4 : List sx_C) (um : Int32), WI w4 → EM w0 w4 → j + 1 ≤ 40 → sx_RP xs (d + 7) 235 46 [(0, .ref 111), (1, .int (nI k)), (2, .int (nI c)), (3, .int um), (4, .int (nI (j + 1)))] [] w4 (fun r w2 => (∃ v : Int32, r = some (.int v)) ∧ WI w2 ∧ EM w0 w2)) : sx_RP xs (d + 7) 235 46 [(0, .ref 111), (1, .int (nI k)), (2, .int (nI c)), (3, .int m), (4, .int (nI j))] [] w (fun r w2 => (∃ v : Int32, r = some (.int v)) ∧ WI w2 ∧ EM w0 w2) := by
  refine sx_RP.step (pc2 := 48) (ls2 := [(0, .ref 111), (1, .int (nI k)), (2, .int (nI c)), (3, .int m), (4, .int (nI j))]) (st2 := [.int (nI j)]) (w3 := w) rfl rfl ?_
  refine sx_RP.step (pc2 := 49) (ls2 := [(0, .ref 111), (1, .int (nI k)), (2, .int (nI c)), (3, .int m), (4, .int (nI j))]) (st2 := [.ref 111, .int (nI j)]) (w3 := w) rfl rfl ?_
  refine sx_RP.gf (v := .ref 123) rfl rfl hI.1.o111 rfl rfl (show _ = 52 from rfl) ?_
  refine sx_RP.step (pc2 := 53) (ls2 := [(0, .ref 111), (1, .int (nI k)), (2, .int (nI c)), (3, .int m), (4, .int (nI j))]) (st2 := [.int (nI k), .ref 123, .int (nI j)]) (w3 := w) rfl rfl ?_
  refine sx_RP.ild (c := k) rfl hI.1.a123.1 hI.1.a123.2 (sx_in_nI (show k < 4 by omega) (by decide)) (show (nI k).toNatClampNeg = k from nI_clamp (by omega)) (show _ = 54 from rfl) ?_
  obtain ⟨x1, hx2, ex3⟩ : inR ((ia w 123).getD k 0) 40 := hI.l (show k < 4 by omega)
  rw [ex3]
  refine sx_RP.br (p1 := 120) (l1 := [(0, .ref 111), (1, .int (nI k)), (2, .int (nI c)), (3, .int m), (4, .int (nI j))]) (s1 := []) (v1 := w) (p2 := 57) (l2 := [(0, .ref 111), (1, .int (nI k)), (2, .int (nI c)), (3, .int m), (4, .int (nI j))]) (s2 := []) (v2 := w) rfl rfl (fun q4 => ?_) (fun q4 => ?_)
  · replace q4 := of_decide_eq_true q4
    replace q4 := (nI_leI (a := x1) (b := j) (by omega) (by omega)).mp q4
    refine sx_RP.step (pc2 := 121) (ls2 := [(0, .ref 111), (1, .int (nI k)), (2, .int (nI c)), (3, .int m), (4, .int (nI j))]) (st2 := [.int m]) (w3 := w) rfl rfl ?_
    refine sx_RP.ret (r := (some (.int m))) rfl rfl ?_
    exact ⟨⟨_, rfl⟩, hI, hE⟩
  · replace q4 := of_decide_eq_false q4
    replace q4 := mt (nI_leI (a := x1) (b := j) (by omega) (by omega)).mpr q4
    refine sx_RP.step (pc2 := 58) (ls2 := [(0, .ref 111), (1, .int (nI k)), (2, .int (nI c)), (3, .int m), (4, .int (nI j))]) (st2 := [.int (nI c)]) (w3 := w) rfl rfl ?_
    refine sx_RP.step (pc2 := 60) (ls2 := [(0, .ref 111), (1, .int (nI k)), (2, .int (nI c)), (3, .int m), (4, .int (nI j))]) (st2 := [.int (nI j), .int (nI c)]) (w3 := w) rfl rfl ?_
    refine sx_RP.step (pc2 := 61) (ls2 := [(0, .ref 111), (1, .int (nI k)), (2, .int (nI c)), (3, .int m), (4, .int (nI j))]) (st2 := [.int ((nI c) + (nI j))]) (w3 := w) rfl rfl ?_
    rw [show ((nI c) + (nI j) : Int32) = nI (c + j) from nI_add c j]
    refine sx_RP.step (pc2 := 63) (ls2 := [(0, .ref 111), (1, .int (nI k)), (2, .int (nI c)), (3, .int m), (4, .int (nI j))]) (st2 := [.int 48, .int (nI (c + j))]) (w3 := w) rfl rfl ?_
    refine sx_RP.br (p1 := 120) (l1 := [(0, .ref 111), (1, .int (nI k)), (2, .int (nI c)), (3, .int m), (4, .int (nI j))]) (s1 := []) (v1 := w) (p2 := 66) (l2 := [(0, .ref 111), (1, .int (nI k)), (2, .int (nI c)), (3, .int m), (4, .int (nI j))]) (s2 := []) (v2 := w) rfl rfl (fun q5 => ?_) (fun q5 => ?_)
    · replace q5 := of_decide_eq_true q5
      replace q5 := (nI_leI (a := 48) (b := (c + j)) (by omega) (by omega)).mp q5
      refine sx_RP.step (pc2 := 121) (ls2 := [(0, .ref 111), (1, .int (nI k)), (2, .int (nI c)), (3, .int m), (4, .int (nI j))]) (st2 := [.int m]) (w3 := w) rfl rfl ?_
      refine sx_RP.ret (r := (some (.int m))) rfl rfl ?_
      exact ⟨⟨_, rfl⟩, hI, hE⟩
    · replace q5 := of_decide_eq_false q5
      replace q5 := mt (nI_leI (a := 48) (b := (c + j)) (by omega) (by omega)).mpr q5
      refine sx_RP.step (pc2 := 67) (ls2 := [(0, .ref 111), (1, .int (nI k)), (2, .int (nI c)), (3, .int m), (4, .int (nI j))]) (st2 := [.ref 111]) (w3 := w) rfl rfl ?_
      refine sx_RP.gf (v := .ref 124) rfl rfl hI.1.o111 rfl rfl (show _ = 70 from rfl) ?_
      refine sx_RP.step (pc2 := 72) (ls2 := [(0, .ref 111), (1, .int (nI k)), (2, .int (nI c)), (3, .int m), (4, .int (nI j))]) (st2 := [.int 40, .ref 124]) (w3 := w) rfl rfl ?_
      refine sx_RP.step (pc2 := 73) (ls2 := [(0, .ref 111), (1, .int (nI k)), (2, .int (nI c)), (3, .int m), (4, .int (nI j))]) (st2 := [.int (nI k), .int 40, .ref 124]) (w3 := w) rfl rfl ?_
      refine sx_RP.step (pc2 := 74) (ls2 := [(0, .ref 111), (1, .int (nI k)), (2, .int (nI c)), (3, .int m), (4, .int (nI j))]) (st2 := [.int (40 * (nI k)), .ref 124]) (w3 := w) rfl rfl ?_
      rw [show (40 * (nI k) : Int32) = nI (40 * k) from nI_mul 40 k]
      refine sx_RP.step (pc2 := 76) (ls2 := [(0, .ref 111), (1, .int (nI k)), (2, .int (nI c)), (3, .int m), (4, .int (nI j))]) (st2 := [.int (nI j), .int (nI (40 * k)), .ref 124]) (w3 := w) rfl rfl ?_
      refine sx_RP.step (pc2 := 77) (ls2 := [(0, .ref 111), (1, .int (nI k)), (2, .int (nI c)), (3, .int m), (4, .int (nI j))]) (st2 := [.int ((nI (40 * k)) + (nI j)), .ref 124]) (w3 := w) rfl rfl ?_
      rw [show ((nI (40 * k)) + (nI j) : Int32) = nI ((40 * k) + j) from nI_add (40 * k) j]
      refine sx_RP.lld (c := ((40 * k) + j)) rfl hI.1.a124.1 hI.1.a124.2 (sx_in_nI (show ((40 * k) + j) < 160 by omega) (by decide)) (show (nI ((40 * k) + j)).toNatClampNeg = ((40 * k) + j) from nI_clamp (by omega)) (show _ = 78 from rfl) ?_
      refine sx_RP.step (pc2 := 80) (ls2 := [(5, .long ((ja w 124).getD ((40 * k) + j) 0)), (0, .ref 111), (1, .int (nI k)), (2, .int (nI c)), (3, .int m), (4, .int (nI j))]) (st2 := []) (w3 := w) rfl rfl ?_
      refine sx_RP.step (pc2 := 82) (ls2 := [(5, .long ((ja w 124).getD ((40 * k) + j) 0)), (0, .ref 111), (1, .int (nI k)), (2, .int (nI c)), (3, .int m), (4, .int (nI j))]) (st2 := [.long ((ja w 124).getD ((40 * k) + j) 0)]) (w3 := w) rfl rfl ?_
      refine sx_RP.step (pc2 := 83) (ls2 := [(5, .long ((ja w 124).getD ((40 * k) + j) 0)), (0, .ref 111), (1, .int (nI k)), (2, .int (nI c)), (3, .int m), (4, .int (nI j))]) (st2 := [.long 0, .long ((ja w 124).getD ((40 * k) + j) 0)]) (w3 := w) rfl rfl ?_
      refine sx_RP.step (pc2 := 84) (ls2 := [(5, .long ((ja w 124).getD ((40 * k) + j) 0)), (0, .ref 111), (1, .int (nI k)), (2, .int (nI c)), (3, .int m), (4, .int (nI j))]) (st2 := [.int (lg_cmp ((ja w 124).getD ((40 * k) + j) 0) 0)]) (w3 := w) rfl rfl ?_
      refine sx_RP.br (p1 := 114) (l1 := [(5, .long ((ja w 124).getD ((40 * k) + j) 0)), (0, .ref 111), (1, .int (nI k)), (2, .int (nI c)), (3, .int m), (4, .int (nI j))]) (s1 := []) (v1 := w) (p2 := 87) (l2 := [(5, .long ((ja w 124).getD ((40 * k) + j) 0)), (0, .ref 111), (1, .int (nI k)), (2, .int (nI c)), (3, .int m), (4, .int (nI j))]) (s2 := []) (v2 := w) rfl rfl (fun q6 => ?_) (fun q6 => ?_)
      · replace q6 := of_decide_eq_true q6
        refine sx_RP.step (pc2 := 117) (ls2 := [(4, .int ((nI j) + 1)), (5, .long ((ja w 124).getD ((40 * k) + j) 0)), (0, .ref 111), (1, .int (nI k)), (2, .int (nI c)), (3, .int m)]) (st2 := []) (w3 := w) rfl rfl ?_
        rw [nI_1 j]
        refine sx_RP.step (pc2 := 46) (ls2 := [(4, .int (nI (j + 1))), (5, .long ((ja w 124).getD ((40 * k) + j) 0)), (0, .ref 111), (1, .int (nI k)), (2, .int (nI c)), (3, .int m)]) (st2 := []) (w3 := w) rfl rfl ?_
        exact sx_RP.ls (sx_lr.cons rfl (sx_lr.cons rfl (sx_lr.cons rfl (sx_lr.cons rfl (sx_lr.cons rfl sx_lr.nil))))) (kk w m hI hE (by omega))
      · replace q6 := of_decide_eq_false q6
        refine sx_RP.step (pc2 := 89) (ls2 := [(5, .long ((ja w 124).getD ((40 * k) + j) 0)), (0, .ref 111), (1, .int (nI k)), (2, .int (nI c)), (3, .int m), (4, .int (nI j))]) (st2 := [.long ((ja w 124).getD ((40 * k) + j) 0)]) (w3 := w) rfl rfl ?_
        refine sx_RP.step (pc2 := 92) (ls2 := [(5, .long ((ja w 124).getD ((40 * k) + j) 0)), (0, .ref 111), (1, .int (nI k)), (2, .int (nI c)), (3, .int m), (4, .int (nI j))]) (st2 := [.long 3, .long ((ja w 124).getD ((40 * k) + j) 0)]) (w3 := w) rfl rfl ?_
        refine sx_RP.step (pc2 := 93) (ls2 := [(5, .long ((ja w 124).getD ((40 * k) + j) 0)), (0, .ref 111), (1, .int (nI k)), (2, .int (nI c)), (3, .int m), (4, .int (nI j))]) (st2 := [.int (lg_cmp ((ja w 124).getD ((40 * k) + j) 0) 3)]) (w3 := w) rfl rfl ?_
        refine sx_RP.br (p1 := 114) (l1 := [(5, .long ((ja w 124).getD ((40 * k) + j) 0)), (0, .ref 111), (1, .int (nI k)), (2, .int (nI c)), (3, .int m), (4, .int (nI j))]) (s1 := []) (v1 := w) (p2 := 96) (l2 := [(5, .long ((ja w 124).getD ((40 * k) + j) 0)), (0, .ref 111), (1, .int (nI k)), (2, .int (nI c)), (3, .int m), (4, .int (nI j))]) (s2 := []) (v2 := w) rfl rfl (fun q7 => ?_) (fun q7 => ?_)
        · replace q7 := of_decide_eq_true q7
          refine sx_RP.step (pc2 := 117) (ls2 := [(4, .int ((nI j) + 1)), (5, .long ((ja w 124).getD ((40 * k) + j) 0)), (0, .ref 111), (1, .int (nI k)), (2, .int (nI c)), (3, .int m)]) (st2 := []) (w3 := w) rfl rfl ?_
          rw [nI_1 j]
          refine sx_RP.step (pc2 := 46) (ls2 := [(4, .int (nI (j + 1))), (5, .long ((ja w 124).getD ((40 * k) + j) 0)), (0, .ref 111), (1, .int (nI k)), (2, .int (nI c)), (3, .int m)]) (st2 := []) (w3 := w) rfl rfl ?_
          exact sx_RP.ls (sx_lr.cons rfl (sx_lr.cons rfl (sx_lr.cons rfl (sx_lr.cons rfl (sx_lr.cons rfl sx_lr.nil))))) (kk w m hI hE (by omega))
        · replace q7 := of_decide_eq_false q7
          refine sx_RP.step (pc2 := 97) (ls2 := [(5, .long ((ja w 124).getD ((40 * k) + j) 0)), (0, .ref 111), (1, .int (nI k)), (2, .int (nI c)), (3, .int m), (4, .int (nI j))]) (st2 := [.ref 111]) (w3 := w) rfl rfl ?_
          refine sx_RP.gf (v := .ref 112) rfl rfl hI.1.o111 rfl rfl (show _ = 100 from rfl) ?_
          refine sx_RP.step (pc2 := 102) (ls2 := [(5, .long ((ja w 124).getD ((40 * k) + j) 0)), (0, .ref 111), (1, .int (nI k)), (2, .int (nI c)), (3, .int m), (4, .int (nI j))]) (st2 := [.int 7, .ref 112]) (w3 := w) rfl rfl ?_
          refine sx_RP.step (pc2 := 103) (ls2 := [(5, .long ((ja w 124).getD ((40 * k) + j) 0)), (0, .ref 111), (1, .int (nI k)), (2, .int (nI c)), (3, .int m), (4, .int (nI j))]) (st2 := [.int (nI c), .int 7, .ref 112]) (w3 := w) rfl rfl ?_
          refine sx_RP.step (pc2 := 104) (ls2 := [(5, .long ((ja w 124).getD ((40 * k) + j) 0)), (0, .ref 111), (1, .int (nI k)), (2, .int (nI c)), (3, .int m), (4, .int (nI j))]) (st2 := [.int (7 + (nI c)), .ref 112]) (w3 := w) rfl rfl ?_
          rw [show (7 + (nI c) : Int32) = nI (7 + c) from nI_add 7 c]
          refine sx_RP.step (pc2 := 106) (ls2 := [(5, .long ((ja w 124).getD ((40 * k) + j) 0)), (0, .ref 111), (1, .int (nI k)), (2, .int (nI c)), (3, .int m), (4, .int (nI j))]) (st2 := [.int (nI j), .int (nI (7 + c)), .ref 112]) (w3 := w) rfl rfl ?_
          refine sx_RP.step (pc2 := 107) (ls2 := [(5, .long ((ja w 124).getD ((40 * k) + j) 0)), (0, .ref 111), (1, .int (nI k)), (2, .int (nI c)), (3, .int m), (4, .int (nI j))]) (st2 := [.int ((nI (7 + c)) + (nI j)), .ref 112]) (w3 := w) rfl rfl ?_
          rw [show ((nI (7 + c)) + (nI j) : Int32) = nI ((7 + c) + j) from nI_add (7 + c) j]
          refine sx_RP.step (pc2 := 109) (ls2 := [(5, .long ((ja w 124).getD ((40 * k) + j) 0)), (0, .ref 111), (1, .int (nI k)), (2, .int (nI c)), (3, .int m), (4, .int (nI j))]) (st2 := [.long ((ja w 124).getD ((40 * k) + j) 0), .int (nI ((7 + c) + j)), .ref 112]) (w3 := w) rfl rfl ?_
          refine sx_RP.step (pc2 := 110) (ls2 := [(5, .long ((ja w 124).getD ((40 * k) + j) 0)), (0, .ref 111), (1, .int (nI k)), (2, .int (nI c)), (3, .int m), (4, .int (nI j))]) (st2 := [.int (((ja w 124).getD ((40 * k) + j) 0).toInt32), .int (nI ((7 + c) + j)), .ref 112]) (w3 := w) rfl rfl ?_
          obtain ⟨x8, hx9, ex10⟩ := lay_rng q6 q7
          rw [ex10]
          refine sx_RP.mS (k := ((7 + c) + j)) hI hE (by decide) rfl rfl (by omega) (eOK_st (by omega) (inR.n (show x8 ≤ 3 by omega))) (show _ = 111 from rfl) (fun w11 hI12 hE13 hk14 => ?_)
          refine sx_RP.step (pc2 := 114) (ls2 := [(3, .int (m + 1)), (5, .long ((ja w 124).getD ((40 * k) + j) 0)), (0, .ref 111), (1, .int (nI k)), (2, .int (nI c)), (4, .int (nI j))]) (st2 := []) (w3 := w11) rfl rfl ?_
          refine sx_RP.step (pc2 := 117) (ls2 := [(4, .int ((nI j) + 1)), (3, .int (m + 1)), (5, .long ((ja w 124).getD ((40 * k) + j) 0)), (0, .ref 111), (1, .int (nI k)), (2, .int (nI c))]) (st2 := []) (w3 := w11) rfl rfl ?_
          rw [nI_1 j]
          refine sx_RP.step (pc2 := 46) (ls2 := [(4, .int (nI (j + 1))), (3, .int (m + 1)), (5, .long ((ja w 124).getD ((40 * k) + j) 0)), (0, .ref 111), (1, .int (nI k)), (2, .int (nI c))]) (st2 := []) (w3 := w11) rfl rfl ?_
          exact sx_RP.ls (sx_lr.cons rfl (sx_lr.cons rfl (sx_lr.cons rfl (sx_lr.cons rfl (sx_lr.cons rfl sx_lr.nil))))) (kk w11 (m + 1) hI12 hE13 (by omega))
set_option maxRecDepth 20000 in
set_option maxHeartbeats 4000000 in
theorem s235L {xs : Option (List Int32)} {d : Nat} {w0 : List sx_C} {k c : Nat} (hk : k < 4) (hc : c < 48) : ∀ (fz j : Nat) (w : List sx_C) (m : Int32) , 40 ≤ j + fz * 1 → j ≤ 40 → WI w → EM w0 w → sx_RP xs (d + 7) 235 46 [(0, .ref 111), (1, .int (nI k)), (2, .int (nI c)), (3, .int m), (4, .int (nI j))] [] w (fun r w2 => (∃ v : Int32, r = some (.int v)) ∧ WI w2 ∧ EM w0 w2)
  | 0, j, w, m, h, hj, hI, hE => s235B hk hc hI hE hj m  (fun w4 um hI4 hE4 hlt  => absurd hlt (by omega)) 
  | fz + 1, j, w, m, h, hj, hI, hE => s235B hk hc hI hE hj m  (fun w4 um hI4 hE4 hlt  => s235L hk hc  fz (j + 1) w4 um (by omega) hlt hI4 hE4 ) 
set_option maxRecDepth 20000 in
set_option maxHeartbeats 4000000 in
theorem s235 {xs : Option (List Int32)} {d : Nat} {w : List sx_C} (hI : WI w) (a1 a2 : Int32) : sx_RP xs (d + 7) 235 0 (lv_args 0 [.ref 111, .int a1, .int a2]) [] w (fun r w2 => (∃ v : Int32, r = some (.int v)) ∧ WI w2 ∧ EM w w2) := by
  have hE : EM w w := EM.rf
  refine sx_RP.step (pc2 := 1) (ls2 := [(0, .ref 111), (1, .int a1), (2, .int a2)]) (st2 := [.int a1]) (w3 := w) rfl rfl ?_
  rcases in_cases a1 0 3 (m := 0) (n := 3) rfl rfl (by decide) (by decide) with q1 | ⟨x2, hx3, hx4, rfl⟩
  · refine sx_RP.cu (as := [.int a1]) (rest2 := []) (st3 := [.int 0]) rfl rfl rfl rfl rfl (cx_231n q1) rfl ?_
    refine sx_RP.step (pc2 := 7) (ls2 := [(0, .ref 111), (1, .int a1), (2, .int a2)]) (st2 := []) (w3 := w) rfl rfl ?_
    refine sx_RP.step (pc2 := 8) (ls2 := [(0, .ref 111), (1, .int a1), (2, .int a2)]) (st2 := [.ref 111]) (w3 := w) rfl rfl ?_
    refine sx_RP.step (pc2 := 9) (ls2 := [(0, .ref 111), (1, .int a1), (2, .int a2)]) (st2 := [.int 0, .ref 111]) (w3 := w) rfl rfl ?_
    refine sx_RP.callp (as2 := [.ref 111, .int 0]) (rest2 := []) rfl rfl (sx_inv_v2 (mi := 235) (k := 70) (st := [.int 0, .ref 111]) (w := w) rfl rfl hI.1.o111 rfl rfl rfl) rfl rfl rfl (s133_0 hI) (show _ = 12 from rfl) ?_
    rintro r4 w6 ⟨rfl, hI7, hE9⟩
    have hE8 := hE.tr (hE9)
    show sx_RP _ _ _ _ _ [.int (-1000000001)] _ _
    refine sx_RP.ret (r := (some (.int (-1000000001)))) rfl rfl ?_
    exact ⟨⟨_, rfl⟩, hI7, hE8⟩
  · refine sx_RP.cu (as := [.int (nI x2)]) (rest2 := []) (st3 := [.int 1]) rfl rfl rfl rfl rfl (cx_231p ⟨nI_le (a := 0) hx3 (by omega), nI_le (b := 3) hx4 (by decide)⟩) rfl ?_
    refine sx_RP.step (pc2 := 13) (ls2 := [(0, .ref 111), (1, .int (nI x2)), (2, .int a2)]) (st2 := []) (w3 := w) rfl rfl ?_
    refine sx_RP.step (pc2 := 14) (ls2 := [(0, .ref 111), (1, .int (nI x2)), (2, .int a2)]) (st2 := [.ref 111]) (w3 := w) rfl rfl ?_
    refine sx_RP.gf (v := .ref 122) rfl rfl hI.1.o111 rfl rfl (show _ = 17 from rfl) ?_
    refine sx_RP.step (pc2 := 18) (ls2 := [(0, .ref 111), (1, .int (nI x2)), (2, .int a2)]) (st2 := [.int (nI x2), .ref 122]) (w3 := w) rfl rfl ?_
    refine sx_RP.ild (c := x2) rfl hI.1.a122.1 hI.1.a122.2 (sx_in_nI (show x2 < 4 by omega) (by decide)) (show (nI x2).toNatClampNeg = x2 from nI_clamp (by omega)) (show _ = 19 from rfl) ?_
    refine sx_RP.br (p1 := 28) (l1 := [(0, .ref 111), (1, .int (nI x2)), (2, .int a2)]) (s1 := []) (v1 := w) (p2 := 22) (l2 := [(0, .ref 111), (1, .int (nI x2)), (2, .int a2)]) (s2 := []) (v2 := w) rfl rfl (fun q10 => ?_) (fun q10 => ?_)
    · replace q10 := of_decide_eq_true q10
      refine sx_RP.step (pc2 := 29) (ls2 := [(0, .ref 111), (1, .int (nI x2)), (2, .int a2)]) (st2 := [.int a2]) (w3 := w) rfl rfl ?_
      rcases in_cases a2 0 47 (m := 0) (n := 47) rfl rfl (by decide) (by decide) with q11 | ⟨x12, hx13, hx14, rfl⟩
      · refine sx_RP.cu (as := [.int a2]) (rest2 := []) (st3 := [.int 0]) rfl rfl rfl rfl rfl (cx_131n q11) rfl ?_
        refine sx_RP.step (pc2 := 35) (ls2 := [(0, .ref 111), (1, .int (nI x2)), (2, .int a2)]) (st2 := []) (w3 := w) rfl rfl ?_
        refine sx_RP.step (pc2 := 36) (ls2 := [(0, .ref 111), (1, .int (nI x2)), (2, .int a2)]) (st2 := [.ref 111]) (w3 := w) rfl rfl ?_
        refine sx_RP.step (pc2 := 37) (ls2 := [(0, .ref 111), (1, .int (nI x2)), (2, .int a2)]) (st2 := [.int 0, .ref 111]) (w3 := w) rfl rfl ?_
        refine sx_RP.callp (as2 := [.ref 111, .int 0]) (rest2 := []) rfl rfl (sx_inv_v2 (mi := 235) (k := 70) (st := [.int 0, .ref 111]) (w := w) rfl rfl hI.1.o111 rfl rfl rfl) rfl rfl rfl (s133_0 hI) (show _ = 40 from rfl) ?_
        rintro r4 w16 ⟨rfl, hI17, hE19⟩
        have hE18 := hE.tr (hE19)
        show sx_RP _ _ _ _ _ [.int (-1000000001)] _ _
        refine sx_RP.ret (r := (some (.int (-1000000001)))) rfl rfl ?_
        exact ⟨⟨_, rfl⟩, hI17, hE18⟩
      · refine sx_RP.cu (as := [.int (nI x12)]) (rest2 := []) (st3 := [.int 1]) rfl rfl rfl rfl rfl (cx_131p ⟨nI_le (a := 0) hx13 (by omega), nI_le (b := 47) hx14 (by decide)⟩) rfl ?_
        refine sx_RP.step (pc2 := 41) (ls2 := [(0, .ref 111), (1, .int (nI x2)), (2, .int (nI x12))]) (st2 := []) (w3 := w) rfl rfl ?_
        refine sx_RP.step (pc2 := 42) (ls2 := [(0, .ref 111), (1, .int (nI x2)), (2, .int (nI x12))]) (st2 := [.int 0]) (w3 := w) rfl rfl ?_
        refine sx_RP.step (pc2 := 43) (ls2 := [(3, .int 0), (0, .ref 111), (1, .int (nI x2)), (2, .int (nI x12))]) (st2 := []) (w3 := w) rfl rfl ?_
        refine sx_RP.step (pc2 := 44) (ls2 := [(3, .int 0), (0, .ref 111), (1, .int (nI x2)), (2, .int (nI x12))]) (st2 := [.int 0]) (w3 := w) rfl rfl ?_
        refine sx_RP.step (pc2 := 46) (ls2 := [(4, .int 0), (3, .int 0), (0, .ref 111), (1, .int (nI x2)), (2, .int (nI x12))]) (st2 := []) (w3 := w) rfl rfl ?_
        exact sx_RP.ls (sx_lr.cons rfl (sx_lr.cons rfl (sx_lr.cons rfl (sx_lr.cons rfl (sx_lr.cons rfl sx_lr.nil))))) (s235L (show x2 < 4 by omega) (show x12 < 48 by omega) 40 0 w 0 (by omega) (by omega) hI hE )
    · replace q10 := Decidable.not_not.mp (of_decide_eq_false q10)
      refine sx_RP.step (pc2 := 23) (ls2 := [(0, .ref 111), (1, .int (nI x2)), (2, .int a2)]) (st2 := [.ref 111]) (w3 := w) rfl rfl ?_
      refine sx_RP.step (pc2 := 24) (ls2 := [(0, .ref 111), (1, .int (nI x2)), (2, .int a2)]) (st2 := [.int 5, .ref 111]) (w3 := w) rfl rfl ?_
      refine sx_RP.callp (as2 := [.ref 111, .int 5]) (rest2 := []) rfl rfl (sx_inv_v2 (mi := 235) (k := 70) (st := [.int 5, .ref 111]) (w := w) rfl rfl hI.1.o111 rfl rfl rfl) rfl rfl rfl (s133_5 hI) (show _ = 27 from rfl) ?_
      rintro r4 w20 ⟨rfl, hI21, hE23⟩
      have hE22 := hE.tr (hE23)
      show sx_RP _ _ _ _ _ [.int (-1000000006)] _ _
      refine sx_RP.ret (r := (some (.int (-1000000006)))) rfl rfl ?_
      exact ⟨⟨_, rfl⟩, hI21, hE22⟩
theorem cop_of {x y : Int32} {n : Nat} (hn : n ≤ 40) (q1 : ¬ x < 0) (q2 : ¬ y < 0) (q4 : ¬ nI n - y < x) : ∃ f m, x = nI f ∧ y = nI m ∧ f + m ≤ n := by
  obtain ⟨f, hf, rfl⟩ := nI_of q1
  obtain ⟨m, hm, rfl⟩ := nI_of q2
  refine ⟨f, m, rfl, rfl, ?_⟩
  have h := mt Int32.lt_iff_toInt_lt.mpr q4
  rw [nI_toInt hf] at h
  have h2 := Int32.toInt_sub (nI n) (nI m)
  rw [nI_toInt (by omega), nI_toInt hm] at h2
  rw [h2] at h
  have h3 : Int.bmod ((n : Int) - m) (2 ^ 32) = (n : Int) - m := by
    rw [Int.bmod_def]
    split <;> omega
  rw [h3] at h
  omega
set_option maxRecDepth 20000 in
set_option maxHeartbeats 4000000 in
theorem s234bB {xs : Option (List Int32)} {d : Nat} {w w0 : List sx_C} {s f t g n : Nat} (hs : s < 4) (ht : t < 4) (hf : f + n ≤ 40) (hg : g + n ≤ 40) (hI : WI w) (hE : EM w0 w) {j : Nat} (hj : j ≤ 40) (kk : ∀ (w4 : List sx_C), WI w4 → EM w0 w4 → j + 1 ≤ 40 → sx_RP xs (d + 7) 234 152 [(0, .ref 111), (1, .int (nI s)), (2, .int (nI f)), (3, .int (nI t)), (4, .int (nI g)), (5, .int (nI n)), (6, .int (nI (j + 1)))] [] w4 (fun r w2 => (∃ v : Int32, r = some (.int v)) ∧ WI w2 ∧ EM w0 w2)) : sx_RP xs (d + 7) 234 152 [(0, .ref 111), (1, .int (nI s)), (2, .int (nI f)), (3, .int (nI t)), (4, .int (nI g)), (5, .int (nI n)), (6, .int (nI j))] [] w (fun r w2 => (∃ v : Int32, r = some (.int v)) ∧ WI w2 ∧ EM w0 w2) := by
  refine sx_RP.step (pc2 := 154) (ls2 := [(0, .ref 111), (1, .int (nI s)), (2, .int (nI f)), (3, .int (nI t)), (4, .int (nI g)), (5, .int (nI n)), (6, .int (nI j))]) (st2 := [.int (nI j)]) (w3 := w) rfl rfl ?_
  refine sx_RP.step (pc2 := 156) (ls2 := [(0, .ref 111), (1, .int (nI s)), (2, .int (nI f)), (3, .int (nI t)), (4, .int (nI g)), (5, .int (nI n)), (6, .int (nI j))]) (st2 := [.int (nI n), .int (nI j)]) (w3 := w) rfl rfl ?_
  refine sx_RP.br (p1 := 187) (l1 := [(0, .ref 111), (1, .int (nI s)), (2, .int (nI f)), (3, .int (nI t)), (4, .int (nI g)), (5, .int (nI n)), (6, .int (nI j))]) (s1 := []) (v1 := w) (p2 := 159) (l2 := [(0, .ref 111), (1, .int (nI s)), (2, .int (nI f)), (3, .int (nI t)), (4, .int (nI g)), (5, .int (nI n)), (6, .int (nI j))]) (s2 := []) (v2 := w) rfl rfl (fun q1 => ?_) (fun q1 => ?_)
  · replace q1 := of_decide_eq_true q1
    replace q1 := (nI_leI (a := n) (b := j) (by omega) (by omega)).mp q1
    refine sx_RP.step (pc2 := 189) (ls2 := [(0, .ref 111), (1, .int (nI s)), (2, .int (nI f)), (3, .int (nI t)), (4, .int (nI g)), (5, .int (nI n)), (6, .int (nI j))]) (st2 := [.int (nI n)]) (w3 := w) rfl rfl ?_
    refine sx_RP.ret (r := (some (.int (nI n)))) rfl rfl ?_
    exact ⟨⟨_, rfl⟩, hI, hE⟩
  · replace q1 := of_decide_eq_false q1
    replace q1 := mt (nI_leI (a := n) (b := j) (by omega) (by omega)).mpr q1
    refine sx_RP.step (pc2 := 160) (ls2 := [(0, .ref 111), (1, .int (nI s)), (2, .int (nI f)), (3, .int (nI t)), (4, .int (nI g)), (5, .int (nI n)), (6, .int (nI j))]) (st2 := [.ref 111]) (w3 := w) rfl rfl ?_
    refine sx_RP.gf (v := .ref 124) rfl rfl hI.1.o111 rfl rfl (show _ = 163 from rfl) ?_
    refine sx_RP.step (pc2 := 165) (ls2 := [(0, .ref 111), (1, .int (nI s)), (2, .int (nI f)), (3, .int (nI t)), (4, .int (nI g)), (5, .int (nI n)), (6, .int (nI j))]) (st2 := [.int 40, .ref 124]) (w3 := w) rfl rfl ?_
    refine sx_RP.step (pc2 := 166) (ls2 := [(0, .ref 111), (1, .int (nI s)), (2, .int (nI f)), (3, .int (nI t)), (4, .int (nI g)), (5, .int (nI n)), (6, .int (nI j))]) (st2 := [.int (nI t), .int 40, .ref 124]) (w3 := w) rfl rfl ?_
    refine sx_RP.step (pc2 := 167) (ls2 := [(0, .ref 111), (1, .int (nI s)), (2, .int (nI f)), (3, .int (nI t)), (4, .int (nI g)), (5, .int (nI n)), (6, .int (nI j))]) (st2 := [.int (40 * (nI t)), .ref 124]) (w3 := w) rfl rfl ?_
    rw [show (40 * (nI t) : Int32) = nI (40 * t) from nI_mul 40 t]
    refine sx_RP.step (pc2 := 169) (ls2 := [(0, .ref 111), (1, .int (nI s)), (2, .int (nI f)), (3, .int (nI t)), (4, .int (nI g)), (5, .int (nI n)), (6, .int (nI j))]) (st2 := [.int (nI g), .int (nI (40 * t)), .ref 124]) (w3 := w) rfl rfl ?_
    refine sx_RP.step (pc2 := 170) (ls2 := [(0, .ref 111), (1, .int (nI s)), (2, .int (nI f)), (3, .int (nI t)), (4, .int (nI g)), (5, .int (nI n)), (6, .int (nI j))]) (st2 := [.int ((nI (40 * t)) + (nI g)), .ref 124]) (w3 := w) rfl rfl ?_
    rw [show ((nI (40 * t)) + (nI g) : Int32) = nI ((40 * t) + g) from nI_add (40 * t) g]
    refine sx_RP.step (pc2 := 172) (ls2 := [(0, .ref 111), (1, .int (nI s)), (2, .int (nI f)), (3, .int (nI t)), (4, .int (nI g)), (5, .int (nI n)), (6, .int (nI j))]) (st2 := [.int (nI j), .int (nI ((40 * t) + g)), .ref 124]) (w3 := w) rfl rfl ?_
    refine sx_RP.step (pc2 := 173) (ls2 := [(0, .ref 111), (1, .int (nI s)), (2, .int (nI f)), (3, .int (nI t)), (4, .int (nI g)), (5, .int (nI n)), (6, .int (nI j))]) (st2 := [.int ((nI ((40 * t) + g)) + (nI j)), .ref 124]) (w3 := w) rfl rfl ?_
    rw [show ((nI ((40 * t) + g)) + (nI j) : Int32) = nI (((40 * t) + g) + j) from nI_add ((40 * t) + g) j]
    refine sx_RP.step (pc2 := 174) (ls2 := [(0, .ref 111), (1, .int (nI s)), (2, .int (nI f)), (3, .int (nI t)), (4, .int (nI g)), (5, .int (nI n)), (6, .int (nI j))]) (st2 := [.ref 111, .int (nI (((40 * t) + g) + j)), .ref 124]) (w3 := w) rfl rfl ?_
    refine sx_RP.gf (v := .ref 125) rfl rfl hI.1.o111 rfl rfl (show _ = 177 from rfl) ?_
    refine sx_RP.step (pc2 := 179) (ls2 := [(0, .ref 111), (1, .int (nI s)), (2, .int (nI f)), (3, .int (nI t)), (4, .int (nI g)), (5, .int (nI n)), (6, .int (nI j))]) (st2 := [.int (nI j), .ref 125, .int (nI (((40 * t) + g) + j)), .ref 124]) (w3 := w) rfl rfl ?_
    refine sx_RP.lld (c := j) rfl hI.1.a125.1 hI.1.a125.2 (sx_in_nI (show j < 40 by omega) (by decide)) (show (nI j).toNatClampNeg = j from nI_clamp (by omega)) (show _ = 180 from rfl) ?_
    refine sx_RP.mN hI hE rfl hI.1.a124 (sx_in_nI (show (((40 * t) + g) + j) < 160 by omega) (by decide)) (by decide) (show _ = 181 from rfl) (fun w2 hI3 hE4 hk5 => ?_)
    refine sx_RP.step (pc2 := 184) (ls2 := [(6, .int ((nI j) + 1)), (0, .ref 111), (1, .int (nI s)), (2, .int (nI f)), (3, .int (nI t)), (4, .int (nI g)), (5, .int (nI n))]) (st2 := []) (w3 := w2) rfl rfl ?_
    rw [nI_1 j]
    refine sx_RP.step (pc2 := 152) (ls2 := [(6, .int (nI (j + 1))), (0, .ref 111), (1, .int (nI s)), (2, .int (nI f)), (3, .int (nI t)), (4, .int (nI g)), (5, .int (nI n))]) (st2 := []) (w3 := w2) rfl rfl ?_
    exact sx_RP.ls (sx_lr.cons rfl (sx_lr.cons rfl (sx_lr.cons rfl (sx_lr.cons rfl (sx_lr.cons rfl (sx_lr.cons rfl (sx_lr.cons rfl sx_lr.nil))))))) (kk w2 hI3 hE4 (by omega))
set_option maxRecDepth 20000 in
set_option maxHeartbeats 4000000 in
theorem s234bL {xs : Option (List Int32)} {d : Nat} {w0 : List sx_C} {s f t g n : Nat} (hs : s < 4) (ht : t < 4) (hf : f + n ≤ 40) (hg : g + n ≤ 40) : ∀ (fz j : Nat) (w : List sx_C) , 40 ≤ j + fz * 1 → j ≤ 40 → WI w → EM w0 w → sx_RP xs (d + 7) 234 152 [(0, .ref 111), (1, .int (nI s)), (2, .int (nI f)), (3, .int (nI t)), (4, .int (nI g)), (5, .int (nI n)), (6, .int (nI j))] [] w (fun r w2 => (∃ v : Int32, r = some (.int v)) ∧ WI w2 ∧ EM w0 w2)
  | 0, j, w, h, hj, hI, hE => s234bB hs ht hf hg hI hE hj   (fun w4  hI4 hE4 hlt  => absurd hlt (by omega)) 
  | fz + 1, j, w, h, hj, hI, hE => s234bB hs ht hf hg hI hE hj   (fun w4  hI4 hE4 hlt  => s234bL hs ht hf hg  fz (j + 1) w4  (by omega) hlt hI4 hE4 ) 
set_option maxRecDepth 20000 in
set_option maxHeartbeats 4000000 in
theorem s234aB {xs : Option (List Int32)} {d : Nat} {w w0 : List sx_C} {s f t g n : Nat} (hs : s < 4) (ht : t < 4) (hf : f + n ≤ 40) (hg : g + n ≤ 40) (hI : WI w) (hE : EM w0 w) {j : Nat} (hj : j ≤ 40) (kk : ∀ (w4 : List sx_C), WI w4 → EM w0 w4 → j + 1 ≤ 40 → sx_RP xs (d + 7) 234 115 [(0, .ref 111), (1, .int (nI s)), (2, .int (nI f)), (3, .int (nI t)), (4, .int (nI g)), (5, .int (nI n)), (6, .int (nI (j + 1)))] [] w4 (fun r w2 => (∃ v : Int32, r = some (.int v)) ∧ WI w2 ∧ EM w0 w2)) (kx149 : ∀ (w4 : List sx_C), WI w4 → EM w0 w4 → sx_RP xs (d + 7) 234 149 [(0, .ref 111), (1, .int (nI s)), (2, .int (nI f)), (3, .int (nI t)), (4, .int (nI g)), (5, .int (nI n))] [] w4 (fun r w2 => (∃ v : Int32, r = some (.int v)) ∧ WI w2 ∧ EM w0 w2)) : sx_RP xs (d + 7) 234 115 [(0, .ref 111), (1, .int (nI s)), (2, .int (nI f)), (3, .int (nI t)), (4, .int (nI g)), (5, .int (nI n)), (6, .int (nI j))] [] w (fun r w2 => (∃ v : Int32, r = some (.int v)) ∧ WI w2 ∧ EM w0 w2) := by
  refine sx_RP.step (pc2 := 117) (ls2 := [(0, .ref 111), (1, .int (nI s)), (2, .int (nI f)), (3, .int (nI t)), (4, .int (nI g)), (5, .int (nI n)), (6, .int (nI j))]) (st2 := [.int (nI j)]) (w3 := w) rfl rfl ?_
  refine sx_RP.step (pc2 := 119) (ls2 := [(0, .ref 111), (1, .int (nI s)), (2, .int (nI f)), (3, .int (nI t)), (4, .int (nI g)), (5, .int (nI n)), (6, .int (nI j))]) (st2 := [.int (nI n), .int (nI j)]) (w3 := w) rfl rfl ?_
  refine sx_RP.br (p1 := 149) (l1 := [(0, .ref 111), (1, .int (nI s)), (2, .int (nI f)), (3, .int (nI t)), (4, .int (nI g)), (5, .int (nI n)), (6, .int (nI j))]) (s1 := []) (v1 := w) (p2 := 122) (l2 := [(0, .ref 111), (1, .int (nI s)), (2, .int (nI f)), (3, .int (nI t)), (4, .int (nI g)), (5, .int (nI n)), (6, .int (nI j))]) (s2 := []) (v2 := w) rfl rfl (fun q1 => ?_) (fun q1 => ?_)
  · replace q1 := of_decide_eq_true q1
    replace q1 := (nI_leI (a := n) (b := j) (by omega) (by omega)).mp q1
    exact sx_RP.ls (sx_lr.cons rfl (sx_lr.cons rfl (sx_lr.cons rfl (sx_lr.cons rfl (sx_lr.cons rfl (sx_lr.cons rfl sx_lr.nil)))))) (kx149 w hI hE)
  · replace q1 := of_decide_eq_false q1
    replace q1 := mt (nI_leI (a := n) (b := j) (by omega) (by omega)).mpr q1
    refine sx_RP.step (pc2 := 123) (ls2 := [(0, .ref 111), (1, .int (nI s)), (2, .int (nI f)), (3, .int (nI t)), (4, .int (nI g)), (5, .int (nI n)), (6, .int (nI j))]) (st2 := [.ref 111]) (w3 := w) rfl rfl ?_
    refine sx_RP.gf (v := .ref 125) rfl rfl hI.1.o111 rfl rfl (show _ = 126 from rfl) ?_
    refine sx_RP.step (pc2 := 128) (ls2 := [(0, .ref 111), (1, .int (nI s)), (2, .int (nI f)), (3, .int (nI t)), (4, .int (nI g)), (5, .int (nI n)), (6, .int (nI j))]) (st2 := [.int (nI j), .ref 125]) (w3 := w) rfl rfl ?_
    refine sx_RP.step (pc2 := 129) (ls2 := [(0, .ref 111), (1, .int (nI s)), (2, .int (nI f)), (3, .int (nI t)), (4, .int (nI g)), (5, .int (nI n)), (6, .int (nI j))]) (st2 := [.ref 111, .int (nI j), .ref 125]) (w3 := w) rfl rfl ?_
    refine sx_RP.gf (v := .ref 124) rfl rfl hI.1.o111 rfl rfl (show _ = 132 from rfl) ?_
    refine sx_RP.step (pc2 := 134) (ls2 := [(0, .ref 111), (1, .int (nI s)), (2, .int (nI f)), (3, .int (nI t)), (4, .int (nI g)), (5, .int (nI n)), (6, .int (nI j))]) (st2 := [.int 40, .ref 124, .int (nI j), .ref 125]) (w3 := w) rfl rfl ?_
    refine sx_RP.step (pc2 := 135) (ls2 := [(0, .ref 111), (1, .int (nI s)), (2, .int (nI f)), (3, .int (nI t)), (4, .int (nI g)), (5, .int (nI n)), (6, .int (nI j))]) (st2 := [.int (nI s), .int 40, .ref 124, .int (nI j), .ref 125]) (w3 := w) rfl rfl ?_
    refine sx_RP.step (pc2 := 136) (ls2 := [(0, .ref 111), (1, .int (nI s)), (2, .int (nI f)), (3, .int (nI t)), (4, .int (nI g)), (5, .int (nI n)), (6, .int (nI j))]) (st2 := [.int (40 * (nI s)), .ref 124, .int (nI j), .ref 125]) (w3 := w) rfl rfl ?_
    rw [show (40 * (nI s) : Int32) = nI (40 * s) from nI_mul 40 s]
    refine sx_RP.step (pc2 := 137) (ls2 := [(0, .ref 111), (1, .int (nI s)), (2, .int (nI f)), (3, .int (nI t)), (4, .int (nI g)), (5, .int (nI n)), (6, .int (nI j))]) (st2 := [.int (nI f), .int (nI (40 * s)), .ref 124, .int (nI j), .ref 125]) (w3 := w) rfl rfl ?_
    refine sx_RP.step (pc2 := 138) (ls2 := [(0, .ref 111), (1, .int (nI s)), (2, .int (nI f)), (3, .int (nI t)), (4, .int (nI g)), (5, .int (nI n)), (6, .int (nI j))]) (st2 := [.int ((nI (40 * s)) + (nI f)), .ref 124, .int (nI j), .ref 125]) (w3 := w) rfl rfl ?_
    rw [show ((nI (40 * s)) + (nI f) : Int32) = nI ((40 * s) + f) from nI_add (40 * s) f]
    refine sx_RP.step (pc2 := 140) (ls2 := [(0, .ref 111), (1, .int (nI s)), (2, .int (nI f)), (3, .int (nI t)), (4, .int (nI g)), (5, .int (nI n)), (6, .int (nI j))]) (st2 := [.int (nI j), .int (nI ((40 * s) + f)), .ref 124, .int (nI j), .ref 125]) (w3 := w) rfl rfl ?_
    refine sx_RP.step (pc2 := 141) (ls2 := [(0, .ref 111), (1, .int (nI s)), (2, .int (nI f)), (3, .int (nI t)), (4, .int (nI g)), (5, .int (nI n)), (6, .int (nI j))]) (st2 := [.int ((nI ((40 * s) + f)) + (nI j)), .ref 124, .int (nI j), .ref 125]) (w3 := w) rfl rfl ?_
    rw [show ((nI ((40 * s) + f)) + (nI j) : Int32) = nI (((40 * s) + f) + j) from nI_add ((40 * s) + f) j]
    refine sx_RP.lld (c := (((40 * s) + f) + j)) rfl hI.1.a124.1 hI.1.a124.2 (sx_in_nI (show (((40 * s) + f) + j) < 160 by omega) (by decide)) (show (nI (((40 * s) + f) + j)).toNatClampNeg = (((40 * s) + f) + j) from nI_clamp (by omega)) (show _ = 142 from rfl) ?_
    refine sx_RP.mN hI hE rfl hI.1.a125 (sx_in_nI (show j < 40 by omega) (by decide)) (by decide) (show _ = 143 from rfl) (fun w2 hI3 hE4 hk5 => ?_)
    refine sx_RP.step (pc2 := 146) (ls2 := [(6, .int ((nI j) + 1)), (0, .ref 111), (1, .int (nI s)), (2, .int (nI f)), (3, .int (nI t)), (4, .int (nI g)), (5, .int (nI n))]) (st2 := []) (w3 := w2) rfl rfl ?_
    rw [nI_1 j]
    refine sx_RP.step (pc2 := 115) (ls2 := [(6, .int (nI (j + 1))), (0, .ref 111), (1, .int (nI s)), (2, .int (nI f)), (3, .int (nI t)), (4, .int (nI g)), (5, .int (nI n))]) (st2 := []) (w3 := w2) rfl rfl ?_
    exact sx_RP.ls (sx_lr.cons rfl (sx_lr.cons rfl (sx_lr.cons rfl (sx_lr.cons rfl (sx_lr.cons rfl (sx_lr.cons rfl (sx_lr.cons rfl sx_lr.nil))))))) (kk w2 hI3 hE4 (by omega))
set_option maxRecDepth 20000 in
set_option maxHeartbeats 4000000 in
theorem s234aL {xs : Option (List Int32)} {d : Nat} {w0 : List sx_C} {s f t g n : Nat} (hs : s < 4) (ht : t < 4) (hf : f + n ≤ 40) (hg : g + n ≤ 40) (kx149 : ∀ (w4 : List sx_C), WI w4 → EM w0 w4 → sx_RP xs (d + 7) 234 149 [(0, .ref 111), (1, .int (nI s)), (2, .int (nI f)), (3, .int (nI t)), (4, .int (nI g)), (5, .int (nI n))] [] w4 (fun r w2 => (∃ v : Int32, r = some (.int v)) ∧ WI w2 ∧ EM w0 w2)) : ∀ (fz j : Nat) (w : List sx_C) , 40 ≤ j + fz * 1 → j ≤ 40 → WI w → EM w0 w → sx_RP xs (d + 7) 234 115 [(0, .ref 111), (1, .int (nI s)), (2, .int (nI f)), (3, .int (nI t)), (4, .int (nI g)), (5, .int (nI n)), (6, .int (nI j))] [] w (fun r w2 => (∃ v : Int32, r = some (.int v)) ∧ WI w2 ∧ EM w0 w2)
  | 0, j, w, h, hj, hI, hE => s234aB hs ht hf hg hI hE hj   (fun w4  hI4 hE4 hlt  => absurd hlt (by omega)) kx149
  | fz + 1, j, w, h, hj, hI, hE => s234aB hs ht hf hg hI hE hj   (fun w4  hI4 hE4 hlt  => s234aL hs ht hf hg kx149 fz (j + 1) w4  (by omega) hlt hI4 hE4 ) kx149
set_option maxRecDepth 20000 in
set_option maxHeartbeats 4000000 in
theorem s234 {xs : Option (List Int32)} {d : Nat} {w : List sx_C} (hI : WI w) (a1 a2 a3 a4 a5 : Int32) : sx_RP xs (d + 7) 234 0 (lv_args 0 [.ref 111, .int a1, .int a2, .int a3, .int a4, .int a5]) [] w (fun r w2 => (∃ v : Int32, r = some (.int v)) ∧ WI w2 ∧ EM w w2) := by
  have hE : EM w w := EM.rf
  refine sx_RP.step (pc2 := 1) (ls2 := [(0, .ref 111), (1, .int a1), (2, .int a2), (3, .int a3), (4, .int a4), (5, .int a5)]) (st2 := [.int a1]) (w3 := w) rfl rfl ?_
  rcases in_cases a1 0 3 (m := 0) (n := 3) rfl rfl (by decide) (by decide) with q1 | ⟨x2, hx3, hx4, rfl⟩
  · refine sx_RP.cu (as := [.int a1]) (rest2 := []) (st3 := [.int 0]) rfl rfl rfl rfl rfl (cx_231n q1) rfl ?_
    refine sx_RP.step (pc2 := 14) (ls2 := [(0, .ref 111), (1, .int a1), (2, .int a2), (3, .int a3), (4, .int a4), (5, .int a5)]) (st2 := []) (w3 := w) rfl rfl ?_
    refine sx_RP.step (pc2 := 15) (ls2 := [(0, .ref 111), (1, .int a1), (2, .int a2), (3, .int a3), (4, .int a4), (5, .int a5)]) (st2 := [.ref 111]) (w3 := w) rfl rfl ?_
    refine sx_RP.step (pc2 := 16) (ls2 := [(0, .ref 111), (1, .int a1), (2, .int a2), (3, .int a3), (4, .int a4), (5, .int a5)]) (st2 := [.int 0, .ref 111]) (w3 := w) rfl rfl ?_
    refine sx_RP.callp (as2 := [.ref 111, .int 0]) (rest2 := []) rfl rfl (sx_inv_v2 (mi := 234) (k := 70) (st := [.int 0, .ref 111]) (w := w) rfl rfl hI.1.o111 rfl rfl rfl) rfl rfl rfl (s133_0 hI) (show _ = 19 from rfl) ?_
    rintro r4 w6 ⟨rfl, hI7, hE9⟩
    have hE8 := hE.tr (hE9)
    show sx_RP _ _ _ _ _ [.int (-1000000001)] _ _
    refine sx_RP.ret (r := (some (.int (-1000000001)))) rfl rfl ?_
    exact ⟨⟨_, rfl⟩, hI7, hE8⟩
  · refine sx_RP.cu (as := [.int (nI x2)]) (rest2 := []) (st3 := [.int 1]) rfl rfl rfl rfl rfl (cx_231p ⟨nI_le (a := 0) hx3 (by omega), nI_le (b := 3) hx4 (by decide)⟩) rfl ?_
    refine sx_RP.step (pc2 := 7) (ls2 := [(0, .ref 111), (1, .int (nI x2)), (2, .int a2), (3, .int a3), (4, .int a4), (5, .int a5)]) (st2 := []) (w3 := w) rfl rfl ?_
    refine sx_RP.step (pc2 := 8) (ls2 := [(0, .ref 111), (1, .int (nI x2)), (2, .int a2), (3, .int a3), (4, .int a4), (5, .int a5)]) (st2 := [.int a3]) (w3 := w) rfl rfl ?_
    rcases in_cases a3 0 3 (m := 0) (n := 3) rfl rfl (by decide) (by decide) with q10 | ⟨x11, hx12, hx13, rfl⟩
    · refine sx_RP.cu (as := [.int a3]) (rest2 := []) (st3 := [.int 0]) rfl rfl rfl rfl rfl (cx_231n q10) rfl ?_
      refine sx_RP.step (pc2 := 14) (ls2 := [(0, .ref 111), (1, .int (nI x2)), (2, .int a2), (3, .int a3), (4, .int a4), (5, .int a5)]) (st2 := []) (w3 := w) rfl rfl ?_
      refine sx_RP.step (pc2 := 15) (ls2 := [(0, .ref 111), (1, .int (nI x2)), (2, .int a2), (3, .int a3), (4, .int a4), (5, .int a5)]) (st2 := [.ref 111]) (w3 := w) rfl rfl ?_
      refine sx_RP.step (pc2 := 16) (ls2 := [(0, .ref 111), (1, .int (nI x2)), (2, .int a2), (3, .int a3), (4, .int a4), (5, .int a5)]) (st2 := [.int 0, .ref 111]) (w3 := w) rfl rfl ?_
      refine sx_RP.callp (as2 := [.ref 111, .int 0]) (rest2 := []) rfl rfl (sx_inv_v2 (mi := 234) (k := 70) (st := [.int 0, .ref 111]) (w := w) rfl rfl hI.1.o111 rfl rfl rfl) rfl rfl rfl (s133_0 hI) (show _ = 19 from rfl) ?_
      rintro r4 w15 ⟨rfl, hI16, hE18⟩
      have hE17 := hE.tr (hE18)
      show sx_RP _ _ _ _ _ [.int (-1000000001)] _ _
      refine sx_RP.ret (r := (some (.int (-1000000001)))) rfl rfl ?_
      exact ⟨⟨_, rfl⟩, hI16, hE17⟩
    · refine sx_RP.cu (as := [.int (nI x11)]) (rest2 := []) (st3 := [.int 1]) rfl rfl rfl rfl rfl (cx_231p ⟨nI_le (a := 0) hx12 (by omega), nI_le (b := 3) hx13 (by decide)⟩) rfl ?_
      refine sx_RP.step (pc2 := 20) (ls2 := [(0, .ref 111), (1, .int (nI x2)), (2, .int a2), (3, .int (nI x11)), (4, .int a4), (5, .int a5)]) (st2 := []) (w3 := w) rfl rfl ?_
      refine sx_RP.step (pc2 := 21) (ls2 := [(0, .ref 111), (1, .int (nI x2)), (2, .int a2), (3, .int (nI x11)), (4, .int a4), (5, .int a5)]) (st2 := [.ref 111]) (w3 := w) rfl rfl ?_
      refine sx_RP.gf (v := .ref 122) rfl rfl hI.1.o111 rfl rfl (show _ = 24 from rfl) ?_
      refine sx_RP.step (pc2 := 25) (ls2 := [(0, .ref 111), (1, .int (nI x2)), (2, .int a2), (3, .int (nI x11)), (4, .int a4), (5, .int a5)]) (st2 := [.int (nI x2), .ref 122]) (w3 := w) rfl rfl ?_
      refine sx_RP.ild (c := x2) rfl hI.1.a122.1 hI.1.a122.2 (sx_in_nI (show x2 < 4 by omega) (by decide)) (show (nI x2).toNatClampNeg = x2 from nI_clamp (by omega)) (show _ = 26 from rfl) ?_
      refine sx_RP.br (p1 := 38) (l1 := [(0, .ref 111), (1, .int (nI x2)), (2, .int a2), (3, .int (nI x11)), (4, .int a4), (5, .int a5)]) (s1 := []) (v1 := w) (p2 := 29) (l2 := [(0, .ref 111), (1, .int (nI x2)), (2, .int a2), (3, .int (nI x11)), (4, .int a4), (5, .int a5)]) (s2 := []) (v2 := w) rfl rfl (fun q19 => ?_) (fun q19 => ?_)
      · replace q19 := of_decide_eq_true q19
        refine sx_RP.step (pc2 := 39) (ls2 := [(0, .ref 111), (1, .int (nI x2)), (2, .int a2), (3, .int (nI x11)), (4, .int a4), (5, .int a5)]) (st2 := [.ref 111]) (w3 := w) rfl rfl ?_
        refine sx_RP.step (pc2 := 40) (ls2 := [(0, .ref 111), (1, .int (nI x2)), (2, .int a2), (3, .int (nI x11)), (4, .int a4), (5, .int a5)]) (st2 := [.int 5, .ref 111]) (w3 := w) rfl rfl ?_
        refine sx_RP.callp (as2 := [.ref 111, .int 5]) (rest2 := []) rfl rfl (sx_inv_v2 (mi := 234) (k := 70) (st := [.int 5, .ref 111]) (w := w) rfl rfl hI.1.o111 rfl rfl rfl) rfl rfl rfl (s133_5 hI) (show _ = 43 from rfl) ?_
        rintro r4 w20 ⟨rfl, hI21, hE23⟩
        have hE22 := hE.tr (hE23)
        show sx_RP _ _ _ _ _ [.int (-1000000006)] _ _
        refine sx_RP.ret (r := (some (.int (-1000000006)))) rfl rfl ?_
        exact ⟨⟨_, rfl⟩, hI21, hE22⟩
      · replace q19 := of_decide_eq_false q19
        refine sx_RP.step (pc2 := 30) (ls2 := [(0, .ref 111), (1, .int (nI x2)), (2, .int a2), (3, .int (nI x11)), (4, .int a4), (5, .int a5)]) (st2 := [.ref 111]) (w3 := w) rfl rfl ?_
        refine sx_RP.gf (v := .ref 122) rfl rfl hI.1.o111 rfl rfl (show _ = 33 from rfl) ?_
        refine sx_RP.step (pc2 := 34) (ls2 := [(0, .ref 111), (1, .int (nI x2)), (2, .int a2), (3, .int (nI x11)), (4, .int a4), (5, .int a5)]) (st2 := [.int (nI x11), .ref 122]) (w3 := w) rfl rfl ?_
        refine sx_RP.ild (c := x11) rfl hI.1.a122.1 hI.1.a122.2 (sx_in_nI (show x11 < 4 by omega) (by decide)) (show (nI x11).toNatClampNeg = x11 from nI_clamp (by omega)) (show _ = 35 from rfl) ?_
        refine sx_RP.br (p1 := 44) (l1 := [(0, .ref 111), (1, .int (nI x2)), (2, .int a2), (3, .int (nI x11)), (4, .int a4), (5, .int a5)]) (s1 := []) (v1 := w) (p2 := 38) (l2 := [(0, .ref 111), (1, .int (nI x2)), (2, .int a2), (3, .int (nI x11)), (4, .int a4), (5, .int a5)]) (s2 := []) (v2 := w) rfl rfl (fun q24 => ?_) (fun q24 => ?_)
        · replace q24 := of_decide_eq_true q24
          refine sx_RP.step (pc2 := 45) (ls2 := [(0, .ref 111), (1, .int (nI x2)), (2, .int a2), (3, .int (nI x11)), (4, .int a4), (5, .int a5)]) (st2 := [.ref 111]) (w3 := w) rfl rfl ?_
          refine sx_RP.gf (v := .ref 122) rfl rfl hI.1.o111 rfl rfl (show _ = 48 from rfl) ?_
          refine sx_RP.step (pc2 := 49) (ls2 := [(0, .ref 111), (1, .int (nI x2)), (2, .int a2), (3, .int (nI x11)), (4, .int a4), (5, .int a5)]) (st2 := [.int (nI x2), .ref 122]) (w3 := w) rfl rfl ?_
          refine sx_RP.ild (c := x2) rfl hI.1.a122.1 hI.1.a122.2 (sx_in_nI (show x2 < 4 by omega) (by decide)) (show (nI x2).toNatClampNeg = x2 from nI_clamp (by omega)) (show _ = 50 from rfl) ?_
          refine sx_RP.step (pc2 := 51) (ls2 := [(0, .ref 111), (1, .int (nI x2)), (2, .int a2), (3, .int (nI x11)), (4, .int a4), (5, .int a5)]) (st2 := [.ref 111, .int ((ia w 122).getD x2 0)]) (w3 := w) rfl rfl ?_
          refine sx_RP.gf (v := .ref 122) rfl rfl hI.1.o111 rfl rfl (show _ = 54 from rfl) ?_
          refine sx_RP.step (pc2 := 55) (ls2 := [(0, .ref 111), (1, .int (nI x2)), (2, .int a2), (3, .int (nI x11)), (4, .int a4), (5, .int a5)]) (st2 := [.int (nI x11), .ref 122, .int ((ia w 122).getD x2 0)]) (w3 := w) rfl rfl ?_
          refine sx_RP.ild (c := x11) rfl hI.1.a122.1 hI.1.a122.2 (sx_in_nI (show x11 < 4 by omega) (by decide)) (show (nI x11).toNatClampNeg = x11 from nI_clamp (by omega)) (show _ = 56 from rfl) ?_
          refine sx_RP.br (p1 := 65) (l1 := [(0, .ref 111), (1, .int (nI x2)), (2, .int a2), (3, .int (nI x11)), (4, .int a4), (5, .int a5)]) (s1 := []) (v1 := w) (p2 := 59) (l2 := [(0, .ref 111), (1, .int (nI x2)), (2, .int a2), (3, .int (nI x11)), (4, .int a4), (5, .int a5)]) (s2 := []) (v2 := w) rfl rfl (fun q25 => ?_) (fun q25 => ?_)
          · replace q25 := of_decide_eq_true q25
            refine sx_RP.step (pc2 := 67) (ls2 := [(0, .ref 111), (1, .int (nI x2)), (2, .int a2), (3, .int (nI x11)), (4, .int a4), (5, .int a5)]) (st2 := [.int a5]) (w3 := w) rfl rfl ?_
            refine sx_RP.br (p1 := 106) (l1 := [(0, .ref 111), (1, .int (nI x2)), (2, .int a2), (3, .int (nI x11)), (4, .int a4), (5, .int a5)]) (s1 := []) (v1 := w) (p2 := 70) (l2 := [(0, .ref 111), (1, .int (nI x2)), (2, .int a2), (3, .int (nI x11)), (4, .int a4), (5, .int a5)]) (s2 := []) (v2 := w) rfl rfl (fun q26 => ?_) (fun q26 => ?_)
            · replace q26 := of_decide_eq_true q26
              refine sx_RP.step (pc2 := 107) (ls2 := [(0, .ref 111), (1, .int (nI x2)), (2, .int a2), (3, .int (nI x11)), (4, .int a4), (5, .int a5)]) (st2 := [.ref 111]) (w3 := w) rfl rfl ?_
              refine sx_RP.step (pc2 := 108) (ls2 := [(0, .ref 111), (1, .int (nI x2)), (2, .int a2), (3, .int (nI x11)), (4, .int a4), (5, .int a5)]) (st2 := [.int 0, .ref 111]) (w3 := w) rfl rfl ?_
              refine sx_RP.callp (as2 := [.ref 111, .int 0]) (rest2 := []) rfl rfl (sx_inv_v2 (mi := 234) (k := 70) (st := [.int 0, .ref 111]) (w := w) rfl rfl hI.1.o111 rfl rfl rfl) rfl rfl rfl (s133_0 hI) (show _ = 111 from rfl) ?_
              rintro r4 w27 ⟨rfl, hI28, hE30⟩
              have hE29 := hE.tr (hE30)
              show sx_RP _ _ _ _ _ [.int (-1000000001)] _ _
              refine sx_RP.ret (r := (some (.int (-1000000001)))) rfl rfl ?_
              exact ⟨⟨_, rfl⟩, hI28, hE29⟩
            · replace q26 := of_decide_eq_false q26
              refine sx_RP.step (pc2 := 71) (ls2 := [(0, .ref 111), (1, .int (nI x2)), (2, .int a2), (3, .int (nI x11)), (4, .int a4), (5, .int a5)]) (st2 := [.int a2]) (w3 := w) rfl rfl ?_
              refine sx_RP.br (p1 := 106) (l1 := [(0, .ref 111), (1, .int (nI x2)), (2, .int a2), (3, .int (nI x11)), (4, .int a4), (5, .int a5)]) (s1 := []) (v1 := w) (p2 := 74) (l2 := [(0, .ref 111), (1, .int (nI x2)), (2, .int a2), (3, .int (nI x11)), (4, .int a4), (5, .int a5)]) (s2 := []) (v2 := w) rfl rfl (fun q31 => ?_) (fun q31 => ?_)
              · replace q31 := of_decide_eq_true q31
                refine sx_RP.step (pc2 := 107) (ls2 := [(0, .ref 111), (1, .int (nI x2)), (2, .int a2), (3, .int (nI x11)), (4, .int a4), (5, .int a5)]) (st2 := [.ref 111]) (w3 := w) rfl rfl ?_
                refine sx_RP.step (pc2 := 108) (ls2 := [(0, .ref 111), (1, .int (nI x2)), (2, .int a2), (3, .int (nI x11)), (4, .int a4), (5, .int a5)]) (st2 := [.int 0, .ref 111]) (w3 := w) rfl rfl ?_
                refine sx_RP.callp (as2 := [.ref 111, .int 0]) (rest2 := []) rfl rfl (sx_inv_v2 (mi := 234) (k := 70) (st := [.int 0, .ref 111]) (w := w) rfl rfl hI.1.o111 rfl rfl rfl) rfl rfl rfl (s133_0 hI) (show _ = 111 from rfl) ?_
                rintro r4 w32 ⟨rfl, hI33, hE35⟩
                have hE34 := hE.tr (hE35)
                show sx_RP _ _ _ _ _ [.int (-1000000001)] _ _
                refine sx_RP.ret (r := (some (.int (-1000000001)))) rfl rfl ?_
                exact ⟨⟨_, rfl⟩, hI33, hE34⟩
              · replace q31 := of_decide_eq_false q31
                refine sx_RP.step (pc2 := 76) (ls2 := [(0, .ref 111), (1, .int (nI x2)), (2, .int a2), (3, .int (nI x11)), (4, .int a4), (5, .int a5)]) (st2 := [.int a4]) (w3 := w) rfl rfl ?_
                refine sx_RP.br (p1 := 106) (l1 := [(0, .ref 111), (1, .int (nI x2)), (2, .int a2), (3, .int (nI x11)), (4, .int a4), (5, .int a5)]) (s1 := []) (v1 := w) (p2 := 79) (l2 := [(0, .ref 111), (1, .int (nI x2)), (2, .int a2), (3, .int (nI x11)), (4, .int a4), (5, .int a5)]) (s2 := []) (v2 := w) rfl rfl (fun q36 => ?_) (fun q36 => ?_)
                · replace q36 := of_decide_eq_true q36
                  refine sx_RP.step (pc2 := 107) (ls2 := [(0, .ref 111), (1, .int (nI x2)), (2, .int a2), (3, .int (nI x11)), (4, .int a4), (5, .int a5)]) (st2 := [.ref 111]) (w3 := w) rfl rfl ?_
                  refine sx_RP.step (pc2 := 108) (ls2 := [(0, .ref 111), (1, .int (nI x2)), (2, .int a2), (3, .int (nI x11)), (4, .int a4), (5, .int a5)]) (st2 := [.int 0, .ref 111]) (w3 := w) rfl rfl ?_
                  refine sx_RP.callp (as2 := [.ref 111, .int 0]) (rest2 := []) rfl rfl (sx_inv_v2 (mi := 234) (k := 70) (st := [.int 0, .ref 111]) (w := w) rfl rfl hI.1.o111 rfl rfl rfl) rfl rfl rfl (s133_0 hI) (show _ = 111 from rfl) ?_
                  rintro r4 w37 ⟨rfl, hI38, hE40⟩
                  have hE39 := hE.tr (hE40)
                  show sx_RP _ _ _ _ _ [.int (-1000000001)] _ _
                  refine sx_RP.ret (r := (some (.int (-1000000001)))) rfl rfl ?_
                  exact ⟨⟨_, rfl⟩, hI38, hE39⟩
                · replace q36 := of_decide_eq_false q36
                  refine sx_RP.step (pc2 := 80) (ls2 := [(0, .ref 111), (1, .int (nI x2)), (2, .int a2), (3, .int (nI x11)), (4, .int a4), (5, .int a5)]) (st2 := [.int a2]) (w3 := w) rfl rfl ?_
                  refine sx_RP.step (pc2 := 81) (ls2 := [(0, .ref 111), (1, .int (nI x2)), (2, .int a2), (3, .int (nI x11)), (4, .int a4), (5, .int a5)]) (st2 := [.ref 111, .int a2]) (w3 := w) rfl rfl ?_
                  refine sx_RP.gf (v := .ref 123) rfl rfl hI.1.o111 rfl rfl (show _ = 84 from rfl) ?_
                  refine sx_RP.step (pc2 := 85) (ls2 := [(0, .ref 111), (1, .int (nI x2)), (2, .int a2), (3, .int (nI x11)), (4, .int a4), (5, .int a5)]) (st2 := [.int (nI x2), .ref 123, .int a2]) (w3 := w) rfl rfl ?_
                  refine sx_RP.ild (c := x2) rfl hI.1.a123.1 hI.1.a123.2 (sx_in_nI (show x2 < 4 by omega) (by decide)) (show (nI x2).toNatClampNeg = x2 from nI_clamp (by omega)) (show _ = 86 from rfl) ?_
                  obtain ⟨x41, hx42, ex43⟩ : inR ((ia w 123).getD x2 0) 40 := hI.l (show x2 < 4 by omega)
                  rw [ex43]
                  refine sx_RP.step (pc2 := 88) (ls2 := [(0, .ref 111), (1, .int (nI x2)), (2, .int a2), (3, .int (nI x11)), (4, .int a4), (5, .int a5)]) (st2 := [.int a5, .int (nI x41), .int a2]) (w3 := w) rfl rfl ?_
                  refine sx_RP.step (pc2 := 89) (ls2 := [(0, .ref 111), (1, .int (nI x2)), (2, .int a2), (3, .int (nI x11)), (4, .int a4), (5, .int a5)]) (st2 := [.int ((nI x41) - a5), .int a2]) (w3 := w) rfl rfl ?_
                  refine sx_RP.br (p1 := 106) (l1 := [(0, .ref 111), (1, .int (nI x2)), (2, .int a2), (3, .int (nI x11)), (4, .int a4), (5, .int a5)]) (s1 := []) (v1 := w) (p2 := 92) (l2 := [(0, .ref 111), (1, .int (nI x2)), (2, .int a2), (3, .int (nI x11)), (4, .int a4), (5, .int a5)]) (s2 := []) (v2 := w) rfl rfl (fun q44 => ?_) (fun q44 => ?_)
                  · replace q44 := of_decide_eq_true q44
                    refine sx_RP.step (pc2 := 107) (ls2 := [(0, .ref 111), (1, .int (nI x2)), (2, .int a2), (3, .int (nI x11)), (4, .int a4), (5, .int a5)]) (st2 := [.ref 111]) (w3 := w) rfl rfl ?_
                    refine sx_RP.step (pc2 := 108) (ls2 := [(0, .ref 111), (1, .int (nI x2)), (2, .int a2), (3, .int (nI x11)), (4, .int a4), (5, .int a5)]) (st2 := [.int 0, .ref 111]) (w3 := w) rfl rfl ?_
                    refine sx_RP.callp (as2 := [.ref 111, .int 0]) (rest2 := []) rfl rfl (sx_inv_v2 (mi := 234) (k := 70) (st := [.int 0, .ref 111]) (w := w) rfl rfl hI.1.o111 rfl rfl rfl) rfl rfl rfl (s133_0 hI) (show _ = 111 from rfl) ?_
                    rintro r4 w45 ⟨rfl, hI46, hE48⟩
                    have hE47 := hE.tr (hE48)
                    show sx_RP _ _ _ _ _ [.int (-1000000001)] _ _
                    refine sx_RP.ret (r := (some (.int (-1000000001)))) rfl rfl ?_
                    exact ⟨⟨_, rfl⟩, hI46, hE47⟩
                  · replace q44 := of_decide_eq_false q44
                    refine sx_RP.step (pc2 := 94) (ls2 := [(0, .ref 111), (1, .int (nI x2)), (2, .int a2), (3, .int (nI x11)), (4, .int a4), (5, .int a5)]) (st2 := [.int a4]) (w3 := w) rfl rfl ?_
                    refine sx_RP.step (pc2 := 95) (ls2 := [(0, .ref 111), (1, .int (nI x2)), (2, .int a2), (3, .int (nI x11)), (4, .int a4), (5, .int a5)]) (st2 := [.ref 111, .int a4]) (w3 := w) rfl rfl ?_
                    refine sx_RP.gf (v := .ref 123) rfl rfl hI.1.o111 rfl rfl (show _ = 98 from rfl) ?_
                    refine sx_RP.step (pc2 := 99) (ls2 := [(0, .ref 111), (1, .int (nI x2)), (2, .int a2), (3, .int (nI x11)), (4, .int a4), (5, .int a5)]) (st2 := [.int (nI x11), .ref 123, .int a4]) (w3 := w) rfl rfl ?_
                    refine sx_RP.ild (c := x11) rfl hI.1.a123.1 hI.1.a123.2 (sx_in_nI (show x11 < 4 by omega) (by decide)) (show (nI x11).toNatClampNeg = x11 from nI_clamp (by omega)) (show _ = 100 from rfl) ?_
                    obtain ⟨x49, hx50, ex51⟩ : inR ((ia w 123).getD x11 0) 40 := hI.l (show x11 < 4 by omega)
                    rw [ex51]
                    refine sx_RP.step (pc2 := 102) (ls2 := [(0, .ref 111), (1, .int (nI x2)), (2, .int a2), (3, .int (nI x11)), (4, .int a4), (5, .int a5)]) (st2 := [.int a5, .int (nI x49), .int a4]) (w3 := w) rfl rfl ?_
                    refine sx_RP.step (pc2 := 103) (ls2 := [(0, .ref 111), (1, .int (nI x2)), (2, .int a2), (3, .int (nI x11)), (4, .int a4), (5, .int a5)]) (st2 := [.int ((nI x49) - a5), .int a4]) (w3 := w) rfl rfl ?_
                    refine sx_RP.br (p1 := 112) (l1 := [(0, .ref 111), (1, .int (nI x2)), (2, .int a2), (3, .int (nI x11)), (4, .int a4), (5, .int a5)]) (s1 := []) (v1 := w) (p2 := 106) (l2 := [(0, .ref 111), (1, .int (nI x2)), (2, .int a2), (3, .int (nI x11)), (4, .int a4), (5, .int a5)]) (s2 := []) (v2 := w) rfl rfl (fun q52 => ?_) (fun q52 => ?_)
                    · replace q52 := of_decide_eq_true q52
                      refine sx_RP.step (pc2 := 113) (ls2 := [(0, .ref 111), (1, .int (nI x2)), (2, .int a2), (3, .int (nI x11)), (4, .int a4), (5, .int a5)]) (st2 := [.int 0]) (w3 := w) rfl rfl ?_
                      refine sx_RP.step (pc2 := 115) (ls2 := [(6, .int 0), (0, .ref 111), (1, .int (nI x2)), (2, .int a2), (3, .int (nI x11)), (4, .int a4), (5, .int a5)]) (st2 := []) (w3 := w) rfl rfl ?_
                      obtain ⟨x53, x54, rfl, rfl, hx55⟩ := cop_of (by omega) q31 q26 q44
                      obtain ⟨x56, x57, rfl, ex58, hx59⟩ := cop_of (by omega) q36 q26 (Int32.not_lt.mpr q52)
                      have ex60 := (nI_eq (a := x54) (b := x57) (by omega) (by omega)).mp ex58
                      refine sx_RP.ls (sx_lr.cons rfl (sx_lr.cons rfl (sx_lr.cons rfl (sx_lr.cons rfl (sx_lr.cons rfl (sx_lr.cons rfl (sx_lr.cons rfl sx_lr.nil))))))) (s234aL (show x2 < 4 by omega) (show x11 < 4 by omega) (show x53 + x54 ≤ 40 by omega) (show x56 + x54 ≤ 40 by omega) (fun w61 hI62 hE63 => ?_) 40 0 w (by omega) (by omega) hI hE)
                      refine sx_RP.step (pc2 := 150) (ls2 := [(0, .ref 111), (1, .int (nI x2)), (2, .int (nI x53)), (3, .int (nI x11)), (4, .int (nI x56)), (5, .int (nI x54))]) (st2 := [.int 0]) (w3 := w61) rfl rfl ?_
                      refine sx_RP.step (pc2 := 152) (ls2 := [(6, .int 0), (0, .ref 111), (1, .int (nI x2)), (2, .int (nI x53)), (3, .int (nI x11)), (4, .int (nI x56)), (5, .int (nI x54))]) (st2 := []) (w3 := w61) rfl rfl ?_
                      exact sx_RP.ls (sx_lr.cons rfl (sx_lr.cons rfl (sx_lr.cons rfl (sx_lr.cons rfl (sx_lr.cons rfl (sx_lr.cons rfl (sx_lr.cons rfl sx_lr.nil))))))) (s234bL (show x2 < 4 by omega) (show x11 < 4 by omega) (show x53 + x54 ≤ 40 by omega) (show x56 + x54 ≤ 40 by omega) 40 0 w61 (by omega) (by omega) hI62 hE63)
                    · replace q52 := of_decide_eq_false q52
                      refine sx_RP.step (pc2 := 107) (ls2 := [(0, .ref 111), (1, .int (nI x2)), (2, .int a2), (3, .int (nI x11)), (4, .int a4), (5, .int a5)]) (st2 := [.ref 111]) (w3 := w) rfl rfl ?_
                      refine sx_RP.step (pc2 := 108) (ls2 := [(0, .ref 111), (1, .int (nI x2)), (2, .int a2), (3, .int (nI x11)), (4, .int a4), (5, .int a5)]) (st2 := [.int 0, .ref 111]) (w3 := w) rfl rfl ?_
                      refine sx_RP.callp (as2 := [.ref 111, .int 0]) (rest2 := []) rfl rfl (sx_inv_v2 (mi := 234) (k := 70) (st := [.int 0, .ref 111]) (w := w) rfl rfl hI.1.o111 rfl rfl rfl) rfl rfl rfl (s133_0 hI) (show _ = 111 from rfl) ?_
                      rintro r4 w64 ⟨rfl, hI65, hE67⟩
                      have hE66 := hE.tr (hE67)
                      show sx_RP _ _ _ _ _ [.int (-1000000001)] _ _
                      refine sx_RP.ret (r := (some (.int (-1000000001)))) rfl rfl ?_
                      exact ⟨⟨_, rfl⟩, hI65, hE66⟩
          · replace q25 := of_decide_eq_false q25
            refine sx_RP.step (pc2 := 60) (ls2 := [(0, .ref 111), (1, .int (nI x2)), (2, .int a2), (3, .int (nI x11)), (4, .int a4), (5, .int a5)]) (st2 := [.ref 111]) (w3 := w) rfl rfl ?_
            refine sx_RP.step (pc2 := 61) (ls2 := [(0, .ref 111), (1, .int (nI x2)), (2, .int a2), (3, .int (nI x11)), (4, .int a4), (5, .int a5)]) (st2 := [.int 2, .ref 111]) (w3 := w) rfl rfl ?_
            refine sx_RP.callp (as2 := [.ref 111, .int 2]) (rest2 := []) rfl rfl (sx_inv_v2 (mi := 234) (k := 70) (st := [.int 2, .ref 111]) (w := w) rfl rfl hI.1.o111 rfl rfl rfl) rfl rfl rfl (s133_2 hI) (show _ = 64 from rfl) ?_
            rintro r4 w68 ⟨rfl, hI69, hE71⟩
            have hE70 := hE.tr (hE71)
            show sx_RP _ _ _ _ _ [.int (-1000000003)] _ _
            refine sx_RP.ret (r := (some (.int (-1000000003)))) rfl rfl ?_
            exact ⟨⟨_, rfl⟩, hI69, hE70⟩
        · replace q24 := Decidable.not_not.mp (of_decide_eq_false q24)
          refine sx_RP.step (pc2 := 39) (ls2 := [(0, .ref 111), (1, .int (nI x2)), (2, .int a2), (3, .int (nI x11)), (4, .int a4), (5, .int a5)]) (st2 := [.ref 111]) (w3 := w) rfl rfl ?_
          refine sx_RP.step (pc2 := 40) (ls2 := [(0, .ref 111), (1, .int (nI x2)), (2, .int a2), (3, .int (nI x11)), (4, .int a4), (5, .int a5)]) (st2 := [.int 5, .ref 111]) (w3 := w) rfl rfl ?_
          refine sx_RP.callp (as2 := [.ref 111, .int 5]) (rest2 := []) rfl rfl (sx_inv_v2 (mi := 234) (k := 70) (st := [.int 5, .ref 111]) (w := w) rfl rfl hI.1.o111 rfl rfl rfl) rfl rfl rfl (s133_5 hI) (show _ = 43 from rfl) ?_
          rintro r4 w72 ⟨rfl, hI73, hE75⟩
          have hE74 := hE.tr (hE75)
          show sx_RP _ _ _ _ _ [.int (-1000000006)] _ _
          refine sx_RP.ret (r := (some (.int (-1000000006)))) rfl rfl ?_
          exact ⟨⟨_, rfl⟩, hI73, hE74⟩
