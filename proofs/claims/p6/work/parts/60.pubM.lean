-- safety: the reference, first half
set_option maxRecDepth 20000 in
set_option maxHeartbeats 4000000 in
theorem s130 {xs : Option (List Int32)} {d : Nat} {w : List sx_C} (hI : WI w) (a1 a2 : Int32) : sx_RP xs (d + 7) 130 0 (lv_args 0 [.ref 111, .int a1, .int a2]) [] w (fun r w2 => (∃ v : Int32, r = some (.int v)) ∧ WI w2 ∧ EM w w2) := by
  have hE : EM w w := EM.rf
  refine sx_RP.step (pc2 := 1) (ls2 := [(0, .ref 111), (1, .int a1), (2, .int a2)]) (st2 := [.int a1]) (w3 := w) rfl rfl ?_
  rcases in_cases a1 0 47 (m := 0) (n := 47) rfl rfl (by decide) (by decide) with q1 | ⟨x2, hx3, hx4, rfl⟩
  · refine sx_RP.cu (as := [.int a1]) (rest2 := []) (st3 := [.int 0]) rfl rfl rfl rfl rfl (cx_131n q1) rfl ?_
    refine sx_RP.step (pc2 := 16) (ls2 := [(0, .ref 111), (1, .int a1), (2, .int a2)]) (st2 := []) (w3 := w) rfl rfl ?_
    refine sx_RP.step (pc2 := 17) (ls2 := [(0, .ref 111), (1, .int a1), (2, .int a2)]) (st2 := [.ref 111]) (w3 := w) rfl rfl ?_
    refine sx_RP.step (pc2 := 18) (ls2 := [(0, .ref 111), (1, .int a1), (2, .int a2)]) (st2 := [.int 0, .ref 111]) (w3 := w) rfl rfl ?_
    refine sx_RP.callp (as2 := [.ref 111, .int 0]) (rest2 := []) rfl rfl (sx_inv_v2 (mi := 130) (k := 70) (st := [.int 0, .ref 111]) (w := w) rfl rfl hI.1.o111 rfl rfl rfl) rfl rfl rfl (s133_0 hI) (show _ = 21 from rfl) ?_
    rintro r4 w6 ⟨rfl, hI7, hE9⟩
    have hE8 := hE.tr (hE9)
    show sx_RP _ _ _ _ _ [.int (-1000000001)] _ _
    refine sx_RP.ret (r := (some (.int (-1000000001)))) rfl rfl ?_
    exact ⟨⟨_, rfl⟩, hI7, hE8⟩
  · refine sx_RP.cu (as := [.int (nI x2)]) (rest2 := []) (st3 := [.int 1]) rfl rfl rfl rfl rfl (cx_131p ⟨nI_le (a := 0) hx3 (by omega), nI_le (b := 47) hx4 (by decide)⟩) rfl ?_
    refine sx_RP.step (pc2 := 7) (ls2 := [(0, .ref 111), (1, .int (nI x2)), (2, .int a2)]) (st2 := []) (w3 := w) rfl rfl ?_
    refine sx_RP.step (pc2 := 8) (ls2 := [(0, .ref 111), (1, .int (nI x2)), (2, .int a2)]) (st2 := [.int a2]) (w3 := w) rfl rfl ?_
    refine sx_RP.step (pc2 := 9) (ls2 := [(0, .ref 111), (1, .int (nI x2)), (2, .int a2)]) (st2 := [.int 0, .int a2]) (w3 := w) rfl rfl ?_
    refine sx_RP.step (pc2 := 10) (ls2 := [(0, .ref 111), (1, .int (nI x2)), (2, .int a2)]) (st2 := [.int 3, .int 0, .int a2]) (w3 := w) rfl rfl ?_
    rcases in_cases a2 0 3 (m := 0) (n := 3) rfl rfl (by decide) (by decide) with q10 | ⟨x11, hx12, hx13, rfl⟩
    · refine sx_RP.cu (as := [.int a2, .int 0, .int 3]) (rest2 := []) (st3 := [.int 0]) rfl rfl rfl rfl rfl (cx_132o q10) rfl ?_
      refine sx_RP.step (pc2 := 16) (ls2 := [(0, .ref 111), (1, .int (nI x2)), (2, .int a2)]) (st2 := []) (w3 := w) rfl rfl ?_
      refine sx_RP.step (pc2 := 17) (ls2 := [(0, .ref 111), (1, .int (nI x2)), (2, .int a2)]) (st2 := [.ref 111]) (w3 := w) rfl rfl ?_
      refine sx_RP.step (pc2 := 18) (ls2 := [(0, .ref 111), (1, .int (nI x2)), (2, .int a2)]) (st2 := [.int 0, .ref 111]) (w3 := w) rfl rfl ?_
      refine sx_RP.callp (as2 := [.ref 111, .int 0]) (rest2 := []) rfl rfl (sx_inv_v2 (mi := 130) (k := 70) (st := [.int 0, .ref 111]) (w := w) rfl rfl hI.1.o111 rfl rfl rfl) rfl rfl rfl (s133_0 hI) (show _ = 21 from rfl) ?_
      rintro r4 w15 ⟨rfl, hI16, hE18⟩
      have hE17 := hE.tr (hE18)
      show sx_RP _ _ _ _ _ [.int (-1000000001)] _ _
      refine sx_RP.ret (r := (some (.int (-1000000001)))) rfl rfl ?_
      exact ⟨⟨_, rfl⟩, hI16, hE17⟩
    · refine sx_RP.cu (as := [.int (nI x11), .int 0, .int 3]) (rest2 := []) (st3 := [.int 1]) rfl rfl rfl rfl rfl (cx_132p ⟨nI_le (a := 0) hx12 (by omega), nI_le (b := 3) hx13 (by decide)⟩) rfl ?_
      refine sx_RP.step (pc2 := 22) (ls2 := [(0, .ref 111), (1, .int (nI x2)), (2, .int (nI x11))]) (st2 := []) (w3 := w) rfl rfl ?_
      refine sx_RP.step (pc2 := 23) (ls2 := [(0, .ref 111), (1, .int (nI x2)), (2, .int (nI x11))]) (st2 := [.ref 111]) (w3 := w) rfl rfl ?_
      refine sx_RP.gf (v := .ref 112) rfl rfl hI.1.o111 rfl rfl (show _ = 26 from rfl) ?_
      refine sx_RP.step (pc2 := 28) (ls2 := [(0, .ref 111), (1, .int (nI x2)), (2, .int (nI x11))]) (st2 := [.int 7, .ref 112]) (w3 := w) rfl rfl ?_
      refine sx_RP.step (pc2 := 29) (ls2 := [(0, .ref 111), (1, .int (nI x2)), (2, .int (nI x11))]) (st2 := [.int (nI x2), .int 7, .ref 112]) (w3 := w) rfl rfl ?_
      refine sx_RP.step (pc2 := 30) (ls2 := [(0, .ref 111), (1, .int (nI x2)), (2, .int (nI x11))]) (st2 := [.int (7 + (nI x2)), .ref 112]) (w3 := w) rfl rfl ?_
      rw [show (7 + (nI x2) : Int32) = nI (7 + x2) from nI_add 7 x2]
      refine sx_RP.ild (c := (7 + x2)) rfl hI.1.a112.1 hI.1.a112.2 (sx_in_nI (show (7 + x2) < 172 by omega) (by decide)) (show (nI (7 + x2)).toNatClampNeg = (7 + x2) from nI_clamp (by omega)) (show _ = 31 from rfl) ?_
      obtain ⟨x19, hx20, ex21⟩ : inR ((ia w 112).getD (7 + x2) 0) 3 := (hI.s ((7 + x2)) (by omega)).2.2.1 (by omega)
      rw [ex21]
      refine sx_RP.step (pc2 := 32) (ls2 := [(3, .int (nI x19)), (0, .ref 111), (1, .int (nI x2)), (2, .int (nI x11))]) (st2 := []) (w3 := w) rfl rfl ?_
      refine sx_RP.step (pc2 := 33) (ls2 := [(3, .int (nI x19)), (0, .ref 111), (1, .int (nI x2)), (2, .int (nI x11))]) (st2 := [.ref 111]) (w3 := w) rfl rfl ?_
      refine sx_RP.gf (v := .ref 112) rfl rfl hI.1.o111 rfl rfl (show _ = 36 from rfl) ?_
      refine sx_RP.step (pc2 := 38) (ls2 := [(3, .int (nI x19)), (0, .ref 111), (1, .int (nI x2)), (2, .int (nI x11))]) (st2 := [.int 7, .ref 112]) (w3 := w) rfl rfl ?_
      refine sx_RP.step (pc2 := 39) (ls2 := [(3, .int (nI x19)), (0, .ref 111), (1, .int (nI x2)), (2, .int (nI x11))]) (st2 := [.int (nI x2), .int 7, .ref 112]) (w3 := w) rfl rfl ?_
      refine sx_RP.step (pc2 := 40) (ls2 := [(3, .int (nI x19)), (0, .ref 111), (1, .int (nI x2)), (2, .int (nI x11))]) (st2 := [.int (7 + (nI x2)), .ref 112]) (w3 := w) rfl rfl ?_
      rw [show (7 + (nI x2) : Int32) = nI (7 + x2) from nI_add 7 x2]
      refine sx_RP.step (pc2 := 41) (ls2 := [(3, .int (nI x19)), (0, .ref 111), (1, .int (nI x2)), (2, .int (nI x11))]) (st2 := [.int (nI x11), .int (nI (7 + x2)), .ref 112]) (w3 := w) rfl rfl ?_
      refine sx_RP.mS (k := (7 + x2)) hI hE (by decide) rfl rfl (by omega) (eOK_st (by omega) (inR.n (show x11 ≤ 3 by omega))) (show _ = 42 from rfl) (fun w22 hI23 hE24 hk25 => ?_)
      refine sx_RP.step (pc2 := 43) (ls2 := [(3, .int (nI x19)), (0, .ref 111), (1, .int (nI x2)), (2, .int (nI x11))]) (st2 := [.int (nI x19)]) (w3 := w22) rfl rfl ?_
      refine sx_RP.ret (r := (some (.int (nI x19)))) rfl rfl ?_
      exact ⟨⟨_, rfl⟩, hI23, hE24⟩
set_option maxRecDepth 20000 in
set_option maxHeartbeats 4000000 in
theorem s134 {xs : Option (List Int32)} {d : Nat} {w : List sx_C} (hI : WI w) (a1 a2 : Int32) : sx_RP xs (d + 7) 134 0 (lv_args 0 [.ref 111, .int a1, .int a2]) [] w (fun r w2 => (∃ v : Int32, r = some (.int v)) ∧ WI w2 ∧ EM w w2) := by
  have hE : EM w w := EM.rf
  refine sx_RP.step (pc2 := 1) (ls2 := [(0, .ref 111), (1, .int a1), (2, .int a2)]) (st2 := [.int a1]) (w3 := w) rfl rfl ?_
  rcases in_cases a1 0 47 (m := 0) (n := 47) rfl rfl (by decide) (by decide) with q1 | ⟨x2, hx3, hx4, rfl⟩
  · refine sx_RP.cu (as := [.int a1]) (rest2 := []) (st3 := [.int 0]) rfl rfl rfl rfl rfl (cx_131n q1) rfl ?_
    refine sx_RP.step (pc2 := 7) (ls2 := [(0, .ref 111), (1, .int a1), (2, .int a2)]) (st2 := []) (w3 := w) rfl rfl ?_
    refine sx_RP.step (pc2 := 8) (ls2 := [(0, .ref 111), (1, .int a1), (2, .int a2)]) (st2 := [.ref 111]) (w3 := w) rfl rfl ?_
    refine sx_RP.step (pc2 := 9) (ls2 := [(0, .ref 111), (1, .int a1), (2, .int a2)]) (st2 := [.int 0, .ref 111]) (w3 := w) rfl rfl ?_
    refine sx_RP.callp (as2 := [.ref 111, .int 0]) (rest2 := []) rfl rfl (sx_inv_v2 (mi := 134) (k := 70) (st := [.int 0, .ref 111]) (w := w) rfl rfl hI.1.o111 rfl rfl rfl) rfl rfl rfl (s133_0 hI) (show _ = 12 from rfl) ?_
    rintro r4 w6 ⟨rfl, hI7, hE9⟩
    have hE8 := hE.tr (hE9)
    show sx_RP _ _ _ _ _ [.int (-1000000001)] _ _
    refine sx_RP.ret (r := (some (.int (-1000000001)))) rfl rfl ?_
    exact ⟨⟨_, rfl⟩, hI7, hE8⟩
  · refine sx_RP.cu (as := [.int (nI x2)]) (rest2 := []) (st3 := [.int 1]) rfl rfl rfl rfl rfl (cx_131p ⟨nI_le (a := 0) hx3 (by omega), nI_le (b := 47) hx4 (by decide)⟩) rfl ?_
    refine sx_RP.step (pc2 := 13) (ls2 := [(0, .ref 111), (1, .int (nI x2)), (2, .int a2)]) (st2 := []) (w3 := w) rfl rfl ?_
    refine sx_RP.step (pc2 := 14) (ls2 := [(0, .ref 111), (1, .int (nI x2)), (2, .int a2)]) (st2 := [.int a2]) (w3 := w) rfl rfl ?_
    refine sx_RP.br (p1 := 21) (l1 := [(0, .ref 111), (1, .int (nI x2)), (2, .int a2)]) (s1 := []) (v1 := w) (p2 := 17) (l2 := [(0, .ref 111), (1, .int (nI x2)), (2, .int a2)]) (s2 := []) (v2 := w) rfl rfl (fun q10 => ?_) (fun q10 => ?_)
    · replace q10 := of_decide_eq_true q10
      refine sx_RP.step (pc2 := 22) (ls2 := [(0, .ref 111), (1, .int (nI x2)), (2, .int a2)]) (st2 := [.int 0]) (w3 := w) rfl rfl ?_
      refine sx_RP.step (pc2 := 23) (ls2 := [(3, .int 0), (0, .ref 111), (1, .int (nI x2)), (2, .int a2)]) (st2 := []) (w3 := w) rfl rfl ?_
      refine sx_RP.step (pc2 := 24) (ls2 := [(3, .int 0), (0, .ref 111), (1, .int (nI x2)), (2, .int a2)]) (st2 := [.ref 111]) (w3 := w) rfl rfl ?_
      refine sx_RP.gf (v := .ref 112) rfl rfl hI.1.o111 rfl rfl (show _ = 27 from rfl) ?_
      refine sx_RP.step (pc2 := 29) (ls2 := [(3, .int 0), (0, .ref 111), (1, .int (nI x2)), (2, .int a2)]) (st2 := [.int 55, .ref 112]) (w3 := w) rfl rfl ?_
      refine sx_RP.step (pc2 := 30) (ls2 := [(3, .int 0), (0, .ref 111), (1, .int (nI x2)), (2, .int a2)]) (st2 := [.int (nI x2), .int 55, .ref 112]) (w3 := w) rfl rfl ?_
      refine sx_RP.step (pc2 := 31) (ls2 := [(3, .int 0), (0, .ref 111), (1, .int (nI x2)), (2, .int a2)]) (st2 := [.int (55 + (nI x2)), .ref 112]) (w3 := w) rfl rfl ?_
      rw [show (55 + (nI x2) : Int32) = nI (55 + x2) from nI_add 55 x2]
      refine sx_RP.ild (c := (55 + x2)) rfl hI.1.a112.1 hI.1.a112.2 (sx_in_nI (show (55 + x2) < 172 by omega) (by decide)) (show (nI (55 + x2)).toNatClampNeg = (55 + x2) from nI_clamp (by omega)) (show _ = 32 from rfl) ?_
      refine sx_RP.step (pc2 := 34) (ls2 := [(4, .int ((ia w 112).getD (55 + x2) 0)), (3, .int 0), (0, .ref 111), (1, .int (nI x2)), (2, .int a2)]) (st2 := []) (w3 := w) rfl rfl ?_
      refine sx_RP.step (pc2 := 35) (ls2 := [(4, .int ((ia w 112).getD (55 + x2) 0)), (3, .int 0), (0, .ref 111), (1, .int (nI x2)), (2, .int a2)]) (st2 := [.ref 111]) (w3 := w) rfl rfl ?_
      refine sx_RP.gf (v := .ref 112) rfl rfl hI.1.o111 rfl rfl (show _ = 38 from rfl) ?_
      refine sx_RP.step (pc2 := 40) (ls2 := [(4, .int ((ia w 112).getD (55 + x2) 0)), (3, .int 0), (0, .ref 111), (1, .int (nI x2)), (2, .int a2)]) (st2 := [.int 55, .ref 112]) (w3 := w) rfl rfl ?_
      refine sx_RP.step (pc2 := 41) (ls2 := [(4, .int ((ia w 112).getD (55 + x2) 0)), (3, .int 0), (0, .ref 111), (1, .int (nI x2)), (2, .int a2)]) (st2 := [.int (nI x2), .int 55, .ref 112]) (w3 := w) rfl rfl ?_
      refine sx_RP.step (pc2 := 42) (ls2 := [(4, .int ((ia w 112).getD (55 + x2) 0)), (3, .int 0), (0, .ref 111), (1, .int (nI x2)), (2, .int a2)]) (st2 := [.int (55 + (nI x2)), .ref 112]) (w3 := w) rfl rfl ?_
      rw [show (55 + (nI x2) : Int32) = nI (55 + x2) from nI_add 55 x2]
      refine sx_RP.step (pc2 := 43) (ls2 := [(4, .int ((ia w 112).getD (55 + x2) 0)), (3, .int 0), (0, .ref 111), (1, .int (nI x2)), (2, .int a2)]) (st2 := [.int 0, .int (nI (55 + x2)), .ref 112]) (w3 := w) rfl rfl ?_
      refine sx_RP.mS (k := (55 + x2)) hI hE (by decide) rfl rfl (by omega) (eOK_n (by omega)) (show _ = 44 from rfl) (fun w11 hI12 hE13 hk14 => ?_)
      refine sx_RP.step (pc2 := 46) (ls2 := [(4, .int ((ia w 112).getD (55 + x2) 0)), (3, .int 0), (0, .ref 111), (1, .int (nI x2)), (2, .int a2)]) (st2 := [.int ((ia w 112).getD (55 + x2) 0)]) (w3 := w11) rfl rfl ?_
      refine sx_RP.step (pc2 := 47) (ls2 := [(4, .int ((ia w 112).getD (55 + x2) 0)), (3, .int 0), (0, .ref 111), (1, .int (nI x2)), (2, .int a2)]) (st2 := [.int 0, .int ((ia w 112).getD (55 + x2) 0)]) (w3 := w11) rfl rfl ?_
      refine sx_RP.br (p1 := 54) (l1 := [(4, .int ((ia w 112).getD (55 + x2) 0)), (3, .int 0), (0, .ref 111), (1, .int (nI x2)), (2, .int a2)]) (s1 := []) (v1 := w11) (p2 := 50) (l2 := [(4, .int ((ia w 112).getD (55 + x2) 0)), (3, .int 0), (0, .ref 111), (1, .int (nI x2)), (2, .int a2)]) (s2 := []) (v2 := w11) rfl rfl (fun q15 => ?_) (fun q15 => ?_)
      · replace q15 := of_decide_eq_true q15
        refine sx_RP.step (pc2 := 55) (ls2 := [(4, .int ((ia w 112).getD (55 + x2) 0)), (3, .int 0), (0, .ref 111), (1, .int (nI x2)), (2, .int a2)]) (st2 := [.int 1]) (w3 := w11) rfl rfl ?_
        refine sx_RP.ret (r := (some (.int 1))) rfl rfl ?_
        exact ⟨⟨_, rfl⟩, hI12, hE13⟩
      · replace q15 := Decidable.not_not.mp (of_decide_eq_false q15)
        refine sx_RP.step (pc2 := 51) (ls2 := [(4, .int ((ia w 112).getD (55 + x2) 0)), (3, .int 0), (0, .ref 111), (1, .int (nI x2)), (2, .int a2)]) (st2 := [.int 0]) (w3 := w11) rfl rfl ?_
        refine sx_RP.step (pc2 := 55) (ls2 := [(4, .int ((ia w 112).getD (55 + x2) 0)), (3, .int 0), (0, .ref 111), (1, .int (nI x2)), (2, .int a2)]) (st2 := [.int 0]) (w3 := w11) rfl rfl ?_
        refine sx_RP.ret (r := (some (.int 0))) rfl rfl ?_
        exact ⟨⟨_, rfl⟩, hI12, hE13⟩
    · replace q10 := of_decide_eq_false q10
      refine sx_RP.step (pc2 := 18) (ls2 := [(0, .ref 111), (1, .int (nI x2)), (2, .int a2)]) (st2 := [.int 1]) (w3 := w) rfl rfl ?_
      refine sx_RP.step (pc2 := 22) (ls2 := [(0, .ref 111), (1, .int (nI x2)), (2, .int a2)]) (st2 := [.int 1]) (w3 := w) rfl rfl ?_
      refine sx_RP.step (pc2 := 23) (ls2 := [(3, .int 1), (0, .ref 111), (1, .int (nI x2)), (2, .int a2)]) (st2 := []) (w3 := w) rfl rfl ?_
      refine sx_RP.step (pc2 := 24) (ls2 := [(3, .int 1), (0, .ref 111), (1, .int (nI x2)), (2, .int a2)]) (st2 := [.ref 111]) (w3 := w) rfl rfl ?_
      refine sx_RP.gf (v := .ref 112) rfl rfl hI.1.o111 rfl rfl (show _ = 27 from rfl) ?_
      refine sx_RP.step (pc2 := 29) (ls2 := [(3, .int 1), (0, .ref 111), (1, .int (nI x2)), (2, .int a2)]) (st2 := [.int 55, .ref 112]) (w3 := w) rfl rfl ?_
      refine sx_RP.step (pc2 := 30) (ls2 := [(3, .int 1), (0, .ref 111), (1, .int (nI x2)), (2, .int a2)]) (st2 := [.int (nI x2), .int 55, .ref 112]) (w3 := w) rfl rfl ?_
      refine sx_RP.step (pc2 := 31) (ls2 := [(3, .int 1), (0, .ref 111), (1, .int (nI x2)), (2, .int a2)]) (st2 := [.int (55 + (nI x2)), .ref 112]) (w3 := w) rfl rfl ?_
      rw [show (55 + (nI x2) : Int32) = nI (55 + x2) from nI_add 55 x2]
      refine sx_RP.ild (c := (55 + x2)) rfl hI.1.a112.1 hI.1.a112.2 (sx_in_nI (show (55 + x2) < 172 by omega) (by decide)) (show (nI (55 + x2)).toNatClampNeg = (55 + x2) from nI_clamp (by omega)) (show _ = 32 from rfl) ?_
      refine sx_RP.step (pc2 := 34) (ls2 := [(4, .int ((ia w 112).getD (55 + x2) 0)), (3, .int 1), (0, .ref 111), (1, .int (nI x2)), (2, .int a2)]) (st2 := []) (w3 := w) rfl rfl ?_
      refine sx_RP.step (pc2 := 35) (ls2 := [(4, .int ((ia w 112).getD (55 + x2) 0)), (3, .int 1), (0, .ref 111), (1, .int (nI x2)), (2, .int a2)]) (st2 := [.ref 111]) (w3 := w) rfl rfl ?_
      refine sx_RP.gf (v := .ref 112) rfl rfl hI.1.o111 rfl rfl (show _ = 38 from rfl) ?_
      refine sx_RP.step (pc2 := 40) (ls2 := [(4, .int ((ia w 112).getD (55 + x2) 0)), (3, .int 1), (0, .ref 111), (1, .int (nI x2)), (2, .int a2)]) (st2 := [.int 55, .ref 112]) (w3 := w) rfl rfl ?_
      refine sx_RP.step (pc2 := 41) (ls2 := [(4, .int ((ia w 112).getD (55 + x2) 0)), (3, .int 1), (0, .ref 111), (1, .int (nI x2)), (2, .int a2)]) (st2 := [.int (nI x2), .int 55, .ref 112]) (w3 := w) rfl rfl ?_
      refine sx_RP.step (pc2 := 42) (ls2 := [(4, .int ((ia w 112).getD (55 + x2) 0)), (3, .int 1), (0, .ref 111), (1, .int (nI x2)), (2, .int a2)]) (st2 := [.int (55 + (nI x2)), .ref 112]) (w3 := w) rfl rfl ?_
      rw [show (55 + (nI x2) : Int32) = nI (55 + x2) from nI_add 55 x2]
      refine sx_RP.step (pc2 := 43) (ls2 := [(4, .int ((ia w 112).getD (55 + x2) 0)), (3, .int 1), (0, .ref 111), (1, .int (nI x2)), (2, .int a2)]) (st2 := [.int 1, .int (nI (55 + x2)), .ref 112]) (w3 := w) rfl rfl ?_
      refine sx_RP.mS (k := (55 + x2)) hI hE (by decide) rfl rfl (by omega) (eOK_n (by omega)) (show _ = 44 from rfl) (fun w16 hI17 hE18 hk19 => ?_)
      refine sx_RP.step (pc2 := 46) (ls2 := [(4, .int ((ia w 112).getD (55 + x2) 0)), (3, .int 1), (0, .ref 111), (1, .int (nI x2)), (2, .int a2)]) (st2 := [.int ((ia w 112).getD (55 + x2) 0)]) (w3 := w16) rfl rfl ?_
      refine sx_RP.step (pc2 := 47) (ls2 := [(4, .int ((ia w 112).getD (55 + x2) 0)), (3, .int 1), (0, .ref 111), (1, .int (nI x2)), (2, .int a2)]) (st2 := [.int 1, .int ((ia w 112).getD (55 + x2) 0)]) (w3 := w16) rfl rfl ?_
      refine sx_RP.br (p1 := 54) (l1 := [(4, .int ((ia w 112).getD (55 + x2) 0)), (3, .int 1), (0, .ref 111), (1, .int (nI x2)), (2, .int a2)]) (s1 := []) (v1 := w16) (p2 := 50) (l2 := [(4, .int ((ia w 112).getD (55 + x2) 0)), (3, .int 1), (0, .ref 111), (1, .int (nI x2)), (2, .int a2)]) (s2 := []) (v2 := w16) rfl rfl (fun q20 => ?_) (fun q20 => ?_)
      · replace q20 := of_decide_eq_true q20
        refine sx_RP.step (pc2 := 55) (ls2 := [(4, .int ((ia w 112).getD (55 + x2) 0)), (3, .int 1), (0, .ref 111), (1, .int (nI x2)), (2, .int a2)]) (st2 := [.int 1]) (w3 := w16) rfl rfl ?_
        refine sx_RP.ret (r := (some (.int 1))) rfl rfl ?_
        exact ⟨⟨_, rfl⟩, hI17, hE18⟩
      · replace q20 := Decidable.not_not.mp (of_decide_eq_false q20)
        refine sx_RP.step (pc2 := 51) (ls2 := [(4, .int ((ia w 112).getD (55 + x2) 0)), (3, .int 1), (0, .ref 111), (1, .int (nI x2)), (2, .int a2)]) (st2 := [.int 0]) (w3 := w16) rfl rfl ?_
        refine sx_RP.step (pc2 := 55) (ls2 := [(4, .int ((ia w 112).getD (55 + x2) 0)), (3, .int 1), (0, .ref 111), (1, .int (nI x2)), (2, .int a2)]) (st2 := [.int 0]) (w3 := w16) rfl rfl ?_
        refine sx_RP.ret (r := (some (.int 0))) rfl rfl ?_
        exact ⟨⟨_, rfl⟩, hI17, hE18⟩
set_option maxRecDepth 20000 in
set_option maxHeartbeats 4000000 in
theorem s135 {xs : Option (List Int32)} {d : Nat} {w : List sx_C} (hI : WI w) (a1 a2 : Int32) : sx_RP xs (d + 7) 135 0 (lv_args 0 [.ref 111, .int a1, .int a2]) [] w (fun r w2 => (∃ v : Int32, r = some (.int v)) ∧ WI w2 ∧ EM w w2) := by
  have hE : EM w w := EM.rf
  refine sx_RP.step (pc2 := 1) (ls2 := [(0, .ref 111), (1, .int a1), (2, .int a2)]) (st2 := [.int a1]) (w3 := w) rfl rfl ?_
  rcases in_cases a1 0 47 (m := 0) (n := 47) rfl rfl (by decide) (by decide) with q1 | ⟨x2, hx3, hx4, rfl⟩
  · refine sx_RP.cu (as := [.int a1]) (rest2 := []) (st3 := [.int 0]) rfl rfl rfl rfl rfl (cx_131n q1) rfl ?_
    refine sx_RP.step (pc2 := 16) (ls2 := [(0, .ref 111), (1, .int a1), (2, .int a2)]) (st2 := []) (w3 := w) rfl rfl ?_
    refine sx_RP.step (pc2 := 17) (ls2 := [(0, .ref 111), (1, .int a1), (2, .int a2)]) (st2 := [.ref 111]) (w3 := w) rfl rfl ?_
    refine sx_RP.step (pc2 := 18) (ls2 := [(0, .ref 111), (1, .int a1), (2, .int a2)]) (st2 := [.int 0, .ref 111]) (w3 := w) rfl rfl ?_
    refine sx_RP.callp (as2 := [.ref 111, .int 0]) (rest2 := []) rfl rfl (sx_inv_v2 (mi := 135) (k := 70) (st := [.int 0, .ref 111]) (w := w) rfl rfl hI.1.o111 rfl rfl rfl) rfl rfl rfl (s133_0 hI) (show _ = 21 from rfl) ?_
    rintro r4 w6 ⟨rfl, hI7, hE9⟩
    have hE8 := hE.tr (hE9)
    show sx_RP _ _ _ _ _ [.int (-1000000001)] _ _
    refine sx_RP.ret (r := (some (.int (-1000000001)))) rfl rfl ?_
    exact ⟨⟨_, rfl⟩, hI7, hE8⟩
  · refine sx_RP.cu (as := [.int (nI x2)]) (rest2 := []) (st3 := [.int 1]) rfl rfl rfl rfl rfl (cx_131p ⟨nI_le (a := 0) hx3 (by omega), nI_le (b := 47) hx4 (by decide)⟩) rfl ?_
    refine sx_RP.step (pc2 := 7) (ls2 := [(0, .ref 111), (1, .int (nI x2)), (2, .int a2)]) (st2 := []) (w3 := w) rfl rfl ?_
    refine sx_RP.step (pc2 := 8) (ls2 := [(0, .ref 111), (1, .int (nI x2)), (2, .int a2)]) (st2 := [.int a2]) (w3 := w) rfl rfl ?_
    refine sx_RP.step (pc2 := 9) (ls2 := [(0, .ref 111), (1, .int (nI x2)), (2, .int a2)]) (st2 := [.int 0, .int a2]) (w3 := w) rfl rfl ?_
    refine sx_RP.step (pc2 := 10) (ls2 := [(0, .ref 111), (1, .int (nI x2)), (2, .int a2)]) (st2 := [.int 2, .int 0, .int a2]) (w3 := w) rfl rfl ?_
    rcases in_cases a2 0 2 (m := 0) (n := 2) rfl rfl (by decide) (by decide) with q10 | ⟨x11, hx12, hx13, rfl⟩
    · refine sx_RP.cu (as := [.int a2, .int 0, .int 2]) (rest2 := []) (st3 := [.int 0]) rfl rfl rfl rfl rfl (cx_132o q10) rfl ?_
      refine sx_RP.step (pc2 := 16) (ls2 := [(0, .ref 111), (1, .int (nI x2)), (2, .int a2)]) (st2 := []) (w3 := w) rfl rfl ?_
      refine sx_RP.step (pc2 := 17) (ls2 := [(0, .ref 111), (1, .int (nI x2)), (2, .int a2)]) (st2 := [.ref 111]) (w3 := w) rfl rfl ?_
      refine sx_RP.step (pc2 := 18) (ls2 := [(0, .ref 111), (1, .int (nI x2)), (2, .int a2)]) (st2 := [.int 0, .ref 111]) (w3 := w) rfl rfl ?_
      refine sx_RP.callp (as2 := [.ref 111, .int 0]) (rest2 := []) rfl rfl (sx_inv_v2 (mi := 135) (k := 70) (st := [.int 0, .ref 111]) (w := w) rfl rfl hI.1.o111 rfl rfl rfl) rfl rfl rfl (s133_0 hI) (show _ = 21 from rfl) ?_
      rintro r4 w15 ⟨rfl, hI16, hE18⟩
      have hE17 := hE.tr (hE18)
      show sx_RP _ _ _ _ _ [.int (-1000000001)] _ _
      refine sx_RP.ret (r := (some (.int (-1000000001)))) rfl rfl ?_
      exact ⟨⟨_, rfl⟩, hI16, hE17⟩
    · refine sx_RP.cu (as := [.int (nI x11), .int 0, .int 2]) (rest2 := []) (st3 := [.int 1]) rfl rfl rfl rfl rfl (cx_132p ⟨nI_le (a := 0) hx12 (by omega), nI_le (b := 2) hx13 (by decide)⟩) rfl ?_
      refine sx_RP.step (pc2 := 22) (ls2 := [(0, .ref 111), (1, .int (nI x2)), (2, .int (nI x11))]) (st2 := []) (w3 := w) rfl rfl ?_
      refine sx_RP.step (pc2 := 23) (ls2 := [(0, .ref 111), (1, .int (nI x2)), (2, .int (nI x11))]) (st2 := [.int (nI x11)]) (w3 := w) rfl rfl ?_
      refine sx_RP.br (p1 := 38) (l1 := [(0, .ref 111), (1, .int (nI x2)), (2, .int (nI x11))]) (s1 := []) (v1 := w) (p2 := 26) (l2 := [(0, .ref 111), (1, .int (nI x2)), (2, .int (nI x11))]) (s2 := []) (v2 := w) rfl rfl (fun q19 => ?_) (fun q19 => ?_)
      · replace q19 := of_decide_eq_true q19
        replace q19 := mt (nI_eq (a := x11) (b := 0) (by omega) (by omega)).mpr q19
        refine sx_RP.step (pc2 := 39) (ls2 := [(0, .ref 111), (1, .int (nI x2)), (2, .int (nI x11))]) (st2 := [.int (nI x11)]) (w3 := w) rfl rfl ?_
        refine sx_RP.step (pc2 := 40) (ls2 := [(0, .ref 111), (1, .int (nI x2)), (2, .int (nI x11))]) (st2 := [.int 1, .int (nI x11)]) (w3 := w) rfl rfl ?_
        refine sx_RP.br (p1 := 55) (l1 := [(0, .ref 111), (1, .int (nI x2)), (2, .int (nI x11))]) (s1 := []) (v1 := w) (p2 := 43) (l2 := [(0, .ref 111), (1, .int (nI x2)), (2, .int (nI x11))]) (s2 := []) (v2 := w) rfl rfl (fun q20 => ?_) (fun q20 => ?_)
        · replace q20 := of_decide_eq_true q20
          replace q20 := mt (nI_eq (a := x11) (b := 1) (by omega) (by omega)).mpr q20
          refine sx_RP.step (pc2 := 56) (ls2 := [(0, .ref 111), (1, .int (nI x2)), (2, .int (nI x11))]) (st2 := [.ref 111]) (w3 := w) rfl rfl ?_
          refine sx_RP.step (pc2 := 57) (ls2 := [(0, .ref 111), (1, .int (nI x2)), (2, .int (nI x11))]) (st2 := [.int (nI x2), .ref 111]) (w3 := w) rfl rfl ?_
          obtain ⟨v21, c22⟩ := p136 hI (nI x2)
          refine sx_RP.cu (as := [.ref 111, .int (nI x2)]) (rest2 := []) (st3 := [.int v21]) rfl rfl (sx_inv_v2 (mi := 135) (k := 77) (st := [.int (nI x2), .ref 111]) (w := w) rfl rfl hI.1.o111 rfl rfl rfl) rfl rfl (c22) rfl ?_
          refine sx_RP.ret (r := (some (.int v21))) rfl rfl ?_
          exact ⟨⟨_, rfl⟩, hI, hE⟩
        · replace q20 := Decidable.not_not.mp (of_decide_eq_false q20)
          replace q20 := (nI_eq (a := x11) (b := 1) (by omega) (by omega)).mp q20
          refine sx_RP.step (pc2 := 44) (ls2 := [(0, .ref 111), (1, .int (nI x2)), (2, .int (nI x11))]) (st2 := [.ref 111]) (w3 := w) rfl rfl ?_
          refine sx_RP.gf (v := .ref 112) rfl rfl hI.1.o111 rfl rfl (show _ = 47 from rfl) ?_
          refine sx_RP.step (pc2 := 49) (ls2 := [(0, .ref 111), (1, .int (nI x2)), (2, .int (nI x11))]) (st2 := [.int 55, .ref 112]) (w3 := w) rfl rfl ?_
          refine sx_RP.step (pc2 := 50) (ls2 := [(0, .ref 111), (1, .int (nI x2)), (2, .int (nI x11))]) (st2 := [.int (nI x2), .int 55, .ref 112]) (w3 := w) rfl rfl ?_
          refine sx_RP.step (pc2 := 51) (ls2 := [(0, .ref 111), (1, .int (nI x2)), (2, .int (nI x11))]) (st2 := [.int (55 + (nI x2)), .ref 112]) (w3 := w) rfl rfl ?_
          rw [show (55 + (nI x2) : Int32) = nI (55 + x2) from nI_add 55 x2]
          refine sx_RP.ild (c := (55 + x2)) rfl hI.1.a112.1 hI.1.a112.2 (sx_in_nI (show (55 + x2) < 172 by omega) (by decide)) (show (nI (55 + x2)).toNatClampNeg = (55 + x2) from nI_clamp (by omega)) (show _ = 52 from rfl) ?_
          refine sx_RP.step (pc2 := 60) (ls2 := [(0, .ref 111), (1, .int (nI x2)), (2, .int (nI x11))]) (st2 := [.int ((ia w 112).getD (55 + x2) 0)]) (w3 := w) rfl rfl ?_
          refine sx_RP.ret (r := (some (.int ((ia w 112).getD (55 + x2) 0)))) rfl rfl ?_
          exact ⟨⟨_, rfl⟩, hI, hE⟩
      · replace q19 := Decidable.not_not.mp (of_decide_eq_false q19)
        replace q19 := (nI_eq (a := x11) (b := 0) (by omega) (by omega)).mp q19
        refine sx_RP.step (pc2 := 27) (ls2 := [(0, .ref 111), (1, .int (nI x2)), (2, .int (nI x11))]) (st2 := [.ref 111]) (w3 := w) rfl rfl ?_
        refine sx_RP.gf (v := .ref 112) rfl rfl hI.1.o111 rfl rfl (show _ = 30 from rfl) ?_
        refine sx_RP.step (pc2 := 32) (ls2 := [(0, .ref 111), (1, .int (nI x2)), (2, .int (nI x11))]) (st2 := [.int 7, .ref 112]) (w3 := w) rfl rfl ?_
        refine sx_RP.step (pc2 := 33) (ls2 := [(0, .ref 111), (1, .int (nI x2)), (2, .int (nI x11))]) (st2 := [.int (nI x2), .int 7, .ref 112]) (w3 := w) rfl rfl ?_
        refine sx_RP.step (pc2 := 34) (ls2 := [(0, .ref 111), (1, .int (nI x2)), (2, .int (nI x11))]) (st2 := [.int (7 + (nI x2)), .ref 112]) (w3 := w) rfl rfl ?_
        rw [show (7 + (nI x2) : Int32) = nI (7 + x2) from nI_add 7 x2]
        refine sx_RP.ild (c := (7 + x2)) rfl hI.1.a112.1 hI.1.a112.2 (sx_in_nI (show (7 + x2) < 172 by omega) (by decide)) (show (nI (7 + x2)).toNatClampNeg = (7 + x2) from nI_clamp (by omega)) (show _ = 35 from rfl) ?_
        obtain ⟨x23, hx24, ex25⟩ : inR ((ia w 112).getD (7 + x2) 0) 3 := (hI.s ((7 + x2)) (by omega)).2.2.1 (by omega)
        rw [ex25]
        refine sx_RP.step (pc2 := 60) (ls2 := [(0, .ref 111), (1, .int (nI x2)), (2, .int (nI x11))]) (st2 := [.int (nI x23)]) (w3 := w) rfl rfl ?_
        refine sx_RP.ret (r := (some (.int (nI x23)))) rfl rfl ?_
        exact ⟨⟨_, rfl⟩, hI, hE⟩
set_option maxRecDepth 20000 in
set_option maxHeartbeats 4000000 in
theorem s150 {xs : Option (List Int32)} {d : Nat} {w : List sx_C} (hI : WI w) (a1 a2 a3 a4 : Int32) : sx_RP xs (d + 7) 150 0 (lv_args 0 [.ref 111, .int a1, .int a2, .int a3, .int a4]) [] w (fun r w2 => (∃ v : Int32, r = some (.int v)) ∧ WI w2 ∧ EM w w2) := by
  have hE : EM w w := EM.rf
  refine sx_RP.step (pc2 := 1) (ls2 := [(0, .ref 111), (1, .int a1), (2, .int a2), (3, .int a3), (4, .int a4)]) (st2 := [.int a1]) (w3 := w) rfl rfl ?_
  rcases in_cases a1 0 5 (m := 0) (n := 5) rfl rfl (by decide) (by decide) with q1 | ⟨x2, hx3, hx4, rfl⟩
  · refine sx_RP.cu (as := [.int a1]) (rest2 := []) (st3 := [.int 0]) rfl rfl rfl rfl rfl (cx_151n q1) rfl ?_
    refine sx_RP.step (pc2 := 31) (ls2 := [(0, .ref 111), (1, .int a1), (2, .int a2), (3, .int a3), (4, .int a4)]) (st2 := []) (w3 := w) rfl rfl ?_
    refine sx_RP.step (pc2 := 32) (ls2 := [(0, .ref 111), (1, .int a1), (2, .int a2), (3, .int a3), (4, .int a4)]) (st2 := [.ref 111]) (w3 := w) rfl rfl ?_
    refine sx_RP.step (pc2 := 33) (ls2 := [(0, .ref 111), (1, .int a1), (2, .int a2), (3, .int a3), (4, .int a4)]) (st2 := [.int 0, .ref 111]) (w3 := w) rfl rfl ?_
    refine sx_RP.callp (as2 := [.ref 111, .int 0]) (rest2 := []) rfl rfl (sx_inv_v2 (mi := 150) (k := 70) (st := [.int 0, .ref 111]) (w := w) rfl rfl hI.1.o111 rfl rfl rfl) rfl rfl rfl (s133_0 hI) (show _ = 36 from rfl) ?_
    rintro r4 w6 ⟨rfl, hI7, hE9⟩
    have hE8 := hE.tr (hE9)
    show sx_RP _ _ _ _ _ [.int (-1000000001)] _ _
    refine sx_RP.ret (r := (some (.int (-1000000001)))) rfl rfl ?_
    exact ⟨⟨_, rfl⟩, hI7, hE8⟩
  · refine sx_RP.cu (as := [.int (nI x2)]) (rest2 := []) (st3 := [.int 1]) rfl rfl rfl rfl rfl (cx_151p ⟨nI_le (a := 0) hx3 (by omega), nI_le (b := 5) hx4 (by decide)⟩) rfl ?_
    refine sx_RP.step (pc2 := 7) (ls2 := [(0, .ref 111), (1, .int (nI x2)), (2, .int a2), (3, .int a3), (4, .int a4)]) (st2 := []) (w3 := w) rfl rfl ?_
    refine sx_RP.step (pc2 := 8) (ls2 := [(0, .ref 111), (1, .int (nI x2)), (2, .int a2), (3, .int a3), (4, .int a4)]) (st2 := [.int a2]) (w3 := w) rfl rfl ?_
    refine sx_RP.step (pc2 := 9) (ls2 := [(0, .ref 111), (1, .int (nI x2)), (2, .int a2), (3, .int a3), (4, .int a4)]) (st2 := [.int 0, .int a2]) (w3 := w) rfl rfl ?_
    refine sx_RP.step (pc2 := 10) (ls2 := [(0, .ref 111), (1, .int (nI x2)), (2, .int a2), (3, .int a3), (4, .int a4)]) (st2 := [.int 1, .int 0, .int a2]) (w3 := w) rfl rfl ?_
    rcases in_cases a2 0 1 (m := 0) (n := 1) rfl rfl (by decide) (by decide) with q10 | ⟨x11, hx12, hx13, rfl⟩
    · refine sx_RP.cu (as := [.int a2, .int 0, .int 1]) (rest2 := []) (st3 := [.int 0]) rfl rfl rfl rfl rfl (cx_132o q10) rfl ?_
      refine sx_RP.step (pc2 := 31) (ls2 := [(0, .ref 111), (1, .int (nI x2)), (2, .int a2), (3, .int a3), (4, .int a4)]) (st2 := []) (w3 := w) rfl rfl ?_
      refine sx_RP.step (pc2 := 32) (ls2 := [(0, .ref 111), (1, .int (nI x2)), (2, .int a2), (3, .int a3), (4, .int a4)]) (st2 := [.ref 111]) (w3 := w) rfl rfl ?_
      refine sx_RP.step (pc2 := 33) (ls2 := [(0, .ref 111), (1, .int (nI x2)), (2, .int a2), (3, .int a3), (4, .int a4)]) (st2 := [.int 0, .ref 111]) (w3 := w) rfl rfl ?_
      refine sx_RP.callp (as2 := [.ref 111, .int 0]) (rest2 := []) rfl rfl (sx_inv_v2 (mi := 150) (k := 70) (st := [.int 0, .ref 111]) (w := w) rfl rfl hI.1.o111 rfl rfl rfl) rfl rfl rfl (s133_0 hI) (show _ = 36 from rfl) ?_
      rintro r4 w15 ⟨rfl, hI16, hE18⟩
      have hE17 := hE.tr (hE18)
      show sx_RP _ _ _ _ _ [.int (-1000000001)] _ _
      refine sx_RP.ret (r := (some (.int (-1000000001)))) rfl rfl ?_
      exact ⟨⟨_, rfl⟩, hI16, hE17⟩
    · refine sx_RP.cu (as := [.int (nI x11), .int 0, .int 1]) (rest2 := []) (st3 := [.int 1]) rfl rfl rfl rfl rfl (cx_132p ⟨nI_le (a := 0) hx12 (by omega), nI_le (b := 1) hx13 (by decide)⟩) rfl ?_
      refine sx_RP.step (pc2 := 16) (ls2 := [(0, .ref 111), (1, .int (nI x2)), (2, .int (nI x11)), (3, .int a3), (4, .int a4)]) (st2 := []) (w3 := w) rfl rfl ?_
      refine sx_RP.step (pc2 := 17) (ls2 := [(0, .ref 111), (1, .int (nI x2)), (2, .int (nI x11)), (3, .int a3), (4, .int a4)]) (st2 := [.int a3]) (w3 := w) rfl rfl ?_
      rcases in_cases a3 0 47 (m := 0) (n := 47) rfl rfl (by decide) (by decide) with q19 | ⟨x20, hx21, hx22, rfl⟩
      · refine sx_RP.cu (as := [.int a3]) (rest2 := []) (st3 := [.int 0]) rfl rfl rfl rfl rfl (cx_131n q19) rfl ?_
        refine sx_RP.step (pc2 := 31) (ls2 := [(0, .ref 111), (1, .int (nI x2)), (2, .int (nI x11)), (3, .int a3), (4, .int a4)]) (st2 := []) (w3 := w) rfl rfl ?_
        refine sx_RP.step (pc2 := 32) (ls2 := [(0, .ref 111), (1, .int (nI x2)), (2, .int (nI x11)), (3, .int a3), (4, .int a4)]) (st2 := [.ref 111]) (w3 := w) rfl rfl ?_
        refine sx_RP.step (pc2 := 33) (ls2 := [(0, .ref 111), (1, .int (nI x2)), (2, .int (nI x11)), (3, .int a3), (4, .int a4)]) (st2 := [.int 0, .ref 111]) (w3 := w) rfl rfl ?_
        refine sx_RP.callp (as2 := [.ref 111, .int 0]) (rest2 := []) rfl rfl (sx_inv_v2 (mi := 150) (k := 70) (st := [.int 0, .ref 111]) (w := w) rfl rfl hI.1.o111 rfl rfl rfl) rfl rfl rfl (s133_0 hI) (show _ = 36 from rfl) ?_
        rintro r4 w24 ⟨rfl, hI25, hE27⟩
        have hE26 := hE.tr (hE27)
        show sx_RP _ _ _ _ _ [.int (-1000000001)] _ _
        refine sx_RP.ret (r := (some (.int (-1000000001)))) rfl rfl ?_
        exact ⟨⟨_, rfl⟩, hI25, hE26⟩
      · refine sx_RP.cu (as := [.int (nI x20)]) (rest2 := []) (st3 := [.int 1]) rfl rfl rfl rfl rfl (cx_131p ⟨nI_le (a := 0) hx21 (by omega), nI_le (b := 47) hx22 (by decide)⟩) rfl ?_
        refine sx_RP.step (pc2 := 23) (ls2 := [(0, .ref 111), (1, .int (nI x2)), (2, .int (nI x11)), (3, .int (nI x20)), (4, .int a4)]) (st2 := []) (w3 := w) rfl rfl ?_
        refine sx_RP.step (pc2 := 25) (ls2 := [(0, .ref 111), (1, .int (nI x2)), (2, .int (nI x11)), (3, .int (nI x20)), (4, .int a4)]) (st2 := [.int a4]) (w3 := w) rfl rfl ?_
        rcases in_cases a4 0 3 (m := 0) (n := 3) rfl rfl (by decide) (by decide) with q28 | ⟨x29, hx30, hx31, rfl⟩
        · refine sx_RP.cu (as := [.int a4]) (rest2 := []) (st3 := [.int 0]) rfl rfl rfl rfl rfl (cx_152n q28) rfl ?_
          refine sx_RP.step (pc2 := 31) (ls2 := [(0, .ref 111), (1, .int (nI x2)), (2, .int (nI x11)), (3, .int (nI x20)), (4, .int a4)]) (st2 := []) (w3 := w) rfl rfl ?_
          refine sx_RP.step (pc2 := 32) (ls2 := [(0, .ref 111), (1, .int (nI x2)), (2, .int (nI x11)), (3, .int (nI x20)), (4, .int a4)]) (st2 := [.ref 111]) (w3 := w) rfl rfl ?_
          refine sx_RP.step (pc2 := 33) (ls2 := [(0, .ref 111), (1, .int (nI x2)), (2, .int (nI x11)), (3, .int (nI x20)), (4, .int a4)]) (st2 := [.int 0, .ref 111]) (w3 := w) rfl rfl ?_
          refine sx_RP.callp (as2 := [.ref 111, .int 0]) (rest2 := []) rfl rfl (sx_inv_v2 (mi := 150) (k := 70) (st := [.int 0, .ref 111]) (w := w) rfl rfl hI.1.o111 rfl rfl rfl) rfl rfl rfl (s133_0 hI) (show _ = 36 from rfl) ?_
          rintro r4 w33 ⟨rfl, hI34, hE36⟩
          have hE35 := hE.tr (hE36)
          show sx_RP _ _ _ _ _ [.int (-1000000001)] _ _
          refine sx_RP.ret (r := (some (.int (-1000000001)))) rfl rfl ?_
          exact ⟨⟨_, rfl⟩, hI34, hE35⟩
        · refine sx_RP.cu (as := [.int (nI x29)]) (rest2 := []) (st3 := [.int 1]) rfl rfl rfl rfl rfl (cx_152p ⟨nI_le (a := 0) hx30 (by omega), nI_le (b := 3) hx31 (by decide)⟩) rfl ?_
          refine sx_RP.step (pc2 := 37) (ls2 := [(0, .ref 111), (1, .int (nI x2)), (2, .int (nI x11)), (3, .int (nI x20)), (4, .int (nI x29))]) (st2 := []) (w3 := w) rfl rfl ?_
          refine sx_RP.step (pc2 := 38) (ls2 := [(0, .ref 111), (1, .int (nI x2)), (2, .int (nI x11)), (3, .int (nI x20)), (4, .int (nI x29))]) (st2 := [.ref 111]) (w3 := w) rfl rfl ?_
          refine sx_RP.gf (v := .ref 112) rfl rfl hI.1.o111 rfl rfl (show _ = 41 from rfl) ?_
          refine sx_RP.step (pc2 := 42) (ls2 := [(0, .ref 111), (1, .int (nI x2)), (2, .int (nI x11)), (3, .int (nI x20)), (4, .int (nI x29))]) (st2 := [.int 1, .ref 112]) (w3 := w) rfl rfl ?_
          refine sx_RP.ild (c := 1) rfl hI.1.a112.1 hI.1.a112.2 (sx_in_nI (show 1 < 172 by omega) (by decide)) (show (nI 1).toNatClampNeg = 1 from nI_clamp (by omega)) (show _ = 43 from rfl) ?_
          obtain ⟨x37, hx38, ex39⟩ : inR ((ia w 112).getD 1 0) 10 := (hI.s (1) (by omega)).1 rfl
          rw [ex39]
          refine sx_RP.step (pc2 := 45) (ls2 := [(0, .ref 111), (1, .int (nI x2)), (2, .int (nI x11)), (3, .int (nI x20)), (4, .int (nI x29))]) (st2 := [.int 10, .int (nI x37)]) (w3 := w) rfl rfl ?_
          refine sx_RP.br (p1 := 54) (l1 := [(0, .ref 111), (1, .int (nI x2)), (2, .int (nI x11)), (3, .int (nI x20)), (4, .int (nI x29))]) (s1 := []) (v1 := w) (p2 := 48) (l2 := [(0, .ref 111), (1, .int (nI x2)), (2, .int (nI x11)), (3, .int (nI x20)), (4, .int (nI x29))]) (s2 := []) (v2 := w) rfl rfl (fun q40 => ?_) (fun q40 => ?_)
          · replace q40 := of_decide_eq_true q40
            replace q40 := mt (nI_eq (a := x37) (b := 10) (by omega) (by omega)).mpr q40
            refine sx_RP.step (pc2 := 55) (ls2 := [(0, .ref 111), (1, .int (nI x2)), (2, .int (nI x11)), (3, .int (nI x20)), (4, .int (nI x29))]) (st2 := [.ref 111]) (w3 := w) rfl rfl ?_
            refine sx_RP.step (pc2 := 56) (ls2 := [(0, .ref 111), (1, .int (nI x2)), (2, .int (nI x11)), (3, .int (nI x20)), (4, .int (nI x29))]) (st2 := [.int (nI x2), .ref 111]) (w3 := w) rfl rfl ?_
            refine sx_RP.step (pc2 := 57) (ls2 := [(0, .ref 111), (1, .int (nI x2)), (2, .int (nI x11)), (3, .int (nI x20)), (4, .int (nI x29))]) (st2 := [.int (nI x11), .int (nI x2), .ref 111]) (w3 := w) rfl rfl ?_
            refine sx_RP.step (pc2 := 58) (ls2 := [(0, .ref 111), (1, .int (nI x2)), (2, .int (nI x11)), (3, .int (nI x20)), (4, .int (nI x29))]) (st2 := [.int (nI x20), .int (nI x11), .int (nI x2), .ref 111]) (w3 := w) rfl rfl ?_
            refine sx_RP.step (pc2 := 60) (ls2 := [(0, .ref 111), (1, .int (nI x2)), (2, .int (nI x11)), (3, .int (nI x20)), (4, .int (nI x29))]) (st2 := [.int (nI x29), .int (nI x20), .int (nI x11), .int (nI x2), .ref 111]) (w3 := w) rfl rfl ?_
            refine sx_RP.callp (as2 := [.ref 111, .int (nI x2), .int (nI x11), .int (nI x20), .int (nI x29)]) (rest2 := []) rfl rfl (sx_inv_v2 (mi := 150) (k := 120) (st := [.int (nI x29), .int (nI x20), .int (nI x11), .int (nI x2), .ref 111]) (w := w) rfl rfl hI.1.o111 rfl rfl rfl) rfl rfl rfl (s153 hI (by omega) ex39 (show x2 ≤ 5 by omega) (show x11 ≤ 1 by omega) (show x20 < 48 by omega) (show x29 ≤ 3 by omega)) (show _ = 63 from rfl) ?_
            rintro r4 w41 ⟨rfl, hI42, hE44⟩
            have hE43 := hE.tr (hE44)
            show sx_RP _ _ _ _ _ [] _ _
            refine sx_RP.step (pc2 := 64) (ls2 := [(0, .ref 111), (1, .int (nI x2)), (2, .int (nI x11)), (3, .int (nI x20)), (4, .int (nI x29))]) (st2 := [.ref 111]) (w3 := w41) rfl rfl ?_
            refine sx_RP.gf (v := .ref 112) rfl rfl hI42.1.o111 rfl rfl (show _ = 67 from rfl) ?_
            refine sx_RP.step (pc2 := 68) (ls2 := [(0, .ref 111), (1, .int (nI x2)), (2, .int (nI x11)), (3, .int (nI x20)), (4, .int (nI x29))]) (st2 := [.int 1, .ref 112]) (w3 := w41) rfl rfl ?_
            refine sx_RP.ild (c := 1) rfl hI42.1.a112.1 hI42.1.a112.2 (sx_in_nI (show 1 < 172 by omega) (by decide)) (show (nI 1).toNatClampNeg = 1 from nI_clamp (by omega)) (show _ = 69 from rfl) ?_
            obtain ⟨x45, hx46, ex47⟩ : inR ((ia w41 112).getD 1 0) 10 := (hI42.s (1) (by omega)).1 rfl
            rw [ex47]
            refine sx_RP.step (pc2 := 70) (ls2 := [(0, .ref 111), (1, .int (nI x2)), (2, .int (nI x11)), (3, .int (nI x20)), (4, .int (nI x29))]) (st2 := [.int 1, .int (nI x45)]) (w3 := w41) rfl rfl ?_
            refine sx_RP.step (pc2 := 71) (ls2 := [(0, .ref 111), (1, .int (nI x2)), (2, .int (nI x11)), (3, .int (nI x20)), (4, .int (nI x29))]) (st2 := [.int ((nI x45) - 1)]) (w3 := w41) rfl rfl ?_
            refine sx_RP.ret (r := (some (.int ((nI x45) - 1)))) rfl rfl ?_
            exact ⟨⟨_, rfl⟩, hI42, hE43⟩
          · replace q40 := Decidable.not_not.mp (of_decide_eq_false q40)
            replace q40 := (nI_eq (a := x37) (b := 10) (by omega) (by omega)).mp q40
            refine sx_RP.step (pc2 := 49) (ls2 := [(0, .ref 111), (1, .int (nI x2)), (2, .int (nI x11)), (3, .int (nI x20)), (4, .int (nI x29))]) (st2 := [.ref 111]) (w3 := w) rfl rfl ?_
            refine sx_RP.step (pc2 := 50) (ls2 := [(0, .ref 111), (1, .int (nI x2)), (2, .int (nI x11)), (3, .int (nI x20)), (4, .int (nI x29))]) (st2 := [.int 1, .ref 111]) (w3 := w) rfl rfl ?_
            refine sx_RP.callp (as2 := [.ref 111, .int 1]) (rest2 := []) rfl rfl (sx_inv_v2 (mi := 150) (k := 70) (st := [.int 1, .ref 111]) (w := w) rfl rfl hI.1.o111 rfl rfl rfl) rfl rfl rfl (s133_1 hI) (show _ = 53 from rfl) ?_
            rintro r4 w48 ⟨rfl, hI49, hE51⟩
            have hE50 := hE.tr (hE51)
            show sx_RP _ _ _ _ _ [.int (-1000000002)] _ _
            refine sx_RP.ret (r := (some (.int (-1000000002)))) rfl rfl ?_
            exact ⟨⟨_, rfl⟩, hI49, hE50⟩
set_option maxRecDepth 20000 in
set_option maxHeartbeats 4000000 in
theorem s155 {xs : Option (List Int32)} {d : Nat} {w : List sx_C} (hI : WI w) (a1 a2 : Int32) : sx_RP xs (d + 7) 155 0 (lv_args 0 [.ref 111, .int a1, .int a2]) [] w (fun r w2 => (∃ v : Int32, r = some (.int v)) ∧ WI w2 ∧ EM w w2) := by
  have hE : EM w w := EM.rf
  refine sx_RP.step (pc2 := 1) (ls2 := [(0, .ref 111), (1, .int a1), (2, .int a2)]) (st2 := [.ref 111]) (w3 := w) rfl rfl ?_
  refine sx_RP.step (pc2 := 2) (ls2 := [(0, .ref 111), (1, .int a1), (2, .int a2)]) (st2 := [.int a1, .ref 111]) (w3 := w) rfl rfl ?_
  rcases p156 (xs := xs) hI a1 with c2 | ⟨⟨x3, hx4, rfl⟩, c2⟩
  · refine sx_RP.cu (as := [.ref 111, .int a1]) (rest2 := []) (st3 := [.int 0]) rfl rfl (sx_inv_v2 (mi := 155) (k := 124) (st := [.int a1, .ref 111]) (w := w) rfl rfl hI.1.o111 rfl rfl rfl) rfl rfl (c2) rfl ?_
    refine sx_RP.step (pc2 := 26) (ls2 := [(0, .ref 111), (1, .int a1), (2, .int a2)]) (st2 := []) (w3 := w) rfl rfl ?_
    refine sx_RP.step (pc2 := 27) (ls2 := [(0, .ref 111), (1, .int a1), (2, .int a2)]) (st2 := [.ref 111]) (w3 := w) rfl rfl ?_
    refine sx_RP.step (pc2 := 28) (ls2 := [(0, .ref 111), (1, .int a1), (2, .int a2)]) (st2 := [.int 0, .ref 111]) (w3 := w) rfl rfl ?_
    refine sx_RP.callp (as2 := [.ref 111, .int 0]) (rest2 := []) rfl rfl (sx_inv_v2 (mi := 155) (k := 70) (st := [.int 0, .ref 111]) (w := w) rfl rfl hI.1.o111 rfl rfl rfl) rfl rfl rfl (s133_0 hI) (show _ = 31 from rfl) ?_
    rintro r4 w6 ⟨rfl, hI7, hE9⟩
    have hE8 := hE.tr (hE9)
    show sx_RP _ _ _ _ _ [.int (-1000000001)] _ _
    refine sx_RP.ret (r := (some (.int (-1000000001)))) rfl rfl ?_
    exact ⟨⟨_, rfl⟩, hI7, hE8⟩
  · refine sx_RP.cu (as := [.ref 111, .int (nI x3)]) (rest2 := []) (st3 := [.int 1]) rfl rfl (sx_inv_v2 (mi := 155) (k := 124) (st := [.int (nI x3), .ref 111]) (w := w) rfl rfl hI.1.o111 rfl rfl rfl) rfl rfl (c2) rfl ?_
    refine sx_RP.step (pc2 := 8) (ls2 := [(0, .ref 111), (1, .int (nI x3)), (2, .int a2)]) (st2 := []) (w3 := w) rfl rfl ?_
    refine sx_RP.step (pc2 := 9) (ls2 := [(0, .ref 111), (1, .int (nI x3)), (2, .int a2)]) (st2 := [.int a2]) (w3 := w) rfl rfl ?_
    refine sx_RP.step (pc2 := 10) (ls2 := [(0, .ref 111), (1, .int (nI x3)), (2, .int a2)]) (st2 := [.int 0, .int a2]) (w3 := w) rfl rfl ?_
    refine sx_RP.step (pc2 := 11) (ls2 := [(0, .ref 111), (1, .int (nI x3)), (2, .int a2)]) (st2 := [.int 5, .int 0, .int a2]) (w3 := w) rfl rfl ?_
    rcases in_cases a2 0 5 (m := 0) (n := 5) rfl rfl (by decide) (by decide) with q10 | ⟨x11, hx12, hx13, rfl⟩
    · refine sx_RP.cu (as := [.int a2, .int 0, .int 5]) (rest2 := []) (st3 := [.int 0]) rfl rfl rfl rfl rfl (cx_132o q10) rfl ?_
      refine sx_RP.step (pc2 := 26) (ls2 := [(0, .ref 111), (1, .int (nI x3)), (2, .int a2)]) (st2 := []) (w3 := w) rfl rfl ?_
      refine sx_RP.step (pc2 := 27) (ls2 := [(0, .ref 111), (1, .int (nI x3)), (2, .int a2)]) (st2 := [.ref 111]) (w3 := w) rfl rfl ?_
      refine sx_RP.step (pc2 := 28) (ls2 := [(0, .ref 111), (1, .int (nI x3)), (2, .int a2)]) (st2 := [.int 0, .ref 111]) (w3 := w) rfl rfl ?_
      refine sx_RP.callp (as2 := [.ref 111, .int 0]) (rest2 := []) rfl rfl (sx_inv_v2 (mi := 155) (k := 70) (st := [.int 0, .ref 111]) (w := w) rfl rfl hI.1.o111 rfl rfl rfl) rfl rfl rfl (s133_0 hI) (show _ = 31 from rfl) ?_
      rintro r4 w15 ⟨rfl, hI16, hE18⟩
      have hE17 := hE.tr (hE18)
      show sx_RP _ _ _ _ _ [.int (-1000000001)] _ _
      refine sx_RP.ret (r := (some (.int (-1000000001)))) rfl rfl ?_
      exact ⟨⟨_, rfl⟩, hI16, hE17⟩
    · refine sx_RP.cu (as := [.int (nI x11), .int 0, .int 5]) (rest2 := []) (st3 := [.int 1]) rfl rfl rfl rfl rfl (cx_132p ⟨nI_le (a := 0) hx12 (by omega), nI_le (b := 5) hx13 (by decide)⟩) rfl ?_
      refine sx_RP.step (pc2 := 17) (ls2 := [(0, .ref 111), (1, .int (nI x3)), (2, .int (nI x11))]) (st2 := []) (w3 := w) rfl rfl ?_
      refine sx_RP.step (pc2 := 18) (ls2 := [(0, .ref 111), (1, .int (nI x3)), (2, .int (nI x11))]) (st2 := [.ref 111]) (w3 := w) rfl rfl ?_
      refine sx_RP.step (pc2 := 19) (ls2 := [(0, .ref 111), (1, .int (nI x3)), (2, .int (nI x11))]) (st2 := [.int (nI x3), .ref 111]) (w3 := w) rfl rfl ?_
      refine sx_RP.step (pc2 := 20) (ls2 := [(0, .ref 111), (1, .int (nI x3)), (2, .int (nI x11))]) (st2 := [.int (nI x11), .int (nI x3), .ref 111]) (w3 := w) rfl rfl ?_
      obtain ⟨v19, c20⟩ := p138a hI (show x3 < 10 by omega) (show x11 ≤ 5 by omega)
      refine sx_RP.cu (as := [.ref 111, .int (nI x3), .int (nI x11)]) (rest2 := []) (st3 := [.int v19]) rfl rfl (sx_inv_v2 (mi := 155) (k := 59) (st := [.int (nI x11), .int (nI x3), .ref 111]) (w := w) rfl rfl hI.1.o111 rfl rfl rfl) rfl rfl (c20) rfl ?_
      refine sx_RP.step (pc2 := 31) (ls2 := [(0, .ref 111), (1, .int (nI x3)), (2, .int (nI x11))]) (st2 := [.int v19]) (w3 := w) rfl rfl ?_
      refine sx_RP.ret (r := (some (.int v19))) rfl rfl ?_
      exact ⟨⟨_, rfl⟩, hI, hE⟩
set_option maxRecDepth 20000 in
set_option maxHeartbeats 4000000 in
theorem s157 {xs : Option (List Int32)} {d : Nat} {w : List sx_C} (hI : WI w) (a1 a2 : Int32) : sx_RP xs (d + 7) 157 0 (lv_args 0 [.ref 111, .int a1, .int a2]) [] w (fun r w2 => (∃ v : Int32, r = some (.int v)) ∧ WI w2 ∧ EM w w2) := by
  have hE : EM w w := EM.rf
  refine sx_RP.step (pc2 := 1) (ls2 := [(0, .ref 111), (1, .int a1), (2, .int a2)]) (st2 := [.ref 111]) (w3 := w) rfl rfl ?_
  refine sx_RP.step (pc2 := 2) (ls2 := [(0, .ref 111), (1, .int a1), (2, .int a2)]) (st2 := [.int a1, .ref 111]) (w3 := w) rfl rfl ?_
  rcases p156 (xs := xs) hI a1 with c2 | ⟨⟨x3, hx4, rfl⟩, c2⟩
  · refine sx_RP.cu (as := [.ref 111, .int a1]) (rest2 := []) (st3 := [.int 0]) rfl rfl (sx_inv_v2 (mi := 157) (k := 124) (st := [.int a1, .ref 111]) (w := w) rfl rfl hI.1.o111 rfl rfl rfl) rfl rfl (c2) rfl ?_
    refine sx_RP.step (pc2 := 15) (ls2 := [(0, .ref 111), (1, .int a1), (2, .int a2)]) (st2 := []) (w3 := w) rfl rfl ?_
    refine sx_RP.step (pc2 := 16) (ls2 := [(0, .ref 111), (1, .int a1), (2, .int a2)]) (st2 := [.ref 111]) (w3 := w) rfl rfl ?_
    refine sx_RP.step (pc2 := 17) (ls2 := [(0, .ref 111), (1, .int a1), (2, .int a2)]) (st2 := [.int 0, .ref 111]) (w3 := w) rfl rfl ?_
    refine sx_RP.callp (as2 := [.ref 111, .int 0]) (rest2 := []) rfl rfl (sx_inv_v2 (mi := 157) (k := 70) (st := [.int 0, .ref 111]) (w := w) rfl rfl hI.1.o111 rfl rfl rfl) rfl rfl rfl (s133_0 hI) (show _ = 20 from rfl) ?_
    rintro r4 w6 ⟨rfl, hI7, hE9⟩
    have hE8 := hE.tr (hE9)
    show sx_RP _ _ _ _ _ [.int (-1000000001)] _ _
    refine sx_RP.ret (r := (some (.int (-1000000001)))) rfl rfl ?_
    exact ⟨⟨_, rfl⟩, hI7, hE8⟩
  · refine sx_RP.cu (as := [.ref 111, .int (nI x3)]) (rest2 := []) (st3 := [.int 1]) rfl rfl (sx_inv_v2 (mi := 157) (k := 124) (st := [.int (nI x3), .ref 111]) (w := w) rfl rfl hI.1.o111 rfl rfl rfl) rfl rfl (c2) rfl ?_
    refine sx_RP.step (pc2 := 8) (ls2 := [(0, .ref 111), (1, .int (nI x3)), (2, .int a2)]) (st2 := []) (w3 := w) rfl rfl ?_
    refine sx_RP.step (pc2 := 9) (ls2 := [(0, .ref 111), (1, .int (nI x3)), (2, .int a2)]) (st2 := [.int a2]) (w3 := w) rfl rfl ?_
    rcases in_cases a2 0 3 (m := 0) (n := 3) rfl rfl (by decide) (by decide) with q10 | ⟨x11, hx12, hx13, rfl⟩
    · refine sx_RP.cu (as := [.int a2]) (rest2 := []) (st3 := [.int 0]) rfl rfl rfl rfl rfl (cx_152n q10) rfl ?_
      refine sx_RP.step (pc2 := 15) (ls2 := [(0, .ref 111), (1, .int (nI x3)), (2, .int a2)]) (st2 := []) (w3 := w) rfl rfl ?_
      refine sx_RP.step (pc2 := 16) (ls2 := [(0, .ref 111), (1, .int (nI x3)), (2, .int a2)]) (st2 := [.ref 111]) (w3 := w) rfl rfl ?_
      refine sx_RP.step (pc2 := 17) (ls2 := [(0, .ref 111), (1, .int (nI x3)), (2, .int a2)]) (st2 := [.int 0, .ref 111]) (w3 := w) rfl rfl ?_
      refine sx_RP.callp (as2 := [.ref 111, .int 0]) (rest2 := []) rfl rfl (sx_inv_v2 (mi := 157) (k := 70) (st := [.int 0, .ref 111]) (w := w) rfl rfl hI.1.o111 rfl rfl rfl) rfl rfl rfl (s133_0 hI) (show _ = 20 from rfl) ?_
      rintro r4 w15 ⟨rfl, hI16, hE18⟩
      have hE17 := hE.tr (hE18)
      show sx_RP _ _ _ _ _ [.int (-1000000001)] _ _
      refine sx_RP.ret (r := (some (.int (-1000000001)))) rfl rfl ?_
      exact ⟨⟨_, rfl⟩, hI16, hE17⟩
    · refine sx_RP.cu (as := [.int (nI x11)]) (rest2 := []) (st3 := [.int 1]) rfl rfl rfl rfl rfl (cx_152p ⟨nI_le (a := 0) hx12 (by omega), nI_le (b := 3) hx13 (by decide)⟩) rfl ?_
      refine sx_RP.step (pc2 := 21) (ls2 := [(0, .ref 111), (1, .int (nI x3)), (2, .int (nI x11))]) (st2 := []) (w3 := w) rfl rfl ?_
      refine sx_RP.step (pc2 := 22) (ls2 := [(0, .ref 111), (1, .int (nI x3)), (2, .int (nI x11))]) (st2 := [.ref 111]) (w3 := w) rfl rfl ?_
      refine sx_RP.step (pc2 := 23) (ls2 := [(0, .ref 111), (1, .int (nI x3)), (2, .int (nI x11))]) (st2 := [.int (nI x3), .ref 111]) (w3 := w) rfl rfl ?_
      obtain ⟨x19, hx20, c21⟩ := p137 hI (show x3 < 10 by omega)
      refine sx_RP.cu (as := [.ref 111, .int (nI x3)]) (rest2 := []) (st3 := [.int (nI x19)]) rfl rfl (sx_inv_v2 (mi := 157) (k := 74) (st := [.int (nI x3), .ref 111]) (w := w) rfl rfl hI.1.o111 rfl rfl rfl) rfl rfl (c21) rfl ?_
      refine sx_RP.br (p1 := 35) (l1 := [(0, .ref 111), (1, .int (nI x3)), (2, .int (nI x11))]) (s1 := []) (v1 := w) (p2 := 29) (l2 := [(0, .ref 111), (1, .int (nI x3)), (2, .int (nI x11))]) (s2 := []) (v2 := w) rfl rfl (fun q22 => ?_) (fun q22 => ?_)
      · replace q22 := of_decide_eq_true q22
        replace q22 := mt (nI_eq (a := x19) (b := 0) (by omega) (by omega)).mpr q22
        refine sx_RP.step (pc2 := 36) (ls2 := [(0, .ref 111), (1, .int (nI x3)), (2, .int (nI x11))]) (st2 := [.ref 111]) (w3 := w) rfl rfl ?_
        refine sx_RP.step (pc2 := 37) (ls2 := [(0, .ref 111), (1, .int (nI x3)), (2, .int (nI x11))]) (st2 := [.int (nI x3), .ref 111]) (w3 := w) rfl rfl ?_
        refine sx_RP.step (pc2 := 38) (ls2 := [(0, .ref 111), (1, .int (nI x3)), (2, .int (nI x11))]) (st2 := [.int 3, .int (nI x3), .ref 111]) (w3 := w) rfl rfl ?_
        refine sx_RP.step (pc2 := 39) (ls2 := [(0, .ref 111), (1, .int (nI x3)), (2, .int (nI x11))]) (st2 := [.int (nI x11), .int 3, .int (nI x3), .ref 111]) (w3 := w) rfl rfl ?_
        refine sx_RP.callp (as2 := [.ref 111, .int (nI x3), .int 3, .int (nI x11)]) (rest2 := []) rfl rfl (sx_inv_v2 (mi := 157) (k := 110) (st := [.int (nI x11), .int 3, .int (nI x3), .ref 111]) (w := w) rfl rfl hI.1.o111 rfl rfl rfl) rfl rfl rfl (s154_3 hI (show x3 < 10 by omega) (show x11 ≤ 3 by omega)) (show _ = 42 from rfl) ?_
        rintro r4 w24 ⟨⟨v23, rfl⟩, hI25, hE27⟩
        have hE26 := hE.tr (hE27)
        show sx_RP _ _ _ _ _ [.int v23] _ _
        refine sx_RP.step (pc2 := 43) (ls2 := [(3, .int v23), (0, .ref 111), (1, .int (nI x3)), (2, .int (nI x11))]) (st2 := []) (w3 := w24) rfl rfl ?_
        refine sx_RP.step (pc2 := 44) (ls2 := [(3, .int v23), (0, .ref 111), (1, .int (nI x3)), (2, .int (nI x11))]) (st2 := [.ref 111]) (w3 := w24) rfl rfl ?_
        refine sx_RP.step (pc2 := 45) (ls2 := [(3, .int v23), (0, .ref 111), (1, .int (nI x3)), (2, .int (nI x11))]) (st2 := [.int (nI x3), .ref 111]) (w3 := w24) rfl rfl ?_
        refine sx_RP.step (pc2 := 46) (ls2 := [(3, .int v23), (0, .ref 111), (1, .int (nI x3)), (2, .int (nI x11))]) (st2 := [.int 4, .int (nI x3), .ref 111]) (w3 := w24) rfl rfl ?_
        refine sx_RP.step (pc2 := 47) (ls2 := [(3, .int v23), (0, .ref 111), (1, .int (nI x3)), (2, .int (nI x11))]) (st2 := [.int v23, .int 4, .int (nI x3), .ref 111]) (w3 := w24) rfl rfl ?_
        refine sx_RP.step (pc2 := 48) (ls2 := [(3, .int v23), (0, .ref 111), (1, .int (nI x3)), (2, .int (nI x11))]) (st2 := [.int (nI x11), .int v23, .int 4, .int (nI x3), .ref 111]) (w3 := w24) rfl rfl ?_
        refine sx_RP.br (p1 := 60) (l1 := [(3, .int v23), (0, .ref 111), (1, .int (nI x3)), (2, .int (nI x11))]) (s1 := [.int 4, .int (nI x3), .ref 111]) (v1 := w24) (p2 := 51) (l2 := [(3, .int v23), (0, .ref 111), (1, .int (nI x3)), (2, .int (nI x11))]) (s2 := [.int 4, .int (nI x3), .ref 111]) (v2 := w24) rfl rfl (fun q28 => ?_) (fun q28 => ?_)
        · replace q28 := of_decide_eq_true q28
          refine sx_RP.step (pc2 := 61) (ls2 := [(3, .int v23), (0, .ref 111), (1, .int (nI x3)), (2, .int (nI x11))]) (st2 := [.int 0, .int 4, .int (nI x3), .ref 111]) (w3 := w24) rfl rfl ?_
          refine sx_RP.callp (as2 := [.ref 111, .int (nI x3), .int 4, .int 0]) (rest2 := []) rfl rfl (sx_inv_v2 (mi := 157) (k := 110) (st := [.int 0, .int 4, .int (nI x3), .ref 111]) (w := w24) rfl rfl hI25.1.o111 rfl rfl rfl) rfl rfl rfl (s154_4 hI25 (show x3 < 10 by omega) 0) (show _ = 64 from rfl) ?_
          rintro r4 w30 ⟨⟨v29, rfl⟩, hI31, hE33⟩
          have hE32 := hE26.tr (hE33)
          show sx_RP _ _ _ _ _ [.int v29] _ _
          refine sx_RP.step (pc2 := 65) (ls2 := [(3, .int v23), (0, .ref 111), (1, .int (nI x3)), (2, .int (nI x11))]) (st2 := []) (w3 := w30) rfl rfl ?_
          refine sx_RP.step (pc2 := 66) (ls2 := [(3, .int v23), (0, .ref 111), (1, .int (nI x3)), (2, .int (nI x11))]) (st2 := [.int v23]) (w3 := w30) rfl rfl ?_
          refine sx_RP.ret (r := (some (.int v23))) rfl rfl ?_
          exact ⟨⟨_, rfl⟩, hI31, hE32⟩
        · replace q28 := Decidable.not_not.mp (of_decide_eq_false q28)
          refine sx_RP.step (pc2 := 52) (ls2 := [(3, .int v23), (0, .ref 111), (1, .int (nI x3)), (2, .int (nI x11))]) (st2 := [.ref 111, .int 4, .int (nI x3), .ref 111]) (w3 := w24) rfl rfl ?_
          refine sx_RP.step (pc2 := 53) (ls2 := [(3, .int v23), (0, .ref 111), (1, .int (nI x3)), (2, .int (nI x11))]) (st2 := [.int (nI x3), .ref 111, .int 4, .int (nI x3), .ref 111]) (w3 := w24) rfl rfl ?_
          refine sx_RP.step (pc2 := 54) (ls2 := [(3, .int v23), (0, .ref 111), (1, .int (nI x3)), (2, .int (nI x11))]) (st2 := [.int 4, .int (nI x3), .ref 111, .int 4, .int (nI x3), .ref 111]) (w3 := w24) rfl rfl ?_
          obtain ⟨v34, c35⟩ := p138_4 hI25 (show x3 < 10 by omega)
          refine sx_RP.cu (as := [.ref 111, .int (nI x3), .int 4]) (rest2 := [.int 4, .int (nI x3), .ref 111]) (st3 := [.int v34, .int 4, .int (nI x3), .ref 111]) rfl rfl (sx_inv_v2 (mi := 157) (k := 59) (st := [.int 4, .int (nI x3), .ref 111, .int 4, .int (nI x3), .ref 111]) (w := w24) rfl rfl hI25.1.o111 rfl rfl rfl) rfl rfl (c35) rfl ?_
          refine sx_RP.step (pc2 := 61) (ls2 := [(3, .int v23), (0, .ref 111), (1, .int (nI x3)), (2, .int (nI x11))]) (st2 := [.int v34, .int 4, .int (nI x3), .ref 111]) (w3 := w24) rfl rfl ?_
          refine sx_RP.callp (as2 := [.ref 111, .int (nI x3), .int 4, .int v34]) (rest2 := []) rfl rfl (sx_inv_v2 (mi := 157) (k := 110) (st := [.int v34, .int 4, .int (nI x3), .ref 111]) (w := w24) rfl rfl hI25.1.o111 rfl rfl rfl) rfl rfl rfl (s154_4 hI25 (show x3 < 10 by omega) v34) (show _ = 64 from rfl) ?_
          rintro r4 w37 ⟨⟨v36, rfl⟩, hI38, hE40⟩
          have hE39 := hE26.tr (hE40)
          show sx_RP _ _ _ _ _ [.int v36] _ _
          refine sx_RP.step (pc2 := 65) (ls2 := [(3, .int v23), (0, .ref 111), (1, .int (nI x3)), (2, .int (nI x11))]) (st2 := []) (w3 := w37) rfl rfl ?_
          refine sx_RP.step (pc2 := 66) (ls2 := [(3, .int v23), (0, .ref 111), (1, .int (nI x3)), (2, .int (nI x11))]) (st2 := [.int v23]) (w3 := w37) rfl rfl ?_
          refine sx_RP.ret (r := (some (.int v23))) rfl rfl ?_
          exact ⟨⟨_, rfl⟩, hI38, hE39⟩
      · replace q22 := Decidable.not_not.mp (of_decide_eq_false q22)
        replace q22 := (nI_eq (a := x19) (b := 0) (by omega) (by omega)).mp q22
        refine sx_RP.step (pc2 := 30) (ls2 := [(0, .ref 111), (1, .int (nI x3)), (2, .int (nI x11))]) (st2 := [.ref 111]) (w3 := w) rfl rfl ?_
        refine sx_RP.step (pc2 := 31) (ls2 := [(0, .ref 111), (1, .int (nI x3)), (2, .int (nI x11))]) (st2 := [.int 4, .ref 111]) (w3 := w) rfl rfl ?_
        refine sx_RP.callp (as2 := [.ref 111, .int 4]) (rest2 := []) rfl rfl (sx_inv_v2 (mi := 157) (k := 70) (st := [.int 4, .ref 111]) (w := w) rfl rfl hI.1.o111 rfl rfl rfl) rfl rfl rfl (s133_4 hI) (show _ = 34 from rfl) ?_
        rintro r4 w41 ⟨rfl, hI42, hE44⟩
        have hE43 := hE.tr (hE44)
        show sx_RP _ _ _ _ _ [.int (-1000000005)] _ _
        refine sx_RP.ret (r := (some (.int (-1000000005)))) rfl rfl ?_
        exact ⟨⟨_, rfl⟩, hI42, hE43⟩
set_option maxRecDepth 20000 in
set_option maxHeartbeats 4000000 in
theorem s158 {xs : Option (List Int32)} {d : Nat} {w : List sx_C} (hI : WI w) (a1 a2 : Int32) : sx_RP xs (d + 7) 158 0 (lv_args 0 [.ref 111, .int a1, .int a2]) [] w (fun r w2 => (∃ v : Int32, r = some (.int v)) ∧ WI w2 ∧ EM w w2) := by
  have hE : EM w w := EM.rf
  refine sx_RP.step (pc2 := 1) (ls2 := [(0, .ref 111), (1, .int a1), (2, .int a2)]) (st2 := [.ref 111]) (w3 := w) rfl rfl ?_
  refine sx_RP.step (pc2 := 2) (ls2 := [(0, .ref 111), (1, .int a1), (2, .int a2)]) (st2 := [.int a1, .ref 111]) (w3 := w) rfl rfl ?_
  rcases p156 (xs := xs) hI a1 with c2 | ⟨⟨x3, hx4, rfl⟩, c2⟩
  · refine sx_RP.cu (as := [.ref 111, .int a1]) (rest2 := []) (st3 := [.int 0]) rfl rfl (sx_inv_v2 (mi := 158) (k := 124) (st := [.int a1, .ref 111]) (w := w) rfl rfl hI.1.o111 rfl rfl rfl) rfl rfl (c2) rfl ?_
    refine sx_RP.step (pc2 := 25) (ls2 := [(0, .ref 111), (1, .int a1), (2, .int a2)]) (st2 := []) (w3 := w) rfl rfl ?_
    refine sx_RP.step (pc2 := 26) (ls2 := [(0, .ref 111), (1, .int a1), (2, .int a2)]) (st2 := [.ref 111]) (w3 := w) rfl rfl ?_
    refine sx_RP.step (pc2 := 27) (ls2 := [(0, .ref 111), (1, .int a1), (2, .int a2)]) (st2 := [.int 0, .ref 111]) (w3 := w) rfl rfl ?_
    refine sx_RP.callp (as2 := [.ref 111, .int 0]) (rest2 := []) rfl rfl (sx_inv_v2 (mi := 158) (k := 70) (st := [.int 0, .ref 111]) (w := w) rfl rfl hI.1.o111 rfl rfl rfl) rfl rfl rfl (s133_0 hI) (show _ = 30 from rfl) ?_
    rintro r4 w6 ⟨rfl, hI7, hE9⟩
    have hE8 := hE.tr (hE9)
    show sx_RP _ _ _ _ _ [.int (-1000000001)] _ _
    refine sx_RP.ret (r := (some (.int (-1000000001)))) rfl rfl ?_
    exact ⟨⟨_, rfl⟩, hI7, hE8⟩
  · refine sx_RP.cu (as := [.ref 111, .int (nI x3)]) (rest2 := []) (st3 := [.int 1]) rfl rfl (sx_inv_v2 (mi := 158) (k := 124) (st := [.int (nI x3), .ref 111]) (w := w) rfl rfl hI.1.o111 rfl rfl rfl) rfl rfl (c2) rfl ?_
    refine sx_RP.step (pc2 := 8) (ls2 := [(0, .ref 111), (1, .int (nI x3)), (2, .int a2)]) (st2 := []) (w3 := w) rfl rfl ?_
    refine sx_RP.step (pc2 := 9) (ls2 := [(0, .ref 111), (1, .int (nI x3)), (2, .int a2)]) (st2 := [.int a2]) (w3 := w) rfl rfl ?_
    rcases in_cases a2 0 5 (m := 0) (n := 5) rfl rfl (by decide) (by decide) with q10 | ⟨x11, hx12, hx13, rfl⟩
    · refine sx_RP.cu (as := [.int a2]) (rest2 := []) (st3 := [.int 0]) rfl rfl rfl rfl rfl (cx_151n q10) rfl ?_
      refine sx_RP.step (pc2 := 25) (ls2 := [(0, .ref 111), (1, .int (nI x3)), (2, .int a2)]) (st2 := []) (w3 := w) rfl rfl ?_
      refine sx_RP.step (pc2 := 26) (ls2 := [(0, .ref 111), (1, .int (nI x3)), (2, .int a2)]) (st2 := [.ref 111]) (w3 := w) rfl rfl ?_
      refine sx_RP.step (pc2 := 27) (ls2 := [(0, .ref 111), (1, .int (nI x3)), (2, .int a2)]) (st2 := [.int 0, .ref 111]) (w3 := w) rfl rfl ?_
      refine sx_RP.callp (as2 := [.ref 111, .int 0]) (rest2 := []) rfl rfl (sx_inv_v2 (mi := 158) (k := 70) (st := [.int 0, .ref 111]) (w := w) rfl rfl hI.1.o111 rfl rfl rfl) rfl rfl rfl (s133_0 hI) (show _ = 30 from rfl) ?_
      rintro r4 w15 ⟨rfl, hI16, hE18⟩
      have hE17 := hE.tr (hE18)
      show sx_RP _ _ _ _ _ [.int (-1000000001)] _ _
      refine sx_RP.ret (r := (some (.int (-1000000001)))) rfl rfl ?_
      exact ⟨⟨_, rfl⟩, hI16, hE17⟩
    · refine sx_RP.cu (as := [.int (nI x11)]) (rest2 := []) (st3 := [.int 1]) rfl rfl rfl rfl rfl (cx_151p ⟨nI_le (a := 0) hx12 (by omega), nI_le (b := 5) hx13 (by decide)⟩) rfl ?_
      refine sx_RP.step (pc2 := 15) (ls2 := [(0, .ref 111), (1, .int (nI x3)), (2, .int (nI x11))]) (st2 := []) (w3 := w) rfl rfl ?_
      refine sx_RP.step (pc2 := 16) (ls2 := [(0, .ref 111), (1, .int (nI x3)), (2, .int (nI x11))]) (st2 := [.ref 111]) (w3 := w) rfl rfl ?_
      refine sx_RP.step (pc2 := 17) (ls2 := [(0, .ref 111), (1, .int (nI x3)), (2, .int (nI x11))]) (st2 := [.int (nI x3), .ref 111]) (w3 := w) rfl rfl ?_
      refine sx_RP.step (pc2 := 18) (ls2 := [(0, .ref 111), (1, .int (nI x3)), (2, .int (nI x11))]) (st2 := [.int 0, .int (nI x3), .ref 111]) (w3 := w) rfl rfl ?_
      refine sx_RP.step (pc2 := 19) (ls2 := [(0, .ref 111), (1, .int (nI x3)), (2, .int (nI x11))]) (st2 := [.int (nI x11), .int 0, .int (nI x3), .ref 111]) (w3 := w) rfl rfl ?_
      refine sx_RP.callp (as2 := [.ref 111, .int (nI x3), .int 0, .int (nI x11)]) (rest2 := []) rfl rfl (sx_inv_v2 (mi := 158) (k := 110) (st := [.int (nI x11), .int 0, .int (nI x3), .ref 111]) (w := w) rfl rfl hI.1.o111 rfl rfl rfl) rfl rfl rfl (s154_0 hI (show x3 < 10 by omega) (show x11 ≤ 5 by omega)) (show _ = 22 from rfl) ?_
      rintro r4 w20 ⟨⟨v19, rfl⟩, hI21, hE23⟩
      have hE22 := hE.tr (hE23)
      show sx_RP _ _ _ _ _ [.int v19] _ _
      refine sx_RP.step (pc2 := 30) (ls2 := [(0, .ref 111), (1, .int (nI x3)), (2, .int (nI x11))]) (st2 := [.int v19]) (w3 := w20) rfl rfl ?_
      refine sx_RP.ret (r := (some (.int v19))) rfl rfl ?_
      exact ⟨⟨_, rfl⟩, hI21, hE22⟩
set_option maxRecDepth 20000 in
set_option maxHeartbeats 4000000 in
theorem s159 {xs : Option (List Int32)} {d : Nat} {w : List sx_C} (hI : WI w) (a1 a2 : Int32) : sx_RP xs (d + 7) 159 0 (lv_args 0 [.ref 111, .int a1, .int a2]) [] w (fun r w2 => (∃ v : Int32, r = some (.int v)) ∧ WI w2 ∧ EM w w2) := by
  have hE : EM w w := EM.rf
  refine sx_RP.step (pc2 := 1) (ls2 := [(0, .ref 111), (1, .int a1), (2, .int a2)]) (st2 := [.ref 111]) (w3 := w) rfl rfl ?_
  refine sx_RP.step (pc2 := 2) (ls2 := [(0, .ref 111), (1, .int a1), (2, .int a2)]) (st2 := [.int a1, .ref 111]) (w3 := w) rfl rfl ?_
  rcases p156 (xs := xs) hI a1 with c2 | ⟨⟨x3, hx4, rfl⟩, c2⟩
  · refine sx_RP.cu (as := [.ref 111, .int a1]) (rest2 := []) (st3 := [.int 0]) rfl rfl (sx_inv_v2 (mi := 159) (k := 124) (st := [.int a1, .ref 111]) (w := w) rfl rfl hI.1.o111 rfl rfl rfl) rfl rfl (c2) rfl ?_
    refine sx_RP.step (pc2 := 15) (ls2 := [(0, .ref 111), (1, .int a1), (2, .int a2)]) (st2 := []) (w3 := w) rfl rfl ?_
    refine sx_RP.step (pc2 := 16) (ls2 := [(0, .ref 111), (1, .int a1), (2, .int a2)]) (st2 := [.ref 111]) (w3 := w) rfl rfl ?_
    refine sx_RP.step (pc2 := 17) (ls2 := [(0, .ref 111), (1, .int a1), (2, .int a2)]) (st2 := [.int 0, .ref 111]) (w3 := w) rfl rfl ?_
    refine sx_RP.callp (as2 := [.ref 111, .int 0]) (rest2 := []) rfl rfl (sx_inv_v2 (mi := 159) (k := 70) (st := [.int 0, .ref 111]) (w := w) rfl rfl hI.1.o111 rfl rfl rfl) rfl rfl rfl (s133_0 hI) (show _ = 20 from rfl) ?_
    rintro r4 w6 ⟨rfl, hI7, hE9⟩
    have hE8 := hE.tr (hE9)
    show sx_RP _ _ _ _ _ [.int (-1000000001)] _ _
    refine sx_RP.ret (r := (some (.int (-1000000001)))) rfl rfl ?_
    exact ⟨⟨_, rfl⟩, hI7, hE8⟩
  · refine sx_RP.cu (as := [.ref 111, .int (nI x3)]) (rest2 := []) (st3 := [.int 1]) rfl rfl (sx_inv_v2 (mi := 159) (k := 124) (st := [.int (nI x3), .ref 111]) (w := w) rfl rfl hI.1.o111 rfl rfl rfl) rfl rfl (c2) rfl ?_
    refine sx_RP.step (pc2 := 8) (ls2 := [(0, .ref 111), (1, .int (nI x3)), (2, .int a2)]) (st2 := []) (w3 := w) rfl rfl ?_
    refine sx_RP.step (pc2 := 9) (ls2 := [(0, .ref 111), (1, .int (nI x3)), (2, .int a2)]) (st2 := [.int a2]) (w3 := w) rfl rfl ?_
    rcases in_cases a2 0 5 (m := 0) (n := 5) rfl rfl (by decide) (by decide) with q10 | ⟨x11, hx12, hx13, rfl⟩
    · refine sx_RP.cu (as := [.int a2]) (rest2 := []) (st3 := [.int 0]) rfl rfl rfl rfl rfl (cx_151n q10) rfl ?_
      refine sx_RP.step (pc2 := 15) (ls2 := [(0, .ref 111), (1, .int (nI x3)), (2, .int a2)]) (st2 := []) (w3 := w) rfl rfl ?_
      refine sx_RP.step (pc2 := 16) (ls2 := [(0, .ref 111), (1, .int (nI x3)), (2, .int a2)]) (st2 := [.ref 111]) (w3 := w) rfl rfl ?_
      refine sx_RP.step (pc2 := 17) (ls2 := [(0, .ref 111), (1, .int (nI x3)), (2, .int a2)]) (st2 := [.int 0, .ref 111]) (w3 := w) rfl rfl ?_
      refine sx_RP.callp (as2 := [.ref 111, .int 0]) (rest2 := []) rfl rfl (sx_inv_v2 (mi := 159) (k := 70) (st := [.int 0, .ref 111]) (w := w) rfl rfl hI.1.o111 rfl rfl rfl) rfl rfl rfl (s133_0 hI) (show _ = 20 from rfl) ?_
      rintro r4 w15 ⟨rfl, hI16, hE18⟩
      have hE17 := hE.tr (hE18)
      show sx_RP _ _ _ _ _ [.int (-1000000001)] _ _
      refine sx_RP.ret (r := (some (.int (-1000000001)))) rfl rfl ?_
      exact ⟨⟨_, rfl⟩, hI16, hE17⟩
    · refine sx_RP.cu (as := [.int (nI x11)]) (rest2 := []) (st3 := [.int 1]) rfl rfl rfl rfl rfl (cx_151p ⟨nI_le (a := 0) hx12 (by omega), nI_le (b := 5) hx13 (by decide)⟩) rfl ?_
      refine sx_RP.step (pc2 := 21) (ls2 := [(0, .ref 111), (1, .int (nI x3)), (2, .int (nI x11))]) (st2 := []) (w3 := w) rfl rfl ?_
      refine sx_RP.step (pc2 := 22) (ls2 := [(0, .ref 111), (1, .int (nI x3)), (2, .int (nI x11))]) (st2 := [.ref 111]) (w3 := w) rfl rfl ?_
      refine sx_RP.step (pc2 := 23) (ls2 := [(0, .ref 111), (1, .int (nI x3)), (2, .int (nI x11))]) (st2 := [.int (nI x3), .ref 111]) (w3 := w) rfl rfl ?_
      refine sx_RP.step (pc2 := 24) (ls2 := [(0, .ref 111), (1, .int (nI x3)), (2, .int (nI x11))]) (st2 := [.int 0, .int (nI x3), .ref 111]) (w3 := w) rfl rfl ?_
      obtain ⟨x19, hx20, c21⟩ := p138_0 hI (show x3 < 10 by omega)
      refine sx_RP.cu (as := [.ref 111, .int (nI x3), .int 0]) (rest2 := []) (st3 := [.int (nI x19)]) rfl rfl (sx_inv_v2 (mi := 159) (k := 59) (st := [.int 0, .int (nI x3), .ref 111]) (w := w) rfl rfl hI.1.o111 rfl rfl rfl) rfl rfl (c21) rfl ?_
      refine sx_RP.step (pc2 := 28) (ls2 := [(0, .ref 111), (1, .int (nI x3)), (2, .int (nI x11))]) (st2 := [.int (nI x11), .int (nI x19)]) (w3 := w) rfl rfl ?_
      obtain ⟨x22, hx23, c24⟩ := p160 hI (nI x19) (nI x11)
      refine sx_RP.cu (as := [.int (nI x19), .int (nI x11)]) (rest2 := []) (st3 := [.int (nI x22)]) rfl rfl rfl rfl rfl (c24) rfl ?_
      refine sx_RP.br (p1 := 43) (l1 := [(0, .ref 111), (1, .int (nI x3)), (2, .int (nI x11))]) (s1 := []) (v1 := w) (p2 := 34) (l2 := [(0, .ref 111), (1, .int (nI x3)), (2, .int (nI x11))]) (s2 := []) (v2 := w) rfl rfl (fun q25 => ?_) (fun q25 => ?_)
      · replace q25 := of_decide_eq_true q25
        replace q25 := (nI_eq (a := x22) (b := 0) (by omega) (by omega)).mp q25
        refine sx_RP.step (pc2 := 44) (ls2 := [(0, .ref 111), (1, .int (nI x3)), (2, .int (nI x11))]) (st2 := [.ref 111]) (w3 := w) rfl rfl ?_
        refine sx_RP.step (pc2 := 45) (ls2 := [(0, .ref 111), (1, .int (nI x3)), (2, .int (nI x11))]) (st2 := [.int 2, .ref 111]) (w3 := w) rfl rfl ?_
        refine sx_RP.callp (as2 := [.ref 111, .int 2]) (rest2 := []) rfl rfl (sx_inv_v2 (mi := 159) (k := 70) (st := [.int 2, .ref 111]) (w := w) rfl rfl hI.1.o111 rfl rfl rfl) rfl rfl rfl (s133_2 hI) (show _ = 48 from rfl) ?_
        rintro r4 w26 ⟨rfl, hI27, hE29⟩
        have hE28 := hE.tr (hE29)
        show sx_RP _ _ _ _ _ [.int (-1000000003)] _ _
        refine sx_RP.ret (r := (some (.int (-1000000003)))) rfl rfl ?_
        exact ⟨⟨_, rfl⟩, hI27, hE28⟩
      · replace q25 := of_decide_eq_false q25
        replace q25 := mt (nI_eq (a := x22) (b := 0) (by omega) (by omega)).mpr q25
        refine sx_RP.step (pc2 := 35) (ls2 := [(0, .ref 111), (1, .int (nI x3)), (2, .int (nI x11))]) (st2 := [.ref 111]) (w3 := w) rfl rfl ?_
        refine sx_RP.step (pc2 := 36) (ls2 := [(0, .ref 111), (1, .int (nI x3)), (2, .int (nI x11))]) (st2 := [.int (nI x3), .ref 111]) (w3 := w) rfl rfl ?_
        refine sx_RP.step (pc2 := 37) (ls2 := [(0, .ref 111), (1, .int (nI x3)), (2, .int (nI x11))]) (st2 := [.int 2, .int (nI x3), .ref 111]) (w3 := w) rfl rfl ?_
        obtain ⟨x30, hx31, c32⟩ := p138_2 hI (show x3 < 10 by omega)
        refine sx_RP.cu (as := [.ref 111, .int (nI x3), .int 2]) (rest2 := []) (st3 := [.int (nI x30)]) rfl rfl (sx_inv_v2 (mi := 159) (k := 59) (st := [.int 2, .int (nI x3), .ref 111]) (w := w) rfl rfl hI.1.o111 rfl rfl rfl) rfl rfl (c32) rfl ?_
        refine sx_RP.step (pc2 := 48) (ls2 := [(0, .ref 111), (1, .int (nI x3)), (2, .int (nI x11))]) (st2 := [.int (nI x30)]) (w3 := w) rfl rfl ?_
        refine sx_RP.ret (r := (some (.int (nI x30)))) rfl rfl ?_
        exact ⟨⟨_, rfl⟩, hI, hE⟩
set_option maxRecDepth 20000 in
set_option maxHeartbeats 4000000 in
theorem s161 {xs : Option (List Int32)} {d : Nat} {w : List sx_C} (hI : WI w) (a1 a2 a3 : Int32) : sx_RP xs (d + 7) 161 0 (lv_args 0 [.ref 111, .int a1, .int a2, .int a3]) [] w (fun r w2 => (∃ v : Int32, r = some (.int v)) ∧ WI w2 ∧ EM w w2) := by
  have hE : EM w w := EM.rf
  refine sx_RP.step (pc2 := 1) (ls2 := [(0, .ref 111), (1, .int a1), (2, .int a2), (3, .int a3)]) (st2 := [.ref 111]) (w3 := w) rfl rfl ?_
  refine sx_RP.step (pc2 := 2) (ls2 := [(0, .ref 111), (1, .int a1), (2, .int a2), (3, .int a3)]) (st2 := [.int a1, .ref 111]) (w3 := w) rfl rfl ?_
  rcases p156 (xs := xs) hI a1 with c2 | ⟨⟨x3, hx4, rfl⟩, c2⟩
  · refine sx_RP.cu (as := [.ref 111, .int a1]) (rest2 := []) (st3 := [.int 0]) rfl rfl (sx_inv_v2 (mi := 161) (k := 124) (st := [.int a1, .ref 111]) (w := w) rfl rfl hI.1.o111 rfl rfl rfl) rfl rfl (c2) rfl ?_
    refine sx_RP.step (pc2 := 24) (ls2 := [(0, .ref 111), (1, .int a1), (2, .int a2), (3, .int a3)]) (st2 := []) (w3 := w) rfl rfl ?_
    refine sx_RP.step (pc2 := 25) (ls2 := [(0, .ref 111), (1, .int a1), (2, .int a2), (3, .int a3)]) (st2 := [.ref 111]) (w3 := w) rfl rfl ?_
    refine sx_RP.step (pc2 := 26) (ls2 := [(0, .ref 111), (1, .int a1), (2, .int a2), (3, .int a3)]) (st2 := [.int 0, .ref 111]) (w3 := w) rfl rfl ?_
    refine sx_RP.callp (as2 := [.ref 111, .int 0]) (rest2 := []) rfl rfl (sx_inv_v2 (mi := 161) (k := 70) (st := [.int 0, .ref 111]) (w := w) rfl rfl hI.1.o111 rfl rfl rfl) rfl rfl rfl (s133_0 hI) (show _ = 29 from rfl) ?_
    rintro r4 w6 ⟨rfl, hI7, hE9⟩
    have hE8 := hE.tr (hE9)
    show sx_RP _ _ _ _ _ [.int (-1000000001)] _ _
    refine sx_RP.ret (r := (some (.int (-1000000001)))) rfl rfl ?_
    exact ⟨⟨_, rfl⟩, hI7, hE8⟩
  · refine sx_RP.cu (as := [.ref 111, .int (nI x3)]) (rest2 := []) (st3 := [.int 1]) rfl rfl (sx_inv_v2 (mi := 161) (k := 124) (st := [.int (nI x3), .ref 111]) (w := w) rfl rfl hI.1.o111 rfl rfl rfl) rfl rfl (c2) rfl ?_
    refine sx_RP.step (pc2 := 8) (ls2 := [(0, .ref 111), (1, .int (nI x3)), (2, .int a2), (3, .int a3)]) (st2 := []) (w3 := w) rfl rfl ?_
    refine sx_RP.step (pc2 := 9) (ls2 := [(0, .ref 111), (1, .int (nI x3)), (2, .int a2), (3, .int a3)]) (st2 := [.int a2]) (w3 := w) rfl rfl ?_
    rcases in_cases a2 0 47 (m := 0) (n := 47) rfl rfl (by decide) (by decide) with q10 | ⟨x11, hx12, hx13, rfl⟩
    · refine sx_RP.cu (as := [.int a2]) (rest2 := []) (st3 := [.int 0]) rfl rfl rfl rfl rfl (cx_131n q10) rfl ?_
      refine sx_RP.step (pc2 := 24) (ls2 := [(0, .ref 111), (1, .int (nI x3)), (2, .int a2), (3, .int a3)]) (st2 := []) (w3 := w) rfl rfl ?_
      refine sx_RP.step (pc2 := 25) (ls2 := [(0, .ref 111), (1, .int (nI x3)), (2, .int a2), (3, .int a3)]) (st2 := [.ref 111]) (w3 := w) rfl rfl ?_
      refine sx_RP.step (pc2 := 26) (ls2 := [(0, .ref 111), (1, .int (nI x3)), (2, .int a2), (3, .int a3)]) (st2 := [.int 0, .ref 111]) (w3 := w) rfl rfl ?_
      refine sx_RP.callp (as2 := [.ref 111, .int 0]) (rest2 := []) rfl rfl (sx_inv_v2 (mi := 161) (k := 70) (st := [.int 0, .ref 111]) (w := w) rfl rfl hI.1.o111 rfl rfl rfl) rfl rfl rfl (s133_0 hI) (show _ = 29 from rfl) ?_
      rintro r4 w15 ⟨rfl, hI16, hE18⟩
      have hE17 := hE.tr (hE18)
      show sx_RP _ _ _ _ _ [.int (-1000000001)] _ _
      refine sx_RP.ret (r := (some (.int (-1000000001)))) rfl rfl ?_
      exact ⟨⟨_, rfl⟩, hI16, hE17⟩
    · refine sx_RP.cu (as := [.int (nI x11)]) (rest2 := []) (st3 := [.int 1]) rfl rfl rfl rfl rfl (cx_131p ⟨nI_le (a := 0) hx12 (by omega), nI_le (b := 47) hx13 (by decide)⟩) rfl ?_
      refine sx_RP.step (pc2 := 15) (ls2 := [(0, .ref 111), (1, .int (nI x3)), (2, .int (nI x11)), (3, .int a3)]) (st2 := []) (w3 := w) rfl rfl ?_
      refine sx_RP.step (pc2 := 16) (ls2 := [(0, .ref 111), (1, .int (nI x3)), (2, .int (nI x11)), (3, .int a3)]) (st2 := [.int a3]) (w3 := w) rfl rfl ?_
      refine sx_RP.step (pc2 := 17) (ls2 := [(0, .ref 111), (1, .int (nI x3)), (2, .int (nI x11)), (3, .int a3)]) (st2 := [.int 0, .int a3]) (w3 := w) rfl rfl ?_
      refine sx_RP.step (pc2 := 18) (ls2 := [(0, .ref 111), (1, .int (nI x3)), (2, .int (nI x11)), (3, .int a3)]) (st2 := [.int 2, .int 0, .int a3]) (w3 := w) rfl rfl ?_
      rcases in_cases a3 0 2 (m := 0) (n := 2) rfl rfl (by decide) (by decide) with q19 | ⟨x20, hx21, hx22, rfl⟩
      · refine sx_RP.cu (as := [.int a3, .int 0, .int 2]) (rest2 := []) (st3 := [.int 0]) rfl rfl rfl rfl rfl (cx_132o q19) rfl ?_
        refine sx_RP.step (pc2 := 24) (ls2 := [(0, .ref 111), (1, .int (nI x3)), (2, .int (nI x11)), (3, .int a3)]) (st2 := []) (w3 := w) rfl rfl ?_
        refine sx_RP.step (pc2 := 25) (ls2 := [(0, .ref 111), (1, .int (nI x3)), (2, .int (nI x11)), (3, .int a3)]) (st2 := [.ref 111]) (w3 := w) rfl rfl ?_
        refine sx_RP.step (pc2 := 26) (ls2 := [(0, .ref 111), (1, .int (nI x3)), (2, .int (nI x11)), (3, .int a3)]) (st2 := [.int 0, .ref 111]) (w3 := w) rfl rfl ?_
        refine sx_RP.callp (as2 := [.ref 111, .int 0]) (rest2 := []) rfl rfl (sx_inv_v2 (mi := 161) (k := 70) (st := [.int 0, .ref 111]) (w := w) rfl rfl hI.1.o111 rfl rfl rfl) rfl rfl rfl (s133_0 hI) (show _ = 29 from rfl) ?_
        rintro r4 w24 ⟨rfl, hI25, hE27⟩
        have hE26 := hE.tr (hE27)
        show sx_RP _ _ _ _ _ [.int (-1000000001)] _ _
        refine sx_RP.ret (r := (some (.int (-1000000001)))) rfl rfl ?_
        exact ⟨⟨_, rfl⟩, hI25, hE26⟩
      · refine sx_RP.cu (as := [.int (nI x20), .int 0, .int 2]) (rest2 := []) (st3 := [.int 1]) rfl rfl rfl rfl rfl (cx_132p ⟨nI_le (a := 0) hx21 (by omega), nI_le (b := 2) hx22 (by decide)⟩) rfl ?_
        refine sx_RP.step (pc2 := 30) (ls2 := [(0, .ref 111), (1, .int (nI x3)), (2, .int (nI x11)), (3, .int (nI x20))]) (st2 := []) (w3 := w) rfl rfl ?_
        refine sx_RP.step (pc2 := 31) (ls2 := [(0, .ref 111), (1, .int (nI x3)), (2, .int (nI x11)), (3, .int (nI x20))]) (st2 := [.int (nI x20)]) (w3 := w) rfl rfl ?_
        refine sx_RP.step (pc2 := 32) (ls2 := [(0, .ref 111), (1, .int (nI x3)), (2, .int (nI x11)), (3, .int (nI x20))]) (st2 := [.int 1, .int (nI x20)]) (w3 := w) rfl rfl ?_
        refine sx_RP.br (p1 := 47) (l1 := [(0, .ref 111), (1, .int (nI x3)), (2, .int (nI x11)), (3, .int (nI x20))]) (s1 := []) (v1 := w) (p2 := 35) (l2 := [(0, .ref 111), (1, .int (nI x3)), (2, .int (nI x11)), (3, .int (nI x20))]) (s2 := []) (v2 := w) rfl rfl (fun q28 => ?_) (fun q28 => ?_)
        · replace q28 := of_decide_eq_true q28
          replace q28 := mt (nI_eq (a := x20) (b := 1) (by omega) (by omega)).mpr q28
          refine sx_RP.step (pc2 := 48) (ls2 := [(0, .ref 111), (1, .int (nI x3)), (2, .int (nI x11)), (3, .int (nI x20))]) (st2 := [.int (nI x20)]) (w3 := w) rfl rfl ?_
          refine sx_RP.step (pc2 := 49) (ls2 := [(0, .ref 111), (1, .int (nI x3)), (2, .int (nI x11)), (3, .int (nI x20))]) (st2 := [.int 2, .int (nI x20)]) (w3 := w) rfl rfl ?_
          refine sx_RP.br (p1 := 69) (l1 := [(0, .ref 111), (1, .int (nI x3)), (2, .int (nI x11)), (3, .int (nI x20))]) (s1 := []) (v1 := w) (p2 := 52) (l2 := [(0, .ref 111), (1, .int (nI x3)), (2, .int (nI x11)), (3, .int (nI x20))]) (s2 := []) (v2 := w) rfl rfl (fun q29 => ?_) (fun q29 => ?_)
          · replace q29 := of_decide_eq_true q29
            replace q29 := mt (nI_eq (a := x20) (b := 2) (by omega) (by omega)).mpr q29
            refine sx_RP.step (pc2 := 70) (ls2 := [(0, .ref 111), (1, .int (nI x3)), (2, .int (nI x11)), (3, .int (nI x20))]) (st2 := [.ref 111]) (w3 := w) rfl rfl ?_
            refine sx_RP.step (pc2 := 71) (ls2 := [(0, .ref 111), (1, .int (nI x3)), (2, .int (nI x11)), (3, .int (nI x20))]) (st2 := [.int (nI x3), .ref 111]) (w3 := w) rfl rfl ?_
            refine sx_RP.step (pc2 := 72) (ls2 := [(0, .ref 111), (1, .int (nI x3)), (2, .int (nI x11)), (3, .int (nI x20))]) (st2 := [.int (nI x11), .int (nI x3), .ref 111]) (w3 := w) rfl rfl ?_
            obtain ⟨v30, c31⟩ := p147 hI (show x3 < 10 by omega) (show x11 < 48 by omega)
            refine sx_RP.cu (as := [.ref 111, .int (nI x3), .int (nI x11)]) (rest2 := []) (st3 := [.int v30]) rfl rfl (sx_inv_v2 (mi := 161) (k := 87) (st := [.int (nI x11), .int (nI x3), .ref 111]) (w := w) rfl rfl hI.1.o111 rfl rfl rfl) rfl rfl (c31) rfl ?_
            refine sx_RP.step (pc2 := 77) (ls2 := [(4, .int v30), (0, .ref 111), (1, .int (nI x3)), (2, .int (nI x11)), (3, .int (nI x20))]) (st2 := []) (w3 := w) rfl rfl ?_
            refine sx_RP.step (pc2 := 79) (ls2 := [(4, .int v30), (0, .ref 111), (1, .int (nI x3)), (2, .int (nI x11)), (3, .int (nI x20))]) (st2 := [.int v30]) (w3 := w) rfl rfl ?_
            refine sx_RP.br (p1 := 90) (l1 := [(4, .int v30), (0, .ref 111), (1, .int (nI x3)), (2, .int (nI x11)), (3, .int (nI x20))]) (s1 := []) (v1 := w) (p2 := 82) (l2 := [(4, .int v30), (0, .ref 111), (1, .int (nI x3)), (2, .int (nI x11)), (3, .int (nI x20))]) (s2 := []) (v2 := w) rfl rfl (fun q32 => ?_) (fun q32 => ?_)
            · replace q32 := of_decide_eq_true q32
              refine sx_RP.step (pc2 := 92) (ls2 := [(4, .int v30), (0, .ref 111), (1, .int (nI x3)), (2, .int (nI x11)), (3, .int (nI x20))]) (st2 := [.int v30]) (w3 := w) rfl rfl ?_
              refine sx_RP.ret (r := (some (.int v30))) rfl rfl ?_
              exact ⟨⟨_, rfl⟩, hI, hE⟩
            · replace q32 := of_decide_eq_false q32
              refine sx_RP.step (pc2 := 83) (ls2 := [(4, .int v30), (0, .ref 111), (1, .int (nI x3)), (2, .int (nI x11)), (3, .int (nI x20))]) (st2 := [.ref 111]) (w3 := w) rfl rfl ?_
              refine sx_RP.step (pc2 := 84) (ls2 := [(4, .int v30), (0, .ref 111), (1, .int (nI x3)), (2, .int (nI x11)), (3, .int (nI x20))]) (st2 := [.int 3, .ref 111]) (w3 := w) rfl rfl ?_
              refine sx_RP.callp (as2 := [.ref 111, .int 3]) (rest2 := []) rfl rfl (sx_inv_v2 (mi := 161) (k := 70) (st := [.int 3, .ref 111]) (w := w) rfl rfl hI.1.o111 rfl rfl rfl) rfl rfl rfl (s133_3 hI) (show _ = 87 from rfl) ?_
              rintro r4 w33 ⟨rfl, hI34, hE36⟩
              have hE35 := hE.tr (hE36)
              show sx_RP _ _ _ _ _ [.int (-1000000004)] _ _
              refine sx_RP.step (pc2 := 92) (ls2 := [(4, .int v30), (0, .ref 111), (1, .int (nI x3)), (2, .int (nI x11)), (3, .int (nI x20))]) (st2 := [.int (-1000000004)]) (w3 := w33) rfl rfl ?_
              refine sx_RP.ret (r := (some (.int (-1000000004)))) rfl rfl ?_
              exact ⟨⟨_, rfl⟩, hI34, hE35⟩
          · replace q29 := Decidable.not_not.mp (of_decide_eq_false q29)
            replace q29 := (nI_eq (a := x20) (b := 2) (by omega) (by omega)).mp q29
            refine sx_RP.step (pc2 := 53) (ls2 := [(0, .ref 111), (1, .int (nI x3)), (2, .int (nI x11)), (3, .int (nI x20))]) (st2 := [.ref 111]) (w3 := w) rfl rfl ?_
            refine sx_RP.step (pc2 := 54) (ls2 := [(0, .ref 111), (1, .int (nI x3)), (2, .int (nI x11)), (3, .int (nI x20))]) (st2 := [.int (nI x3), .ref 111]) (w3 := w) rfl rfl ?_
            refine sx_RP.step (pc2 := 55) (ls2 := [(0, .ref 111), (1, .int (nI x3)), (2, .int (nI x11)), (3, .int (nI x20))]) (st2 := [.int (nI x11), .int (nI x3), .ref 111]) (w3 := w) rfl rfl ?_
            obtain ⟨x37, hx38, c39⟩ := p144 hI (show x3 < 10 by omega) (show x11 < 48 by omega)
            refine sx_RP.cu (as := [.ref 111, .int (nI x3), .int (nI x11)]) (rest2 := []) (st3 := [.int (nI x37)]) rfl rfl (sx_inv_v2 (mi := 161) (k := 107) (st := [.int (nI x11), .int (nI x3), .ref 111]) (w := w) rfl rfl hI.1.o111 rfl rfl rfl) rfl rfl (c39) rfl ?_
            refine sx_RP.br (p1 := 65) (l1 := [(0, .ref 111), (1, .int (nI x3)), (2, .int (nI x11)), (3, .int (nI x20))]) (s1 := []) (v1 := w) (p2 := 61) (l2 := [(0, .ref 111), (1, .int (nI x3)), (2, .int (nI x11)), (3, .int (nI x20))]) (s2 := []) (v2 := w) rfl rfl (fun q40 => ?_) (fun q40 => ?_)
            · replace q40 := of_decide_eq_true q40
              replace q40 := (nI_eq (a := x37) (b := 0) (by omega) (by omega)).mp q40
              refine sx_RP.step (pc2 := 66) (ls2 := [(0, .ref 111), (1, .int (nI x3)), (2, .int (nI x11)), (3, .int (nI x20))]) (st2 := [.int 0]) (w3 := w) rfl rfl ?_
              refine sx_RP.step (pc2 := 75) (ls2 := [(0, .ref 111), (1, .int (nI x3)), (2, .int (nI x11)), (3, .int (nI x20))]) (st2 := [.int 0]) (w3 := w) rfl rfl ?_
              refine sx_RP.step (pc2 := 77) (ls2 := [(4, .int 0), (0, .ref 111), (1, .int (nI x3)), (2, .int (nI x11)), (3, .int (nI x20))]) (st2 := []) (w3 := w) rfl rfl ?_
              refine sx_RP.step (pc2 := 79) (ls2 := [(4, .int 0), (0, .ref 111), (1, .int (nI x3)), (2, .int (nI x11)), (3, .int (nI x20))]) (st2 := [.int 0]) (w3 := w) rfl rfl ?_
              refine sx_RP.step (pc2 := 90) (ls2 := [(4, .int 0), (0, .ref 111), (1, .int (nI x3)), (2, .int (nI x11)), (3, .int (nI x20))]) (st2 := []) (w3 := w) rfl rfl ?_
              refine sx_RP.step (pc2 := 92) (ls2 := [(4, .int 0), (0, .ref 111), (1, .int (nI x3)), (2, .int (nI x11)), (3, .int (nI x20))]) (st2 := [.int 0]) (w3 := w) rfl rfl ?_
              refine sx_RP.ret (r := (some (.int 0))) rfl rfl ?_
              exact ⟨⟨_, rfl⟩, hI, hE⟩
            · replace q40 := of_decide_eq_false q40
              replace q40 := mt (nI_eq (a := x37) (b := 0) (by omega) (by omega)).mpr q40
              refine sx_RP.step (pc2 := 62) (ls2 := [(0, .ref 111), (1, .int (nI x3)), (2, .int (nI x11)), (3, .int (nI x20))]) (st2 := [.int 1]) (w3 := w) rfl rfl ?_
              refine sx_RP.step (pc2 := 75) (ls2 := [(0, .ref 111), (1, .int (nI x3)), (2, .int (nI x11)), (3, .int (nI x20))]) (st2 := [.int 1]) (w3 := w) rfl rfl ?_
              refine sx_RP.step (pc2 := 77) (ls2 := [(4, .int 1), (0, .ref 111), (1, .int (nI x3)), (2, .int (nI x11)), (3, .int (nI x20))]) (st2 := []) (w3 := w) rfl rfl ?_
              refine sx_RP.step (pc2 := 79) (ls2 := [(4, .int 1), (0, .ref 111), (1, .int (nI x3)), (2, .int (nI x11)), (3, .int (nI x20))]) (st2 := [.int 1]) (w3 := w) rfl rfl ?_
              refine sx_RP.step (pc2 := 90) (ls2 := [(4, .int 1), (0, .ref 111), (1, .int (nI x3)), (2, .int (nI x11)), (3, .int (nI x20))]) (st2 := []) (w3 := w) rfl rfl ?_
              refine sx_RP.step (pc2 := 92) (ls2 := [(4, .int 1), (0, .ref 111), (1, .int (nI x3)), (2, .int (nI x11)), (3, .int (nI x20))]) (st2 := [.int 1]) (w3 := w) rfl rfl ?_
              refine sx_RP.ret (r := (some (.int 1))) rfl rfl ?_
              exact ⟨⟨_, rfl⟩, hI, hE⟩
        · replace q28 := Decidable.not_not.mp (of_decide_eq_false q28)
          replace q28 := (nI_eq (a := x20) (b := 1) (by omega) (by omega)).mp q28
          refine sx_RP.step (pc2 := 36) (ls2 := [(0, .ref 111), (1, .int (nI x3)), (2, .int (nI x11)), (3, .int (nI x20))]) (st2 := [.ref 111]) (w3 := w) rfl rfl ?_
          refine sx_RP.step (pc2 := 37) (ls2 := [(0, .ref 111), (1, .int (nI x3)), (2, .int (nI x11)), (3, .int (nI x20))]) (st2 := [.ref 111, .ref 111]) (w3 := w) rfl rfl ?_
          refine sx_RP.step (pc2 := 38) (ls2 := [(0, .ref 111), (1, .int (nI x3)), (2, .int (nI x11)), (3, .int (nI x20))]) (st2 := [.int (nI x3), .ref 111, .ref 111]) (w3 := w) rfl rfl ?_
          refine sx_RP.step (pc2 := 39) (ls2 := [(0, .ref 111), (1, .int (nI x3)), (2, .int (nI x11)), (3, .int (nI x20))]) (st2 := [.int 0, .int (nI x3), .ref 111, .ref 111]) (w3 := w) rfl rfl ?_
          obtain ⟨x41, hx42, c43⟩ := p138_0 hI (show x3 < 10 by omega)
          refine sx_RP.cu (as := [.ref 111, .int (nI x3), .int 0]) (rest2 := [.ref 111]) (st3 := [.int (nI x41), .ref 111]) rfl rfl (sx_inv_v2 (mi := 161) (k := 59) (st := [.int 0, .int (nI x3), .ref 111, .ref 111]) (w := w) rfl rfl hI.1.o111 rfl rfl rfl) rfl rfl (c43) rfl ?_
          refine sx_RP.step (pc2 := 43) (ls2 := [(0, .ref 111), (1, .int (nI x3)), (2, .int (nI x11)), (3, .int (nI x20))]) (st2 := [.int (nI x11), .int (nI x41), .ref 111]) (w3 := w) rfl rfl ?_
          obtain ⟨v44, c45⟩ := p162 hI (nI x41) (show x11 < 48 by omega)
          refine sx_RP.cu (as := [.ref 111, .int (nI x41), .int (nI x11)]) (rest2 := []) (st3 := [.int v44]) rfl rfl (sx_inv_v2 (mi := 161) (k := 130) (st := [.int (nI x11), .int (nI x41), .ref 111]) (w := w) rfl rfl hI.1.o111 rfl rfl rfl) rfl rfl (c45) rfl ?_
          refine sx_RP.ret (r := (some (.int v44))) rfl rfl ?_
          exact ⟨⟨_, rfl⟩, hI, hE⟩
set_option maxRecDepth 20000 in
set_option maxHeartbeats 4000000 in
theorem s164 {xs : Option (List Int32)} {d : Nat} {w : List sx_C} (hI : WI w) (a1 : Int32) : sx_RP xs (d + 7) 164 0 (lv_args 0 [.ref 111, .int a1]) [] w (fun r w2 => (∃ v : Int32, r = some (.int v)) ∧ WI w2 ∧ EM w w2) := by
  have hE : EM w w := EM.rf
  refine sx_RP.step (pc2 := 1) (ls2 := [(0, .ref 111), (1, .int a1)]) (st2 := [.int a1]) (w3 := w) rfl rfl ?_
  refine sx_RP.step (pc2 := 2) (ls2 := [(0, .ref 111), (1, .int a1)]) (st2 := [.int 1, .int a1]) (w3 := w) rfl rfl ?_
  refine sx_RP.step (pc2 := 4) (ls2 := [(0, .ref 111), (1, .int a1)]) (st2 := [.int 60, .int 1, .int a1]) (w3 := w) rfl rfl ?_
  rcases in_cases a1 1 60 (m := 1) (n := 60) rfl rfl (by decide) (by decide) with q1 | ⟨x2, hx3, hx4, rfl⟩
  · refine sx_RP.cu (as := [.int a1, .int 1, .int 60]) (rest2 := []) (st3 := [.int 0]) rfl rfl rfl rfl rfl (cx_132o q1) rfl ?_
    refine sx_RP.step (pc2 := 10) (ls2 := [(0, .ref 111), (1, .int a1)]) (st2 := []) (w3 := w) rfl rfl ?_
    refine sx_RP.step (pc2 := 11) (ls2 := [(0, .ref 111), (1, .int a1)]) (st2 := [.ref 111]) (w3 := w) rfl rfl ?_
    refine sx_RP.step (pc2 := 12) (ls2 := [(0, .ref 111), (1, .int a1)]) (st2 := [.int 0, .ref 111]) (w3 := w) rfl rfl ?_
    refine sx_RP.callp (as2 := [.ref 111, .int 0]) (rest2 := []) rfl rfl (sx_inv_v2 (mi := 164) (k := 70) (st := [.int 0, .ref 111]) (w := w) rfl rfl hI.1.o111 rfl rfl rfl) rfl rfl rfl (s133_0 hI) (show _ = 15 from rfl) ?_
    rintro r4 w6 ⟨rfl, hI7, hE9⟩
    have hE8 := hE.tr (hE9)
    show sx_RP _ _ _ _ _ [.int (-1000000001)] _ _
    refine sx_RP.ret (r := (some (.int (-1000000001)))) rfl rfl ?_
    exact ⟨⟨_, rfl⟩, hI7, hE8⟩
  · refine sx_RP.cu (as := [.int (nI x2), .int 1, .int 60]) (rest2 := []) (st3 := [.int 1]) rfl rfl rfl rfl rfl (cx_132p ⟨nI_le (a := 1) hx3 (by omega), nI_le (b := 60) hx4 (by decide)⟩) rfl ?_
    refine sx_RP.step (pc2 := 16) (ls2 := [(0, .ref 111), (1, .int (nI x2))]) (st2 := []) (w3 := w) rfl rfl ?_
    refine sx_RP.step (pc2 := 17) (ls2 := [(0, .ref 111), (1, .int (nI x2))]) (st2 := [.ref 111]) (w3 := w) rfl rfl ?_
    refine sx_RP.step (pc2 := 18) (ls2 := [(0, .ref 111), (1, .int (nI x2))]) (st2 := [.int (nI x2), .ref 111]) (w3 := w) rfl rfl ?_
    obtain ⟨x10, hx11, c12⟩ := p165 hI (nI x2)
    refine sx_RP.cu (as := [.ref 111, .int (nI x2)]) (rest2 := []) (st3 := [.int (nI x10)]) rfl rfl (sx_inv_v2 (mi := 164) (k := 149) (st := [.int (nI x2), .ref 111]) (w := w) rfl rfl hI.1.o111 rfl rfl rfl) rfl rfl (c12) rfl ?_
    refine sx_RP.br (p1 := 30) (l1 := [(0, .ref 111), (1, .int (nI x2))]) (s1 := []) (v1 := w) (p2 := 24) (l2 := [(0, .ref 111), (1, .int (nI x2))]) (s2 := []) (v2 := w) rfl rfl (fun q13 => ?_) (fun q13 => ?_)
    · replace q13 := of_decide_eq_true q13
      replace q13 := (nI_eq (a := x10) (b := 0) (by omega) (by omega)).mp q13
      refine sx_RP.step (pc2 := 31) (ls2 := [(0, .ref 111), (1, .int (nI x2))]) (st2 := [.ref 111]) (w3 := w) rfl rfl ?_
      obtain ⟨v14, c15⟩ := p166 hI 
      refine sx_RP.cu (as := [.ref 111]) (rest2 := []) (st3 := [.int v14]) rfl rfl (sx_inv_v2 (mi := 164) (k := 152) (st := [.ref 111]) (w := w) rfl rfl hI.1.o111 rfl rfl rfl) rfl rfl (c15) rfl ?_
      refine sx_RP.step (pc2 := 35) (ls2 := [(2, .int v14), (0, .ref 111), (1, .int (nI x2))]) (st2 := []) (w3 := w) rfl rfl ?_
      refine sx_RP.step (pc2 := 36) (ls2 := [(2, .int v14), (0, .ref 111), (1, .int (nI x2))]) (st2 := [.ref 111]) (w3 := w) rfl rfl ?_
      refine sx_RP.step (pc2 := 37) (ls2 := [(2, .int v14), (0, .ref 111), (1, .int (nI x2))]) (st2 := [.int (nI x2), .ref 111]) (w3 := w) rfl rfl ?_
      refine sx_RP.callp (as2 := [.ref 111, .int (nI x2)]) (rest2 := []) rfl rfl (sx_inv_v2 (mi := 164) (k := 155) (st := [.int (nI x2), .ref 111]) (w := w) rfl rfl hI.1.o111 rfl rfl rfl) rfl rfl rfl (s168 hI (show x2 ≤ 99 by omega)) (show _ = 40 from rfl) ?_
      rintro r4 w16 ⟨rfl, hI17, hE19⟩
      have hE18 := hE.tr (hE19)
      show sx_RP _ _ _ _ _ [] _ _
      refine sx_RP.step (pc2 := 41) (ls2 := [(2, .int v14), (0, .ref 111), (1, .int (nI x2))]) (st2 := [.int v14]) (w3 := w16) rfl rfl ?_
      refine sx_RP.step (pc2 := 42) (ls2 := [(2, .int v14), (0, .ref 111), (1, .int (nI x2))]) (st2 := [.ref 111, .int v14]) (w3 := w16) rfl rfl ?_
      obtain ⟨v20, c21⟩ := p166 hI17 
      refine sx_RP.cu (as := [.ref 111]) (rest2 := [.int v14]) (st3 := [.int v20, .int v14]) rfl rfl (sx_inv_v2 (mi := 164) (k := 152) (st := [.ref 111, .int v14]) (w := w16) rfl rfl hI17.1.o111 rfl rfl rfl) rfl rfl (c21) rfl ?_
      refine sx_RP.step (pc2 := 46) (ls2 := [(2, .int v14), (0, .ref 111), (1, .int (nI x2))]) (st2 := [.int (v14 - v20)]) (w3 := w16) rfl rfl ?_
      refine sx_RP.ret (r := (some (.int (v14 - v20)))) rfl rfl ?_
      exact ⟨⟨_, rfl⟩, hI17, hE18⟩
    · replace q13 := of_decide_eq_false q13
      replace q13 := mt (nI_eq (a := x10) (b := 0) (by omega) (by omega)).mpr q13
      refine sx_RP.step (pc2 := 25) (ls2 := [(0, .ref 111), (1, .int (nI x2))]) (st2 := [.ref 111]) (w3 := w) rfl rfl ?_
      refine sx_RP.step (pc2 := 26) (ls2 := [(0, .ref 111), (1, .int (nI x2))]) (st2 := [.int 4, .ref 111]) (w3 := w) rfl rfl ?_
      refine sx_RP.callp (as2 := [.ref 111, .int 4]) (rest2 := []) rfl rfl (sx_inv_v2 (mi := 164) (k := 70) (st := [.int 4, .ref 111]) (w := w) rfl rfl hI.1.o111 rfl rfl rfl) rfl rfl rfl (s133_4 hI) (show _ = 29 from rfl) ?_
      rintro r4 w22 ⟨rfl, hI23, hE25⟩
      have hE24 := hE.tr (hE25)
      show sx_RP _ _ _ _ _ [.int (-1000000005)] _ _
      refine sx_RP.ret (r := (some (.int (-1000000005)))) rfl rfl ?_
      exact ⟨⟨_, rfl⟩, hI23, hE24⟩
set_option maxRecDepth 20000 in
set_option maxHeartbeats 4000000 in
theorem s173 {xs : Option (List Int32)} {d : Nat} {w : List sx_C} (hI : WI w) (a1 : Int32) : sx_RP xs (d + 7) 173 0 (lv_args 0 [.ref 111, .int a1]) [] w (fun r w2 => (∃ v : Int32, r = some (.int v)) ∧ WI w2 ∧ EM w w2) := by
  have hE : EM w w := EM.rf
  refine sx_RP.step (pc2 := 1) (ls2 := [(0, .ref 111), (1, .int a1)]) (st2 := [.int a1]) (w3 := w) rfl rfl ?_
  rcases sw_cases (n := 3) (a1) with q1 | ⟨x2, hx3, ex4⟩
  · refine sx_RP.swo (t := 58) rfl q1 rfl ?_
    refine sx_RP.step (pc2 := 59) (ls2 := [(0, .ref 111), (1, .int a1)]) (st2 := [.ref 111]) (w3 := w) rfl rfl ?_
    refine sx_RP.step (pc2 := 60) (ls2 := [(0, .ref 111), (1, .int a1)]) (st2 := [.int 0, .ref 111]) (w3 := w) rfl rfl ?_
    refine sx_RP.callp (as2 := [.ref 111, .int 0]) (rest2 := []) rfl rfl (sx_inv_v2 (mi := 173) (k := 70) (st := [.int 0, .ref 111]) (w := w) rfl rfl hI.1.o111 rfl rfl rfl) rfl rfl rfl (s133_0 hI) (show _ = 63 from rfl) ?_
    rintro r4 w5 ⟨rfl, hI6, hE8⟩
    have hE7 := hE.tr (hE8)
    show sx_RP _ _ _ _ _ [.int (-1000000001)] _ _
    refine sx_RP.ret (r := (some (.int (-1000000001)))) rfl rfl ?_
    exact ⟨⟨_, rfl⟩, hI6, hE7⟩
  · rw [ex4]
    rcases (show x2 = 0 ∨ x2 = 1 ∨ x2 = 2 ∨ x2 = 3 by omega) with rfl | rfl | rfl | rfl
    · refine sx_RP.step (pc2 := 32) (ls2 := [(0, .ref 111), (1, .int (nI 0))]) (st2 := []) (w3 := w) rfl rfl ?_
      refine sx_RP.step (pc2 := 33) (ls2 := [(0, .ref 111), (1, .int (nI 0))]) (st2 := [.ref 111]) (w3 := w) rfl rfl ?_
      refine sx_RP.gf (v := .ref 112) rfl rfl hI.1.o111 rfl rfl (show _ = 36 from rfl) ?_
      refine sx_RP.step (pc2 := 37) (ls2 := [(0, .ref 111), (1, .int (nI 0))]) (st2 := [.int 0, .ref 112]) (w3 := w) rfl rfl ?_
      refine sx_RP.ild (c := 0) rfl hI.1.a112.1 hI.1.a112.2 (sx_in_nI (show 0 < 172 by omega) (by decide)) (show (nI 0).toNatClampNeg = 0 from nI_clamp (by omega)) (show _ = 38 from rfl) ?_
      refine sx_RP.ret (r := (some (.int ((ia w 112).getD 0 0)))) rfl rfl ?_
      exact ⟨⟨_, rfl⟩, hI, hE⟩
    · refine sx_RP.step (pc2 := 39) (ls2 := [(0, .ref 111), (1, .int (nI 1))]) (st2 := []) (w3 := w) rfl rfl ?_
      refine sx_RP.step (pc2 := 40) (ls2 := [(0, .ref 111), (1, .int (nI 1))]) (st2 := [.ref 111]) (w3 := w) rfl rfl ?_
      refine sx_RP.step (pc2 := 41) (ls2 := [(0, .ref 111), (1, .int (nI 1))]) (st2 := [.int 0, .ref 111]) (w3 := w) rfl rfl ?_
      obtain ⟨v9, c10⟩ := p167 hI 0
      refine sx_RP.cu (as := [.ref 111, .int 0]) (rest2 := []) (st3 := [.int v9]) rfl rfl (sx_inv_v2 (mi := 173) (k := 146) (st := [.int 0, .ref 111]) (w := w) rfl rfl hI.1.o111 rfl rfl rfl) rfl rfl (c10) rfl ?_
      refine sx_RP.ret (r := (some (.int v9))) rfl rfl ?_
      exact ⟨⟨_, rfl⟩, hI, hE⟩
    · refine sx_RP.step (pc2 := 45) (ls2 := [(0, .ref 111), (1, .int (nI 2))]) (st2 := []) (w3 := w) rfl rfl ?_
      refine sx_RP.step (pc2 := 46) (ls2 := [(0, .ref 111), (1, .int (nI 2))]) (st2 := [.ref 111]) (w3 := w) rfl rfl ?_
      refine sx_RP.step (pc2 := 47) (ls2 := [(0, .ref 111), (1, .int (nI 2))]) (st2 := [.int 1, .ref 111]) (w3 := w) rfl rfl ?_
      obtain ⟨v11, c12⟩ := p167 hI 1
      refine sx_RP.cu (as := [.ref 111, .int 1]) (rest2 := []) (st3 := [.int v11]) rfl rfl (sx_inv_v2 (mi := 173) (k := 146) (st := [.int 1, .ref 111]) (w := w) rfl rfl hI.1.o111 rfl rfl rfl) rfl rfl (c12) rfl ?_
      refine sx_RP.ret (r := (some (.int v11))) rfl rfl ?_
      exact ⟨⟨_, rfl⟩, hI, hE⟩
    · refine sx_RP.step (pc2 := 51) (ls2 := [(0, .ref 111), (1, .int (nI 3))]) (st2 := []) (w3 := w) rfl rfl ?_
      refine sx_RP.step (pc2 := 52) (ls2 := [(0, .ref 111), (1, .int (nI 3))]) (st2 := [.ref 111]) (w3 := w) rfl rfl ?_
      refine sx_RP.gf (v := .ref 112) rfl rfl hI.1.o111 rfl rfl (show _ = 55 from rfl) ?_
      refine sx_RP.step (pc2 := 56) (ls2 := [(0, .ref 111), (1, .int (nI 3))]) (st2 := [.int 3, .ref 112]) (w3 := w) rfl rfl ?_
      refine sx_RP.ild (c := 3) rfl hI.1.a112.1 hI.1.a112.2 (sx_in_nI (show 3 < 172 by omega) (by decide)) (show (nI 3).toNatClampNeg = 3 from nI_clamp (by omega)) (show _ = 57 from rfl) ?_
      refine sx_RP.ret (r := (some (.int ((ia w 112).getD 3 0)))) rfl rfl ?_
      exact ⟨⟨_, rfl⟩, hI, hE⟩
set_option maxRecDepth 20000 in
set_option maxHeartbeats 4000000 in
theorem s174 {xs : Option (List Int32)} {d : Nat} {w : List sx_C} (hI : WI w) (a1 a2 : Int32) : sx_RP xs (d + 7) 174 0 (lv_args 0 [.ref 111, .int a1, .int a2]) [] w (fun r w2 => (∃ v : Int32, r = some (.int v)) ∧ WI w2 ∧ EM w w2) := by
  have hE : EM w w := EM.rf
  refine sx_RP.step (pc2 := 1) (ls2 := [(0, .ref 111), (1, .int a1), (2, .int a2)]) (st2 := [.ref 111]) (w3 := w) rfl rfl ?_
  refine sx_RP.step (pc2 := 2) (ls2 := [(0, .ref 111), (1, .int a1), (2, .int a2)]) (st2 := [.int a1, .ref 111]) (w3 := w) rfl rfl ?_
  rcases p156 (xs := xs) hI a1 with c2 | ⟨⟨x3, hx4, rfl⟩, c2⟩
  · refine sx_RP.cu (as := [.ref 111, .int a1]) (rest2 := []) (st3 := [.int 0]) rfl rfl (sx_inv_v2 (mi := 174) (k := 124) (st := [.int a1, .ref 111]) (w := w) rfl rfl hI.1.o111 rfl rfl rfl) rfl rfl (c2) rfl ?_
    refine sx_RP.step (pc2 := 18) (ls2 := [(0, .ref 111), (1, .int a1), (2, .int a2)]) (st2 := []) (w3 := w) rfl rfl ?_
    refine sx_RP.step (pc2 := 19) (ls2 := [(0, .ref 111), (1, .int a1), (2, .int a2)]) (st2 := [.ref 111]) (w3 := w) rfl rfl ?_
    refine sx_RP.step (pc2 := 20) (ls2 := [(0, .ref 111), (1, .int a1), (2, .int a2)]) (st2 := [.int 0, .ref 111]) (w3 := w) rfl rfl ?_
    refine sx_RP.callp (as2 := [.ref 111, .int 0]) (rest2 := []) rfl rfl (sx_inv_v2 (mi := 174) (k := 70) (st := [.int 0, .ref 111]) (w := w) rfl rfl hI.1.o111 rfl rfl rfl) rfl rfl rfl (s133_0 hI) (show _ = 23 from rfl) ?_
    rintro r4 w6 ⟨rfl, hI7, hE9⟩
    have hE8 := hE.tr (hE9)
    show sx_RP _ _ _ _ _ [.int (-1000000001)] _ _
    refine sx_RP.ret (r := (some (.int (-1000000001)))) rfl rfl ?_
    exact ⟨⟨_, rfl⟩, hI7, hE8⟩
  · refine sx_RP.cu (as := [.ref 111, .int (nI x3)]) (rest2 := []) (st3 := [.int 1]) rfl rfl (sx_inv_v2 (mi := 174) (k := 124) (st := [.int (nI x3), .ref 111]) (w := w) rfl rfl hI.1.o111 rfl rfl rfl) rfl rfl (c2) rfl ?_
    refine sx_RP.step (pc2 := 8) (ls2 := [(0, .ref 111), (1, .int (nI x3)), (2, .int a2)]) (st2 := []) (w3 := w) rfl rfl ?_
    refine sx_RP.step (pc2 := 9) (ls2 := [(0, .ref 111), (1, .int (nI x3)), (2, .int a2)]) (st2 := [.int a2]) (w3 := w) rfl rfl ?_
    refine sx_RP.step (pc2 := 10) (ls2 := [(0, .ref 111), (1, .int (nI x3)), (2, .int a2)]) (st2 := [.int 0, .int a2]) (w3 := w) rfl rfl ?_
    refine sx_RP.step (pc2 := 12) (ls2 := [(0, .ref 111), (1, .int (nI x3)), (2, .int a2)]) (st2 := [.int 99, .int 0, .int a2]) (w3 := w) rfl rfl ?_
    rcases in_cases a2 0 99 (m := 0) (n := 99) rfl rfl (by decide) (by decide) with q10 | ⟨x11, hx12, hx13, rfl⟩
    · refine sx_RP.cu (as := [.int a2, .int 0, .int 99]) (rest2 := []) (st3 := [.int 0]) rfl rfl rfl rfl rfl (cx_132o q10) rfl ?_
      refine sx_RP.step (pc2 := 18) (ls2 := [(0, .ref 111), (1, .int (nI x3)), (2, .int a2)]) (st2 := []) (w3 := w) rfl rfl ?_
      refine sx_RP.step (pc2 := 19) (ls2 := [(0, .ref 111), (1, .int (nI x3)), (2, .int a2)]) (st2 := [.ref 111]) (w3 := w) rfl rfl ?_
      refine sx_RP.step (pc2 := 20) (ls2 := [(0, .ref 111), (1, .int (nI x3)), (2, .int a2)]) (st2 := [.int 0, .ref 111]) (w3 := w) rfl rfl ?_
      refine sx_RP.callp (as2 := [.ref 111, .int 0]) (rest2 := []) rfl rfl (sx_inv_v2 (mi := 174) (k := 70) (st := [.int 0, .ref 111]) (w := w) rfl rfl hI.1.o111 rfl rfl rfl) rfl rfl rfl (s133_0 hI) (show _ = 23 from rfl) ?_
      rintro r4 w15 ⟨rfl, hI16, hE18⟩
      have hE17 := hE.tr (hE18)
      show sx_RP _ _ _ _ _ [.int (-1000000001)] _ _
      refine sx_RP.ret (r := (some (.int (-1000000001)))) rfl rfl ?_
      exact ⟨⟨_, rfl⟩, hI16, hE17⟩
    · refine sx_RP.cu (as := [.int (nI x11), .int 0, .int 99]) (rest2 := []) (st3 := [.int 1]) rfl rfl rfl rfl rfl (cx_132p ⟨nI_le (a := 0) hx12 (by omega), nI_le (b := 99) hx13 (by decide)⟩) rfl ?_
      refine sx_RP.step (pc2 := 24) (ls2 := [(0, .ref 111), (1, .int (nI x3)), (2, .int (nI x11))]) (st2 := []) (w3 := w) rfl rfl ?_
      refine sx_RP.step (pc2 := 25) (ls2 := [(0, .ref 111), (1, .int (nI x3)), (2, .int (nI x11))]) (st2 := [.ref 111]) (w3 := w) rfl rfl ?_
      refine sx_RP.step (pc2 := 26) (ls2 := [(0, .ref 111), (1, .int (nI x3)), (2, .int (nI x11))]) (st2 := [.int (nI x11), .ref 111]) (w3 := w) rfl rfl ?_
      obtain ⟨x19, hx20, c21⟩ := p165 hI (nI x11)
      refine sx_RP.cu (as := [.ref 111, .int (nI x11)]) (rest2 := []) (st3 := [.int (nI x19)]) rfl rfl (sx_inv_v2 (mi := 174) (k := 149) (st := [.int (nI x11), .ref 111]) (w := w) rfl rfl hI.1.o111 rfl rfl rfl) rfl rfl (c21) rfl ?_
      refine sx_RP.br (p1 := 38) (l1 := [(0, .ref 111), (1, .int (nI x3)), (2, .int (nI x11))]) (s1 := []) (v1 := w) (p2 := 32) (l2 := [(0, .ref 111), (1, .int (nI x3)), (2, .int (nI x11))]) (s2 := []) (v2 := w) rfl rfl (fun q22 => ?_) (fun q22 => ?_)
      · replace q22 := of_decide_eq_true q22
        replace q22 := (nI_eq (a := x19) (b := 0) (by omega) (by omega)).mp q22
        refine sx_RP.step (pc2 := 39) (ls2 := [(0, .ref 111), (1, .int (nI x3)), (2, .int (nI x11))]) (st2 := [.ref 111]) (w3 := w) rfl rfl ?_
        refine sx_RP.gf (v := .ref 112) rfl rfl hI.1.o111 rfl rfl (show _ = 42 from rfl) ?_
        refine sx_RP.step (pc2 := 43) (ls2 := [(0, .ref 111), (1, .int (nI x3)), (2, .int (nI x11))]) (st2 := [.ref 111, .ref 112]) (w3 := w) rfl rfl ?_
        refine sx_RP.gf (v := .ref 114) rfl rfl hI.1.o111 rfl rfl (show _ = 46 from rfl) ?_
        refine sx_RP.callp (as2 := [.ref 112, .ref 114]) (rest2 := []) rfl rfl rfl rfl rfl rfl (s175 hI (a := 112) (b := 114) (by decide) (by decide)) (show _ = 49 from rfl) ?_
        rintro r4 w23 ⟨rfl, hI24, hE26⟩
        have hE25 := hE.tr (hE26)
        show sx_RP _ _ _ _ _ [] _ _
        refine sx_RP.step (pc2 := 50) (ls2 := [(0, .ref 111), (1, .int (nI x3)), (2, .int (nI x11))]) (st2 := [.ref 111]) (w3 := w23) rfl rfl ?_
        refine sx_RP.step (pc2 := 51) (ls2 := [(0, .ref 111), (1, .int (nI x3)), (2, .int (nI x11))]) (st2 := [.int (nI x11), .ref 111]) (w3 := w23) rfl rfl ?_
        refine sx_RP.callp (as2 := [.ref 111, .int (nI x11)]) (rest2 := []) rfl rfl (sx_inv_v2 (mi := 174) (k := 155) (st := [.int (nI x11), .ref 111]) (w := w23) rfl rfl hI24.1.o111 rfl rfl rfl) rfl rfl rfl (s168 hI24 (show x11 ≤ 99 by omega)) (show _ = 54 from rfl) ?_
        rintro r4 w27 ⟨rfl, hI28, hE30⟩
        have hE29 := hE25.tr (hE30)
        show sx_RP _ _ _ _ _ [] _ _
        refine sx_RP.step (pc2 := 55) (ls2 := [(0, .ref 111), (1, .int (nI x3)), (2, .int (nI x11))]) (st2 := [.ref 111]) (w3 := w27) rfl rfl ?_
        refine sx_RP.step (pc2 := 56) (ls2 := [(0, .ref 111), (1, .int (nI x3)), (2, .int (nI x11))]) (st2 := [.int (nI x3), .ref 111]) (w3 := w27) rfl rfl ?_
        refine sx_RP.step (pc2 := 57) (ls2 := [(0, .ref 111), (1, .int (nI x3)), (2, .int (nI x11))]) (st2 := [.int 2, .int (nI x3), .ref 111]) (w3 := w27) rfl rfl ?_
        obtain ⟨x31, hx32, c33⟩ := p138_2 hI28 (show x3 < 10 by omega)
        refine sx_RP.cu (as := [.ref 111, .int (nI x3), .int 2]) (rest2 := []) (st3 := [.int (nI x31)]) rfl rfl (sx_inv_v2 (mi := 174) (k := 59) (st := [.int 2, .int (nI x3), .ref 111]) (w := w27) rfl rfl hI28.1.o111 rfl rfl rfl) rfl rfl (c33) rfl ?_
        refine sx_RP.step (pc2 := 61) (ls2 := [(3, .int (nI x31)), (0, .ref 111), (1, .int (nI x3)), (2, .int (nI x11))]) (st2 := []) (w3 := w27) rfl rfl ?_
        refine sx_RP.step (pc2 := 62) (ls2 := [(3, .int (nI x31)), (0, .ref 111), (1, .int (nI x3)), (2, .int (nI x11))]) (st2 := [.ref 111]) (w3 := w27) rfl rfl ?_
        refine sx_RP.gf (v := .ref 114) rfl rfl hI28.1.o111 rfl rfl (show _ = 65 from rfl) ?_
        refine sx_RP.step (pc2 := 66) (ls2 := [(3, .int (nI x31)), (0, .ref 111), (1, .int (nI x3)), (2, .int (nI x11))]) (st2 := [.ref 111, .ref 114]) (w3 := w27) rfl rfl ?_
        refine sx_RP.gf (v := .ref 112) rfl rfl hI28.1.o111 rfl rfl (show _ = 69 from rfl) ?_
        refine sx_RP.callp (as2 := [.ref 114, .ref 112]) (rest2 := []) rfl rfl rfl rfl rfl rfl (s175 hI28 (a := 114) (b := 112) (by decide) (by decide)) (show _ = 72 from rfl) ?_
        rintro r4 w34 ⟨rfl, hI35, hE37⟩
        have hE36 := hE29.tr (hE37)
        show sx_RP _ _ _ _ _ [] _ _
        refine sx_RP.step (pc2 := 73) (ls2 := [(3, .int (nI x31)), (0, .ref 111), (1, .int (nI x3)), (2, .int (nI x11))]) (st2 := [.int (nI x31)]) (w3 := w34) rfl rfl ?_
        refine sx_RP.ret (r := (some (.int (nI x31)))) rfl rfl ?_
        exact ⟨⟨_, rfl⟩, hI35, hE36⟩
      · replace q22 := of_decide_eq_false q22
        replace q22 := mt (nI_eq (a := x19) (b := 0) (by omega) (by omega)).mpr q22
        refine sx_RP.step (pc2 := 33) (ls2 := [(0, .ref 111), (1, .int (nI x3)), (2, .int (nI x11))]) (st2 := [.ref 111]) (w3 := w) rfl rfl ?_
        refine sx_RP.step (pc2 := 34) (ls2 := [(0, .ref 111), (1, .int (nI x3)), (2, .int (nI x11))]) (st2 := [.int 4, .ref 111]) (w3 := w) rfl rfl ?_
        refine sx_RP.callp (as2 := [.ref 111, .int 4]) (rest2 := []) rfl rfl (sx_inv_v2 (mi := 174) (k := 70) (st := [.int 4, .ref 111]) (w := w) rfl rfl hI.1.o111 rfl rfl rfl) rfl rfl rfl (s133_4 hI) (show _ = 37 from rfl) ?_
        rintro r4 w38 ⟨rfl, hI39, hE41⟩
        have hE40 := hE.tr (hE41)
        show sx_RP _ _ _ _ _ [.int (-1000000005)] _ _
        refine sx_RP.ret (r := (some (.int (-1000000005)))) rfl rfl ?_
        exact ⟨⟨_, rfl⟩, hI39, hE40⟩
set_option maxRecDepth 20000 in
set_option maxHeartbeats 4000000 in
theorem s184 {xs : Option (List Int32)} {d : Nat} {w : List sx_C} (hI : WI w) (a1 : Int32) : sx_RP xs (d + 7) 184 0 (lv_args 0 [.ref 111, .int a1]) [] w (fun r w2 => (∃ v : Int32, r = some (.int v)) ∧ WI w2 ∧ EM w w2) := by
  have hE : EM w w := EM.rf
  refine sx_RP.step (pc2 := 1) (ls2 := [(0, .ref 111), (1, .int a1)]) (st2 := [.int a1]) (w3 := w) rfl rfl ?_
  rcases in_cases a1 0 47 (m := 0) (n := 47) rfl rfl (by decide) (by decide) with q1 | ⟨x2, hx3, hx4, rfl⟩
  · refine sx_RP.cu (as := [.int a1]) (rest2 := []) (st3 := [.int 0]) rfl rfl rfl rfl rfl (cx_131n q1) rfl ?_
    refine sx_RP.step (pc2 := 7) (ls2 := [(0, .ref 111), (1, .int a1)]) (st2 := []) (w3 := w) rfl rfl ?_
    refine sx_RP.step (pc2 := 8) (ls2 := [(0, .ref 111), (1, .int a1)]) (st2 := [.ref 111]) (w3 := w) rfl rfl ?_
    refine sx_RP.step (pc2 := 9) (ls2 := [(0, .ref 111), (1, .int a1)]) (st2 := [.int 0, .ref 111]) (w3 := w) rfl rfl ?_
    refine sx_RP.callp (as2 := [.ref 111, .int 0]) (rest2 := []) rfl rfl (sx_inv_v2 (mi := 184) (k := 70) (st := [.int 0, .ref 111]) (w := w) rfl rfl hI.1.o111 rfl rfl rfl) rfl rfl rfl (s133_0 hI) (show _ = 12 from rfl) ?_
    rintro r4 w6 ⟨rfl, hI7, hE9⟩
    have hE8 := hE.tr (hE9)
    show sx_RP _ _ _ _ _ [.int (-1000000001)] _ _
    refine sx_RP.ret (r := (some (.int (-1000000001)))) rfl rfl ?_
    exact ⟨⟨_, rfl⟩, hI7, hE8⟩
  · refine sx_RP.cu (as := [.int (nI x2)]) (rest2 := []) (st3 := [.int 1]) rfl rfl rfl rfl rfl (cx_131p ⟨nI_le (a := 0) hx3 (by omega), nI_le (b := 47) hx4 (by decide)⟩) rfl ?_
    refine sx_RP.step (pc2 := 13) (ls2 := [(0, .ref 111), (1, .int (nI x2))]) (st2 := []) (w3 := w) rfl rfl ?_
    refine sx_RP.step (pc2 := 14) (ls2 := [(0, .ref 111), (1, .int (nI x2))]) (st2 := [.ref 111]) (w3 := w) rfl rfl ?_
    refine sx_RP.gf (v := .ref 112) rfl rfl hI.1.o111 rfl rfl (show _ = 17 from rfl) ?_
    refine sx_RP.step (pc2 := 18) (ls2 := [(0, .ref 111), (1, .int (nI x2))]) (st2 := [.int 2, .ref 112]) (w3 := w) rfl rfl ?_
    refine sx_RP.ild (c := 2) rfl hI.1.a112.1 hI.1.a112.2 (sx_in_nI (show 2 < 172 by omega) (by decide)) (show (nI 2).toNatClampNeg = 2 from nI_clamp (by omega)) (show _ = 19 from rfl) ?_
    obtain ⟨x10, hx11, ex12⟩ : inR ((ia w 112).getD 2 0) 9 := (hI.s (2) (by omega)).2.1 rfl
    rw [ex12]
    refine sx_RP.step (pc2 := 21) (ls2 := [(0, .ref 111), (1, .int (nI x2))]) (st2 := [.int 9, .int (nI x10)]) (w3 := w) rfl rfl ?_
    refine sx_RP.br (p1 := 30) (l1 := [(0, .ref 111), (1, .int (nI x2))]) (s1 := []) (v1 := w) (p2 := 24) (l2 := [(0, .ref 111), (1, .int (nI x2))]) (s2 := []) (v2 := w) rfl rfl (fun q13 => ?_) (fun q13 => ?_)
    · replace q13 := of_decide_eq_true q13
      replace q13 := mt (nI_eq (a := x10) (b := 9) (by omega) (by omega)).mpr q13
      refine sx_RP.step (pc2 := 31) (ls2 := [(0, .ref 111), (1, .int (nI x2))]) (st2 := [.ref 111]) (w3 := w) rfl rfl ?_
      refine sx_RP.gf (v := .ref 112) rfl rfl hI.1.o111 rfl rfl (show _ = 34 from rfl) ?_
      refine sx_RP.step (pc2 := 37) (ls2 := [(0, .ref 111), (1, .int (nI x2))]) (st2 := [.int 163, .ref 112]) (w3 := w) rfl rfl ?_
      refine sx_RP.step (pc2 := 38) (ls2 := [(0, .ref 111), (1, .int (nI x2))]) (st2 := [.ref 111, .int 163, .ref 112]) (w3 := w) rfl rfl ?_
      refine sx_RP.gf (v := .ref 112) rfl rfl hI.1.o111 rfl rfl (show _ = 41 from rfl) ?_
      refine sx_RP.step (pc2 := 42) (ls2 := [(0, .ref 111), (1, .int (nI x2))]) (st2 := [.int 2, .ref 112, .int 163, .ref 112]) (w3 := w) rfl rfl ?_
      refine sx_RP.ild (c := 2) rfl hI.1.a112.1 hI.1.a112.2 (sx_in_nI (show 2 < 172 by omega) (by decide)) (show (nI 2).toNatClampNeg = 2 from nI_clamp (by omega)) (show _ = 43 from rfl) ?_
      rw [ex12]
      refine sx_RP.step (pc2 := 44) (ls2 := [(0, .ref 111), (1, .int (nI x2))]) (st2 := [.int (163 + (nI x10)), .ref 112]) (w3 := w) rfl rfl ?_
      rw [show (163 + (nI x10) : Int32) = nI (163 + x10) from nI_add 163 x10]
      refine sx_RP.step (pc2 := 45) (ls2 := [(0, .ref 111), (1, .int (nI x2))]) (st2 := [.int (nI x2), .int (nI (163 + x10)), .ref 112]) (w3 := w) rfl rfl ?_
      refine sx_RP.mS (k := (163 + x10)) hI hE (by decide) rfl rfl (by omega) (eOK_d (by omega) (inR.n (show x2 ≤ 47 by omega))) (show _ = 46 from rfl) (fun w14 hI15 hE16 hk17 => ?_)
      have ex18 := (hk17 2 (by omega) (by omega)).trans ex12
      refine sx_RP.step (pc2 := 47) (ls2 := [(0, .ref 111), (1, .int (nI x2))]) (st2 := [.ref 111]) (w3 := w14) rfl rfl ?_
      refine sx_RP.gf (v := .ref 112) rfl rfl hI15.1.o111 rfl rfl (show _ = 50 from rfl) ?_
      refine sx_RP.step (pc2 := 51) (ls2 := [(0, .ref 111), (1, .int (nI x2))]) (st2 := [.int 2, .ref 112]) (w3 := w14) rfl rfl ?_
      refine sx_RP.step (pc2 := 52) (ls2 := [(0, .ref 111), (1, .int (nI x2))]) (st2 := [.int 2, .ref 112, .int 2, .ref 112]) (w3 := w14) rfl rfl ?_
      refine sx_RP.ild (c := 2) rfl hI15.1.a112.1 hI15.1.a112.2 (sx_in_nI (show 2 < 172 by omega) (by decide)) (show (nI 2).toNatClampNeg = 2 from nI_clamp (by omega)) (show _ = 53 from rfl) ?_
      rw [ex18]
      refine sx_RP.step (pc2 := 54) (ls2 := [(0, .ref 111), (1, .int (nI x2))]) (st2 := [.int 1, .int (nI x10), .int 2, .ref 112]) (w3 := w14) rfl rfl ?_
      refine sx_RP.step (pc2 := 55) (ls2 := [(0, .ref 111), (1, .int (nI x2))]) (st2 := [.int ((nI x10) + 1), .int 2, .ref 112]) (w3 := w14) rfl rfl ?_
      rw [show ((nI x10) + 1 : Int32) = nI (x10 + 1) from nI_add x10 1]
      refine sx_RP.mS (k := 2) hI15 hE16 (by decide) rfl rfl (by omega) (eOK_2 (inR.n (show (x10 + 1) ≤ 9 by omega))) (show _ = 56 from rfl) (fun w19 hI20 hE21 hk22 => ?_)
      refine sx_RP.step (pc2 := 57) (ls2 := [(0, .ref 111), (1, .int (nI x2))]) (st2 := [.ref 111]) (w3 := w19) rfl rfl ?_
      refine sx_RP.gf (v := .ref 112) rfl rfl hI20.1.o111 rfl rfl (show _ = 60 from rfl) ?_
      refine sx_RP.step (pc2 := 61) (ls2 := [(0, .ref 111), (1, .int (nI x2))]) (st2 := [.int 2, .ref 112]) (w3 := w19) rfl rfl ?_
      refine sx_RP.ild (c := 2) rfl hI20.1.a112.1 hI20.1.a112.2 (sx_in_nI (show 2 < 172 by omega) (by decide)) (show (nI 2).toNatClampNeg = 2 from nI_clamp (by omega)) (show _ = 62 from rfl) ?_
      obtain ⟨x23, hx24, ex25⟩ : inR ((ia w19 112).getD 2 0) 9 := (hI20.s (2) (by omega)).2.1 rfl
      rw [ex25]
      refine sx_RP.step (pc2 := 63) (ls2 := [(0, .ref 111), (1, .int (nI x2))]) (st2 := [.int 1, .int (nI x23)]) (w3 := w19) rfl rfl ?_
      refine sx_RP.step (pc2 := 64) (ls2 := [(0, .ref 111), (1, .int (nI x2))]) (st2 := [.int ((nI x23) - 1)]) (w3 := w19) rfl rfl ?_
      refine sx_RP.ret (r := (some (.int ((nI x23) - 1)))) rfl rfl ?_
      exact ⟨⟨_, rfl⟩, hI20, hE21⟩
    · replace q13 := Decidable.not_not.mp (of_decide_eq_false q13)
      replace q13 := (nI_eq (a := x10) (b := 9) (by omega) (by omega)).mp q13
      refine sx_RP.step (pc2 := 25) (ls2 := [(0, .ref 111), (1, .int (nI x2))]) (st2 := [.ref 111]) (w3 := w) rfl rfl ?_
      refine sx_RP.step (pc2 := 26) (ls2 := [(0, .ref 111), (1, .int (nI x2))]) (st2 := [.int 1, .ref 111]) (w3 := w) rfl rfl ?_
      refine sx_RP.callp (as2 := [.ref 111, .int 1]) (rest2 := []) rfl rfl (sx_inv_v2 (mi := 184) (k := 70) (st := [.int 1, .ref 111]) (w := w) rfl rfl hI.1.o111 rfl rfl rfl) rfl rfl rfl (s133_1 hI) (show _ = 29 from rfl) ?_
      rintro r4 w26 ⟨rfl, hI27, hE29⟩
      have hE28 := hE.tr (hE29)
      show sx_RP _ _ _ _ _ [.int (-1000000002)] _ _
      refine sx_RP.ret (r := (some (.int (-1000000002)))) rfl rfl ?_
      exact ⟨⟨_, rfl⟩, hI27, hE28⟩
set_option maxRecDepth 20000 in
set_option maxHeartbeats 4000000 in
theorem s185 {xs : Option (List Int32)} {d : Nat} {w : List sx_C} (hI : WI w) (a1 a2 : Int32) : sx_RP xs (d + 7) 185 0 (lv_args 0 [.ref 111, .int a1, .int a2]) [] w (fun r w2 => (∃ v : Int32, r = some (.int v)) ∧ WI w2 ∧ EM w w2) := by
  have hE : EM w w := EM.rf
  refine sx_RP.step (pc2 := 1) (ls2 := [(0, .ref 111), (1, .int a1), (2, .int a2)]) (st2 := [.ref 111]) (w3 := w) rfl rfl ?_
  refine sx_RP.step (pc2 := 2) (ls2 := [(0, .ref 111), (1, .int a1), (2, .int a2)]) (st2 := [.int a1, .ref 111]) (w3 := w) rfl rfl ?_
  rcases p186 (xs := xs) hI a1 with c2 | ⟨⟨x3, hx4, rfl⟩, c2⟩
  · refine sx_RP.cu (as := [.ref 111, .int a1]) (rest2 := []) (st3 := [.int 0]) rfl rfl (sx_inv_v2 (mi := 185) (k := 171) (st := [.int a1, .ref 111]) (w := w) rfl rfl hI.1.o111 rfl rfl rfl) rfl rfl (c2) rfl ?_
    refine sx_RP.step (pc2 := 15) (ls2 := [(0, .ref 111), (1, .int a1), (2, .int a2)]) (st2 := []) (w3 := w) rfl rfl ?_
    refine sx_RP.step (pc2 := 16) (ls2 := [(0, .ref 111), (1, .int a1), (2, .int a2)]) (st2 := [.ref 111]) (w3 := w) rfl rfl ?_
    refine sx_RP.step (pc2 := 17) (ls2 := [(0, .ref 111), (1, .int a1), (2, .int a2)]) (st2 := [.int 0, .ref 111]) (w3 := w) rfl rfl ?_
    refine sx_RP.callp (as2 := [.ref 111, .int 0]) (rest2 := []) rfl rfl (sx_inv_v2 (mi := 185) (k := 70) (st := [.int 0, .ref 111]) (w := w) rfl rfl hI.1.o111 rfl rfl rfl) rfl rfl rfl (s133_0 hI) (show _ = 20 from rfl) ?_
    rintro r4 w6 ⟨rfl, hI7, hE9⟩
    have hE8 := hE.tr (hE9)
    show sx_RP _ _ _ _ _ [.int (-1000000001)] _ _
    refine sx_RP.ret (r := (some (.int (-1000000001)))) rfl rfl ?_
    exact ⟨⟨_, rfl⟩, hI7, hE8⟩
  · refine sx_RP.cu (as := [.ref 111, .int (nI x3)]) (rest2 := []) (st3 := [.int 1]) rfl rfl (sx_inv_v2 (mi := 185) (k := 171) (st := [.int (nI x3), .ref 111]) (w := w) rfl rfl hI.1.o111 rfl rfl rfl) rfl rfl (c2) rfl ?_
    refine sx_RP.step (pc2 := 8) (ls2 := [(0, .ref 111), (1, .int (nI x3)), (2, .int a2)]) (st2 := []) (w3 := w) rfl rfl ?_
    refine sx_RP.step (pc2 := 9) (ls2 := [(0, .ref 111), (1, .int (nI x3)), (2, .int a2)]) (st2 := [.int a2]) (w3 := w) rfl rfl ?_
    rcases in_cases a2 0 47 (m := 0) (n := 47) rfl rfl (by decide) (by decide) with q10 | ⟨x11, hx12, hx13, rfl⟩
    · refine sx_RP.cu (as := [.int a2]) (rest2 := []) (st3 := [.int 0]) rfl rfl rfl rfl rfl (cx_131n q10) rfl ?_
      refine sx_RP.step (pc2 := 15) (ls2 := [(0, .ref 111), (1, .int (nI x3)), (2, .int a2)]) (st2 := []) (w3 := w) rfl rfl ?_
      refine sx_RP.step (pc2 := 16) (ls2 := [(0, .ref 111), (1, .int (nI x3)), (2, .int a2)]) (st2 := [.ref 111]) (w3 := w) rfl rfl ?_
      refine sx_RP.step (pc2 := 17) (ls2 := [(0, .ref 111), (1, .int (nI x3)), (2, .int a2)]) (st2 := [.int 0, .ref 111]) (w3 := w) rfl rfl ?_
      refine sx_RP.callp (as2 := [.ref 111, .int 0]) (rest2 := []) rfl rfl (sx_inv_v2 (mi := 185) (k := 70) (st := [.int 0, .ref 111]) (w := w) rfl rfl hI.1.o111 rfl rfl rfl) rfl rfl rfl (s133_0 hI) (show _ = 20 from rfl) ?_
      rintro r4 w15 ⟨rfl, hI16, hE18⟩
      have hE17 := hE.tr (hE18)
      show sx_RP _ _ _ _ _ [.int (-1000000001)] _ _
      refine sx_RP.ret (r := (some (.int (-1000000001)))) rfl rfl ?_
      exact ⟨⟨_, rfl⟩, hI16, hE17⟩
    · refine sx_RP.cu (as := [.int (nI x11)]) (rest2 := []) (st3 := [.int 1]) rfl rfl rfl rfl rfl (cx_131p ⟨nI_le (a := 0) hx12 (by omega), nI_le (b := 47) hx13 (by decide)⟩) rfl ?_
      refine sx_RP.step (pc2 := 21) (ls2 := [(0, .ref 111), (1, .int (nI x3)), (2, .int (nI x11))]) (st2 := []) (w3 := w) rfl rfl ?_
      refine sx_RP.step (pc2 := 22) (ls2 := [(0, .ref 111), (1, .int (nI x3)), (2, .int (nI x11))]) (st2 := [.ref 111]) (w3 := w) rfl rfl ?_
      refine sx_RP.gf (v := .ref 112) rfl rfl hI.1.o111 rfl rfl (show _ = 25 from rfl) ?_
      refine sx_RP.step (pc2 := 28) (ls2 := [(0, .ref 111), (1, .int (nI x3)), (2, .int (nI x11))]) (st2 := [.int 163, .ref 112]) (w3 := w) rfl rfl ?_
      refine sx_RP.step (pc2 := 29) (ls2 := [(0, .ref 111), (1, .int (nI x3)), (2, .int (nI x11))]) (st2 := [.int (nI x3), .int 163, .ref 112]) (w3 := w) rfl rfl ?_
      refine sx_RP.step (pc2 := 30) (ls2 := [(0, .ref 111), (1, .int (nI x3)), (2, .int (nI x11))]) (st2 := [.int (163 + (nI x3)), .ref 112]) (w3 := w) rfl rfl ?_
      rw [show (163 + (nI x3) : Int32) = nI (163 + x3) from nI_add 163 x3]
      refine sx_RP.ild (c := (163 + x3)) rfl hI.1.a112.1 hI.1.a112.2 (sx_in_nI (show (163 + x3) < 172 by omega) (by decide)) (show (nI (163 + x3)).toNatClampNeg = (163 + x3) from nI_clamp (by omega)) (show _ = 31 from rfl) ?_
      obtain ⟨x19, hx20, ex21⟩ : inR ((ia w 112).getD (163 + x3) 0) 47 := (hI.s ((163 + x3)) (by omega)).2.2.2.2.2.2.2.2 (by omega)
      rw [ex21]
      refine sx_RP.step (pc2 := 32) (ls2 := [(3, .int (nI x19)), (0, .ref 111), (1, .int (nI x3)), (2, .int (nI x11))]) (st2 := []) (w3 := w) rfl rfl ?_
      refine sx_RP.step (pc2 := 33) (ls2 := [(3, .int (nI x19)), (0, .ref 111), (1, .int (nI x3)), (2, .int (nI x11))]) (st2 := [.ref 111]) (w3 := w) rfl rfl ?_
      refine sx_RP.gf (v := .ref 112) rfl rfl hI.1.o111 rfl rfl (show _ = 36 from rfl) ?_
      refine sx_RP.step (pc2 := 39) (ls2 := [(3, .int (nI x19)), (0, .ref 111), (1, .int (nI x3)), (2, .int (nI x11))]) (st2 := [.int 163, .ref 112]) (w3 := w) rfl rfl ?_
      refine sx_RP.step (pc2 := 40) (ls2 := [(3, .int (nI x19)), (0, .ref 111), (1, .int (nI x3)), (2, .int (nI x11))]) (st2 := [.int (nI x3), .int 163, .ref 112]) (w3 := w) rfl rfl ?_
      refine sx_RP.step (pc2 := 41) (ls2 := [(3, .int (nI x19)), (0, .ref 111), (1, .int (nI x3)), (2, .int (nI x11))]) (st2 := [.int (163 + (nI x3)), .ref 112]) (w3 := w) rfl rfl ?_
      rw [show (163 + (nI x3) : Int32) = nI (163 + x3) from nI_add 163 x3]
      refine sx_RP.step (pc2 := 42) (ls2 := [(3, .int (nI x19)), (0, .ref 111), (1, .int (nI x3)), (2, .int (nI x11))]) (st2 := [.int (nI x11), .int (nI (163 + x3)), .ref 112]) (w3 := w) rfl rfl ?_
      refine sx_RP.mS (k := (163 + x3)) hI hE (by decide) rfl rfl (by omega) (eOK_d (by omega) (inR.n (show x11 ≤ 47 by omega))) (show _ = 43 from rfl) (fun w22 hI23 hE24 hk25 => ?_)
      refine sx_RP.step (pc2 := 44) (ls2 := [(3, .int (nI x19)), (0, .ref 111), (1, .int (nI x3)), (2, .int (nI x11))]) (st2 := [.int (nI x19)]) (w3 := w22) rfl rfl ?_
      refine sx_RP.ret (r := (some (.int (nI x19)))) rfl rfl ?_
      exact ⟨⟨_, rfl⟩, hI23, hE24⟩
set_option maxRecDepth 20000 in
set_option maxHeartbeats 4000000 in
theorem s196 {xs : Option (List Int32)} {d : Nat} {w : List sx_C} (hI : WI w) (a1 a2 : Int32) : sx_RP xs (d + 7) 196 0 (lv_args 0 [.ref 111, .int a1, .int a2]) [] w (fun r w2 => (∃ v : Int32, r = some (.int v)) ∧ WI w2 ∧ EM w w2) := by
  have hE : EM w w := EM.rf
  refine sx_RP.step (pc2 := 1) (ls2 := [(0, .ref 111), (1, .int a1), (2, .int a2)]) (st2 := [.int a1]) (w3 := w) rfl rfl ?_
  rcases in_cases a1 0 47 (m := 0) (n := 47) rfl rfl (by decide) (by decide) with q1 | ⟨x2, hx3, hx4, rfl⟩
  · refine sx_RP.cu (as := [.int a1]) (rest2 := []) (st3 := [.int 0]) rfl rfl rfl rfl rfl (cx_131n q1) rfl ?_
    refine sx_RP.step (pc2 := 23) (ls2 := [(0, .ref 111), (1, .int a1), (2, .int a2)]) (st2 := []) (w3 := w) rfl rfl ?_
    refine sx_RP.step (pc2 := 24) (ls2 := [(0, .ref 111), (1, .int a1), (2, .int a2)]) (st2 := [.ref 111]) (w3 := w) rfl rfl ?_
    refine sx_RP.step (pc2 := 25) (ls2 := [(0, .ref 111), (1, .int a1), (2, .int a2)]) (st2 := [.int 0, .ref 111]) (w3 := w) rfl rfl ?_
    refine sx_RP.callp (as2 := [.ref 111, .int 0]) (rest2 := []) rfl rfl (sx_inv_v2 (mi := 196) (k := 70) (st := [.int 0, .ref 111]) (w := w) rfl rfl hI.1.o111 rfl rfl rfl) rfl rfl rfl (s133_0 hI) (show _ = 28 from rfl) ?_
    rintro r4 w6 ⟨rfl, hI7, hE9⟩
    have hE8 := hE.tr (hE9)
    show sx_RP _ _ _ _ _ [.int (-1000000001)] _ _
    refine sx_RP.ret (r := (some (.int (-1000000001)))) rfl rfl ?_
    exact ⟨⟨_, rfl⟩, hI7, hE8⟩
  · refine sx_RP.cu (as := [.int (nI x2)]) (rest2 := []) (st3 := [.int 1]) rfl rfl rfl rfl rfl (cx_131p ⟨nI_le (a := 0) hx3 (by omega), nI_le (b := 47) hx4 (by decide)⟩) rfl ?_
    refine sx_RP.step (pc2 := 7) (ls2 := [(0, .ref 111), (1, .int (nI x2)), (2, .int a2)]) (st2 := []) (w3 := w) rfl rfl ?_
    refine sx_RP.step (pc2 := 8) (ls2 := [(0, .ref 111), (1, .int (nI x2)), (2, .int a2)]) (st2 := [.int a2]) (w3 := w) rfl rfl ?_
    rcases in_cases a2 1 30 (m := 1) (n := 30) rfl rfl (by decide) (by decide) with q10 | ⟨x11, hx12, hx13, rfl⟩
    · refine sx_RP.cu (as := [.int a2]) (rest2 := []) (st3 := [.int 0]) rfl rfl rfl rfl rfl (cx_197n q10) rfl ?_
      refine sx_RP.step (pc2 := 23) (ls2 := [(0, .ref 111), (1, .int (nI x2)), (2, .int a2)]) (st2 := []) (w3 := w) rfl rfl ?_
      refine sx_RP.step (pc2 := 24) (ls2 := [(0, .ref 111), (1, .int (nI x2)), (2, .int a2)]) (st2 := [.ref 111]) (w3 := w) rfl rfl ?_
      refine sx_RP.step (pc2 := 25) (ls2 := [(0, .ref 111), (1, .int (nI x2)), (2, .int a2)]) (st2 := [.int 0, .ref 111]) (w3 := w) rfl rfl ?_
      refine sx_RP.callp (as2 := [.ref 111, .int 0]) (rest2 := []) rfl rfl (sx_inv_v2 (mi := 196) (k := 70) (st := [.int 0, .ref 111]) (w := w) rfl rfl hI.1.o111 rfl rfl rfl) rfl rfl rfl (s133_0 hI) (show _ = 28 from rfl) ?_
      rintro r4 w15 ⟨rfl, hI16, hE18⟩
      have hE17 := hE.tr (hE18)
      show sx_RP _ _ _ _ _ [.int (-1000000001)] _ _
      refine sx_RP.ret (r := (some (.int (-1000000001)))) rfl rfl ?_
      exact ⟨⟨_, rfl⟩, hI16, hE17⟩
    · refine sx_RP.cu (as := [.int (nI x11)]) (rest2 := []) (st3 := [.int 1]) rfl rfl rfl rfl rfl (cx_197p ⟨nI_le (a := 1) hx12 (by omega), nI_le (b := 30) hx13 (by decide)⟩) rfl ?_
      refine sx_RP.step (pc2 := 14) (ls2 := [(0, .ref 111), (1, .int (nI x2)), (2, .int (nI x11))]) (st2 := []) (w3 := w) rfl rfl ?_
      refine sx_RP.step (pc2 := 15) (ls2 := [(0, .ref 111), (1, .int (nI x2)), (2, .int (nI x11))]) (st2 := [.ref 111]) (w3 := w) rfl rfl ?_
      refine sx_RP.step (pc2 := 16) (ls2 := [(0, .ref 111), (1, .int (nI x2)), (2, .int (nI x11))]) (st2 := [.int (nI x2), .ref 111]) (w3 := w) rfl rfl ?_
      refine sx_RP.step (pc2 := 17) (ls2 := [(0, .ref 111), (1, .int (nI x2)), (2, .int (nI x11))]) (st2 := [.int (nI x11), .int (nI x2), .ref 111]) (w3 := w) rfl rfl ?_
      obtain ⟨v19, c20⟩ := p198 hI (nI x2) (nI x11)
      refine sx_RP.cu (as := [.ref 111, .int (nI x2), .int (nI x11)]) (rest2 := []) (st3 := [.int v19]) rfl rfl (sx_inv_v2 (mi := 196) (k := 198) (st := [.int (nI x11), .int (nI x2), .ref 111]) (w := w) rfl rfl hI.1.o111 rfl rfl rfl) rfl rfl (c20) rfl ?_
      refine sx_RP.step (pc2 := 28) (ls2 := [(0, .ref 111), (1, .int (nI x2)), (2, .int (nI x11))]) (st2 := [.int v19]) (w3 := w) rfl rfl ?_
      refine sx_RP.ret (r := (some (.int v19))) rfl rfl ?_
      exact ⟨⟨_, rfl⟩, hI, hE⟩
set_option maxRecDepth 20000 in
set_option maxHeartbeats 4000000 in
theorem s203 {xs : Option (List Int32)} {d : Nat} {w : List sx_C} (hI : WI w) (a1 a2 : Int32) : sx_RP xs (d + 7) 203 0 (lv_args 0 [.ref 111, .int a1, .int a2]) [] w (fun r w2 => (∃ v : Int32, r = some (.int v)) ∧ WI w2 ∧ EM w w2) := by
  have hE : EM w w := EM.rf
  refine sx_RP.step (pc2 := 1) (ls2 := [(0, .ref 111), (1, .int a1), (2, .int a2)]) (st2 := [.int a1]) (w3 := w) rfl rfl ?_
  refine sx_RP.step (pc2 := 2) (ls2 := [(0, .ref 111), (1, .int a1), (2, .int a2)]) (st2 := [.int 0, .int a1]) (w3 := w) rfl rfl ?_
  refine sx_RP.step (pc2 := 3) (ls2 := [(0, .ref 111), (1, .int a1), (2, .int a2)]) (st2 := [.int 2, .int 0, .int a1]) (w3 := w) rfl rfl ?_
  rcases in_cases a1 0 2 (m := 0) (n := 2) rfl rfl (by decide) (by decide) with q1 | ⟨x2, hx3, hx4, rfl⟩
  · refine sx_RP.cu (as := [.int a1, .int 0, .int 2]) (rest2 := []) (st3 := [.int 0]) rfl rfl rfl rfl rfl (cx_132o q1) rfl ?_
    refine sx_RP.step (pc2 := 17) (ls2 := [(0, .ref 111), (1, .int a1), (2, .int a2)]) (st2 := []) (w3 := w) rfl rfl ?_
    refine sx_RP.step (pc2 := 18) (ls2 := [(0, .ref 111), (1, .int a1), (2, .int a2)]) (st2 := [.ref 111]) (w3 := w) rfl rfl ?_
    refine sx_RP.step (pc2 := 19) (ls2 := [(0, .ref 111), (1, .int a1), (2, .int a2)]) (st2 := [.int 0, .ref 111]) (w3 := w) rfl rfl ?_
    refine sx_RP.callp (as2 := [.ref 111, .int 0]) (rest2 := []) rfl rfl (sx_inv_v2 (mi := 203) (k := 70) (st := [.int 0, .ref 111]) (w := w) rfl rfl hI.1.o111 rfl rfl rfl) rfl rfl rfl (s133_0 hI) (show _ = 22 from rfl) ?_
    rintro r4 w6 ⟨rfl, hI7, hE9⟩
    have hE8 := hE.tr (hE9)
    show sx_RP _ _ _ _ _ [.int (-1000000001)] _ _
    refine sx_RP.ret (r := (some (.int (-1000000001)))) rfl rfl ?_
    exact ⟨⟨_, rfl⟩, hI7, hE8⟩
  · refine sx_RP.cu (as := [.int (nI x2), .int 0, .int 2]) (rest2 := []) (st3 := [.int 1]) rfl rfl rfl rfl rfl (cx_132p ⟨nI_le (a := 0) hx3 (by omega), nI_le (b := 2) hx4 (by decide)⟩) rfl ?_
    refine sx_RP.step (pc2 := 9) (ls2 := [(0, .ref 111), (1, .int (nI x2)), (2, .int a2)]) (st2 := []) (w3 := w) rfl rfl ?_
    refine sx_RP.step (pc2 := 10) (ls2 := [(0, .ref 111), (1, .int (nI x2)), (2, .int a2)]) (st2 := [.int (nI x2)]) (w3 := w) rfl rfl ?_
    refine sx_RP.step (pc2 := 11) (ls2 := [(0, .ref 111), (1, .int (nI x2)), (2, .int a2)]) (st2 := [.int a2, .int (nI x2)]) (w3 := w) rfl rfl ?_
    obtain ⟨x10, hx11, c12⟩ := p204 hI (nI x2) a2
    refine sx_RP.cu (as := [.int (nI x2), .int a2]) (rest2 := []) (st3 := [.int (nI x10)]) rfl rfl rfl rfl rfl (c12) rfl ?_
    refine sx_RP.br (p1 := 23) (l1 := [(0, .ref 111), (1, .int (nI x2)), (2, .int a2)]) (s1 := []) (v1 := w) (p2 := 17) (l2 := [(0, .ref 111), (1, .int (nI x2)), (2, .int a2)]) (s2 := []) (v2 := w) rfl rfl (fun q13 => ?_) (fun q13 => ?_)
    · replace q13 := of_decide_eq_true q13
      replace q13 := mt (nI_eq (a := x10) (b := 0) (by omega) (by omega)).mpr q13
      refine sx_RP.step (pc2 := 24) (ls2 := [(0, .ref 111), (1, .int (nI x2)), (2, .int a2)]) (st2 := [.ref 111]) (w3 := w) rfl rfl ?_
      refine sx_RP.gf (v := .ref 112) rfl rfl hI.1.o111 rfl rfl (show _ = 27 from rfl) ?_
      refine sx_RP.step (pc2 := 28) (ls2 := [(0, .ref 111), (1, .int (nI x2)), (2, .int a2)]) (st2 := [.int 4, .ref 112]) (w3 := w) rfl rfl ?_
      refine sx_RP.step (pc2 := 29) (ls2 := [(0, .ref 111), (1, .int (nI x2)), (2, .int a2)]) (st2 := [.int (nI x2), .int 4, .ref 112]) (w3 := w) rfl rfl ?_
      refine sx_RP.step (pc2 := 30) (ls2 := [(0, .ref 111), (1, .int (nI x2)), (2, .int a2)]) (st2 := [.int (4 + (nI x2)), .ref 112]) (w3 := w) rfl rfl ?_
      rw [show (4 + (nI x2) : Int32) = nI (4 + x2) from nI_add 4 x2]
      refine sx_RP.ild (c := (4 + x2)) rfl hI.1.a112.1 hI.1.a112.2 (sx_in_nI (show (4 + x2) < 172 by omega) (by decide)) (show (nI (4 + x2)).toNatClampNeg = (4 + x2) from nI_clamp (by omega)) (show _ = 31 from rfl) ?_
      refine sx_RP.step (pc2 := 32) (ls2 := [(3, .int ((ia w 112).getD (4 + x2) 0)), (0, .ref 111), (1, .int (nI x2)), (2, .int a2)]) (st2 := []) (w3 := w) rfl rfl ?_
      refine sx_RP.step (pc2 := 33) (ls2 := [(3, .int ((ia w 112).getD (4 + x2) 0)), (0, .ref 111), (1, .int (nI x2)), (2, .int a2)]) (st2 := [.ref 111]) (w3 := w) rfl rfl ?_
      refine sx_RP.gf (v := .ref 112) rfl rfl hI.1.o111 rfl rfl (show _ = 36 from rfl) ?_
      refine sx_RP.step (pc2 := 37) (ls2 := [(3, .int ((ia w 112).getD (4 + x2) 0)), (0, .ref 111), (1, .int (nI x2)), (2, .int a2)]) (st2 := [.int 4, .ref 112]) (w3 := w) rfl rfl ?_
      refine sx_RP.step (pc2 := 38) (ls2 := [(3, .int ((ia w 112).getD (4 + x2) 0)), (0, .ref 111), (1, .int (nI x2)), (2, .int a2)]) (st2 := [.int (nI x2), .int 4, .ref 112]) (w3 := w) rfl rfl ?_
      refine sx_RP.step (pc2 := 39) (ls2 := [(3, .int ((ia w 112).getD (4 + x2) 0)), (0, .ref 111), (1, .int (nI x2)), (2, .int a2)]) (st2 := [.int (4 + (nI x2)), .ref 112]) (w3 := w) rfl rfl ?_
      rw [show (4 + (nI x2) : Int32) = nI (4 + x2) from nI_add 4 x2]
      refine sx_RP.step (pc2 := 40) (ls2 := [(3, .int ((ia w 112).getD (4 + x2) 0)), (0, .ref 111), (1, .int (nI x2)), (2, .int a2)]) (st2 := [.int a2, .int (nI (4 + x2)), .ref 112]) (w3 := w) rfl rfl ?_
      refine sx_RP.mS (k := (4 + x2)) hI hE (by decide) rfl rfl (by omega) (eOK_n (by omega)) (show _ = 41 from rfl) (fun w14 hI15 hE16 hk17 => ?_)
      refine sx_RP.step (pc2 := 42) (ls2 := [(3, .int ((ia w 112).getD (4 + x2) 0)), (0, .ref 111), (1, .int (nI x2)), (2, .int a2)]) (st2 := [.int ((ia w 112).getD (4 + x2) 0)]) (w3 := w14) rfl rfl ?_
      refine sx_RP.ret (r := (some (.int ((ia w 112).getD (4 + x2) 0)))) rfl rfl ?_
      exact ⟨⟨_, rfl⟩, hI15, hE16⟩
    · replace q13 := Decidable.not_not.mp (of_decide_eq_false q13)
      replace q13 := (nI_eq (a := x10) (b := 0) (by omega) (by omega)).mp q13
      refine sx_RP.step (pc2 := 18) (ls2 := [(0, .ref 111), (1, .int (nI x2)), (2, .int a2)]) (st2 := [.ref 111]) (w3 := w) rfl rfl ?_
      refine sx_RP.step (pc2 := 19) (ls2 := [(0, .ref 111), (1, .int (nI x2)), (2, .int a2)]) (st2 := [.int 0, .ref 111]) (w3 := w) rfl rfl ?_
      refine sx_RP.callp (as2 := [.ref 111, .int 0]) (rest2 := []) rfl rfl (sx_inv_v2 (mi := 203) (k := 70) (st := [.int 0, .ref 111]) (w := w) rfl rfl hI.1.o111 rfl rfl rfl) rfl rfl rfl (s133_0 hI) (show _ = 22 from rfl) ?_
      rintro r4 w18 ⟨rfl, hI19, hE21⟩
      have hE20 := hE.tr (hE21)
      show sx_RP _ _ _ _ _ [.int (-1000000001)] _ _
      refine sx_RP.ret (r := (some (.int (-1000000001)))) rfl rfl ?_
      exact ⟨⟨_, rfl⟩, hI19, hE20⟩
set_option maxRecDepth 20000 in
set_option maxHeartbeats 4000000 in
theorem s205 {xs : Option (List Int32)} {d : Nat} {w : List sx_C} (hI : WI w) : sx_RP xs (d + 7) 205 0 (lv_args 0 [.ref 111]) [] w (fun r w2 => (∃ v : Int32, r = some (.int v)) ∧ WI w2 ∧ EM w w2) := by
  have hE : EM w w := EM.rf
  refine sx_RP.step (pc2 := 1) (ls2 := [(0, .ref 111)]) (st2 := [.ref 111]) (w3 := w) rfl rfl ?_
  refine sx_RP.step (pc2 := 2) (ls2 := [(0, .ref 111)]) (st2 := [.ref 111, .ref 111]) (w3 := w) rfl rfl ?_
  refine sx_RP.gf (v := .ref 112) rfl rfl hI.1.o111 rfl rfl (show _ = 5 from rfl) ?_
  refine sx_RP.step (pc2 := 7) (ls2 := [(0, .ref 111)]) (st2 := [.int 6, .ref 112, .ref 111]) (w3 := w) rfl rfl ?_
  refine sx_RP.ild (c := 6) rfl hI.1.a112.1 hI.1.a112.2 (sx_in_nI (show 6 < 172 by omega) (by decide)) (show (nI 6).toNatClampNeg = 6 from nI_clamp (by omega)) (show _ = 8 from rfl) ?_
  obtain ⟨v1, c2⟩ := q206 hI ((ia w 112).getD 6 0)
  refine sx_RP.cu (as := [.ref 111, .int ((ia w 112).getD 6 0)]) (rest2 := []) (st3 := [.int v1]) rfl rfl (sx_inv_v2 (mi := 205) (k := 205) (st := [.int ((ia w 112).getD 6 0), .ref 111]) (w := w) rfl rfl hI.1.o111 rfl rfl rfl) rfl rfl (c2) rfl ?_
  refine sx_RP.ret (r := (some (.int v1))) rfl rfl ?_
  exact ⟨⟨_, rfl⟩, hI, hE⟩
set_option maxRecDepth 20000 in
set_option maxHeartbeats 4000000 in
theorem s241 {xs : Option (List Int32)} {d : Nat} {w : List sx_C} (hI : WI w) : sx_RP xs (d + 7) 241 0 (lv_args 0 [.ref 111]) [] w (fun r w2 => (∃ v : Int32, r = some (.int v)) ∧ WI w2 ∧ EM w w2) := by
  have hE : EM w w := EM.rf
  refine sx_RP.step (pc2 := 1) (ls2 := [(0, .ref 111)]) (st2 := [.ref 111]) (w3 := w) rfl rfl ?_
  refine sx_RP.gf (v := .int (fi w 111 4)) rfl rfl hI.1.o111 rfl rfl (show _ = 4 from rfl) ?_
  obtain ⟨x1, hx2, ex3⟩ : inR (fi w 111 4) 1 := hI.m.1
  rw [ex3]
  refine sx_RP.br (p1 := 13) (l1 := [(0, .ref 111)]) (s1 := []) (v1 := w) (p2 := 7) (l2 := [(0, .ref 111)]) (s2 := []) (v2 := w) rfl rfl (fun q4 => ?_) (fun q4 => ?_)
  · replace q4 := of_decide_eq_true q4
    replace q4 := mt (nI_eq (a := x1) (b := 0) (by omega) (by omega)).mpr q4
    refine sx_RP.step (pc2 := 14) (ls2 := [(0, .ref 111)]) (st2 := [.ref 111]) (w3 := w) rfl rfl ?_
    refine sx_RP.gf (v := .ref 113) rfl rfl hI.1.o111 rfl rfl (show _ = 17 from rfl) ?_
    refine sx_RP.step (pc2 := 18) (ls2 := [(0, .ref 111)]) (st2 := [.ref 111, .ref 113]) (w3 := w) rfl rfl ?_
    refine sx_RP.gf (v := .ref 112) rfl rfl hI.1.o111 rfl rfl (show _ = 21 from rfl) ?_
    refine sx_RP.callp (as2 := [.ref 113, .ref 112]) (rest2 := []) rfl rfl rfl rfl rfl rfl (s175 hI (a := 113) (b := 112) (by decide) (by decide)) (show _ = 24 from rfl) ?_
    rintro r4 w5 ⟨rfl, hI6, hE8⟩
    have hE7 := hE.tr (hE8)
    show sx_RP _ _ _ _ _ [] _ _
    refine sx_RP.step (pc2 := 25) (ls2 := [(0, .ref 111)]) (st2 := [.ref 111]) (w3 := w5) rfl rfl ?_
    refine sx_RP.gf (v := .ref 112) rfl rfl hI6.1.o111 rfl rfl (show _ = 28 from rfl) ?_
    refine sx_RP.step (pc2 := 29) (ls2 := [(0, .ref 111)]) (st2 := [.int 1, .ref 112]) (w3 := w5) rfl rfl ?_
    refine sx_RP.ild (c := 1) rfl hI6.1.a112.1 hI6.1.a112.2 (sx_in_nI (show 1 < 172 by omega) (by decide)) (show (nI 1).toNatClampNeg = 1 from nI_clamp (by omega)) (show _ = 30 from rfl) ?_
    obtain ⟨x9, hx10, ex11⟩ : inR ((ia w5 112).getD 1 0) 10 := (hI6.s (1) (by omega)).1 rfl
    rw [ex11]
    refine sx_RP.ret (r := (some (.int (nI x9)))) rfl rfl ?_
    exact ⟨⟨_, rfl⟩, hI6, hE7⟩
  · replace q4 := Decidable.not_not.mp (of_decide_eq_false q4)
    replace q4 := (nI_eq (a := x1) (b := 0) (by omega) (by omega)).mp q4
    refine sx_RP.step (pc2 := 8) (ls2 := [(0, .ref 111)]) (st2 := [.ref 111]) (w3 := w) rfl rfl ?_
    refine sx_RP.step (pc2 := 9) (ls2 := [(0, .ref 111)]) (st2 := [.int 3, .ref 111]) (w3 := w) rfl rfl ?_
    refine sx_RP.callp (as2 := [.ref 111, .int 3]) (rest2 := []) rfl rfl (sx_inv_v2 (mi := 241) (k := 70) (st := [.int 3, .ref 111]) (w := w) rfl rfl hI.1.o111 rfl rfl rfl) rfl rfl rfl (s133_3 hI) (show _ = 12 from rfl) ?_
    rintro r4 w12 ⟨rfl, hI13, hE15⟩
    have hE14 := hE.tr (hE15)
    show sx_RP _ _ _ _ _ [.int (-1000000004)] _ _
    refine sx_RP.ret (r := (some (.int (-1000000004)))) rfl rfl ?_
    exact ⟨⟨_, rfl⟩, hI13, hE14⟩
set_option maxRecDepth 20000 in
set_option maxHeartbeats 4000000 in
theorem s243 {xs : Option (List Int32)} {d : Nat} {w : List sx_C} (hI : WI w) (a1 : Int32) : sx_RP xs (d + 7) 243 0 (lv_args 0 [.ref 111, .int a1]) [] w (fun r w2 => (∃ v : Int32, r = some (.int v)) ∧ WI w2 ∧ EM w w2) := by
  have hE : EM w w := EM.rf
  refine sx_RP.step (pc2 := 1) (ls2 := [(0, .ref 111), (1, .int a1)]) (st2 := [.int a1]) (w3 := w) rfl rfl ?_
  rcases sw_cases (n := 6) (a1) with q1 | ⟨x2, hx3, ex4⟩
  · refine sx_RP.swo (t := 90) rfl q1 rfl ?_
    refine sx_RP.step (pc2 := 91) (ls2 := [(0, .ref 111), (1, .int a1)]) (st2 := [.ref 111]) (w3 := w) rfl rfl ?_
    refine sx_RP.step (pc2 := 92) (ls2 := [(0, .ref 111), (1, .int a1)]) (st2 := [.int 0, .ref 111]) (w3 := w) rfl rfl ?_
    refine sx_RP.callp (as2 := [.ref 111, .int 0]) (rest2 := []) rfl rfl (sx_inv_v2 (mi := 243) (k := 70) (st := [.int 0, .ref 111]) (w := w) rfl rfl hI.1.o111 rfl rfl rfl) rfl rfl rfl (s133_0 hI) (show _ = 95 from rfl) ?_
    rintro r4 w5 ⟨rfl, hI6, hE8⟩
    have hE7 := hE.tr (hE8)
    show sx_RP _ _ _ _ _ [.int (-1000000001)] _ _
    refine sx_RP.ret (r := (some (.int (-1000000001)))) rfl rfl ?_
    exact ⟨⟨_, rfl⟩, hI6, hE7⟩
  · rw [ex4]
    rcases (show x2 = 0 ∨ x2 = 1 ∨ x2 = 2 ∨ x2 = 3 ∨ x2 = 4 ∨ x2 = 5 ∨ x2 = 6 by omega) with rfl | rfl | rfl | rfl | rfl | rfl | rfl
    · refine sx_RP.step (pc2 := 44) (ls2 := [(0, .ref 111), (1, .int (nI 0))]) (st2 := []) (w3 := w) rfl rfl ?_
      refine sx_RP.step (pc2 := 45) (ls2 := [(0, .ref 111), (1, .int (nI 0))]) (st2 := [.ref 111]) (w3 := w) rfl rfl ?_
      refine sx_RP.gf (v := .ref 112) rfl rfl hI.1.o111 rfl rfl (show _ = 48 from rfl) ?_
      refine sx_RP.step (pc2 := 49) (ls2 := [(0, .ref 111), (1, .int (nI 0))]) (st2 := [.int 1, .ref 112]) (w3 := w) rfl rfl ?_
      refine sx_RP.ild (c := 1) rfl hI.1.a112.1 hI.1.a112.2 (sx_in_nI (show 1 < 172 by omega) (by decide)) (show (nI 1).toNatClampNeg = 1 from nI_clamp (by omega)) (show _ = 50 from rfl) ?_
      obtain ⟨x9, hx10, ex11⟩ : inR ((ia w 112).getD 1 0) 10 := (hI.s (1) (by omega)).1 rfl
      rw [ex11]
      refine sx_RP.ret (r := (some (.int (nI x9)))) rfl rfl ?_
      exact ⟨⟨_, rfl⟩, hI, hE⟩
    · refine sx_RP.step (pc2 := 51) (ls2 := [(0, .ref 111), (1, .int (nI 1))]) (st2 := []) (w3 := w) rfl rfl ?_
      refine sx_RP.step (pc2 := 52) (ls2 := [(0, .ref 111), (1, .int (nI 1))]) (st2 := [.ref 111]) (w3 := w) rfl rfl ?_
      refine sx_RP.gf (v := .ref 112) rfl rfl hI.1.o111 rfl rfl (show _ = 55 from rfl) ?_
      refine sx_RP.step (pc2 := 56) (ls2 := [(0, .ref 111), (1, .int (nI 1))]) (st2 := [.int 2, .ref 112]) (w3 := w) rfl rfl ?_
      refine sx_RP.ild (c := 2) rfl hI.1.a112.1 hI.1.a112.2 (sx_in_nI (show 2 < 172 by omega) (by decide)) (show (nI 2).toNatClampNeg = 2 from nI_clamp (by omega)) (show _ = 57 from rfl) ?_
      obtain ⟨x12, hx13, ex14⟩ : inR ((ia w 112).getD 2 0) 9 := (hI.s (2) (by omega)).2.1 rfl
      rw [ex14]
      refine sx_RP.ret (r := (some (.int (nI x12)))) rfl rfl ?_
      exact ⟨⟨_, rfl⟩, hI, hE⟩
    · refine sx_RP.step (pc2 := 58) (ls2 := [(0, .ref 111), (1, .int (nI 2))]) (st2 := []) (w3 := w) rfl rfl ?_
      refine sx_RP.step (pc2 := 59) (ls2 := [(0, .ref 111), (1, .int (nI 2))]) (st2 := [.ref 111]) (w3 := w) rfl rfl ?_
      obtain ⟨v15, c16⟩ := p244 hI 
      refine sx_RP.cu (as := [.ref 111]) (rest2 := []) (st3 := [.int v15]) rfl rfl (sx_inv_v2 (mi := 243) (k := 355) (st := [.ref 111]) (w := w) rfl rfl hI.1.o111 rfl rfl rfl) rfl rfl (c16) rfl ?_
      refine sx_RP.ret (r := (some (.int v15))) rfl rfl ?_
      exact ⟨⟨_, rfl⟩, hI, hE⟩
    · refine sx_RP.step (pc2 := 63) (ls2 := [(0, .ref 111), (1, .int (nI 3))]) (st2 := []) (w3 := w) rfl rfl ?_
      refine sx_RP.step (pc2 := 64) (ls2 := [(0, .ref 111), (1, .int (nI 3))]) (st2 := [.ref 111]) (w3 := w) rfl rfl ?_
      refine sx_RP.gf (v := .int (fi w 111 11)) rfl rfl hI.1.o111 rfl rfl (show _ = 67 from rfl) ?_
      obtain ⟨x17, hx18, ex19⟩ : inR (fi w 111 11) 120 := hI.m.2.1
      rw [ex19]
      refine sx_RP.ret (r := (some (.int (nI x17)))) rfl rfl ?_
      exact ⟨⟨_, rfl⟩, hI, hE⟩
    · refine sx_RP.step (pc2 := 68) (ls2 := [(0, .ref 111), (1, .int (nI 4))]) (st2 := []) (w3 := w) rfl rfl ?_
      refine sx_RP.step (pc2 := 69) (ls2 := [(0, .ref 111), (1, .int (nI 4))]) (st2 := [.ref 111]) (w3 := w) rfl rfl ?_
      refine sx_RP.gf (v := .ref 112) rfl rfl hI.1.o111 rfl rfl (show _ = 72 from rfl) ?_
      refine sx_RP.step (pc2 := 73) (ls2 := [(0, .ref 111), (1, .int (nI 4))]) (st2 := [.int 4, .ref 112]) (w3 := w) rfl rfl ?_
      refine sx_RP.ild (c := 4) rfl hI.1.a112.1 hI.1.a112.2 (sx_in_nI (show 4 < 172 by omega) (by decide)) (show (nI 4).toNatClampNeg = 4 from nI_clamp (by omega)) (show _ = 74 from rfl) ?_
      refine sx_RP.ret (r := (some (.int ((ia w 112).getD 4 0)))) rfl rfl ?_
      exact ⟨⟨_, rfl⟩, hI, hE⟩
    · refine sx_RP.step (pc2 := 75) (ls2 := [(0, .ref 111), (1, .int (nI 5))]) (st2 := []) (w3 := w) rfl rfl ?_
      refine sx_RP.step (pc2 := 76) (ls2 := [(0, .ref 111), (1, .int (nI 5))]) (st2 := [.ref 111]) (w3 := w) rfl rfl ?_
      refine sx_RP.gf (v := .ref 112) rfl rfl hI.1.o111 rfl rfl (show _ = 79 from rfl) ?_
      refine sx_RP.step (pc2 := 80) (ls2 := [(0, .ref 111), (1, .int (nI 5))]) (st2 := [.int 5, .ref 112]) (w3 := w) rfl rfl ?_
      refine sx_RP.ild (c := 5) rfl hI.1.a112.1 hI.1.a112.2 (sx_in_nI (show 5 < 172 by omega) (by decide)) (show (nI 5).toNatClampNeg = 5 from nI_clamp (by omega)) (show _ = 81 from rfl) ?_
      refine sx_RP.ret (r := (some (.int ((ia w 112).getD 5 0)))) rfl rfl ?_
      exact ⟨⟨_, rfl⟩, hI, hE⟩
    · refine sx_RP.step (pc2 := 82) (ls2 := [(0, .ref 111), (1, .int (nI 6))]) (st2 := []) (w3 := w) rfl rfl ?_
      refine sx_RP.step (pc2 := 83) (ls2 := [(0, .ref 111), (1, .int (nI 6))]) (st2 := [.ref 111]) (w3 := w) rfl rfl ?_
      refine sx_RP.gf (v := .ref 112) rfl rfl hI.1.o111 rfl rfl (show _ = 86 from rfl) ?_
      refine sx_RP.step (pc2 := 88) (ls2 := [(0, .ref 111), (1, .int (nI 6))]) (st2 := [.int 6, .ref 112]) (w3 := w) rfl rfl ?_
      refine sx_RP.ild (c := 6) rfl hI.1.a112.1 hI.1.a112.2 (sx_in_nI (show 6 < 172 by omega) (by decide)) (show (nI 6).toNatClampNeg = 6 from nI_clamp (by omega)) (show _ = 89 from rfl) ?_
      refine sx_RP.ret (r := (some (.int ((ia w 112).getD 6 0)))) rfl rfl ?_
      exact ⟨⟨_, rfl⟩, hI, hE⟩
