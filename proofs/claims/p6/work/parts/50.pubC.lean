-- safety: the class, first half
set_option maxRecDepth 20000 in
set_option maxHeartbeats 4000000 in
theorem s6 {xs : Option (List Int32)} {d : Nat} {w : List sx_C} (hI : WI w) (a1 a2 : Int32) : sx_RP xs (d + 7) 6 0 (lv_args 0 [.ref 0, .int a1, .int a2]) [] w (fun r w2 => (∃ v : Int32, r = some (.int v)) ∧ WI w2 ∧ EC w w2) := by
  have hE : EC w w := EC.rf
  refine sx_RP.step (pc2 := 1) (ls2 := [(0, .ref 0), (1, .int a1), (2, .int a2)]) (st2 := [.int a1]) (w3 := w) rfl rfl ?_
  rcases in_cases a1 0 47 (m := 0) (n := 47) rfl rfl (by decide) (by decide) with q1 | ⟨x2, hx3, hx4, rfl⟩
  · refine sx_RP.cu (as := [.int a1]) (rest2 := []) (st3 := [.int 0]) rfl rfl rfl rfl rfl (cx_7n q1) rfl ?_
    refine sx_RP.step (pc2 := 16) (ls2 := [(0, .ref 0), (1, .int a1), (2, .int a2)]) (st2 := []) (w3 := w) rfl rfl ?_
    refine sx_RP.step (pc2 := 17) (ls2 := [(0, .ref 0), (1, .int a1), (2, .int a2)]) (st2 := [.ref 0]) (w3 := w) rfl rfl ?_
    refine sx_RP.step (pc2 := 19) (ls2 := [(0, .ref 0), (1, .int a1), (2, .int a2)]) (st2 := [.int (-1000000001), .ref 0]) (w3 := w) rfl rfl ?_
    refine sx_RP.callp (as2 := [.ref 0, .int (-1000000001)]) (rest2 := []) rfl rfl (sx_inv_v2 (mi := 6) (k := 78) (st := [.int (-1000000001), .ref 0]) (w := w) rfl rfl hI.1.o0 rfl rfl rfl) rfl rfl rfl (s9_0 hI) (show _ = 22 from rfl) ?_
    rintro r4 w6 ⟨rfl, hI7, hE9⟩
    have hE8 := hE.tr hE9
    show sx_RP _ _ _ _ _ [.int (-1000000001)] _ _
    refine sx_RP.ret (r := (some (.int (-1000000001)))) rfl rfl ?_
    exact ⟨⟨_, rfl⟩, hI7, hE8⟩
  · refine sx_RP.cu (as := [.int (nI x2)]) (rest2 := []) (st3 := [.int 1]) rfl rfl rfl rfl rfl (cx_7p ⟨nI_le (a := 0) hx3 (by omega), nI_le (b := 47) hx4 (by decide)⟩) rfl ?_
    refine sx_RP.step (pc2 := 7) (ls2 := [(0, .ref 0), (1, .int (nI x2)), (2, .int a2)]) (st2 := []) (w3 := w) rfl rfl ?_
    refine sx_RP.step (pc2 := 8) (ls2 := [(0, .ref 0), (1, .int (nI x2)), (2, .int a2)]) (st2 := [.int a2]) (w3 := w) rfl rfl ?_
    refine sx_RP.step (pc2 := 9) (ls2 := [(0, .ref 0), (1, .int (nI x2)), (2, .int a2)]) (st2 := [.int 0, .int a2]) (w3 := w) rfl rfl ?_
    refine sx_RP.step (pc2 := 10) (ls2 := [(0, .ref 0), (1, .int (nI x2)), (2, .int a2)]) (st2 := [.int 3, .int 0, .int a2]) (w3 := w) rfl rfl ?_
    rcases in_cases a2 0 3 (m := 0) (n := 3) rfl rfl (by decide) (by decide) with q10 | ⟨x11, hx12, hx13, rfl⟩
    · refine sx_RP.cu (as := [.int a2, .int 0, .int 3]) (rest2 := []) (st3 := [.int 0]) rfl rfl rfl rfl rfl (cx_8n q10) rfl ?_
      refine sx_RP.step (pc2 := 16) (ls2 := [(0, .ref 0), (1, .int (nI x2)), (2, .int a2)]) (st2 := []) (w3 := w) rfl rfl ?_
      refine sx_RP.step (pc2 := 17) (ls2 := [(0, .ref 0), (1, .int (nI x2)), (2, .int a2)]) (st2 := [.ref 0]) (w3 := w) rfl rfl ?_
      refine sx_RP.step (pc2 := 19) (ls2 := [(0, .ref 0), (1, .int (nI x2)), (2, .int a2)]) (st2 := [.int (-1000000001), .ref 0]) (w3 := w) rfl rfl ?_
      refine sx_RP.callp (as2 := [.ref 0, .int (-1000000001)]) (rest2 := []) rfl rfl (sx_inv_v2 (mi := 6) (k := 78) (st := [.int (-1000000001), .ref 0]) (w := w) rfl rfl hI.1.o0 rfl rfl rfl) rfl rfl rfl (s9_0 hI) (show _ = 22 from rfl) ?_
      rintro r4 w15 ⟨rfl, hI16, hE18⟩
      have hE17 := hE.tr hE18
      show sx_RP _ _ _ _ _ [.int (-1000000001)] _ _
      refine sx_RP.ret (r := (some (.int (-1000000001)))) rfl rfl ?_
      exact ⟨⟨_, rfl⟩, hI16, hE17⟩
    · refine sx_RP.cu (as := [.int (nI x11), .int 0, .int 3]) (rest2 := []) (st3 := [.int 1]) rfl rfl rfl rfl rfl (cx_8p ⟨nI_le (a := 0) hx12 (by omega), nI_le (b := 3) hx13 (by decide)⟩) rfl ?_
      refine sx_RP.step (pc2 := 23) (ls2 := [(0, .ref 0), (1, .int (nI x2)), (2, .int (nI x11))]) (st2 := []) (w3 := w) rfl rfl ?_
      refine sx_RP.step (pc2 := 24) (ls2 := [(0, .ref 0), (1, .int (nI x2)), (2, .int (nI x11))]) (st2 := [.ref 0]) (w3 := w) rfl rfl ?_
      refine sx_RP.gf (v := .ref 1) rfl rfl hI.1.o0 rfl rfl (show _ = 27 from rfl) ?_
      refine sx_RP.gref (k := 0) (b := 2) hI (Or.inl rfl) rfl rfl (by omega) (show _ = 30 from rfl) ?_
      refine sx_RP.step (pc2 := 31) (ls2 := [(0, .ref 0), (1, .int (nI x2)), (2, .int (nI x11))]) (st2 := [.int (nI x2), .ref 2]) (w3 := w) rfl rfl ?_
      refine sx_RP.ild (c := x2) rfl (hI.1.aS (Or.inl rfl)).1 (hI.1.aS (Or.inl rfl)).2 (sx_in_nI (show x2 < 48 by omega) (by decide)) (show (nI x2).toNatClampNeg = x2 from nI_clamp (by omega)) (show _ = 32 from rfl) ?_
      obtain ⟨x19, hx20, ex21⟩ : inR ((ia w 2).getD x2 0) 3 := hI.st (Or.inl rfl) (show x2 < 48 by omega)
      rw [ex21]
      refine sx_RP.step (pc2 := 33) (ls2 := [(3, .int (nI x19)), (0, .ref 0), (1, .int (nI x2)), (2, .int (nI x11))]) (st2 := []) (w3 := w) rfl rfl ?_
      refine sx_RP.step (pc2 := 34) (ls2 := [(3, .int (nI x19)), (0, .ref 0), (1, .int (nI x2)), (2, .int (nI x11))]) (st2 := [.ref 0]) (w3 := w) rfl rfl ?_
      refine sx_RP.gf (v := .ref 1) rfl rfl hI.1.o0 rfl rfl (show _ = 37 from rfl) ?_
      refine sx_RP.gref (k := 0) (b := 2) hI (Or.inl rfl) rfl rfl (by omega) (show _ = 40 from rfl) ?_
      refine sx_RP.step (pc2 := 41) (ls2 := [(3, .int (nI x19)), (0, .ref 0), (1, .int (nI x2)), (2, .int (nI x11))]) (st2 := [.int (nI x2), .ref 2]) (w3 := w) rfl rfl ?_
      refine sx_RP.step (pc2 := 42) (ls2 := [(3, .int (nI x19)), (0, .ref 0), (1, .int (nI x2)), (2, .int (nI x11))]) (st2 := [.int (nI x11), .int (nI x2), .ref 2]) (w3 := w) rfl rfl ?_
      refine sx_RP.stS hI hE (Or.inl rfl) rfl (sx_in_nI (show x2 < 48 by omega) (by decide)) (inR.n (show x11 ≤ 3 by omega)) (show _ = 43 from rfl) (fun w22 hI23 hE24 => ?_)
      refine sx_RP.step (pc2 := 44) (ls2 := [(3, .int (nI x19)), (0, .ref 0), (1, .int (nI x2)), (2, .int (nI x11))]) (st2 := [.int (nI x19)]) (w3 := w22) rfl rfl ?_
      refine sx_RP.ret (r := (some (.int (nI x19)))) rfl rfl ?_
      exact ⟨⟨_, rfl⟩, hI23, hE24⟩
set_option maxRecDepth 20000 in
set_option maxHeartbeats 4000000 in
theorem s10 {xs : Option (List Int32)} {d : Nat} {w : List sx_C} (hI : WI w) (a1 a2 : Int32) : sx_RP xs (d + 7) 10 0 (lv_args 0 [.ref 0, .int a1, .int a2]) [] w (fun r w2 => (∃ v : Int32, r = some (.int v)) ∧ WI w2 ∧ EC w w2) := by
  have hE : EC w w := EC.rf
  refine sx_RP.step (pc2 := 1) (ls2 := [(0, .ref 0), (1, .int a1), (2, .int a2)]) (st2 := [.int a1]) (w3 := w) rfl rfl ?_
  rcases in_cases a1 0 47 (m := 0) (n := 47) rfl rfl (by decide) (by decide) with q1 | ⟨x2, hx3, hx4, rfl⟩
  · refine sx_RP.cu (as := [.int a1]) (rest2 := []) (st3 := [.int 0]) rfl rfl rfl rfl rfl (cx_7n q1) rfl ?_
    refine sx_RP.step (pc2 := 7) (ls2 := [(0, .ref 0), (1, .int a1), (2, .int a2)]) (st2 := []) (w3 := w) rfl rfl ?_
    refine sx_RP.step (pc2 := 8) (ls2 := [(0, .ref 0), (1, .int a1), (2, .int a2)]) (st2 := [.ref 0]) (w3 := w) rfl rfl ?_
    refine sx_RP.step (pc2 := 10) (ls2 := [(0, .ref 0), (1, .int a1), (2, .int a2)]) (st2 := [.int (-1000000001), .ref 0]) (w3 := w) rfl rfl ?_
    refine sx_RP.callp (as2 := [.ref 0, .int (-1000000001)]) (rest2 := []) rfl rfl (sx_inv_v2 (mi := 10) (k := 78) (st := [.int (-1000000001), .ref 0]) (w := w) rfl rfl hI.1.o0 rfl rfl rfl) rfl rfl rfl (s9_0 hI) (show _ = 13 from rfl) ?_
    rintro r4 w6 ⟨rfl, hI7, hE9⟩
    have hE8 := hE.tr hE9
    show sx_RP _ _ _ _ _ [.int (-1000000001)] _ _
    refine sx_RP.ret (r := (some (.int (-1000000001)))) rfl rfl ?_
    exact ⟨⟨_, rfl⟩, hI7, hE8⟩
  · refine sx_RP.cu (as := [.int (nI x2)]) (rest2 := []) (st3 := [.int 1]) rfl rfl rfl rfl rfl (cx_7p ⟨nI_le (a := 0) hx3 (by omega), nI_le (b := 47) hx4 (by decide)⟩) rfl ?_
    refine sx_RP.step (pc2 := 14) (ls2 := [(0, .ref 0), (1, .int (nI x2)), (2, .int a2)]) (st2 := []) (w3 := w) rfl rfl ?_
    refine sx_RP.step (pc2 := 15) (ls2 := [(0, .ref 0), (1, .int (nI x2)), (2, .int a2)]) (st2 := [.ref 0]) (w3 := w) rfl rfl ?_
    refine sx_RP.gf (v := .ref 1) rfl rfl hI.1.o0 rfl rfl (show _ = 18 from rfl) ?_
    refine sx_RP.step (pc2 := 19) (ls2 := [(0, .ref 0), (1, .int (nI x2)), (2, .int a2)]) (st2 := [.int (nI x2), .ref 1]) (w3 := w) rfl rfl ?_
    obtain ⟨x10, hx11, c12⟩ := p11 hI (Or.inl rfl) (nI x2)
    refine sx_RP.cu (as := [.ref 1, .int (nI x2)]) (rest2 := []) (st3 := [.int (nI x10)]) rfl rfl (sx_inv_v2 (mi := 10) (k := 85) (st := [.int (nI x2), .ref 1]) (w := w) rfl rfl (hI.1.oC (Or.inl rfl)) rfl rfl rfl) rfl rfl (c12) rfl ?_
    refine sx_RP.step (pc2 := 23) (ls2 := [(0, .ref 0), (1, .int (nI x2)), (2, .int a2)]) (st2 := [.int a2, .int (nI x10)]) (w3 := w) rfl rfl ?_
    refine sx_RP.br (p1 := 28) (l1 := [(0, .ref 0), (1, .int (nI x2)), (2, .int a2)]) (s1 := []) (v1 := w) (p2 := 26) (l2 := [(0, .ref 0), (1, .int (nI x2)), (2, .int a2)]) (s2 := []) (v2 := w) rfl rfl (fun q13 => ?_) (fun q13 => ?_)
    · replace q13 := of_decide_eq_true q13
      refine sx_RP.step (pc2 := 29) (ls2 := [(0, .ref 0), (1, .int (nI x2)), (2, .int a2)]) (st2 := [.ref 0]) (w3 := w) rfl rfl ?_
      refine sx_RP.gf (v := .ref 1) rfl rfl hI.1.o0 rfl rfl (show _ = 32 from rfl) ?_
      refine sx_RP.step (pc2 := 33) (ls2 := [(0, .ref 0), (1, .int (nI x2)), (2, .int a2)]) (st2 := [.ref 1, .ref 1]) (w3 := w) rfl rfl ?_
      refine sx_RP.gw hI (Or.inl rfl) rfl rfl (show _ = 36 from rfl) ?_
      refine sx_RP.step (pc2 := 37) (ls2 := [(0, .ref 0), (1, .int (nI x2)), (2, .int a2)]) (st2 := [.long 1, .long (fj w 1 1), .ref 1]) (w3 := w) rfl rfl ?_
      refine sx_RP.step (pc2 := 38) (ls2 := [(0, .ref 0), (1, .int (nI x2)), (2, .int a2)]) (st2 := [.int (nI x2), .long 1, .long (fj w 1 1), .ref 1]) (w3 := w) rfl rfl ?_
      refine sx_RP.step (pc2 := 39) (ls2 := [(0, .ref 0), (1, .int (nI x2)), (2, .int a2)]) (st2 := [.long ((1 : Int64) <<< ((nI x2).toInt64 &&& 63)), .long (fj w 1 1), .ref 1]) (w3 := w) rfl rfl ?_
      refine sx_RP.step (pc2 := 40) (ls2 := [(0, .ref 0), (1, .int (nI x2)), (2, .int a2)]) (st2 := [.long ((fj w 1 1) ^^^ ((1 : Int64) <<< ((nI x2).toInt64 &&& 63))), .ref 1]) (w3 := w) rfl rfl ?_
      refine sx_RP.pw hI hE (Or.inl rfl) rfl rfl rfl (show _ = 43 from rfl) (fun w14 hI15 hE16 => ?_)
      refine sx_RP.step (pc2 := 44) (ls2 := [(0, .ref 0), (1, .int (nI x2)), (2, .int a2)]) (st2 := [.int 1]) (w3 := w14) rfl rfl ?_
      refine sx_RP.ret (r := (some (.int 1))) rfl rfl ?_
      exact ⟨⟨_, rfl⟩, hI15, hE16⟩
    · replace q13 := Decidable.not_not.mp (of_decide_eq_false q13)
      refine sx_RP.step (pc2 := 27) (ls2 := [(0, .ref 0), (1, .int (nI x2)), (2, .int a2)]) (st2 := [.int 0]) (w3 := w) rfl rfl ?_
      refine sx_RP.ret (r := (some (.int 0))) rfl rfl ?_
      exact ⟨⟨_, rfl⟩, hI, hE⟩
set_option maxRecDepth 20000 in
set_option maxHeartbeats 4000000 in
theorem s12 {xs : Option (List Int32)} {d : Nat} {w : List sx_C} (hI : WI w) (a1 a2 : Int32) : sx_RP xs (d + 7) 12 0 (lv_args 0 [.ref 0, .int a1, .int a2]) [] w (fun r w2 => (∃ v : Int32, r = some (.int v)) ∧ WI w2 ∧ EC w w2) := by
  have hE : EC w w := EC.rf
  refine sx_RP.step (pc2 := 1) (ls2 := [(0, .ref 0), (1, .int a1), (2, .int a2)]) (st2 := [.int a1]) (w3 := w) rfl rfl ?_
  rcases in_cases a1 0 47 (m := 0) (n := 47) rfl rfl (by decide) (by decide) with q1 | ⟨x2, hx3, hx4, rfl⟩
  · refine sx_RP.cu (as := [.int a1]) (rest2 := []) (st3 := [.int 0]) rfl rfl rfl rfl rfl (cx_7n q1) rfl ?_
    refine sx_RP.step (pc2 := 7) (ls2 := [(0, .ref 0), (1, .int a1), (2, .int a2)]) (st2 := []) (w3 := w) rfl rfl ?_
    refine sx_RP.step (pc2 := 8) (ls2 := [(0, .ref 0), (1, .int a1), (2, .int a2)]) (st2 := [.ref 0]) (w3 := w) rfl rfl ?_
    refine sx_RP.step (pc2 := 10) (ls2 := [(0, .ref 0), (1, .int a1), (2, .int a2)]) (st2 := [.int (-1000000001), .ref 0]) (w3 := w) rfl rfl ?_
    refine sx_RP.callp (as2 := [.ref 0, .int (-1000000001)]) (rest2 := []) rfl rfl (sx_inv_v2 (mi := 12) (k := 78) (st := [.int (-1000000001), .ref 0]) (w := w) rfl rfl hI.1.o0 rfl rfl rfl) rfl rfl rfl (s9_0 hI) (show _ = 13 from rfl) ?_
    rintro r4 w6 ⟨rfl, hI7, hE9⟩
    have hE8 := hE.tr hE9
    show sx_RP _ _ _ _ _ [.int (-1000000001)] _ _
    refine sx_RP.ret (r := (some (.int (-1000000001)))) rfl rfl ?_
    exact ⟨⟨_, rfl⟩, hI7, hE8⟩
  · refine sx_RP.cu (as := [.int (nI x2)]) (rest2 := []) (st3 := [.int 1]) rfl rfl rfl rfl rfl (cx_7p ⟨nI_le (a := 0) hx3 (by omega), nI_le (b := 47) hx4 (by decide)⟩) rfl ?_
    refine sx_RP.step (pc2 := 14) (ls2 := [(0, .ref 0), (1, .int (nI x2)), (2, .int a2)]) (st2 := []) (w3 := w) rfl rfl ?_
    refine sx_RP.step (pc2 := 15) (ls2 := [(0, .ref 0), (1, .int (nI x2)), (2, .int a2)]) (st2 := [.int a2]) (w3 := w) rfl rfl ?_
    rcases sw_cases (n := 2) (a2) with q10 | ⟨x11, hx12, ex13⟩
    · refine sx_RP.swo (t := 76) rfl q10 rfl ?_
      refine sx_RP.step (pc2 := 77) (ls2 := [(0, .ref 0), (1, .int (nI x2)), (2, .int a2)]) (st2 := [.ref 0]) (w3 := w) rfl rfl ?_
      refine sx_RP.step (pc2 := 79) (ls2 := [(0, .ref 0), (1, .int (nI x2)), (2, .int a2)]) (st2 := [.int (-1000000001), .ref 0]) (w3 := w) rfl rfl ?_
      refine sx_RP.callp (as2 := [.ref 0, .int (-1000000001)]) (rest2 := []) rfl rfl (sx_inv_v2 (mi := 12) (k := 78) (st := [.int (-1000000001), .ref 0]) (w := w) rfl rfl hI.1.o0 rfl rfl rfl) rfl rfl rfl (s9_0 hI) (show _ = 82 from rfl) ?_
      rintro r4 w14 ⟨rfl, hI15, hE17⟩
      have hE16 := hE.tr hE17
      show sx_RP _ _ _ _ _ [.int (-1000000001)] _ _
      refine sx_RP.ret (r := (some (.int (-1000000001)))) rfl rfl ?_
      exact ⟨⟨_, rfl⟩, hI15, hE16⟩
    · rw [ex13]
      rcases (show x11 = 0 ∨ x11 = 1 ∨ x11 = 2 by omega) with rfl | rfl | rfl
      · refine sx_RP.step (pc2 := 40) (ls2 := [(0, .ref 0), (1, .int (nI x2)), (2, .int (nI 0))]) (st2 := []) (w3 := w) rfl rfl ?_
        refine sx_RP.step (pc2 := 41) (ls2 := [(0, .ref 0), (1, .int (nI x2)), (2, .int (nI 0))]) (st2 := [.ref 0]) (w3 := w) rfl rfl ?_
        refine sx_RP.gf (v := .ref 1) rfl rfl hI.1.o0 rfl rfl (show _ = 44 from rfl) ?_
        refine sx_RP.gref (k := 0) (b := 2) hI (Or.inl rfl) rfl rfl (by omega) (show _ = 47 from rfl) ?_
        refine sx_RP.step (pc2 := 48) (ls2 := [(0, .ref 0), (1, .int (nI x2)), (2, .int (nI 0))]) (st2 := [.int (nI x2), .ref 2]) (w3 := w) rfl rfl ?_
        refine sx_RP.ild (c := x2) rfl (hI.1.aS (Or.inl rfl)).1 (hI.1.aS (Or.inl rfl)).2 (sx_in_nI (show x2 < 48 by omega) (by decide)) (show (nI x2).toNatClampNeg = x2 from nI_clamp (by omega)) (show _ = 49 from rfl) ?_
        obtain ⟨x18, hx19, ex20⟩ : inR ((ia w 2).getD x2 0) 3 := hI.st (Or.inl rfl) (show x2 < 48 by omega)
        rw [ex20]
        refine sx_RP.ret (r := (some (.int (nI x18)))) rfl rfl ?_
        exact ⟨⟨_, rfl⟩, hI, hE⟩
      · refine sx_RP.step (pc2 := 50) (ls2 := [(0, .ref 0), (1, .int (nI x2)), (2, .int (nI 1))]) (st2 := []) (w3 := w) rfl rfl ?_
        refine sx_RP.step (pc2 := 51) (ls2 := [(0, .ref 0), (1, .int (nI x2)), (2, .int (nI 1))]) (st2 := [.ref 0]) (w3 := w) rfl rfl ?_
        refine sx_RP.gf (v := .ref 1) rfl rfl hI.1.o0 rfl rfl (show _ = 54 from rfl) ?_
        refine sx_RP.step (pc2 := 55) (ls2 := [(0, .ref 0), (1, .int (nI x2)), (2, .int (nI 1))]) (st2 := [.int (nI x2), .ref 1]) (w3 := w) rfl rfl ?_
        obtain ⟨x21, hx22, c23⟩ := p11 hI (Or.inl rfl) (nI x2)
        refine sx_RP.cu (as := [.ref 1, .int (nI x2)]) (rest2 := []) (st3 := [.int (nI x21)]) rfl rfl (sx_inv_v2 (mi := 12) (k := 85) (st := [.int (nI x2), .ref 1]) (w := w) rfl rfl (hI.1.oC (Or.inl rfl)) rfl rfl rfl) rfl rfl (c23) rfl ?_
        refine sx_RP.br (p1 := 65) (l1 := [(0, .ref 0), (1, .int (nI x2)), (2, .int (nI 1))]) (s1 := []) (v1 := w) (p2 := 61) (l2 := [(0, .ref 0), (1, .int (nI x2)), (2, .int (nI 1))]) (s2 := []) (v2 := w) rfl rfl (fun q24 => ?_) (fun q24 => ?_)
        · replace q24 := of_decide_eq_true q24
          replace q24 := (nI_eq (a := x21) (b := 0) (by omega) (by omega)).mp q24
          refine sx_RP.step (pc2 := 66) (ls2 := [(0, .ref 0), (1, .int (nI x2)), (2, .int (nI 1))]) (st2 := [.int 0]) (w3 := w) rfl rfl ?_
          refine sx_RP.ret (r := (some (.int 0))) rfl rfl ?_
          exact ⟨⟨_, rfl⟩, hI, hE⟩
        · replace q24 := of_decide_eq_false q24
          replace q24 := mt (nI_eq (a := x21) (b := 0) (by omega) (by omega)).mpr q24
          refine sx_RP.step (pc2 := 62) (ls2 := [(0, .ref 0), (1, .int (nI x2)), (2, .int (nI 1))]) (st2 := [.int 1]) (w3 := w) rfl rfl ?_
          refine sx_RP.step (pc2 := 66) (ls2 := [(0, .ref 0), (1, .int (nI x2)), (2, .int (nI 1))]) (st2 := [.int 1]) (w3 := w) rfl rfl ?_
          refine sx_RP.ret (r := (some (.int 1))) rfl rfl ?_
          exact ⟨⟨_, rfl⟩, hI, hE⟩
      · refine sx_RP.step (pc2 := 67) (ls2 := [(0, .ref 0), (1, .int (nI x2)), (2, .int (nI 2))]) (st2 := []) (w3 := w) rfl rfl ?_
        refine sx_RP.step (pc2 := 68) (ls2 := [(0, .ref 0), (1, .int (nI x2)), (2, .int (nI 2))]) (st2 := [.ref 0]) (w3 := w) rfl rfl ?_
        refine sx_RP.gf (v := .ref 1) rfl rfl hI.1.o0 rfl rfl (show _ = 71 from rfl) ?_
        refine sx_RP.step (pc2 := 72) (ls2 := [(0, .ref 0), (1, .int (nI x2)), (2, .int (nI 2))]) (st2 := [.int (nI x2), .ref 1]) (w3 := w) rfl rfl ?_
        obtain ⟨v25, c26⟩ := p13 hI (Or.inl rfl) (nI x2)
        refine sx_RP.cu (as := [.ref 1, .int (nI x2)]) (rest2 := []) (st3 := [.int v25]) rfl rfl (sx_inv_v2 (mi := 12) (k := 92) (st := [.int (nI x2), .ref 1]) (w := w) rfl rfl (hI.1.oC (Or.inl rfl)) rfl rfl rfl) rfl rfl (c26) rfl ?_
        refine sx_RP.ret (r := (some (.int v25))) rfl rfl ?_
        exact ⟨⟨_, rfl⟩, hI, hE⟩
set_option maxRecDepth 20000 in
set_option maxHeartbeats 4000000 in
theorem s14 {xs : Option (List Int32)} {d : Nat} {w : List sx_C} (hI : WI w) : sx_RP xs (d + 7) 14 0 (lv_args 0 [.ref 0]) [] w (fun r w2 => (∃ v : Int64, r = some (.long v)) ∧ WI w2 ∧ EC w w2) := by
  have hE : EC w w := EC.rf
  refine sx_RP.step (pc2 := 1) (ls2 := [(0, .ref 0)]) (st2 := [.ref 0]) (w3 := w) rfl rfl ?_
  refine sx_RP.gf (v := .ref 1) rfl rfl hI.1.o0 rfl rfl (show _ = 4 from rfl) ?_
  refine sx_RP.gw hI (Or.inl rfl) rfl rfl (show _ = 7 from rfl) ?_
  refine sx_RP.ret (r := (some (.long (fj w 1 1)))) rfl rfl ?_
  exact ⟨⟨_, rfl⟩, hI, hE⟩
set_option maxRecDepth 20000 in
set_option maxHeartbeats 4000000 in
theorem s15 {xs : Option (List Int32)} {d : Nat} {w : List sx_C} (hI : WI w) (a1 a2 : Int32) : sx_RP xs (d + 7) 15 0 (lv_args 0 [.ref 0, .int a1, .int a2]) [] w (fun r w2 => (∃ v : Int32, r = some (.int v)) ∧ WI w2 ∧ EC w w2) := by
  have hE : EC w w := EC.rf
  refine sx_RP.step (pc2 := 1) (ls2 := [(0, .ref 0), (1, .int a1), (2, .int a2)]) (st2 := [.int a1]) (w3 := w) rfl rfl ?_
  rcases in_cases a1 0 47 (m := 0) (n := 47) rfl rfl (by decide) (by decide) with q1 | ⟨x2, hx3, hx4, rfl⟩
  · refine sx_RP.cu (as := [.int a1]) (rest2 := []) (st3 := [.int 0]) rfl rfl rfl rfl rfl (cx_7n q1) rfl ?_
    refine sx_RP.step (pc2 := 14) (ls2 := [(0, .ref 0), (1, .int a1), (2, .int a2)]) (st2 := []) (w3 := w) rfl rfl ?_
    refine sx_RP.step (pc2 := 15) (ls2 := [(0, .ref 0), (1, .int a1), (2, .int a2)]) (st2 := [.ref 0]) (w3 := w) rfl rfl ?_
    refine sx_RP.step (pc2 := 17) (ls2 := [(0, .ref 0), (1, .int a1), (2, .int a2)]) (st2 := [.int (-1000000001), .ref 0]) (w3 := w) rfl rfl ?_
    refine sx_RP.callp (as2 := [.ref 0, .int (-1000000001)]) (rest2 := []) rfl rfl (sx_inv_v2 (mi := 15) (k := 78) (st := [.int (-1000000001), .ref 0]) (w := w) rfl rfl hI.1.o0 rfl rfl rfl) rfl rfl rfl (s9_0 hI) (show _ = 20 from rfl) ?_
    rintro r4 w6 ⟨rfl, hI7, hE9⟩
    have hE8 := hE.tr hE9
    show sx_RP _ _ _ _ _ [.int (-1000000001)] _ _
    refine sx_RP.ret (r := (some (.int (-1000000001)))) rfl rfl ?_
    exact ⟨⟨_, rfl⟩, hI7, hE8⟩
  · refine sx_RP.cu (as := [.int (nI x2)]) (rest2 := []) (st3 := [.int 1]) rfl rfl rfl rfl rfl (cx_7p ⟨nI_le (a := 0) hx3 (by omega), nI_le (b := 47) hx4 (by decide)⟩) rfl ?_
    refine sx_RP.step (pc2 := 7) (ls2 := [(0, .ref 0), (1, .int (nI x2)), (2, .int a2)]) (st2 := []) (w3 := w) rfl rfl ?_
    refine sx_RP.step (pc2 := 8) (ls2 := [(0, .ref 0), (1, .int (nI x2)), (2, .int a2)]) (st2 := [.int a2]) (w3 := w) rfl rfl ?_
    rcases in_cases a2 0 47 (m := 0) (n := 47) rfl rfl (by decide) (by decide) with q10 | ⟨x11, hx12, hx13, rfl⟩
    · refine sx_RP.cu (as := [.int a2]) (rest2 := []) (st3 := [.int 0]) rfl rfl rfl rfl rfl (cx_7n q10) rfl ?_
      refine sx_RP.step (pc2 := 14) (ls2 := [(0, .ref 0), (1, .int (nI x2)), (2, .int a2)]) (st2 := []) (w3 := w) rfl rfl ?_
      refine sx_RP.step (pc2 := 15) (ls2 := [(0, .ref 0), (1, .int (nI x2)), (2, .int a2)]) (st2 := [.ref 0]) (w3 := w) rfl rfl ?_
      refine sx_RP.step (pc2 := 17) (ls2 := [(0, .ref 0), (1, .int (nI x2)), (2, .int a2)]) (st2 := [.int (-1000000001), .ref 0]) (w3 := w) rfl rfl ?_
      refine sx_RP.callp (as2 := [.ref 0, .int (-1000000001)]) (rest2 := []) rfl rfl (sx_inv_v2 (mi := 15) (k := 78) (st := [.int (-1000000001), .ref 0]) (w := w) rfl rfl hI.1.o0 rfl rfl rfl) rfl rfl rfl (s9_0 hI) (show _ = 20 from rfl) ?_
      rintro r4 w15 ⟨rfl, hI16, hE18⟩
      have hE17 := hE.tr hE18
      show sx_RP _ _ _ _ _ [.int (-1000000001)] _ _
      refine sx_RP.ret (r := (some (.int (-1000000001)))) rfl rfl ?_
      exact ⟨⟨_, rfl⟩, hI16, hE17⟩
    · refine sx_RP.cu (as := [.int (nI x11)]) (rest2 := []) (st3 := [.int 1]) rfl rfl rfl rfl rfl (cx_7p ⟨nI_le (a := 0) hx12 (by omega), nI_le (b := 47) hx13 (by decide)⟩) rfl ?_
      refine sx_RP.step (pc2 := 21) (ls2 := [(0, .ref 0), (1, .int (nI x2)), (2, .int (nI x11))]) (st2 := []) (w3 := w) rfl rfl ?_
      refine sx_RP.step (pc2 := 22) (ls2 := [(0, .ref 0), (1, .int (nI x2)), (2, .int (nI x11))]) (st2 := [.ref 0]) (w3 := w) rfl rfl ?_
      refine sx_RP.gf (v := .ref 44) rfl rfl hI.1.o0 rfl rfl (show _ = 25 from rfl) ?_
      refine sx_RP.step (pc2 := 26) (ls2 := [(0, .ref 0), (1, .int (nI x2)), (2, .int (nI x11))]) (st2 := [.ref 0, .ref 44]) (w3 := w) rfl rfl ?_
      refine sx_RP.gf (v := .ref 1) rfl rfl hI.1.o0 rfl rfl (show _ = 29 from rfl) ?_
      refine sx_RP.gref (k := 0) (b := 2) hI (Or.inl rfl) rfl rfl (by omega) (show _ = 32 from rfl) ?_
      refine sx_RP.callp (as2 := [.ref 44, .ref 2]) (rest2 := []) rfl rfl (sx_inv_v2 (mi := 15) (k := 95) (st := [.ref 2, .ref 44]) (w := w) rfl rfl hI.1.o44 rfl rfl rfl) rfl rfl rfl (s16 hI (Or.inl rfl)) (show _ = 35 from rfl) ?_
      rintro r4 w19 ⟨rfl, hI20, hE22⟩
      have hE21 := hE.tr hE22
      show sx_RP _ _ _ _ _ [] _ _
      refine sx_RP.step (pc2 := 36) (ls2 := [(0, .ref 0), (1, .int (nI x2)), (2, .int (nI x11))]) (st2 := [.ref 0]) (w3 := w19) rfl rfl ?_
      refine sx_RP.gf (v := .ref 44) rfl rfl hI20.1.o0 rfl rfl (show _ = 39 from rfl) ?_
      refine sx_RP.step (pc2 := 40) (ls2 := [(0, .ref 0), (1, .int (nI x2)), (2, .int (nI x11))]) (st2 := [.int (nI x11), .ref 44]) (w3 := w19) rfl rfl ?_
      refine sx_RP.callp (as2 := [.ref 44, .int (nI x11)]) (rest2 := []) rfl rfl (sx_inv_v2 (mi := 15) (k := 99) (st := [.int (nI x11), .ref 44]) (w := w19) rfl rfl hI20.1.o44 rfl rfl rfl) rfl rfl rfl (s17 hI20 (show x11 < 48 by omega)) (show _ = 43 from rfl) ?_
      rintro r4 w23 ⟨rfl, hI24, hE26⟩
      have hE25 := hE21.tr hE26
      show sx_RP _ _ _ _ _ [.ref (47 + x11)] _ _
      refine sx_RP.step (pc2 := 44) (ls2 := [(0, .ref 0), (1, .int (nI x2)), (2, .int (nI x11))]) (st2 := [.int (nI x2), .ref (47 + x11)]) (w3 := w23) rfl rfl ?_
      refine sx_RP.ild (c := x2) rfl (hI24.1.aR (show x11 < 48 by omega)).1 (hI24.1.aR (show x11 < 48 by omega)).2 (sx_in_nI (show x2 < 48 by omega) (by decide)) (show (nI x2).toNatClampNeg = x2 from nI_clamp (by omega)) (show _ = 45 from rfl) ?_
      refine sx_RP.ret (r := (some (.int ((ia w23 (47 + x11)).getD x2 0)))) rfl rfl ?_
      exact ⟨⟨_, rfl⟩, hI24, hE25⟩
set_option maxRecDepth 20000 in
set_option maxHeartbeats 4000000 in
theorem s21 {xs : Option (List Int32)} {d : Nat} {w : List sx_C} (hI : WI w) (a1 a2 a3 a4 : Int32) : sx_RP xs (d + 7) 21 0 (lv_args 0 [.ref 0, .int a1, .int a2, .int a3, .int a4]) [] w (fun r w2 => (∃ v : Int32, r = some (.int v)) ∧ WI w2 ∧ EC w w2) := by
  have hE : EC w w := EC.rf
  refine sx_RP.step (pc2 := 1) (ls2 := [(0, .ref 0), (1, .int a1), (2, .int a2), (3, .int a3), (4, .int a4)]) (st2 := [.int a1]) (w3 := w) rfl rfl ?_
  rcases in_cases a1 0 5 (m := 0) (n := 5) rfl rfl (by decide) (by decide) with q1 | ⟨x2, hx3, hx4, rfl⟩
  · refine sx_RP.cu (as := [.int a1]) (rest2 := []) (st3 := [.int 0]) rfl rfl rfl rfl rfl (cx_22n q1) rfl ?_
    refine sx_RP.step (pc2 := 31) (ls2 := [(0, .ref 0), (1, .int a1), (2, .int a2), (3, .int a3), (4, .int a4)]) (st2 := []) (w3 := w) rfl rfl ?_
    refine sx_RP.step (pc2 := 32) (ls2 := [(0, .ref 0), (1, .int a1), (2, .int a2), (3, .int a3), (4, .int a4)]) (st2 := [.ref 0]) (w3 := w) rfl rfl ?_
    refine sx_RP.step (pc2 := 34) (ls2 := [(0, .ref 0), (1, .int a1), (2, .int a2), (3, .int a3), (4, .int a4)]) (st2 := [.int (-1000000001), .ref 0]) (w3 := w) rfl rfl ?_
    refine sx_RP.callp (as2 := [.ref 0, .int (-1000000001)]) (rest2 := []) rfl rfl (sx_inv_v2 (mi := 21) (k := 78) (st := [.int (-1000000001), .ref 0]) (w := w) rfl rfl hI.1.o0 rfl rfl rfl) rfl rfl rfl (s9_0 hI) (show _ = 37 from rfl) ?_
    rintro r4 w6 ⟨rfl, hI7, hE9⟩
    have hE8 := hE.tr hE9
    show sx_RP _ _ _ _ _ [.int (-1000000001)] _ _
    refine sx_RP.ret (r := (some (.int (-1000000001)))) rfl rfl ?_
    exact ⟨⟨_, rfl⟩, hI7, hE8⟩
  · refine sx_RP.cu (as := [.int (nI x2)]) (rest2 := []) (st3 := [.int 1]) rfl rfl rfl rfl rfl (cx_22p ⟨nI_le (a := 0) hx3 (by omega), nI_le (b := 5) hx4 (by decide)⟩) rfl ?_
    refine sx_RP.step (pc2 := 7) (ls2 := [(0, .ref 0), (1, .int (nI x2)), (2, .int a2), (3, .int a3), (4, .int a4)]) (st2 := []) (w3 := w) rfl rfl ?_
    refine sx_RP.step (pc2 := 8) (ls2 := [(0, .ref 0), (1, .int (nI x2)), (2, .int a2), (3, .int a3), (4, .int a4)]) (st2 := [.int a2]) (w3 := w) rfl rfl ?_
    refine sx_RP.step (pc2 := 9) (ls2 := [(0, .ref 0), (1, .int (nI x2)), (2, .int a2), (3, .int a3), (4, .int a4)]) (st2 := [.int 0, .int a2]) (w3 := w) rfl rfl ?_
    refine sx_RP.step (pc2 := 10) (ls2 := [(0, .ref 0), (1, .int (nI x2)), (2, .int a2), (3, .int a3), (4, .int a4)]) (st2 := [.int 1, .int 0, .int a2]) (w3 := w) rfl rfl ?_
    rcases in_cases a2 0 1 (m := 0) (n := 1) rfl rfl (by decide) (by decide) with q10 | ⟨x11, hx12, hx13, rfl⟩
    · refine sx_RP.cu (as := [.int a2, .int 0, .int 1]) (rest2 := []) (st3 := [.int 0]) rfl rfl rfl rfl rfl (cx_8n q10) rfl ?_
      refine sx_RP.step (pc2 := 31) (ls2 := [(0, .ref 0), (1, .int (nI x2)), (2, .int a2), (3, .int a3), (4, .int a4)]) (st2 := []) (w3 := w) rfl rfl ?_
      refine sx_RP.step (pc2 := 32) (ls2 := [(0, .ref 0), (1, .int (nI x2)), (2, .int a2), (3, .int a3), (4, .int a4)]) (st2 := [.ref 0]) (w3 := w) rfl rfl ?_
      refine sx_RP.step (pc2 := 34) (ls2 := [(0, .ref 0), (1, .int (nI x2)), (2, .int a2), (3, .int a3), (4, .int a4)]) (st2 := [.int (-1000000001), .ref 0]) (w3 := w) rfl rfl ?_
      refine sx_RP.callp (as2 := [.ref 0, .int (-1000000001)]) (rest2 := []) rfl rfl (sx_inv_v2 (mi := 21) (k := 78) (st := [.int (-1000000001), .ref 0]) (w := w) rfl rfl hI.1.o0 rfl rfl rfl) rfl rfl rfl (s9_0 hI) (show _ = 37 from rfl) ?_
      rintro r4 w15 ⟨rfl, hI16, hE18⟩
      have hE17 := hE.tr hE18
      show sx_RP _ _ _ _ _ [.int (-1000000001)] _ _
      refine sx_RP.ret (r := (some (.int (-1000000001)))) rfl rfl ?_
      exact ⟨⟨_, rfl⟩, hI16, hE17⟩
    · refine sx_RP.cu (as := [.int (nI x11), .int 0, .int 1]) (rest2 := []) (st3 := [.int 1]) rfl rfl rfl rfl rfl (cx_8p ⟨nI_le (a := 0) hx12 (by omega), nI_le (b := 1) hx13 (by decide)⟩) rfl ?_
      refine sx_RP.step (pc2 := 16) (ls2 := [(0, .ref 0), (1, .int (nI x2)), (2, .int (nI x11)), (3, .int a3), (4, .int a4)]) (st2 := []) (w3 := w) rfl rfl ?_
      refine sx_RP.step (pc2 := 17) (ls2 := [(0, .ref 0), (1, .int (nI x2)), (2, .int (nI x11)), (3, .int a3), (4, .int a4)]) (st2 := [.int a3]) (w3 := w) rfl rfl ?_
      rcases in_cases a3 0 47 (m := 0) (n := 47) rfl rfl (by decide) (by decide) with q19 | ⟨x20, hx21, hx22, rfl⟩
      · refine sx_RP.cu (as := [.int a3]) (rest2 := []) (st3 := [.int 0]) rfl rfl rfl rfl rfl (cx_7n q19) rfl ?_
        refine sx_RP.step (pc2 := 31) (ls2 := [(0, .ref 0), (1, .int (nI x2)), (2, .int (nI x11)), (3, .int a3), (4, .int a4)]) (st2 := []) (w3 := w) rfl rfl ?_
        refine sx_RP.step (pc2 := 32) (ls2 := [(0, .ref 0), (1, .int (nI x2)), (2, .int (nI x11)), (3, .int a3), (4, .int a4)]) (st2 := [.ref 0]) (w3 := w) rfl rfl ?_
        refine sx_RP.step (pc2 := 34) (ls2 := [(0, .ref 0), (1, .int (nI x2)), (2, .int (nI x11)), (3, .int a3), (4, .int a4)]) (st2 := [.int (-1000000001), .ref 0]) (w3 := w) rfl rfl ?_
        refine sx_RP.callp (as2 := [.ref 0, .int (-1000000001)]) (rest2 := []) rfl rfl (sx_inv_v2 (mi := 21) (k := 78) (st := [.int (-1000000001), .ref 0]) (w := w) rfl rfl hI.1.o0 rfl rfl rfl) rfl rfl rfl (s9_0 hI) (show _ = 37 from rfl) ?_
        rintro r4 w24 ⟨rfl, hI25, hE27⟩
        have hE26 := hE.tr hE27
        show sx_RP _ _ _ _ _ [.int (-1000000001)] _ _
        refine sx_RP.ret (r := (some (.int (-1000000001)))) rfl rfl ?_
        exact ⟨⟨_, rfl⟩, hI25, hE26⟩
      · refine sx_RP.cu (as := [.int (nI x20)]) (rest2 := []) (st3 := [.int 1]) rfl rfl rfl rfl rfl (cx_7p ⟨nI_le (a := 0) hx21 (by omega), nI_le (b := 47) hx22 (by decide)⟩) rfl ?_
        refine sx_RP.step (pc2 := 23) (ls2 := [(0, .ref 0), (1, .int (nI x2)), (2, .int (nI x11)), (3, .int (nI x20)), (4, .int a4)]) (st2 := []) (w3 := w) rfl rfl ?_
        refine sx_RP.step (pc2 := 25) (ls2 := [(0, .ref 0), (1, .int (nI x2)), (2, .int (nI x11)), (3, .int (nI x20)), (4, .int a4)]) (st2 := [.int a4]) (w3 := w) rfl rfl ?_
        rcases in_cases a4 0 3 (m := 0) (n := 3) rfl rfl (by decide) (by decide) with q28 | ⟨x29, hx30, hx31, rfl⟩
        · refine sx_RP.cu (as := [.int a4]) (rest2 := []) (st3 := [.int 0]) rfl rfl rfl rfl rfl (cx_23n q28) rfl ?_
          refine sx_RP.step (pc2 := 31) (ls2 := [(0, .ref 0), (1, .int (nI x2)), (2, .int (nI x11)), (3, .int (nI x20)), (4, .int a4)]) (st2 := []) (w3 := w) rfl rfl ?_
          refine sx_RP.step (pc2 := 32) (ls2 := [(0, .ref 0), (1, .int (nI x2)), (2, .int (nI x11)), (3, .int (nI x20)), (4, .int a4)]) (st2 := [.ref 0]) (w3 := w) rfl rfl ?_
          refine sx_RP.step (pc2 := 34) (ls2 := [(0, .ref 0), (1, .int (nI x2)), (2, .int (nI x11)), (3, .int (nI x20)), (4, .int a4)]) (st2 := [.int (-1000000001), .ref 0]) (w3 := w) rfl rfl ?_
          refine sx_RP.callp (as2 := [.ref 0, .int (-1000000001)]) (rest2 := []) rfl rfl (sx_inv_v2 (mi := 21) (k := 78) (st := [.int (-1000000001), .ref 0]) (w := w) rfl rfl hI.1.o0 rfl rfl rfl) rfl rfl rfl (s9_0 hI) (show _ = 37 from rfl) ?_
          rintro r4 w33 ⟨rfl, hI34, hE36⟩
          have hE35 := hE.tr hE36
          show sx_RP _ _ _ _ _ [.int (-1000000001)] _ _
          refine sx_RP.ret (r := (some (.int (-1000000001)))) rfl rfl ?_
          exact ⟨⟨_, rfl⟩, hI34, hE35⟩
        · refine sx_RP.cu (as := [.int (nI x29)]) (rest2 := []) (st3 := [.int 1]) rfl rfl rfl rfl rfl (cx_23p ⟨nI_le (a := 0) hx30 (by omega), nI_le (b := 3) hx31 (by decide)⟩) rfl ?_
          refine sx_RP.step (pc2 := 38) (ls2 := [(0, .ref 0), (1, .int (nI x2)), (2, .int (nI x11)), (3, .int (nI x20)), (4, .int (nI x29))]) (st2 := []) (w3 := w) rfl rfl ?_
          refine sx_RP.step (pc2 := 39) (ls2 := [(0, .ref 0), (1, .int (nI x2)), (2, .int (nI x11)), (3, .int (nI x20)), (4, .int (nI x29))]) (st2 := [.ref 0]) (w3 := w) rfl rfl ?_
          refine sx_RP.gf (v := .ref 1) rfl rfl hI.1.o0 rfl rfl (show _ = 42 from rfl) ?_
          rcases p24 (xs := xs) hI (Or.inl rfl) with c37 | ⟨⟨x38, hx39, ex40⟩, c37⟩
          · refine sx_RP.cu (as := [.ref 1]) (rest2 := []) (st3 := [.int 0]) rfl rfl (sx_inv_v2 (mi := 21) (k := 111) (st := [.ref 1]) (w := w) rfl rfl (hI.1.oC (Or.inl rfl)) rfl rfl rfl) rfl rfl (c37) rfl ?_
            refine sx_RP.step (pc2 := 48) (ls2 := [(0, .ref 0), (1, .int (nI x2)), (2, .int (nI x11)), (3, .int (nI x20)), (4, .int (nI x29))]) (st2 := []) (w3 := w) rfl rfl ?_
            refine sx_RP.step (pc2 := 49) (ls2 := [(0, .ref 0), (1, .int (nI x2)), (2, .int (nI x11)), (3, .int (nI x20)), (4, .int (nI x29))]) (st2 := [.ref 0]) (w3 := w) rfl rfl ?_
            refine sx_RP.step (pc2 := 51) (ls2 := [(0, .ref 0), (1, .int (nI x2)), (2, .int (nI x11)), (3, .int (nI x20)), (4, .int (nI x29))]) (st2 := [.int (-1000000002), .ref 0]) (w3 := w) rfl rfl ?_
            refine sx_RP.callp (as2 := [.ref 0, .int (-1000000002)]) (rest2 := []) rfl rfl (sx_inv_v2 (mi := 21) (k := 78) (st := [.int (-1000000002), .ref 0]) (w := w) rfl rfl hI.1.o0 rfl rfl rfl) rfl rfl rfl (s9_1 hI) (show _ = 54 from rfl) ?_
            rintro r4 w41 ⟨rfl, hI42, hE44⟩
            have hE43 := hE.tr hE44
            show sx_RP _ _ _ _ _ [.int (-1000000002)] _ _
            refine sx_RP.ret (r := (some (.int (-1000000002)))) rfl rfl ?_
            exact ⟨⟨_, rfl⟩, hI42, hE43⟩
          · refine sx_RP.cu (as := [.ref 1]) (rest2 := []) (st3 := [.int 1]) rfl rfl (sx_inv_v2 (mi := 21) (k := 111) (st := [.ref 1]) (w := w) rfl rfl (hI.1.oC (Or.inl rfl)) rfl rfl rfl) rfl rfl (c37) rfl ?_
            refine sx_RP.step (pc2 := 55) (ls2 := [(0, .ref 0), (1, .int (nI x2)), (2, .int (nI x11)), (3, .int (nI x20)), (4, .int (nI x29))]) (st2 := []) (w3 := w) rfl rfl ?_
            refine sx_RP.step (pc2 := 56) (ls2 := [(0, .ref 0), (1, .int (nI x2)), (2, .int (nI x11)), (3, .int (nI x20)), (4, .int (nI x29))]) (st2 := [.ref 0]) (w3 := w) rfl rfl ?_
            refine sx_RP.gf (v := .ref 1) rfl rfl hI.1.o0 rfl rfl (show _ = 59 from rfl) ?_
            refine sx_RP.step (pc2 := 60) (ls2 := [(0, .ref 0), (1, .int (nI x2)), (2, .int (nI x11)), (3, .int (nI x20)), (4, .int (nI x29))]) (st2 := [.int (nI x2), .ref 1]) (w3 := w) rfl rfl ?_
            refine sx_RP.step (pc2 := 61) (ls2 := [(0, .ref 0), (1, .int (nI x2)), (2, .int (nI x11)), (3, .int (nI x20)), (4, .int (nI x29))]) (st2 := [.int (nI x11), .int (nI x2), .ref 1]) (w3 := w) rfl rfl ?_
            refine sx_RP.step (pc2 := 62) (ls2 := [(0, .ref 0), (1, .int (nI x2)), (2, .int (nI x11)), (3, .int (nI x20)), (4, .int (nI x29))]) (st2 := [.int (nI x20), .int (nI x11), .int (nI x2), .ref 1]) (w3 := w) rfl rfl ?_
            refine sx_RP.step (pc2 := 64) (ls2 := [(0, .ref 0), (1, .int (nI x2)), (2, .int (nI x11)), (3, .int (nI x20)), (4, .int (nI x29))]) (st2 := [.int (nI x29), .int (nI x20), .int (nI x11), .int (nI x2), .ref 1]) (w3 := w) rfl rfl ?_
            refine sx_RP.callp (as2 := [.ref 1, .int (nI x2), .int (nI x11), .int (nI x20), .int (nI x29)]) (rest2 := []) rfl rfl (sx_inv_v2 (mi := 21) (k := 116) (st := [.int (nI x29), .int (nI x20), .int (nI x11), .int (nI x2), .ref 1]) (w := w) rfl rfl (hI.1.oC (Or.inl rfl)) rfl rfl rfl) rfl rfl rfl (s25 hI (Or.inl rfl) (by omega) ex40 (show x2 ≤ 5 by omega) (show x11 ≤ 1 by omega) (show x20 < 48 by omega) (show x29 ≤ 3 by omega)) (show _ = 67 from rfl) ?_
            rintro r4 w46 ⟨⟨v45, rfl⟩, hI47, hE49⟩
            have hE48 := hE.tr hE49
            show sx_RP _ _ _ _ _ [.int v45] _ _
            refine sx_RP.ret (r := (some (.int v45))) rfl rfl ?_
            exact ⟨⟨_, rfl⟩, hI47, hE48⟩
set_option maxRecDepth 20000 in
set_option maxHeartbeats 4000000 in
theorem s26 {xs : Option (List Int32)} {d : Nat} {w : List sx_C} (hI : WI w) (a1 a2 : Int32) : sx_RP xs (d + 7) 26 0 (lv_args 0 [.ref 0, .int a1, .int a2]) [] w (fun r w2 => (∃ v : Int32, r = some (.int v)) ∧ WI w2 ∧ EC w w2) := by
  have hE : EC w w := EC.rf
  refine sx_RP.step (pc2 := 1) (ls2 := [(0, .ref 0), (1, .int a1), (2, .int a2)]) (st2 := [.ref 0]) (w3 := w) rfl rfl ?_
  refine sx_RP.gf (v := .ref 1) rfl rfl hI.1.o0 rfl rfl (show _ = 4 from rfl) ?_
  refine sx_RP.step (pc2 := 5) (ls2 := [(0, .ref 0), (1, .int a1), (2, .int a2)]) (st2 := [.int a1, .ref 1]) (w3 := w) rfl rfl ?_
  rcases p27 (xs := xs) hI (Or.inl rfl) a1 with c2 | ⟨⟨x3, hx4, rfl⟩, c2⟩
  · refine sx_RP.cu (as := [.ref 1, .int a1]) (rest2 := []) (st3 := [.int 0]) rfl rfl (sx_inv_v2 (mi := 26) (k := 120) (st := [.int a1, .ref 1]) (w := w) rfl rfl (hI.1.oC (Or.inl rfl)) rfl rfl rfl) rfl rfl (c2) rfl ?_
    refine sx_RP.step (pc2 := 11) (ls2 := [(0, .ref 0), (1, .int a1), (2, .int a2)]) (st2 := []) (w3 := w) rfl rfl ?_
    refine sx_RP.step (pc2 := 12) (ls2 := [(0, .ref 0), (1, .int a1), (2, .int a2)]) (st2 := [.ref 0]) (w3 := w) rfl rfl ?_
    refine sx_RP.step (pc2 := 14) (ls2 := [(0, .ref 0), (1, .int a1), (2, .int a2)]) (st2 := [.int (-1000000001), .ref 0]) (w3 := w) rfl rfl ?_
    refine sx_RP.callp (as2 := [.ref 0, .int (-1000000001)]) (rest2 := []) rfl rfl (sx_inv_v2 (mi := 26) (k := 78) (st := [.int (-1000000001), .ref 0]) (w := w) rfl rfl hI.1.o0 rfl rfl rfl) rfl rfl rfl (s9_0 hI) (show _ = 17 from rfl) ?_
    rintro r4 w6 ⟨rfl, hI7, hE9⟩
    have hE8 := hE.tr hE9
    show sx_RP _ _ _ _ _ [.int (-1000000001)] _ _
    refine sx_RP.ret (r := (some (.int (-1000000001)))) rfl rfl ?_
    exact ⟨⟨_, rfl⟩, hI7, hE8⟩
  · refine sx_RP.cu (as := [.ref 1, .int (nI x3)]) (rest2 := []) (st3 := [.int 1]) rfl rfl (sx_inv_v2 (mi := 26) (k := 120) (st := [.int (nI x3), .ref 1]) (w := w) rfl rfl (hI.1.oC (Or.inl rfl)) rfl rfl rfl) rfl rfl (c2) rfl ?_
    refine sx_RP.step (pc2 := 18) (ls2 := [(0, .ref 0), (1, .int (nI x3)), (2, .int a2)]) (st2 := []) (w3 := w) rfl rfl ?_
    refine sx_RP.step (pc2 := 19) (ls2 := [(0, .ref 0), (1, .int (nI x3)), (2, .int a2)]) (st2 := [.ref 0]) (w3 := w) rfl rfl ?_
    refine sx_RP.gf (v := .ref 1) rfl rfl hI.1.o0 rfl rfl (show _ = 22 from rfl) ?_
    refine sx_RP.gref (k := 2) (b := 3) hI (Or.inl rfl) rfl rfl (by omega) (show _ = 25 from rfl) ?_
    refine sx_RP.step (pc2 := 26) (ls2 := [(0, .ref 0), (1, .int (nI x3)), (2, .int a2)]) (st2 := [.int (nI x3), .ref 3]) (w3 := w) rfl rfl ?_
    refine sx_RP.ald (v := .ref (1 + 4 + x3)) rfl (hI.1.aG (Or.inl rfl)) rfl (grA_at (show x3 < 10 by omega)) (show _ = 27 from rfl) ?_
    refine sx_RP.step (pc2 := 28) (ls2 := [(3, .ref (1 + 4 + x3)), (0, .ref 0), (1, .int (nI x3)), (2, .int a2)]) (st2 := []) (w3 := w) rfl rfl ?_
    refine sx_RP.step (pc2 := 29) (ls2 := [(3, .ref (1 + 4 + x3)), (0, .ref 0), (1, .int (nI x3)), (2, .int a2)]) (st2 := [.int a2]) (w3 := w) rfl rfl ?_
    rcases sw_cases (n := 5) (a2) with q10 | ⟨x11, hx12, ex13⟩
    · refine sx_RP.swo (t := 106) rfl q10 rfl ?_
      refine sx_RP.step (pc2 := 107) (ls2 := [(3, .ref (1 + 4 + x3)), (0, .ref 0), (1, .int (nI x3)), (2, .int a2)]) (st2 := [.ref 0]) (w3 := w) rfl rfl ?_
      refine sx_RP.step (pc2 := 109) (ls2 := [(3, .ref (1 + 4 + x3)), (0, .ref 0), (1, .int (nI x3)), (2, .int a2)]) (st2 := [.int (-1000000001), .ref 0]) (w3 := w) rfl rfl ?_
      refine sx_RP.callp (as2 := [.ref 0, .int (-1000000001)]) (rest2 := []) rfl rfl (sx_inv_v2 (mi := 26) (k := 78) (st := [.int (-1000000001), .ref 0]) (w := w) rfl rfl hI.1.o0 rfl rfl rfl) rfl rfl rfl (s9_0 hI) (show _ = 112 from rfl) ?_
      rintro r4 w14 ⟨rfl, hI15, hE17⟩
      have hE16 := hE.tr hE17
      show sx_RP _ _ _ _ _ [.int (-1000000001)] _ _
      refine sx_RP.ret (r := (some (.int (-1000000001)))) rfl rfl ?_
      exact ⟨⟨_, rfl⟩, hI15, hE16⟩
    · rw [ex13]
      rcases (show x11 = 0 ∨ x11 = 1 ∨ x11 = 2 ∨ x11 = 3 ∨ x11 = 4 ∨ x11 = 5 by omega) with rfl | rfl | rfl | rfl | rfl | rfl
      · refine sx_RP.step (pc2 := 68) (ls2 := [(3, .ref (1 + 4 + x3)), (0, .ref 0), (1, .int (nI x3)), (2, .int (nI 0))]) (st2 := []) (w3 := w) rfl rfl ?_
        refine sx_RP.step (pc2 := 69) (ls2 := [(3, .ref (1 + 4 + x3)), (0, .ref 0), (1, .int (nI x3)), (2, .int (nI 0))]) (st2 := [.ref (1 + 4 + x3)]) (w3 := w) rfl rfl ?_
        refine sx_RP.gg (k := 0) hI (gAd.of (Or.inl rfl) (show x3 < 10 by omega)) rfl rfl (by decide) (show _ = 72 from rfl) ?_
        obtain ⟨x18, hx19, ex20⟩ : inR (fi w (1 + 4 + x3) 0) 5 := hI.gk (k := 0) (gAd.of (Or.inl rfl) (show x3 < 10 by omega)) (by decide)
        rw [ex20]
        refine sx_RP.ret (r := (some (.int (nI x18)))) rfl rfl ?_
        exact ⟨⟨_, rfl⟩, hI, hE⟩
      · refine sx_RP.step (pc2 := 73) (ls2 := [(3, .ref (1 + 4 + x3)), (0, .ref 0), (1, .int (nI x3)), (2, .int (nI 1))]) (st2 := []) (w3 := w) rfl rfl ?_
        refine sx_RP.step (pc2 := 74) (ls2 := [(3, .ref (1 + 4 + x3)), (0, .ref 0), (1, .int (nI x3)), (2, .int (nI 1))]) (st2 := [.ref (1 + 4 + x3)]) (w3 := w) rfl rfl ?_
        refine sx_RP.gg (k := 1) hI (gAd.of (Or.inl rfl) (show x3 < 10 by omega)) rfl rfl (by decide) (show _ = 77 from rfl) ?_
        obtain ⟨x21, hx22, ex23⟩ : inR (fi w (1 + 4 + x3) 1) 1 := hI.gk (k := 1) (gAd.of (Or.inl rfl) (show x3 < 10 by omega)) (by decide)
        rw [ex23]
        refine sx_RP.ret (r := (some (.int (nI x21)))) rfl rfl ?_
        exact ⟨⟨_, rfl⟩, hI, hE⟩
      · refine sx_RP.step (pc2 := 78) (ls2 := [(3, .ref (1 + 4 + x3)), (0, .ref 0), (1, .int (nI x3)), (2, .int (nI 2))]) (st2 := []) (w3 := w) rfl rfl ?_
        refine sx_RP.step (pc2 := 79) (ls2 := [(3, .ref (1 + 4 + x3)), (0, .ref 0), (1, .int (nI x3)), (2, .int (nI 2))]) (st2 := [.ref (1 + 4 + x3)]) (w3 := w) rfl rfl ?_
        refine sx_RP.gg (k := 2) hI (gAd.of (Or.inl rfl) (show x3 < 10 by omega)) rfl rfl (by decide) (show _ = 82 from rfl) ?_
        obtain ⟨x24, hx25, ex26⟩ : inR (fi w (1 + 4 + x3) 2) 47 := hI.gk (k := 2) (gAd.of (Or.inl rfl) (show x3 < 10 by omega)) (by decide)
        rw [ex26]
        refine sx_RP.ret (r := (some (.int (nI x24)))) rfl rfl ?_
        exact ⟨⟨_, rfl⟩, hI, hE⟩
      · refine sx_RP.step (pc2 := 83) (ls2 := [(3, .ref (1 + 4 + x3)), (0, .ref 0), (1, .int (nI x3)), (2, .int (nI 3))]) (st2 := []) (w3 := w) rfl rfl ?_
        refine sx_RP.step (pc2 := 84) (ls2 := [(3, .ref (1 + 4 + x3)), (0, .ref 0), (1, .int (nI x3)), (2, .int (nI 3))]) (st2 := [.ref (1 + 4 + x3)]) (w3 := w) rfl rfl ?_
        refine sx_RP.gg (k := 3) hI (gAd.of (Or.inl rfl) (show x3 < 10 by omega)) rfl rfl (by decide) (show _ = 87 from rfl) ?_
        obtain ⟨x27, hx28, ex29⟩ : inR (fi w (1 + 4 + x3) 3) 3 := hI.gk (k := 3) (gAd.of (Or.inl rfl) (show x3 < 10 by omega)) (by decide)
        rw [ex29]
        refine sx_RP.ret (r := (some (.int (nI x27)))) rfl rfl ?_
        exact ⟨⟨_, rfl⟩, hI, hE⟩
      · refine sx_RP.step (pc2 := 88) (ls2 := [(3, .ref (1 + 4 + x3)), (0, .ref 0), (1, .int (nI x3)), (2, .int (nI 4))]) (st2 := []) (w3 := w) rfl rfl ?_
        refine sx_RP.step (pc2 := 89) (ls2 := [(3, .ref (1 + 4 + x3)), (0, .ref 0), (1, .int (nI x3)), (2, .int (nI 4))]) (st2 := [.ref (1 + 4 + x3)]) (w3 := w) rfl rfl ?_
        refine sx_RP.gg (k := 4) hI (gAd.of (Or.inl rfl) (show x3 < 10 by omega)) rfl rfl (by decide) (show _ = 92 from rfl) ?_
        refine sx_RP.ret (r := (some (.int (fi w (1 + 4 + x3) 4)))) rfl rfl ?_
        exact ⟨⟨_, rfl⟩, hI, hE⟩
      · refine sx_RP.step (pc2 := 93) (ls2 := [(3, .ref (1 + 4 + x3)), (0, .ref 0), (1, .int (nI x3)), (2, .int (nI 5))]) (st2 := []) (w3 := w) rfl rfl ?_
        refine sx_RP.step (pc2 := 94) (ls2 := [(3, .ref (1 + 4 + x3)), (0, .ref 0), (1, .int (nI x3)), (2, .int (nI 5))]) (st2 := [.ref (1 + 4 + x3)]) (w3 := w) rfl rfl ?_
        refine sx_RP.gg (k := 5) hI (gAd.of (Or.inl rfl) (show x3 < 10 by omega)) rfl rfl (by decide) (show _ = 97 from rfl) ?_
        obtain ⟨x30, hx31, ex32⟩ : inR (fi w (1 + 4 + x3) 5) 1 := hI.gk (k := 5) (gAd.of (Or.inl rfl) (show x3 < 10 by omega)) (by decide)
        rw [ex32]
        refine sx_RP.br (p1 := 104) (l1 := [(3, .ref (1 + 4 + x3)), (0, .ref 0), (1, .int (nI x3)), (2, .int (nI 5))]) (s1 := []) (v1 := w) (p2 := 100) (l2 := [(3, .ref (1 + 4 + x3)), (0, .ref 0), (1, .int (nI x3)), (2, .int (nI 5))]) (s2 := []) (v2 := w) rfl rfl (fun q33 => ?_) (fun q33 => ?_)
        · replace q33 := of_decide_eq_true q33
          replace q33 := (nI_eq (a := x30) (b := 0) (by omega) (by omega)).mp q33
          refine sx_RP.step (pc2 := 105) (ls2 := [(3, .ref (1 + 4 + x3)), (0, .ref 0), (1, .int (nI x3)), (2, .int (nI 5))]) (st2 := [.int 0]) (w3 := w) rfl rfl ?_
          refine sx_RP.ret (r := (some (.int 0))) rfl rfl ?_
          exact ⟨⟨_, rfl⟩, hI, hE⟩
        · replace q33 := of_decide_eq_false q33
          replace q33 := mt (nI_eq (a := x30) (b := 0) (by omega) (by omega)).mpr q33
          refine sx_RP.step (pc2 := 101) (ls2 := [(3, .ref (1 + 4 + x3)), (0, .ref 0), (1, .int (nI x3)), (2, .int (nI 5))]) (st2 := [.int 1]) (w3 := w) rfl rfl ?_
          refine sx_RP.step (pc2 := 105) (ls2 := [(3, .ref (1 + 4 + x3)), (0, .ref 0), (1, .int (nI x3)), (2, .int (nI 5))]) (st2 := [.int 1]) (w3 := w) rfl rfl ?_
          refine sx_RP.ret (r := (some (.int 1))) rfl rfl ?_
          exact ⟨⟨_, rfl⟩, hI, hE⟩
set_option maxRecDepth 20000 in
set_option maxHeartbeats 4000000 in
theorem s28 {xs : Option (List Int32)} {d : Nat} {w : List sx_C} (hI : WI w) (a1 a2 : Int32) : sx_RP xs (d + 7) 28 0 (lv_args 0 [.ref 0, .int a1, .int a2]) [] w (fun r w2 => (∃ v : Int32, r = some (.int v)) ∧ WI w2 ∧ EC w w2) := by
  have hE : EC w w := EC.rf
  refine sx_RP.step (pc2 := 1) (ls2 := [(0, .ref 0), (1, .int a1), (2, .int a2)]) (st2 := [.ref 0]) (w3 := w) rfl rfl ?_
  refine sx_RP.gf (v := .ref 1) rfl rfl hI.1.o0 rfl rfl (show _ = 4 from rfl) ?_
  refine sx_RP.step (pc2 := 5) (ls2 := [(0, .ref 0), (1, .int a1), (2, .int a2)]) (st2 := [.int a1, .ref 1]) (w3 := w) rfl rfl ?_
  rcases p27 (xs := xs) hI (Or.inl rfl) a1 with c2 | ⟨⟨x3, hx4, rfl⟩, c2⟩
  · refine sx_RP.cu (as := [.ref 1, .int a1]) (rest2 := []) (st3 := [.int 0]) rfl rfl (sx_inv_v2 (mi := 28) (k := 120) (st := [.int a1, .ref 1]) (w := w) rfl rfl (hI.1.oC (Or.inl rfl)) rfl rfl rfl) rfl rfl (c2) rfl ?_
    refine sx_RP.step (pc2 := 18) (ls2 := [(0, .ref 0), (1, .int a1), (2, .int a2)]) (st2 := []) (w3 := w) rfl rfl ?_
    refine sx_RP.step (pc2 := 19) (ls2 := [(0, .ref 0), (1, .int a1), (2, .int a2)]) (st2 := [.ref 0]) (w3 := w) rfl rfl ?_
    refine sx_RP.step (pc2 := 21) (ls2 := [(0, .ref 0), (1, .int a1), (2, .int a2)]) (st2 := [.int (-1000000001), .ref 0]) (w3 := w) rfl rfl ?_
    refine sx_RP.callp (as2 := [.ref 0, .int (-1000000001)]) (rest2 := []) rfl rfl (sx_inv_v2 (mi := 28) (k := 78) (st := [.int (-1000000001), .ref 0]) (w := w) rfl rfl hI.1.o0 rfl rfl rfl) rfl rfl rfl (s9_0 hI) (show _ = 24 from rfl) ?_
    rintro r4 w6 ⟨rfl, hI7, hE9⟩
    have hE8 := hE.tr hE9
    show sx_RP _ _ _ _ _ [.int (-1000000001)] _ _
    refine sx_RP.ret (r := (some (.int (-1000000001)))) rfl rfl ?_
    exact ⟨⟨_, rfl⟩, hI7, hE8⟩
  · refine sx_RP.cu (as := [.ref 1, .int (nI x3)]) (rest2 := []) (st3 := [.int 1]) rfl rfl (sx_inv_v2 (mi := 28) (k := 120) (st := [.int (nI x3), .ref 1]) (w := w) rfl rfl (hI.1.oC (Or.inl rfl)) rfl rfl rfl) rfl rfl (c2) rfl ?_
    refine sx_RP.step (pc2 := 11) (ls2 := [(0, .ref 0), (1, .int (nI x3)), (2, .int a2)]) (st2 := []) (w3 := w) rfl rfl ?_
    refine sx_RP.step (pc2 := 12) (ls2 := [(0, .ref 0), (1, .int (nI x3)), (2, .int a2)]) (st2 := [.int a2]) (w3 := w) rfl rfl ?_
    rcases in_cases a2 0 3 (m := 0) (n := 3) rfl rfl (by decide) (by decide) with q10 | ⟨x11, hx12, hx13, rfl⟩
    · refine sx_RP.cu (as := [.int a2]) (rest2 := []) (st3 := [.int 0]) rfl rfl rfl rfl rfl (cx_23n q10) rfl ?_
      refine sx_RP.step (pc2 := 18) (ls2 := [(0, .ref 0), (1, .int (nI x3)), (2, .int a2)]) (st2 := []) (w3 := w) rfl rfl ?_
      refine sx_RP.step (pc2 := 19) (ls2 := [(0, .ref 0), (1, .int (nI x3)), (2, .int a2)]) (st2 := [.ref 0]) (w3 := w) rfl rfl ?_
      refine sx_RP.step (pc2 := 21) (ls2 := [(0, .ref 0), (1, .int (nI x3)), (2, .int a2)]) (st2 := [.int (-1000000001), .ref 0]) (w3 := w) rfl rfl ?_
      refine sx_RP.callp (as2 := [.ref 0, .int (-1000000001)]) (rest2 := []) rfl rfl (sx_inv_v2 (mi := 28) (k := 78) (st := [.int (-1000000001), .ref 0]) (w := w) rfl rfl hI.1.o0 rfl rfl rfl) rfl rfl rfl (s9_0 hI) (show _ = 24 from rfl) ?_
      rintro r4 w15 ⟨rfl, hI16, hE18⟩
      have hE17 := hE.tr hE18
      show sx_RP _ _ _ _ _ [.int (-1000000001)] _ _
      refine sx_RP.ret (r := (some (.int (-1000000001)))) rfl rfl ?_
      exact ⟨⟨_, rfl⟩, hI16, hE17⟩
    · refine sx_RP.cu (as := [.int (nI x11)]) (rest2 := []) (st3 := [.int 1]) rfl rfl rfl rfl rfl (cx_23p ⟨nI_le (a := 0) hx12 (by omega), nI_le (b := 3) hx13 (by decide)⟩) rfl ?_
      refine sx_RP.step (pc2 := 25) (ls2 := [(0, .ref 0), (1, .int (nI x3)), (2, .int (nI x11))]) (st2 := []) (w3 := w) rfl rfl ?_
      refine sx_RP.step (pc2 := 26) (ls2 := [(0, .ref 0), (1, .int (nI x3)), (2, .int (nI x11))]) (st2 := [.ref 0]) (w3 := w) rfl rfl ?_
      refine sx_RP.gf (v := .ref 1) rfl rfl hI.1.o0 rfl rfl (show _ = 29 from rfl) ?_
      refine sx_RP.gref (k := 2) (b := 3) hI (Or.inl rfl) rfl rfl (by omega) (show _ = 32 from rfl) ?_
      refine sx_RP.step (pc2 := 33) (ls2 := [(0, .ref 0), (1, .int (nI x3)), (2, .int (nI x11))]) (st2 := [.int (nI x3), .ref 3]) (w3 := w) rfl rfl ?_
      refine sx_RP.ald (v := .ref (1 + 4 + x3)) rfl (hI.1.aG (Or.inl rfl)) rfl (grA_at (show x3 < 10 by omega)) (show _ = 34 from rfl) ?_
      refine sx_RP.step (pc2 := 35) (ls2 := [(3, .ref (1 + 4 + x3)), (0, .ref 0), (1, .int (nI x3)), (2, .int (nI x11))]) (st2 := []) (w3 := w) rfl rfl ?_
      refine sx_RP.step (pc2 := 36) (ls2 := [(3, .ref (1 + 4 + x3)), (0, .ref 0), (1, .int (nI x3)), (2, .int (nI x11))]) (st2 := [.ref (1 + 4 + x3)]) (w3 := w) rfl rfl ?_
      refine sx_RP.gg (k := 5) hI (gAd.of (Or.inl rfl) (show x3 < 10 by omega)) rfl rfl (by decide) (show _ = 39 from rfl) ?_
      obtain ⟨x19, hx20, ex21⟩ : inR (fi w (1 + 4 + x3) 5) 1 := hI.gk (k := 5) (gAd.of (Or.inl rfl) (show x3 < 10 by omega)) (by decide)
      rw [ex21]
      refine sx_RP.br (p1 := 49) (l1 := [(3, .ref (1 + 4 + x3)), (0, .ref 0), (1, .int (nI x3)), (2, .int (nI x11))]) (s1 := []) (v1 := w) (p2 := 42) (l2 := [(3, .ref (1 + 4 + x3)), (0, .ref 0), (1, .int (nI x3)), (2, .int (nI x11))]) (s2 := []) (v2 := w) rfl rfl (fun q22 => ?_) (fun q22 => ?_)
      · replace q22 := of_decide_eq_true q22
        replace q22 := (nI_eq (a := x19) (b := 0) (by omega) (by omega)).mp q22
        refine sx_RP.step (pc2 := 50) (ls2 := [(3, .ref (1 + 4 + x3)), (0, .ref 0), (1, .int (nI x3)), (2, .int (nI x11))]) (st2 := [.ref (1 + 4 + x3)]) (w3 := w) rfl rfl ?_
        refine sx_RP.gg (k := 3) hI (gAd.of (Or.inl rfl) (show x3 < 10 by omega)) rfl rfl (by decide) (show _ = 53 from rfl) ?_
        obtain ⟨x23, hx24, ex25⟩ : inR (fi w (1 + 4 + x3) 3) 3 := hI.gk (k := 3) (gAd.of (Or.inl rfl) (show x3 < 10 by omega)) (by decide)
        rw [ex25]
        refine sx_RP.step (pc2 := 55) (ls2 := [(4, .int (nI x23)), (3, .ref (1 + 4 + x3)), (0, .ref 0), (1, .int (nI x3)), (2, .int (nI x11))]) (st2 := []) (w3 := w) rfl rfl ?_
        refine sx_RP.step (pc2 := 57) (ls2 := [(4, .int (nI x23)), (3, .ref (1 + 4 + x3)), (0, .ref 0), (1, .int (nI x3)), (2, .int (nI x11))]) (st2 := [.int (nI x23)]) (w3 := w) rfl rfl ?_
        refine sx_RP.step (pc2 := 58) (ls2 := [(4, .int (nI x23)), (3, .ref (1 + 4 + x3)), (0, .ref 0), (1, .int (nI x3)), (2, .int (nI x11))]) (st2 := [.int (nI x11), .int (nI x23)]) (w3 := w) rfl rfl ?_
        refine sx_RP.br (p1 := 71) (l1 := [(4, .int (nI x23)), (3, .ref (1 + 4 + x3)), (0, .ref 0), (1, .int (nI x3)), (2, .int (nI x11))]) (s1 := []) (v1 := w) (p2 := 61) (l2 := [(4, .int (nI x23)), (3, .ref (1 + 4 + x3)), (0, .ref 0), (1, .int (nI x3)), (2, .int (nI x11))]) (s2 := []) (v2 := w) rfl rfl (fun q26 => ?_) (fun q26 => ?_)
        · replace q26 := of_decide_eq_true q26
          replace q26 := (nI_eq (a := x23) (b := x11) (by omega) (by omega)).mp q26
          refine sx_RP.step (pc2 := 73) (ls2 := [(4, .int (nI x23)), (3, .ref (1 + 4 + x3)), (0, .ref 0), (1, .int (nI x3)), (2, .int (nI x11))]) (st2 := [.int (nI x23)]) (w3 := w) rfl rfl ?_
          refine sx_RP.ret (r := (some (.int (nI x23)))) rfl rfl ?_
          exact ⟨⟨_, rfl⟩, hI, hE⟩
        · replace q26 := of_decide_eq_false q26
          replace q26 := mt (nI_eq (a := x23) (b := x11) (by omega) (by omega)).mpr q26
          refine sx_RP.step (pc2 := 62) (ls2 := [(4, .int (nI x23)), (3, .ref (1 + 4 + x3)), (0, .ref 0), (1, .int (nI x3)), (2, .int (nI x11))]) (st2 := [.ref (1 + 4 + x3)]) (w3 := w) rfl rfl ?_
          refine sx_RP.step (pc2 := 63) (ls2 := [(4, .int (nI x23)), (3, .ref (1 + 4 + x3)), (0, .ref 0), (1, .int (nI x3)), (2, .int (nI x11))]) (st2 := [.int (nI x11), .ref (1 + 4 + x3)]) (w3 := w) rfl rfl ?_
          refine sx_RP.pg (k := 3) hI hE (gAd.of (Or.inl rfl) (show x3 < 10 by omega)) rfl rfl (by decide) rfl (inR.n (show x11 ≤ 3 by omega)) (show _ = 66 from rfl) (fun w27 hI28 hE29 hk30 => ?_)
          refine sx_RP.step (pc2 := 67) (ls2 := [(4, .int (nI x23)), (3, .ref (1 + 4 + x3)), (0, .ref 0), (1, .int (nI x3)), (2, .int (nI x11))]) (st2 := [.ref (1 + 4 + x3)]) (w3 := w27) rfl rfl ?_
          refine sx_RP.step (pc2 := 68) (ls2 := [(4, .int (nI x23)), (3, .ref (1 + 4 + x3)), (0, .ref 0), (1, .int (nI x3)), (2, .int (nI x11))]) (st2 := [.int 0, .ref (1 + 4 + x3)]) (w3 := w27) rfl rfl ?_
          refine sx_RP.pg (k := 4) hI28 hE29 (gAd.of (Or.inl rfl) (show x3 < 10 by omega)) rfl rfl (by decide) rfl trivial (show _ = 71 from rfl) (fun w31 hI32 hE33 hk34 => ?_)
          refine sx_RP.step (pc2 := 73) (ls2 := [(4, .int (nI x23)), (3, .ref (1 + 4 + x3)), (0, .ref 0), (1, .int (nI x3)), (2, .int (nI x11))]) (st2 := [.int (nI x23)]) (w3 := w31) rfl rfl ?_
          refine sx_RP.ret (r := (some (.int (nI x23)))) rfl rfl ?_
          exact ⟨⟨_, rfl⟩, hI32, hE33⟩
      · replace q22 := of_decide_eq_false q22
        replace q22 := mt (nI_eq (a := x19) (b := 0) (by omega) (by omega)).mpr q22
        refine sx_RP.step (pc2 := 43) (ls2 := [(3, .ref (1 + 4 + x3)), (0, .ref 0), (1, .int (nI x3)), (2, .int (nI x11))]) (st2 := [.ref 0]) (w3 := w) rfl rfl ?_
        refine sx_RP.step (pc2 := 45) (ls2 := [(3, .ref (1 + 4 + x3)), (0, .ref 0), (1, .int (nI x3)), (2, .int (nI x11))]) (st2 := [.int (-1000000005), .ref 0]) (w3 := w) rfl rfl ?_
        refine sx_RP.callp (as2 := [.ref 0, .int (-1000000005)]) (rest2 := []) rfl rfl (sx_inv_v2 (mi := 28) (k := 78) (st := [.int (-1000000005), .ref 0]) (w := w) rfl rfl hI.1.o0 rfl rfl rfl) rfl rfl rfl (s9_4 hI) (show _ = 48 from rfl) ?_
        rintro r4 w35 ⟨rfl, hI36, hE38⟩
        have hE37 := hE.tr hE38
        show sx_RP _ _ _ _ _ [.int (-1000000005)] _ _
        refine sx_RP.ret (r := (some (.int (-1000000005)))) rfl rfl ?_
        exact ⟨⟨_, rfl⟩, hI36, hE37⟩
set_option maxRecDepth 20000 in
set_option maxHeartbeats 4000000 in
theorem s29 {xs : Option (List Int32)} {d : Nat} {w : List sx_C} (hI : WI w) (a1 a2 : Int32) : sx_RP xs (d + 7) 29 0 (lv_args 0 [.ref 0, .int a1, .int a2]) [] w (fun r w2 => (∃ v : Int32, r = some (.int v)) ∧ WI w2 ∧ EC w w2) := by
  have hE : EC w w := EC.rf
  refine sx_RP.step (pc2 := 1) (ls2 := [(0, .ref 0), (1, .int a1), (2, .int a2)]) (st2 := [.ref 0]) (w3 := w) rfl rfl ?_
  refine sx_RP.gf (v := .ref 1) rfl rfl hI.1.o0 rfl rfl (show _ = 4 from rfl) ?_
  refine sx_RP.step (pc2 := 5) (ls2 := [(0, .ref 0), (1, .int a1), (2, .int a2)]) (st2 := [.int a1, .ref 1]) (w3 := w) rfl rfl ?_
  rcases p27 (xs := xs) hI (Or.inl rfl) a1 with c2 | ⟨⟨x3, hx4, rfl⟩, c2⟩
  · refine sx_RP.cu (as := [.ref 1, .int a1]) (rest2 := []) (st3 := [.int 0]) rfl rfl (sx_inv_v2 (mi := 29) (k := 120) (st := [.int a1, .ref 1]) (w := w) rfl rfl (hI.1.oC (Or.inl rfl)) rfl rfl rfl) rfl rfl (c2) rfl ?_
    refine sx_RP.step (pc2 := 18) (ls2 := [(0, .ref 0), (1, .int a1), (2, .int a2)]) (st2 := []) (w3 := w) rfl rfl ?_
    refine sx_RP.step (pc2 := 19) (ls2 := [(0, .ref 0), (1, .int a1), (2, .int a2)]) (st2 := [.ref 0]) (w3 := w) rfl rfl ?_
    refine sx_RP.step (pc2 := 21) (ls2 := [(0, .ref 0), (1, .int a1), (2, .int a2)]) (st2 := [.int (-1000000001), .ref 0]) (w3 := w) rfl rfl ?_
    refine sx_RP.callp (as2 := [.ref 0, .int (-1000000001)]) (rest2 := []) rfl rfl (sx_inv_v2 (mi := 29) (k := 78) (st := [.int (-1000000001), .ref 0]) (w := w) rfl rfl hI.1.o0 rfl rfl rfl) rfl rfl rfl (s9_0 hI) (show _ = 24 from rfl) ?_
    rintro r4 w6 ⟨rfl, hI7, hE9⟩
    have hE8 := hE.tr hE9
    show sx_RP _ _ _ _ _ [.int (-1000000001)] _ _
    refine sx_RP.ret (r := (some (.int (-1000000001)))) rfl rfl ?_
    exact ⟨⟨_, rfl⟩, hI7, hE8⟩
  · refine sx_RP.cu (as := [.ref 1, .int (nI x3)]) (rest2 := []) (st3 := [.int 1]) rfl rfl (sx_inv_v2 (mi := 29) (k := 120) (st := [.int (nI x3), .ref 1]) (w := w) rfl rfl (hI.1.oC (Or.inl rfl)) rfl rfl rfl) rfl rfl (c2) rfl ?_
    refine sx_RP.step (pc2 := 11) (ls2 := [(0, .ref 0), (1, .int (nI x3)), (2, .int a2)]) (st2 := []) (w3 := w) rfl rfl ?_
    refine sx_RP.step (pc2 := 12) (ls2 := [(0, .ref 0), (1, .int (nI x3)), (2, .int a2)]) (st2 := [.int a2]) (w3 := w) rfl rfl ?_
    rcases in_cases a2 0 5 (m := 0) (n := 5) rfl rfl (by decide) (by decide) with q10 | ⟨x11, hx12, hx13, rfl⟩
    · refine sx_RP.cu (as := [.int a2]) (rest2 := []) (st3 := [.int 0]) rfl rfl rfl rfl rfl (cx_22n q10) rfl ?_
      refine sx_RP.step (pc2 := 18) (ls2 := [(0, .ref 0), (1, .int (nI x3)), (2, .int a2)]) (st2 := []) (w3 := w) rfl rfl ?_
      refine sx_RP.step (pc2 := 19) (ls2 := [(0, .ref 0), (1, .int (nI x3)), (2, .int a2)]) (st2 := [.ref 0]) (w3 := w) rfl rfl ?_
      refine sx_RP.step (pc2 := 21) (ls2 := [(0, .ref 0), (1, .int (nI x3)), (2, .int a2)]) (st2 := [.int (-1000000001), .ref 0]) (w3 := w) rfl rfl ?_
      refine sx_RP.callp (as2 := [.ref 0, .int (-1000000001)]) (rest2 := []) rfl rfl (sx_inv_v2 (mi := 29) (k := 78) (st := [.int (-1000000001), .ref 0]) (w := w) rfl rfl hI.1.o0 rfl rfl rfl) rfl rfl rfl (s9_0 hI) (show _ = 24 from rfl) ?_
      rintro r4 w15 ⟨rfl, hI16, hE18⟩
      have hE17 := hE.tr hE18
      show sx_RP _ _ _ _ _ [.int (-1000000001)] _ _
      refine sx_RP.ret (r := (some (.int (-1000000001)))) rfl rfl ?_
      exact ⟨⟨_, rfl⟩, hI16, hE17⟩
    · refine sx_RP.cu (as := [.int (nI x11)]) (rest2 := []) (st3 := [.int 1]) rfl rfl rfl rfl rfl (cx_22p ⟨nI_le (a := 0) hx12 (by omega), nI_le (b := 5) hx13 (by decide)⟩) rfl ?_
      refine sx_RP.step (pc2 := 25) (ls2 := [(0, .ref 0), (1, .int (nI x3)), (2, .int (nI x11))]) (st2 := []) (w3 := w) rfl rfl ?_
      refine sx_RP.step (pc2 := 26) (ls2 := [(0, .ref 0), (1, .int (nI x3)), (2, .int (nI x11))]) (st2 := [.ref 0]) (w3 := w) rfl rfl ?_
      refine sx_RP.gf (v := .ref 1) rfl rfl hI.1.o0 rfl rfl (show _ = 29 from rfl) ?_
      refine sx_RP.gref (k := 2) (b := 3) hI (Or.inl rfl) rfl rfl (by omega) (show _ = 32 from rfl) ?_
      refine sx_RP.step (pc2 := 33) (ls2 := [(0, .ref 0), (1, .int (nI x3)), (2, .int (nI x11))]) (st2 := [.int (nI x3), .ref 3]) (w3 := w) rfl rfl ?_
      refine sx_RP.ald (v := .ref (1 + 4 + x3)) rfl (hI.1.aG (Or.inl rfl)) rfl (grA_at (show x3 < 10 by omega)) (show _ = 34 from rfl) ?_
      refine sx_RP.step (pc2 := 35) (ls2 := [(3, .ref (1 + 4 + x3)), (0, .ref 0), (1, .int (nI x3)), (2, .int (nI x11))]) (st2 := []) (w3 := w) rfl rfl ?_
      refine sx_RP.step (pc2 := 36) (ls2 := [(3, .ref (1 + 4 + x3)), (0, .ref 0), (1, .int (nI x3)), (2, .int (nI x11))]) (st2 := [.ref (1 + 4 + x3)]) (w3 := w) rfl rfl ?_
      refine sx_RP.gg (k := 0) hI (gAd.of (Or.inl rfl) (show x3 < 10 by omega)) rfl rfl (by decide) (show _ = 39 from rfl) ?_
      obtain ⟨x19, hx20, ex21⟩ : inR (fi w (1 + 4 + x3) 0) 5 := hI.gk (k := 0) (gAd.of (Or.inl rfl) (show x3 < 10 by omega)) (by decide)
      rw [ex21]
      refine sx_RP.step (pc2 := 41) (ls2 := [(4, .int (nI x19)), (3, .ref (1 + 4 + x3)), (0, .ref 0), (1, .int (nI x3)), (2, .int (nI x11))]) (st2 := []) (w3 := w) rfl rfl ?_
      refine sx_RP.step (pc2 := 42) (ls2 := [(4, .int (nI x19)), (3, .ref (1 + 4 + x3)), (0, .ref 0), (1, .int (nI x3)), (2, .int (nI x11))]) (st2 := [.ref (1 + 4 + x3)]) (w3 := w) rfl rfl ?_
      refine sx_RP.step (pc2 := 43) (ls2 := [(4, .int (nI x19)), (3, .ref (1 + 4 + x3)), (0, .ref 0), (1, .int (nI x3)), (2, .int (nI x11))]) (st2 := [.int (nI x11), .ref (1 + 4 + x3)]) (w3 := w) rfl rfl ?_
      refine sx_RP.pg (k := 0) hI hE (gAd.of (Or.inl rfl) (show x3 < 10 by omega)) rfl rfl (by decide) rfl (inR.n (show x11 ≤ 5 by omega)) (show _ = 46 from rfl) (fun w22 hI23 hE24 hk25 => ?_)
      refine sx_RP.step (pc2 := 48) (ls2 := [(4, .int (nI x19)), (3, .ref (1 + 4 + x3)), (0, .ref 0), (1, .int (nI x3)), (2, .int (nI x11))]) (st2 := [.int (nI x19)]) (w3 := w22) rfl rfl ?_
      refine sx_RP.ret (r := (some (.int (nI x19)))) rfl rfl ?_
      exact ⟨⟨_, rfl⟩, hI23, hE24⟩
set_option maxRecDepth 20000 in
set_option maxHeartbeats 4000000 in
theorem s30 {xs : Option (List Int32)} {d : Nat} {w : List sx_C} (hI : WI w) (a1 a2 : Int32) : sx_RP xs (d + 7) 30 0 (lv_args 0 [.ref 0, .int a1, .int a2]) [] w (fun r w2 => (∃ v : Int32, r = some (.int v)) ∧ WI w2 ∧ EC w w2) := by
  have hE : EC w w := EC.rf
  refine sx_RP.step (pc2 := 1) (ls2 := [(0, .ref 0), (1, .int a1), (2, .int a2)]) (st2 := [.ref 0]) (w3 := w) rfl rfl ?_
  refine sx_RP.gf (v := .ref 1) rfl rfl hI.1.o0 rfl rfl (show _ = 4 from rfl) ?_
  refine sx_RP.step (pc2 := 5) (ls2 := [(0, .ref 0), (1, .int a1), (2, .int a2)]) (st2 := [.int a1, .ref 1]) (w3 := w) rfl rfl ?_
  rcases p27 (xs := xs) hI (Or.inl rfl) a1 with c2 | ⟨⟨x3, hx4, rfl⟩, c2⟩
  · refine sx_RP.cu (as := [.ref 1, .int a1]) (rest2 := []) (st3 := [.int 0]) rfl rfl (sx_inv_v2 (mi := 30) (k := 120) (st := [.int a1, .ref 1]) (w := w) rfl rfl (hI.1.oC (Or.inl rfl)) rfl rfl rfl) rfl rfl (c2) rfl ?_
    refine sx_RP.step (pc2 := 18) (ls2 := [(0, .ref 0), (1, .int a1), (2, .int a2)]) (st2 := []) (w3 := w) rfl rfl ?_
    refine sx_RP.step (pc2 := 19) (ls2 := [(0, .ref 0), (1, .int a1), (2, .int a2)]) (st2 := [.ref 0]) (w3 := w) rfl rfl ?_
    refine sx_RP.step (pc2 := 21) (ls2 := [(0, .ref 0), (1, .int a1), (2, .int a2)]) (st2 := [.int (-1000000001), .ref 0]) (w3 := w) rfl rfl ?_
    refine sx_RP.callp (as2 := [.ref 0, .int (-1000000001)]) (rest2 := []) rfl rfl (sx_inv_v2 (mi := 30) (k := 78) (st := [.int (-1000000001), .ref 0]) (w := w) rfl rfl hI.1.o0 rfl rfl rfl) rfl rfl rfl (s9_0 hI) (show _ = 24 from rfl) ?_
    rintro r4 w6 ⟨rfl, hI7, hE9⟩
    have hE8 := hE.tr hE9
    show sx_RP _ _ _ _ _ [.int (-1000000001)] _ _
    refine sx_RP.ret (r := (some (.int (-1000000001)))) rfl rfl ?_
    exact ⟨⟨_, rfl⟩, hI7, hE8⟩
  · refine sx_RP.cu (as := [.ref 1, .int (nI x3)]) (rest2 := []) (st3 := [.int 1]) rfl rfl (sx_inv_v2 (mi := 30) (k := 120) (st := [.int (nI x3), .ref 1]) (w := w) rfl rfl (hI.1.oC (Or.inl rfl)) rfl rfl rfl) rfl rfl (c2) rfl ?_
    refine sx_RP.step (pc2 := 11) (ls2 := [(0, .ref 0), (1, .int (nI x3)), (2, .int a2)]) (st2 := []) (w3 := w) rfl rfl ?_
    refine sx_RP.step (pc2 := 12) (ls2 := [(0, .ref 0), (1, .int (nI x3)), (2, .int a2)]) (st2 := [.int a2]) (w3 := w) rfl rfl ?_
    rcases in_cases a2 0 5 (m := 0) (n := 5) rfl rfl (by decide) (by decide) with q10 | ⟨x11, hx12, hx13, rfl⟩
    · refine sx_RP.cu (as := [.int a2]) (rest2 := []) (st3 := [.int 0]) rfl rfl rfl rfl rfl (cx_22n q10) rfl ?_
      refine sx_RP.step (pc2 := 18) (ls2 := [(0, .ref 0), (1, .int (nI x3)), (2, .int a2)]) (st2 := []) (w3 := w) rfl rfl ?_
      refine sx_RP.step (pc2 := 19) (ls2 := [(0, .ref 0), (1, .int (nI x3)), (2, .int a2)]) (st2 := [.ref 0]) (w3 := w) rfl rfl ?_
      refine sx_RP.step (pc2 := 21) (ls2 := [(0, .ref 0), (1, .int (nI x3)), (2, .int a2)]) (st2 := [.int (-1000000001), .ref 0]) (w3 := w) rfl rfl ?_
      refine sx_RP.callp (as2 := [.ref 0, .int (-1000000001)]) (rest2 := []) rfl rfl (sx_inv_v2 (mi := 30) (k := 78) (st := [.int (-1000000001), .ref 0]) (w := w) rfl rfl hI.1.o0 rfl rfl rfl) rfl rfl rfl (s9_0 hI) (show _ = 24 from rfl) ?_
      rintro r4 w15 ⟨rfl, hI16, hE18⟩
      have hE17 := hE.tr hE18
      show sx_RP _ _ _ _ _ [.int (-1000000001)] _ _
      refine sx_RP.ret (r := (some (.int (-1000000001)))) rfl rfl ?_
      exact ⟨⟨_, rfl⟩, hI16, hE17⟩
    · refine sx_RP.cu (as := [.int (nI x11)]) (rest2 := []) (st3 := [.int 1]) rfl rfl rfl rfl rfl (cx_22p ⟨nI_le (a := 0) hx12 (by omega), nI_le (b := 5) hx13 (by decide)⟩) rfl ?_
      refine sx_RP.step (pc2 := 25) (ls2 := [(0, .ref 0), (1, .int (nI x3)), (2, .int (nI x11))]) (st2 := []) (w3 := w) rfl rfl ?_
      refine sx_RP.step (pc2 := 26) (ls2 := [(0, .ref 0), (1, .int (nI x3)), (2, .int (nI x11))]) (st2 := [.ref 0]) (w3 := w) rfl rfl ?_
      refine sx_RP.gf (v := .ref 1) rfl rfl hI.1.o0 rfl rfl (show _ = 29 from rfl) ?_
      refine sx_RP.gref (k := 2) (b := 3) hI (Or.inl rfl) rfl rfl (by omega) (show _ = 32 from rfl) ?_
      refine sx_RP.step (pc2 := 33) (ls2 := [(0, .ref 0), (1, .int (nI x3)), (2, .int (nI x11))]) (st2 := [.int (nI x3), .ref 3]) (w3 := w) rfl rfl ?_
      refine sx_RP.ald (v := .ref (1 + 4 + x3)) rfl (hI.1.aG (Or.inl rfl)) rfl (grA_at (show x3 < 10 by omega)) (show _ = 34 from rfl) ?_
      refine sx_RP.step (pc2 := 35) (ls2 := [(3, .ref (1 + 4 + x3)), (0, .ref 0), (1, .int (nI x3)), (2, .int (nI x11))]) (st2 := []) (w3 := w) rfl rfl ?_
      refine sx_RP.step (pc2 := 36) (ls2 := [(3, .ref (1 + 4 + x3)), (0, .ref 0), (1, .int (nI x3)), (2, .int (nI x11))]) (st2 := [.ref (1 + 4 + x3)]) (w3 := w) rfl rfl ?_
      refine sx_RP.gg (k := 0) hI (gAd.of (Or.inl rfl) (show x3 < 10 by omega)) rfl rfl (by decide) (show _ = 39 from rfl) ?_
      obtain ⟨x19, hx20, ex21⟩ : inR (fi w (1 + 4 + x3) 0) 5 := hI.gk (k := 0) (gAd.of (Or.inl rfl) (show x3 < 10 by omega)) (by decide)
      rw [ex21]
      refine sx_RP.step (pc2 := 40) (ls2 := [(3, .ref (1 + 4 + x3)), (0, .ref 0), (1, .int (nI x3)), (2, .int (nI x11))]) (st2 := [.int (nI x11), .int (nI x19)]) (w3 := w) rfl rfl ?_
      obtain ⟨x22, hx23, c24⟩ := p31 hI (show x19 ≤ 5 by omega) (nI x11)
      refine sx_RP.cu (as := [.int (nI x19), .int (nI x11)]) (rest2 := []) (st3 := [.int (nI x22)]) rfl rfl rfl rfl rfl (c24) rfl ?_
      refine sx_RP.br (p1 := 53) (l1 := [(3, .ref (1 + 4 + x3)), (0, .ref 0), (1, .int (nI x3)), (2, .int (nI x11))]) (s1 := []) (v1 := w) (p2 := 46) (l2 := [(3, .ref (1 + 4 + x3)), (0, .ref 0), (1, .int (nI x3)), (2, .int (nI x11))]) (s2 := []) (v2 := w) rfl rfl (fun q25 => ?_) (fun q25 => ?_)
      · replace q25 := of_decide_eq_true q25
        replace q25 := mt (nI_eq (a := x22) (b := 0) (by omega) (by omega)).mpr q25
        refine sx_RP.step (pc2 := 54) (ls2 := [(3, .ref (1 + 4 + x3)), (0, .ref 0), (1, .int (nI x3)), (2, .int (nI x11))]) (st2 := [.ref (1 + 4 + x3)]) (w3 := w) rfl rfl ?_
        refine sx_RP.gg (k := 2) hI (gAd.of (Or.inl rfl) (show x3 < 10 by omega)) rfl rfl (by decide) (show _ = 57 from rfl) ?_
        obtain ⟨x26, hx27, ex28⟩ : inR (fi w (1 + 4 + x3) 2) 47 := hI.gk (k := 2) (gAd.of (Or.inl rfl) (show x3 < 10 by omega)) (by decide)
        rw [ex28]
        refine sx_RP.ret (r := (some (.int (nI x26)))) rfl rfl ?_
        exact ⟨⟨_, rfl⟩, hI, hE⟩
      · replace q25 := Decidable.not_not.mp (of_decide_eq_false q25)
        replace q25 := (nI_eq (a := x22) (b := 0) (by omega) (by omega)).mp q25
        refine sx_RP.step (pc2 := 47) (ls2 := [(3, .ref (1 + 4 + x3)), (0, .ref 0), (1, .int (nI x3)), (2, .int (nI x11))]) (st2 := [.ref 0]) (w3 := w) rfl rfl ?_
        refine sx_RP.step (pc2 := 49) (ls2 := [(3, .ref (1 + 4 + x3)), (0, .ref 0), (1, .int (nI x3)), (2, .int (nI x11))]) (st2 := [.int (-1000000003), .ref 0]) (w3 := w) rfl rfl ?_
        refine sx_RP.callp (as2 := [.ref 0, .int (-1000000003)]) (rest2 := []) rfl rfl (sx_inv_v2 (mi := 30) (k := 78) (st := [.int (-1000000003), .ref 0]) (w := w) rfl rfl hI.1.o0 rfl rfl rfl) rfl rfl rfl (s9_2 hI) (show _ = 52 from rfl) ?_
        rintro r4 w29 ⟨rfl, hI30, hE32⟩
        have hE31 := hE.tr hE32
        show sx_RP _ _ _ _ _ [.int (-1000000003)] _ _
        refine sx_RP.ret (r := (some (.int (-1000000003)))) rfl rfl ?_
        exact ⟨⟨_, rfl⟩, hI30, hE31⟩
set_option maxRecDepth 20000 in
set_option maxHeartbeats 4000000 in
theorem s32 {xs : Option (List Int32)} {d : Nat} {w : List sx_C} (hI : WI w) (a1 a2 a3 : Int32) : sx_RP xs (d + 7) 32 0 (lv_args 0 [.ref 0, .int a1, .int a2, .int a3]) [] w (fun r w2 => (∃ v : Int32, r = some (.int v)) ∧ WI w2 ∧ EC w w2) := by
  have hE : EC w w := EC.rf
  refine sx_RP.step (pc2 := 1) (ls2 := [(0, .ref 0), (1, .int a1), (2, .int a2), (3, .int a3)]) (st2 := [.ref 0]) (w3 := w) rfl rfl ?_
  refine sx_RP.gf (v := .ref 1) rfl rfl hI.1.o0 rfl rfl (show _ = 4 from rfl) ?_
  refine sx_RP.step (pc2 := 5) (ls2 := [(0, .ref 0), (1, .int a1), (2, .int a2), (3, .int a3)]) (st2 := [.int a1, .ref 1]) (w3 := w) rfl rfl ?_
  rcases p27 (xs := xs) hI (Or.inl rfl) a1 with c2 | ⟨⟨x3, hx4, rfl⟩, c2⟩
  · refine sx_RP.cu (as := [.ref 1, .int a1]) (rest2 := []) (st3 := [.int 0]) rfl rfl (sx_inv_v2 (mi := 32) (k := 120) (st := [.int a1, .ref 1]) (w := w) rfl rfl (hI.1.oC (Or.inl rfl)) rfl rfl rfl) rfl rfl (c2) rfl ?_
    refine sx_RP.step (pc2 := 18) (ls2 := [(0, .ref 0), (1, .int a1), (2, .int a2), (3, .int a3)]) (st2 := []) (w3 := w) rfl rfl ?_
    refine sx_RP.step (pc2 := 19) (ls2 := [(0, .ref 0), (1, .int a1), (2, .int a2), (3, .int a3)]) (st2 := [.ref 0]) (w3 := w) rfl rfl ?_
    refine sx_RP.step (pc2 := 21) (ls2 := [(0, .ref 0), (1, .int a1), (2, .int a2), (3, .int a3)]) (st2 := [.int (-1000000001), .ref 0]) (w3 := w) rfl rfl ?_
    refine sx_RP.callp (as2 := [.ref 0, .int (-1000000001)]) (rest2 := []) rfl rfl (sx_inv_v2 (mi := 32) (k := 78) (st := [.int (-1000000001), .ref 0]) (w := w) rfl rfl hI.1.o0 rfl rfl rfl) rfl rfl rfl (s9_0 hI) (show _ = 24 from rfl) ?_
    rintro r4 w6 ⟨rfl, hI7, hE9⟩
    have hE8 := hE.tr hE9
    show sx_RP _ _ _ _ _ [.int (-1000000001)] _ _
    refine sx_RP.ret (r := (some (.int (-1000000001)))) rfl rfl ?_
    exact ⟨⟨_, rfl⟩, hI7, hE8⟩
  · refine sx_RP.cu (as := [.ref 1, .int (nI x3)]) (rest2 := []) (st3 := [.int 1]) rfl rfl (sx_inv_v2 (mi := 32) (k := 120) (st := [.int (nI x3), .ref 1]) (w := w) rfl rfl (hI.1.oC (Or.inl rfl)) rfl rfl rfl) rfl rfl (c2) rfl ?_
    refine sx_RP.step (pc2 := 11) (ls2 := [(0, .ref 0), (1, .int (nI x3)), (2, .int a2), (3, .int a3)]) (st2 := []) (w3 := w) rfl rfl ?_
    refine sx_RP.step (pc2 := 12) (ls2 := [(0, .ref 0), (1, .int (nI x3)), (2, .int a2), (3, .int a3)]) (st2 := [.int a2]) (w3 := w) rfl rfl ?_
    rcases in_cases a2 0 47 (m := 0) (n := 47) rfl rfl (by decide) (by decide) with q10 | ⟨x11, hx12, hx13, rfl⟩
    · refine sx_RP.cu (as := [.int a2]) (rest2 := []) (st3 := [.int 0]) rfl rfl rfl rfl rfl (cx_7n q10) rfl ?_
      refine sx_RP.step (pc2 := 18) (ls2 := [(0, .ref 0), (1, .int (nI x3)), (2, .int a2), (3, .int a3)]) (st2 := []) (w3 := w) rfl rfl ?_
      refine sx_RP.step (pc2 := 19) (ls2 := [(0, .ref 0), (1, .int (nI x3)), (2, .int a2), (3, .int a3)]) (st2 := [.ref 0]) (w3 := w) rfl rfl ?_
      refine sx_RP.step (pc2 := 21) (ls2 := [(0, .ref 0), (1, .int (nI x3)), (2, .int a2), (3, .int a3)]) (st2 := [.int (-1000000001), .ref 0]) (w3 := w) rfl rfl ?_
      refine sx_RP.callp (as2 := [.ref 0, .int (-1000000001)]) (rest2 := []) rfl rfl (sx_inv_v2 (mi := 32) (k := 78) (st := [.int (-1000000001), .ref 0]) (w := w) rfl rfl hI.1.o0 rfl rfl rfl) rfl rfl rfl (s9_0 hI) (show _ = 24 from rfl) ?_
      rintro r4 w15 ⟨rfl, hI16, hE18⟩
      have hE17 := hE.tr hE18
      show sx_RP _ _ _ _ _ [.int (-1000000001)] _ _
      refine sx_RP.ret (r := (some (.int (-1000000001)))) rfl rfl ?_
      exact ⟨⟨_, rfl⟩, hI16, hE17⟩
    · refine sx_RP.cu (as := [.int (nI x11)]) (rest2 := []) (st3 := [.int 1]) rfl rfl rfl rfl rfl (cx_7p ⟨nI_le (a := 0) hx12 (by omega), nI_le (b := 47) hx13 (by decide)⟩) rfl ?_
      refine sx_RP.step (pc2 := 25) (ls2 := [(0, .ref 0), (1, .int (nI x3)), (2, .int (nI x11)), (3, .int a3)]) (st2 := []) (w3 := w) rfl rfl ?_
      refine sx_RP.step (pc2 := 26) (ls2 := [(0, .ref 0), (1, .int (nI x3)), (2, .int (nI x11)), (3, .int a3)]) (st2 := [.ref 0]) (w3 := w) rfl rfl ?_
      refine sx_RP.gf (v := .ref 1) rfl rfl hI.1.o0 rfl rfl (show _ = 29 from rfl) ?_
      refine sx_RP.gref (k := 2) (b := 3) hI (Or.inl rfl) rfl rfl (by omega) (show _ = 32 from rfl) ?_
      refine sx_RP.step (pc2 := 33) (ls2 := [(0, .ref 0), (1, .int (nI x3)), (2, .int (nI x11)), (3, .int a3)]) (st2 := [.int (nI x3), .ref 3]) (w3 := w) rfl rfl ?_
      refine sx_RP.ald (v := .ref (1 + 4 + x3)) rfl (hI.1.aG (Or.inl rfl)) rfl (grA_at (show x3 < 10 by omega)) (show _ = 34 from rfl) ?_
      refine sx_RP.gg (k := 0) hI (gAd.of (Or.inl rfl) (show x3 < 10 by omega)) rfl rfl (by decide) (show _ = 37 from rfl) ?_
      obtain ⟨x19, hx20, ex21⟩ : inR (fi w (1 + 4 + x3) 0) 5 := hI.gk (k := 0) (gAd.of (Or.inl rfl) (show x3 < 10 by omega)) (by decide)
      rw [ex21]
      refine sx_RP.step (pc2 := 39) (ls2 := [(4, .int (nI x19)), (0, .ref 0), (1, .int (nI x3)), (2, .int (nI x11)), (3, .int a3)]) (st2 := []) (w3 := w) rfl rfl ?_
      refine sx_RP.step (pc2 := 40) (ls2 := [(4, .int (nI x19)), (0, .ref 0), (1, .int (nI x3)), (2, .int (nI x11)), (3, .int a3)]) (st2 := [.int a3]) (w3 := w) rfl rfl ?_
      rcases sw_cases (n := 2) (a3) with q22 | ⟨x23, hx24, ex25⟩
      · refine sx_RP.swo (t := 131) rfl q22 rfl ?_
        refine sx_RP.step (pc2 := 132) (ls2 := [(4, .int (nI x19)), (0, .ref 0), (1, .int (nI x3)), (2, .int (nI x11)), (3, .int a3)]) (st2 := [.ref 0]) (w3 := w) rfl rfl ?_
        refine sx_RP.step (pc2 := 134) (ls2 := [(4, .int (nI x19)), (0, .ref 0), (1, .int (nI x3)), (2, .int (nI x11)), (3, .int a3)]) (st2 := [.int (-1000000001), .ref 0]) (w3 := w) rfl rfl ?_
        refine sx_RP.callp (as2 := [.ref 0, .int (-1000000001)]) (rest2 := []) rfl rfl (sx_inv_v2 (mi := 32) (k := 78) (st := [.int (-1000000001), .ref 0]) (w := w) rfl rfl hI.1.o0 rfl rfl rfl) rfl rfl rfl (s9_0 hI) (show _ = 137 from rfl) ?_
        rintro r4 w26 ⟨rfl, hI27, hE29⟩
        have hE28 := hE.tr hE29
        show sx_RP _ _ _ _ _ [.int (-1000000001)] _ _
        refine sx_RP.ret (r := (some (.int (-1000000001)))) rfl rfl ?_
        exact ⟨⟨_, rfl⟩, hI27, hE28⟩
      · rw [ex25]
        rcases (show x23 = 0 ∨ x23 = 1 ∨ x23 = 2 by omega) with rfl | rfl | rfl
        · refine sx_RP.step (pc2 := 68) (ls2 := [(4, .int (nI x19)), (0, .ref 0), (1, .int (nI x3)), (2, .int (nI x11)), (3, .int (nI 0))]) (st2 := []) (w3 := w) rfl rfl ?_
          refine sx_RP.step (pc2 := 69) (ls2 := [(4, .int (nI x19)), (0, .ref 0), (1, .int (nI x3)), (2, .int (nI x11)), (3, .int (nI 0))]) (st2 := [.ref 0]) (w3 := w) rfl rfl ?_
          refine sx_RP.gf (v := .ref 1) rfl rfl hI.1.o0 rfl rfl (show _ = 72 from rfl) ?_
          refine sx_RP.gref (k := 0) (b := 2) hI (Or.inl rfl) rfl rfl (by omega) (show _ = 75 from rfl) ?_
          refine sx_RP.step (pc2 := 76) (ls2 := [(4, .int (nI x19)), (0, .ref 0), (1, .int (nI x3)), (2, .int (nI x11)), (3, .int (nI 0))]) (st2 := [.int (nI x11), .ref 2]) (w3 := w) rfl rfl ?_
          refine sx_RP.ild (c := x11) rfl (hI.1.aS (Or.inl rfl)).1 (hI.1.aS (Or.inl rfl)).2 (sx_in_nI (show x11 < 48 by omega) (by decide)) (show (nI x11).toNatClampNeg = x11 from nI_clamp (by omega)) (show _ = 77 from rfl) ?_
          obtain ⟨x30, hx31, ex32⟩ : inR ((ia w 2).getD x11 0) 3 := hI.st (Or.inl rfl) (show x11 < 48 by omega)
          rw [ex32]
          refine sx_RP.step (pc2 := 78) (ls2 := [(4, .int (nI x19)), (0, .ref 0), (1, .int (nI x3)), (2, .int (nI x11)), (3, .int (nI 0))]) (st2 := [.int 3, .int (nI x30)]) (w3 := w) rfl rfl ?_
          refine sx_RP.br (p1 := 90) (l1 := [(4, .int (nI x19)), (0, .ref 0), (1, .int (nI x3)), (2, .int (nI x11)), (3, .int (nI 0))]) (s1 := []) (v1 := w) (p2 := 81) (l2 := [(4, .int (nI x19)), (0, .ref 0), (1, .int (nI x3)), (2, .int (nI x11)), (3, .int (nI 0))]) (s2 := []) (v2 := w) rfl rfl (fun q33 => ?_) (fun q33 => ?_)
          · replace q33 := of_decide_eq_true q33
            replace q33 := mt (nI_eq (a := x30) (b := 3) (by omega) (by omega)).mpr q33
            refine sx_RP.step (pc2 := 91) (ls2 := [(4, .int (nI x19)), (0, .ref 0), (1, .int (nI x3)), (2, .int (nI x11)), (3, .int (nI 0))]) (st2 := [.ref 0]) (w3 := w) rfl rfl ?_
            refine sx_RP.gf (v := .ref 1) rfl rfl hI.1.o0 rfl rfl (show _ = 94 from rfl) ?_
            refine sx_RP.step (pc2 := 96) (ls2 := [(4, .int (nI x19)), (0, .ref 0), (1, .int (nI x3)), (2, .int (nI x11)), (3, .int (nI 0))]) (st2 := [.int (nI x19), .ref 1]) (w3 := w) rfl rfl ?_
            refine sx_RP.step (pc2 := 97) (ls2 := [(4, .int (nI x19)), (0, .ref 0), (1, .int (nI x3)), (2, .int (nI x11)), (3, .int (nI 0))]) (st2 := [.int (nI x11), .int (nI x19), .ref 1]) (w3 := w) rfl rfl ?_
            obtain ⟨v34, c35⟩ := p33 hI (Or.inl rfl) (show x19 ≤ 5 by omega) (show x11 < 48 by omega)
            refine sx_RP.cu (as := [.ref 1, .int (nI x19), .int (nI x11)]) (rest2 := []) (st3 := [.int v34]) rfl rfl (sx_inv_v2 (mi := 32) (k := 153) (st := [.int (nI x11), .int (nI x19), .ref 1]) (w := w) rfl rfl (hI.1.oC (Or.inl rfl)) rfl rfl rfl) rfl rfl (c35) rfl ?_
            refine sx_RP.ret (r := (some (.int v34))) rfl rfl ?_
            exact ⟨⟨_, rfl⟩, hI, hE⟩
          · replace q33 := Decidable.not_not.mp (of_decide_eq_false q33)
            replace q33 := (nI_eq (a := x30) (b := 3) (by omega) (by omega)).mp q33
            refine sx_RP.step (pc2 := 82) (ls2 := [(4, .int (nI x19)), (0, .ref 0), (1, .int (nI x3)), (2, .int (nI x11)), (3, .int (nI 0))]) (st2 := [.ref 0]) (w3 := w) rfl rfl ?_
            refine sx_RP.step (pc2 := 84) (ls2 := [(4, .int (nI x19)), (0, .ref 0), (1, .int (nI x3)), (2, .int (nI x11)), (3, .int (nI 0))]) (st2 := [.int (-1000000004), .ref 0]) (w3 := w) rfl rfl ?_
            refine sx_RP.callp (as2 := [.ref 0, .int (-1000000004)]) (rest2 := []) rfl rfl (sx_inv_v2 (mi := 32) (k := 78) (st := [.int (-1000000004), .ref 0]) (w := w) rfl rfl hI.1.o0 rfl rfl rfl) rfl rfl rfl (s9_3 hI) (show _ = 87 from rfl) ?_
            rintro r4 w36 ⟨rfl, hI37, hE39⟩
            have hE38 := hE.tr hE39
            show sx_RP _ _ _ _ _ [.int (-1000000004)] _ _
            refine sx_RP.step (pc2 := 100) (ls2 := [(4, .int (nI x19)), (0, .ref 0), (1, .int (nI x3)), (2, .int (nI x11)), (3, .int (nI 0))]) (st2 := [.int (-1000000004)]) (w3 := w36) rfl rfl ?_
            refine sx_RP.ret (r := (some (.int (-1000000004)))) rfl rfl ?_
            exact ⟨⟨_, rfl⟩, hI37, hE38⟩
        · refine sx_RP.step (pc2 := 101) (ls2 := [(4, .int (nI x19)), (0, .ref 0), (1, .int (nI x3)), (2, .int (nI x11)), (3, .int (nI 1))]) (st2 := []) (w3 := w) rfl rfl ?_
          refine sx_RP.step (pc2 := 102) (ls2 := [(4, .int (nI x19)), (0, .ref 0), (1, .int (nI x3)), (2, .int (nI x11)), (3, .int (nI 1))]) (st2 := [.ref 0]) (w3 := w) rfl rfl ?_
          refine sx_RP.gf (v := .ref 1) rfl rfl hI.1.o0 rfl rfl (show _ = 105 from rfl) ?_
          refine sx_RP.step (pc2 := 107) (ls2 := [(4, .int (nI x19)), (0, .ref 0), (1, .int (nI x3)), (2, .int (nI x11)), (3, .int (nI 1))]) (st2 := [.int (nI x19), .ref 1]) (w3 := w) rfl rfl ?_
          refine sx_RP.step (pc2 := 108) (ls2 := [(4, .int (nI x19)), (0, .ref 0), (1, .int (nI x3)), (2, .int (nI x11)), (3, .int (nI 1))]) (st2 := [.int (nI x11), .int (nI x19), .ref 1]) (w3 := w) rfl rfl ?_
          obtain ⟨v40, c41⟩ := p35 hI (Or.inl rfl) (show x19 ≤ 5 by omega) (show x11 < 48 by omega)
          refine sx_RP.cu (as := [.ref 1, .int (nI x19), .int (nI x11)]) (rest2 := []) (st3 := [.int v40]) rfl rfl (sx_inv_v2 (mi := 32) (k := 157) (st := [.int (nI x11), .int (nI x19), .ref 1]) (w := w) rfl rfl (hI.1.oC (Or.inl rfl)) rfl rfl rfl) rfl rfl (c41) rfl ?_
          refine sx_RP.ret (r := (some (.int v40))) rfl rfl ?_
          exact ⟨⟨_, rfl⟩, hI, hE⟩
        · refine sx_RP.step (pc2 := 112) (ls2 := [(4, .int (nI x19)), (0, .ref 0), (1, .int (nI x3)), (2, .int (nI x11)), (3, .int (nI 2))]) (st2 := []) (w3 := w) rfl rfl ?_
          refine sx_RP.step (pc2 := 113) (ls2 := [(4, .int (nI x19)), (0, .ref 0), (1, .int (nI x3)), (2, .int (nI x11)), (3, .int (nI 2))]) (st2 := [.ref 0]) (w3 := w) rfl rfl ?_
          refine sx_RP.gf (v := .ref 1) rfl rfl hI.1.o0 rfl rfl (show _ = 116 from rfl) ?_
          refine sx_RP.step (pc2 := 118) (ls2 := [(4, .int (nI x19)), (0, .ref 0), (1, .int (nI x3)), (2, .int (nI x11)), (3, .int (nI 2))]) (st2 := [.int (nI x19), .ref 1]) (w3 := w) rfl rfl ?_
          refine sx_RP.step (pc2 := 119) (ls2 := [(4, .int (nI x19)), (0, .ref 0), (1, .int (nI x3)), (2, .int (nI x11)), (3, .int (nI 2))]) (st2 := [.int (nI x11), .int (nI x19), .ref 1]) (w3 := w) rfl rfl ?_
          obtain ⟨x42, hx43, c44⟩ := p37 hI (Or.inl rfl) (show x19 ≤ 5 by omega) (show x11 < 48 by omega)
          refine sx_RP.cu (as := [.ref 1, .int (nI x19), .int (nI x11)]) (rest2 := []) (st3 := [.int (nI x42)]) rfl rfl (sx_inv_v2 (mi := 32) (k := 160) (st := [.int (nI x11), .int (nI x19), .ref 1]) (w := w) rfl rfl (hI.1.oC (Or.inl rfl)) rfl rfl rfl) rfl rfl (c44) rfl ?_
          refine sx_RP.br (p1 := 129) (l1 := [(4, .int (nI x19)), (0, .ref 0), (1, .int (nI x3)), (2, .int (nI x11)), (3, .int (nI 2))]) (s1 := []) (v1 := w) (p2 := 125) (l2 := [(4, .int (nI x19)), (0, .ref 0), (1, .int (nI x3)), (2, .int (nI x11)), (3, .int (nI 2))]) (s2 := []) (v2 := w) rfl rfl (fun q45 => ?_) (fun q45 => ?_)
          · replace q45 := of_decide_eq_true q45
            replace q45 := (nI_eq (a := x42) (b := 0) (by omega) (by omega)).mp q45
            refine sx_RP.step (pc2 := 130) (ls2 := [(4, .int (nI x19)), (0, .ref 0), (1, .int (nI x3)), (2, .int (nI x11)), (3, .int (nI 2))]) (st2 := [.int 0]) (w3 := w) rfl rfl ?_
            refine sx_RP.ret (r := (some (.int 0))) rfl rfl ?_
            exact ⟨⟨_, rfl⟩, hI, hE⟩
          · replace q45 := of_decide_eq_false q45
            replace q45 := mt (nI_eq (a := x42) (b := 0) (by omega) (by omega)).mpr q45
            refine sx_RP.step (pc2 := 126) (ls2 := [(4, .int (nI x19)), (0, .ref 0), (1, .int (nI x3)), (2, .int (nI x11)), (3, .int (nI 2))]) (st2 := [.int 1]) (w3 := w) rfl rfl ?_
            refine sx_RP.step (pc2 := 130) (ls2 := [(4, .int (nI x19)), (0, .ref 0), (1, .int (nI x3)), (2, .int (nI x11)), (3, .int (nI 2))]) (st2 := [.int 1]) (w3 := w) rfl rfl ?_
            refine sx_RP.ret (r := (some (.int 1))) rfl rfl ?_
            exact ⟨⟨_, rfl⟩, hI, hE⟩
set_option maxRecDepth 20000 in
set_option maxHeartbeats 4000000 in
theorem s48 {xs : Option (List Int32)} {d : Nat} {w : List sx_C} (hI : WI w) (a1 : Int32) : sx_RP xs (d + 7) 48 0 (lv_args 0 [.ref 0, .int a1]) [] w (fun r w2 => (∃ v : Int32, r = some (.int v)) ∧ WI w2 ∧ EC w w2) := by
  have hE : EC w w := EC.rf
  refine sx_RP.step (pc2 := 1) (ls2 := [(0, .ref 0), (1, .int a1)]) (st2 := [.int a1]) (w3 := w) rfl rfl ?_
  rcases sw_cases (n := 3) (a1) with q1 | ⟨x2, hx3, ex4⟩
  · refine sx_RP.swo (t := 66) rfl q1 rfl ?_
    refine sx_RP.step (pc2 := 67) (ls2 := [(0, .ref 0), (1, .int a1)]) (st2 := [.ref 0]) (w3 := w) rfl rfl ?_
    refine sx_RP.step (pc2 := 69) (ls2 := [(0, .ref 0), (1, .int a1)]) (st2 := [.int (-1000000001), .ref 0]) (w3 := w) rfl rfl ?_
    refine sx_RP.callp (as2 := [.ref 0, .int (-1000000001)]) (rest2 := []) rfl rfl (sx_inv_v2 (mi := 48) (k := 78) (st := [.int (-1000000001), .ref 0]) (w := w) rfl rfl hI.1.o0 rfl rfl rfl) rfl rfl rfl (s9_0 hI) (show _ = 72 from rfl) ?_
    rintro r4 w5 ⟨rfl, hI6, hE8⟩
    have hE7 := hE.tr hE8
    show sx_RP _ _ _ _ _ [.int (-1000000001)] _ _
    refine sx_RP.ret (r := (some (.int (-1000000001)))) rfl rfl ?_
    exact ⟨⟨_, rfl⟩, hI6, hE7⟩
  · rw [ex4]
    rcases (show x2 = 0 ∨ x2 = 1 ∨ x2 = 2 ∨ x2 = 3 by omega) with rfl | rfl | rfl | rfl
    · refine sx_RP.step (pc2 := 32) (ls2 := [(0, .ref 0), (1, .int (nI 0))]) (st2 := []) (w3 := w) rfl rfl ?_
      refine sx_RP.step (pc2 := 33) (ls2 := [(0, .ref 0), (1, .int (nI 0))]) (st2 := [.ref 0]) (w3 := w) rfl rfl ?_
      refine sx_RP.gf (v := .ref 1) rfl rfl hI.1.o0 rfl rfl (show _ = 36 from rfl) ?_
      refine sx_RP.gc (k := 6) hI (Or.inl rfl) rfl rfl (by omega) (show _ = 39 from rfl) ?_
      refine sx_RP.ret (r := (some (.int (fi w 1 6)))) rfl rfl ?_
      exact ⟨⟨_, rfl⟩, hI, hE⟩
    · refine sx_RP.step (pc2 := 40) (ls2 := [(0, .ref 0), (1, .int (nI 1))]) (st2 := []) (w3 := w) rfl rfl ?_
      refine sx_RP.step (pc2 := 41) (ls2 := [(0, .ref 0), (1, .int (nI 1))]) (st2 := [.ref 0]) (w3 := w) rfl rfl ?_
      refine sx_RP.gf (v := .ref 1) rfl rfl hI.1.o0 rfl rfl (show _ = 44 from rfl) ?_
      refine sx_RP.step (pc2 := 45) (ls2 := [(0, .ref 0), (1, .int (nI 1))]) (st2 := [.int 0, .ref 1]) (w3 := w) rfl rfl ?_
      obtain ⟨v9, c10⟩ := p42 hI (Or.inl rfl) 0
      refine sx_RP.cu (as := [.ref 1, .int 0]) (rest2 := []) (st3 := [.int v9]) rfl rfl (sx_inv_v2 (mi := 48) (k := 173) (st := [.int 0, .ref 1]) (w := w) rfl rfl (hI.1.oC (Or.inl rfl)) rfl rfl rfl) rfl rfl (c10) rfl ?_
      refine sx_RP.ret (r := (some (.int v9))) rfl rfl ?_
      exact ⟨⟨_, rfl⟩, hI, hE⟩
    · refine sx_RP.step (pc2 := 49) (ls2 := [(0, .ref 0), (1, .int (nI 2))]) (st2 := []) (w3 := w) rfl rfl ?_
      refine sx_RP.step (pc2 := 50) (ls2 := [(0, .ref 0), (1, .int (nI 2))]) (st2 := [.ref 0]) (w3 := w) rfl rfl ?_
      refine sx_RP.gf (v := .ref 1) rfl rfl hI.1.o0 rfl rfl (show _ = 53 from rfl) ?_
      refine sx_RP.step (pc2 := 54) (ls2 := [(0, .ref 0), (1, .int (nI 2))]) (st2 := [.int 1, .ref 1]) (w3 := w) rfl rfl ?_
      obtain ⟨v11, c12⟩ := p42 hI (Or.inl rfl) 1
      refine sx_RP.cu (as := [.ref 1, .int 1]) (rest2 := []) (st3 := [.int v11]) rfl rfl (sx_inv_v2 (mi := 48) (k := 173) (st := [.int 1, .ref 1]) (w := w) rfl rfl (hI.1.oC (Or.inl rfl)) rfl rfl rfl) rfl rfl (c12) rfl ?_
      refine sx_RP.ret (r := (some (.int v11))) rfl rfl ?_
      exact ⟨⟨_, rfl⟩, hI, hE⟩
    · refine sx_RP.step (pc2 := 58) (ls2 := [(0, .ref 0), (1, .int (nI 3))]) (st2 := []) (w3 := w) rfl rfl ?_
      refine sx_RP.step (pc2 := 59) (ls2 := [(0, .ref 0), (1, .int (nI 3))]) (st2 := [.ref 0]) (w3 := w) rfl rfl ?_
      refine sx_RP.gf (v := .ref 1) rfl rfl hI.1.o0 rfl rfl (show _ = 62 from rfl) ?_
      refine sx_RP.gc (k := 7) hI (Or.inl rfl) rfl rfl (by omega) (show _ = 65 from rfl) ?_
      refine sx_RP.ret (r := (some (.int (fi w 1 7)))) rfl rfl ?_
      exact ⟨⟨_, rfl⟩, hI, hE⟩
set_option maxRecDepth 20000 in
set_option maxHeartbeats 4000000 in
theorem s55 {xs : Option (List Int32)} {d : Nat} {w : List sx_C} (hI : WI w) (a1 a2 : Int32) : sx_RP xs (d + 7) 55 0 (lv_args 0 [.ref 0, .int a1, .int a2]) [] w (fun r w2 => (∃ v : Int32, r = some (.int v)) ∧ WI w2 ∧ EC w w2) := by
  have hE : EC w w := EC.rf
  refine sx_RP.step (pc2 := 1) (ls2 := [(0, .ref 0), (1, .int a1), (2, .int a2)]) (st2 := [.ref 0]) (w3 := w) rfl rfl ?_
  refine sx_RP.gf (v := .ref 1) rfl rfl hI.1.o0 rfl rfl (show _ = 4 from rfl) ?_
  refine sx_RP.step (pc2 := 5) (ls2 := [(0, .ref 0), (1, .int a1), (2, .int a2)]) (st2 := [.int a1, .ref 1]) (w3 := w) rfl rfl ?_
  rcases p27 (xs := xs) hI (Or.inl rfl) a1 with c2 | ⟨⟨x3, hx4, rfl⟩, c2⟩
  · refine sx_RP.cu (as := [.ref 1, .int a1]) (rest2 := []) (st3 := [.int 0]) rfl rfl (sx_inv_v2 (mi := 55) (k := 120) (st := [.int a1, .ref 1]) (w := w) rfl rfl (hI.1.oC (Or.inl rfl)) rfl rfl rfl) rfl rfl (c2) rfl ?_
    refine sx_RP.step (pc2 := 18) (ls2 := [(0, .ref 0), (1, .int a1), (2, .int a2)]) (st2 := []) (w3 := w) rfl rfl ?_
    refine sx_RP.step (pc2 := 19) (ls2 := [(0, .ref 0), (1, .int a1), (2, .int a2)]) (st2 := [.ref 0]) (w3 := w) rfl rfl ?_
    refine sx_RP.step (pc2 := 21) (ls2 := [(0, .ref 0), (1, .int a1), (2, .int a2)]) (st2 := [.int (-1000000001), .ref 0]) (w3 := w) rfl rfl ?_
    refine sx_RP.callp (as2 := [.ref 0, .int (-1000000001)]) (rest2 := []) rfl rfl (sx_inv_v2 (mi := 55) (k := 78) (st := [.int (-1000000001), .ref 0]) (w := w) rfl rfl hI.1.o0 rfl rfl rfl) rfl rfl rfl (s9_0 hI) (show _ = 24 from rfl) ?_
    rintro r4 w6 ⟨rfl, hI7, hE9⟩
    have hE8 := hE.tr hE9
    show sx_RP _ _ _ _ _ [.int (-1000000001)] _ _
    refine sx_RP.ret (r := (some (.int (-1000000001)))) rfl rfl ?_
    exact ⟨⟨_, rfl⟩, hI7, hE8⟩
  · refine sx_RP.cu (as := [.ref 1, .int (nI x3)]) (rest2 := []) (st3 := [.int 1]) rfl rfl (sx_inv_v2 (mi := 55) (k := 120) (st := [.int (nI x3), .ref 1]) (w := w) rfl rfl (hI.1.oC (Or.inl rfl)) rfl rfl rfl) rfl rfl (c2) rfl ?_
    refine sx_RP.step (pc2 := 11) (ls2 := [(0, .ref 0), (1, .int (nI x3)), (2, .int a2)]) (st2 := []) (w3 := w) rfl rfl ?_
    refine sx_RP.step (pc2 := 12) (ls2 := [(0, .ref 0), (1, .int (nI x3)), (2, .int a2)]) (st2 := [.int a2]) (w3 := w) rfl rfl ?_
    rcases in_cases a2 0 47 (m := 0) (n := 47) rfl rfl (by decide) (by decide) with q10 | ⟨x11, hx12, hx13, rfl⟩
    · refine sx_RP.cu (as := [.int a2]) (rest2 := []) (st3 := [.int 0]) rfl rfl rfl rfl rfl (cx_7n q10) rfl ?_
      refine sx_RP.step (pc2 := 18) (ls2 := [(0, .ref 0), (1, .int (nI x3)), (2, .int a2)]) (st2 := []) (w3 := w) rfl rfl ?_
      refine sx_RP.step (pc2 := 19) (ls2 := [(0, .ref 0), (1, .int (nI x3)), (2, .int a2)]) (st2 := [.ref 0]) (w3 := w) rfl rfl ?_
      refine sx_RP.step (pc2 := 21) (ls2 := [(0, .ref 0), (1, .int (nI x3)), (2, .int a2)]) (st2 := [.int (-1000000001), .ref 0]) (w3 := w) rfl rfl ?_
      refine sx_RP.callp (as2 := [.ref 0, .int (-1000000001)]) (rest2 := []) rfl rfl (sx_inv_v2 (mi := 55) (k := 78) (st := [.int (-1000000001), .ref 0]) (w := w) rfl rfl hI.1.o0 rfl rfl rfl) rfl rfl rfl (s9_0 hI) (show _ = 24 from rfl) ?_
      rintro r4 w15 ⟨rfl, hI16, hE18⟩
      have hE17 := hE.tr hE18
      show sx_RP _ _ _ _ _ [.int (-1000000001)] _ _
      refine sx_RP.ret (r := (some (.int (-1000000001)))) rfl rfl ?_
      exact ⟨⟨_, rfl⟩, hI16, hE17⟩
    · refine sx_RP.cu (as := [.int (nI x11)]) (rest2 := []) (st3 := [.int 1]) rfl rfl rfl rfl rfl (cx_7p ⟨nI_le (a := 0) hx12 (by omega), nI_le (b := 47) hx13 (by decide)⟩) rfl ?_
      refine sx_RP.step (pc2 := 25) (ls2 := [(0, .ref 0), (1, .int (nI x3)), (2, .int (nI x11))]) (st2 := []) (w3 := w) rfl rfl ?_
      refine sx_RP.step (pc2 := 26) (ls2 := [(0, .ref 0), (1, .int (nI x3)), (2, .int (nI x11))]) (st2 := [.ref 0]) (w3 := w) rfl rfl ?_
      refine sx_RP.gf (v := .ref 1) rfl rfl hI.1.o0 rfl rfl (show _ = 29 from rfl) ?_
      refine sx_RP.gref (k := 2) (b := 3) hI (Or.inl rfl) rfl rfl (by omega) (show _ = 32 from rfl) ?_
      refine sx_RP.step (pc2 := 33) (ls2 := [(0, .ref 0), (1, .int (nI x3)), (2, .int (nI x11))]) (st2 := [.int (nI x3), .ref 3]) (w3 := w) rfl rfl ?_
      refine sx_RP.ald (v := .ref (1 + 4 + x3)) rfl (hI.1.aG (Or.inl rfl)) rfl (grA_at (show x3 < 10 by omega)) (show _ = 34 from rfl) ?_
      refine sx_RP.step (pc2 := 35) (ls2 := [(3, .ref (1 + 4 + x3)), (0, .ref 0), (1, .int (nI x3)), (2, .int (nI x11))]) (st2 := []) (w3 := w) rfl rfl ?_
      refine sx_RP.step (pc2 := 36) (ls2 := [(3, .ref (1 + 4 + x3)), (0, .ref 0), (1, .int (nI x3)), (2, .int (nI x11))]) (st2 := [.ref (1 + 4 + x3)]) (w3 := w) rfl rfl ?_
      refine sx_RP.step (pc2 := 37) (ls2 := [(3, .ref (1 + 4 + x3)), (0, .ref 0), (1, .int (nI x3)), (2, .int (nI x11))]) (st2 := [.int 1, .ref (1 + 4 + x3)]) (w3 := w) rfl rfl ?_
      obtain ⟨x19, hx20, c21⟩ := p43 hI (gAd.of (Or.inl rfl) (show x3 < 10 by omega)) 1
      refine sx_RP.cu (as := [.ref (1 + 4 + x3), .int 1]) (rest2 := []) (st3 := [.int (nI x19)]) rfl rfl (sx_inv_v2 (mi := 55) (k := 186) (st := [.int 1, .ref (1 + 4 + x3)]) (w := w) rfl rfl (hI.1.oG (gAd.of (Or.inl rfl) (show x3 < 10 by omega))) rfl rfl rfl) rfl rfl (c21) rfl ?_
      refine sx_RP.br (p1 := 50) (l1 := [(3, .ref (1 + 4 + x3)), (0, .ref 0), (1, .int (nI x3)), (2, .int (nI x11))]) (s1 := []) (v1 := w) (p2 := 43) (l2 := [(3, .ref (1 + 4 + x3)), (0, .ref 0), (1, .int (nI x3)), (2, .int (nI x11))]) (s2 := []) (v2 := w) rfl rfl (fun q22 => ?_) (fun q22 => ?_)
      · replace q22 := of_decide_eq_true q22
        replace q22 := mt (nI_eq (a := x19) (b := 0) (by omega) (by omega)).mpr q22
        refine sx_RP.step (pc2 := 51) (ls2 := [(3, .ref (1 + 4 + x3)), (0, .ref 0), (1, .int (nI x3)), (2, .int (nI x11))]) (st2 := [.ref 0]) (w3 := w) rfl rfl ?_
        refine sx_RP.step (pc2 := 52) (ls2 := [(3, .ref (1 + 4 + x3)), (0, .ref 0), (1, .int (nI x3)), (2, .int (nI x11))]) (st2 := [.ref (1 + 4 + x3), .ref 0]) (w3 := w) rfl rfl ?_
        refine sx_RP.callp (as2 := [.ref 0, .ref (1 + 4 + x3)]) (rest2 := []) rfl rfl (sx_inv_v2 (mi := 55) (k := 189) (st := [.ref (1 + 4 + x3), .ref 0]) (w := w) rfl rfl hI.1.o0 rfl rfl rfl) rfl rfl rfl (s56 hI (gAd.of (Or.inl rfl) (show x3 < 10 by omega))) (show _ = 55 from rfl) ?_
        rintro r4 w23 ⟨rfl, hI24, hE26⟩
        have hE25 := hE.tr hE26
        show sx_RP _ _ _ _ _ [] _ _
        refine sx_RP.step (pc2 := 56) (ls2 := [(3, .ref (1 + 4 + x3)), (0, .ref 0), (1, .int (nI x3)), (2, .int (nI x11))]) (st2 := [.ref 0]) (w3 := w23) rfl rfl ?_
        refine sx_RP.gf (v := .ref 101) rfl rfl hI24.1.o0 rfl rfl (show _ = 59 from rfl) ?_
        refine sx_RP.step (pc2 := 60) (ls2 := [(3, .ref (1 + 4 + x3)), (0, .ref 0), (1, .int (nI x3)), (2, .int (nI x11))]) (st2 := [.int (nI x11), .ref 101]) (w3 := w23) rfl rfl ?_
        refine sx_RP.ild (c := x11) rfl hI24.1.a101.1 hI24.1.a101.2 (sx_in_nI (show x11 < 48 by omega) (by decide)) (show (nI x11).toNatClampNeg = x11 from nI_clamp (by omega)) (show _ = 61 from rfl) ?_
        refine sx_RP.step (pc2 := 63) (ls2 := [(3, .ref (1 + 4 + x3)), (0, .ref 0), (1, .int (nI x3)), (2, .int (nI x11))]) (st2 := [.int 1000000, .int ((ia w23 101).getD x11 0)]) (w3 := w23) rfl rfl ?_
        refine sx_RP.br (p1 := 75) (l1 := [(3, .ref (1 + 4 + x3)), (0, .ref 0), (1, .int (nI x3)), (2, .int (nI x11))]) (s1 := []) (v1 := w23) (p2 := 66) (l2 := [(3, .ref (1 + 4 + x3)), (0, .ref 0), (1, .int (nI x3)), (2, .int (nI x11))]) (s2 := []) (v2 := w23) rfl rfl (fun q27 => ?_) (fun q27 => ?_)
        · replace q27 := of_decide_eq_true q27
          refine sx_RP.step (pc2 := 76) (ls2 := [(3, .ref (1 + 4 + x3)), (0, .ref 0), (1, .int (nI x3)), (2, .int (nI x11))]) (st2 := [.ref 0]) (w3 := w23) rfl rfl ?_
          refine sx_RP.gf (v := .ref 101) rfl rfl hI24.1.o0 rfl rfl (show _ = 79 from rfl) ?_
          refine sx_RP.step (pc2 := 80) (ls2 := [(3, .ref (1 + 4 + x3)), (0, .ref 0), (1, .int (nI x3)), (2, .int (nI x11))]) (st2 := [.int (nI x11), .ref 101]) (w3 := w23) rfl rfl ?_
          refine sx_RP.ild (c := x11) rfl hI24.1.a101.1 hI24.1.a101.2 (sx_in_nI (show x11 < 48 by omega) (by decide)) (show (nI x11).toNatClampNeg = x11 from nI_clamp (by omega)) (show _ = 81 from rfl) ?_
          refine sx_RP.ret (r := (some (.int ((ia w23 101).getD x11 0)))) rfl rfl ?_
          exact ⟨⟨_, rfl⟩, hI24, hE25⟩
        · replace q27 := Decidable.not_not.mp (of_decide_eq_false q27)
          refine sx_RP.step (pc2 := 67) (ls2 := [(3, .ref (1 + 4 + x3)), (0, .ref 0), (1, .int (nI x3)), (2, .int (nI x11))]) (st2 := [.ref 0]) (w3 := w23) rfl rfl ?_
          refine sx_RP.step (pc2 := 69) (ls2 := [(3, .ref (1 + 4 + x3)), (0, .ref 0), (1, .int (nI x3)), (2, .int (nI x11))]) (st2 := [.int (-1000000004), .ref 0]) (w3 := w23) rfl rfl ?_
          refine sx_RP.callp (as2 := [.ref 0, .int (-1000000004)]) (rest2 := []) rfl rfl (sx_inv_v2 (mi := 55) (k := 78) (st := [.int (-1000000004), .ref 0]) (w := w23) rfl rfl hI24.1.o0 rfl rfl rfl) rfl rfl rfl (s9_3 hI24) (show _ = 72 from rfl) ?_
          rintro r4 w28 ⟨rfl, hI29, hE31⟩
          have hE30 := hE25.tr hE31
          show sx_RP _ _ _ _ _ [.int (-1000000004)] _ _
          refine sx_RP.step (pc2 := 81) (ls2 := [(3, .ref (1 + 4 + x3)), (0, .ref 0), (1, .int (nI x3)), (2, .int (nI x11))]) (st2 := [.int (-1000000004)]) (w3 := w28) rfl rfl ?_
          refine sx_RP.ret (r := (some (.int (-1000000004)))) rfl rfl ?_
          exact ⟨⟨_, rfl⟩, hI29, hE30⟩
      · replace q22 := Decidable.not_not.mp (of_decide_eq_false q22)
        replace q22 := (nI_eq (a := x19) (b := 0) (by omega) (by omega)).mp q22
        refine sx_RP.step (pc2 := 44) (ls2 := [(3, .ref (1 + 4 + x3)), (0, .ref 0), (1, .int (nI x3)), (2, .int (nI x11))]) (st2 := [.ref 0]) (w3 := w) rfl rfl ?_
        refine sx_RP.step (pc2 := 46) (ls2 := [(3, .ref (1 + 4 + x3)), (0, .ref 0), (1, .int (nI x3)), (2, .int (nI x11))]) (st2 := [.int (-1000000005), .ref 0]) (w3 := w) rfl rfl ?_
        refine sx_RP.callp (as2 := [.ref 0, .int (-1000000005)]) (rest2 := []) rfl rfl (sx_inv_v2 (mi := 55) (k := 78) (st := [.int (-1000000005), .ref 0]) (w := w) rfl rfl hI.1.o0 rfl rfl rfl) rfl rfl rfl (s9_4 hI) (show _ = 49 from rfl) ?_
        rintro r4 w32 ⟨rfl, hI33, hE35⟩
        have hE34 := hE.tr hE35
        show sx_RP _ _ _ _ _ [.int (-1000000005)] _ _
        refine sx_RP.ret (r := (some (.int (-1000000005)))) rfl rfl ?_
        exact ⟨⟨_, rfl⟩, hI33, hE34⟩
set_option maxRecDepth 20000 in
set_option maxHeartbeats 4000000 in
theorem s58 {xs : Option (List Int32)} {d : Nat} {w : List sx_C} (hI : WI w) (a1 a2 : Int32) : sx_RP xs (d + 7) 58 0 (lv_args 0 [.ref 0, .int a1, .int a2]) [] w (fun r w2 => (∃ v : Int32, r = some (.int v)) ∧ WI w2 ∧ EC w w2) := by
  have hE : EC w w := EC.rf
  refine sx_RP.step (pc2 := 1) (ls2 := [(0, .ref 0), (1, .int a1), (2, .int a2)]) (st2 := [.ref 0]) (w3 := w) rfl rfl ?_
  refine sx_RP.gf (v := .ref 1) rfl rfl hI.1.o0 rfl rfl (show _ = 4 from rfl) ?_
  refine sx_RP.step (pc2 := 5) (ls2 := [(0, .ref 0), (1, .int a1), (2, .int a2)]) (st2 := [.int a1, .ref 1]) (w3 := w) rfl rfl ?_
  rcases p27 (xs := xs) hI (Or.inl rfl) a1 with c2 | ⟨⟨x3, hx4, rfl⟩, c2⟩
  · refine sx_RP.cu (as := [.ref 1, .int a1]) (rest2 := []) (st3 := [.int 0]) rfl rfl (sx_inv_v2 (mi := 58) (k := 120) (st := [.int a1, .ref 1]) (w := w) rfl rfl (hI.1.oC (Or.inl rfl)) rfl rfl rfl) rfl rfl (c2) rfl ?_
    refine sx_RP.step (pc2 := 22) (ls2 := [(0, .ref 0), (1, .int a1), (2, .int a2)]) (st2 := []) (w3 := w) rfl rfl ?_
    refine sx_RP.step (pc2 := 23) (ls2 := [(0, .ref 0), (1, .int a1), (2, .int a2)]) (st2 := [.ref 0]) (w3 := w) rfl rfl ?_
    refine sx_RP.step (pc2 := 25) (ls2 := [(0, .ref 0), (1, .int a1), (2, .int a2)]) (st2 := [.int (-1000000001), .ref 0]) (w3 := w) rfl rfl ?_
    refine sx_RP.callp (as2 := [.ref 0, .int (-1000000001)]) (rest2 := []) rfl rfl (sx_inv_v2 (mi := 58) (k := 78) (st := [.int (-1000000001), .ref 0]) (w := w) rfl rfl hI.1.o0 rfl rfl rfl) rfl rfl rfl (s9_0 hI) (show _ = 28 from rfl) ?_
    rintro r4 w6 ⟨rfl, hI7, hE9⟩
    have hE8 := hE.tr hE9
    show sx_RP _ _ _ _ _ [.int (-1000000001)] _ _
    refine sx_RP.ret (r := (some (.int (-1000000001)))) rfl rfl ?_
    exact ⟨⟨_, rfl⟩, hI7, hE8⟩
  · refine sx_RP.cu (as := [.ref 1, .int (nI x3)]) (rest2 := []) (st3 := [.int 1]) rfl rfl (sx_inv_v2 (mi := 58) (k := 120) (st := [.int (nI x3), .ref 1]) (w := w) rfl rfl (hI.1.oC (Or.inl rfl)) rfl rfl rfl) rfl rfl (c2) rfl ?_
    refine sx_RP.step (pc2 := 11) (ls2 := [(0, .ref 0), (1, .int (nI x3)), (2, .int a2)]) (st2 := []) (w3 := w) rfl rfl ?_
    refine sx_RP.step (pc2 := 12) (ls2 := [(0, .ref 0), (1, .int (nI x3)), (2, .int a2)]) (st2 := [.ref 0]) (w3 := w) rfl rfl ?_
    refine sx_RP.gf (v := .ref 1) rfl rfl hI.1.o0 rfl rfl (show _ = 15 from rfl) ?_
    refine sx_RP.step (pc2 := 16) (ls2 := [(0, .ref 0), (1, .int (nI x3)), (2, .int a2)]) (st2 := [.int a2, .ref 1]) (w3 := w) rfl rfl ?_
    rcases p27 (xs := xs) hI (Or.inl rfl) a2 with c11 | ⟨⟨x12, hx13, rfl⟩, c11⟩
    · refine sx_RP.cu (as := [.ref 1, .int a2]) (rest2 := []) (st3 := [.int 0]) rfl rfl (sx_inv_v2 (mi := 58) (k := 120) (st := [.int a2, .ref 1]) (w := w) rfl rfl (hI.1.oC (Or.inl rfl)) rfl rfl rfl) rfl rfl (c11) rfl ?_
      refine sx_RP.step (pc2 := 22) (ls2 := [(0, .ref 0), (1, .int (nI x3)), (2, .int a2)]) (st2 := []) (w3 := w) rfl rfl ?_
      refine sx_RP.step (pc2 := 23) (ls2 := [(0, .ref 0), (1, .int (nI x3)), (2, .int a2)]) (st2 := [.ref 0]) (w3 := w) rfl rfl ?_
      refine sx_RP.step (pc2 := 25) (ls2 := [(0, .ref 0), (1, .int (nI x3)), (2, .int a2)]) (st2 := [.int (-1000000001), .ref 0]) (w3 := w) rfl rfl ?_
      refine sx_RP.callp (as2 := [.ref 0, .int (-1000000001)]) (rest2 := []) rfl rfl (sx_inv_v2 (mi := 58) (k := 78) (st := [.int (-1000000001), .ref 0]) (w := w) rfl rfl hI.1.o0 rfl rfl rfl) rfl rfl rfl (s9_0 hI) (show _ = 28 from rfl) ?_
      rintro r4 w15 ⟨rfl, hI16, hE18⟩
      have hE17 := hE.tr hE18
      show sx_RP _ _ _ _ _ [.int (-1000000001)] _ _
      refine sx_RP.ret (r := (some (.int (-1000000001)))) rfl rfl ?_
      exact ⟨⟨_, rfl⟩, hI16, hE17⟩
    · refine sx_RP.cu (as := [.ref 1, .int (nI x12)]) (rest2 := []) (st3 := [.int 1]) rfl rfl (sx_inv_v2 (mi := 58) (k := 120) (st := [.int (nI x12), .ref 1]) (w := w) rfl rfl (hI.1.oC (Or.inl rfl)) rfl rfl rfl) rfl rfl (c11) rfl ?_
      refine sx_RP.step (pc2 := 29) (ls2 := [(0, .ref 0), (1, .int (nI x3)), (2, .int (nI x12))]) (st2 := []) (w3 := w) rfl rfl ?_
      refine sx_RP.step (pc2 := 30) (ls2 := [(0, .ref 0), (1, .int (nI x3)), (2, .int (nI x12))]) (st2 := [.ref 0]) (w3 := w) rfl rfl ?_
      refine sx_RP.gf (v := .ref 1) rfl rfl hI.1.o0 rfl rfl (show _ = 33 from rfl) ?_
      refine sx_RP.gref (k := 2) (b := 3) hI (Or.inl rfl) rfl rfl (by omega) (show _ = 36 from rfl) ?_
      refine sx_RP.step (pc2 := 37) (ls2 := [(0, .ref 0), (1, .int (nI x3)), (2, .int (nI x12))]) (st2 := [.int (nI x3), .ref 3]) (w3 := w) rfl rfl ?_
      refine sx_RP.ald (v := .ref (1 + 4 + x3)) rfl (hI.1.aG (Or.inl rfl)) rfl (grA_at (show x3 < 10 by omega)) (show _ = 38 from rfl) ?_
      refine sx_RP.step (pc2 := 39) (ls2 := [(3, .ref (1 + 4 + x3)), (0, .ref 0), (1, .int (nI x3)), (2, .int (nI x12))]) (st2 := []) (w3 := w) rfl rfl ?_
      refine sx_RP.step (pc2 := 40) (ls2 := [(3, .ref (1 + 4 + x3)), (0, .ref 0), (1, .int (nI x3)), (2, .int (nI x12))]) (st2 := [.ref 0]) (w3 := w) rfl rfl ?_
      refine sx_RP.gf (v := .ref 1) rfl rfl hI.1.o0 rfl rfl (show _ = 43 from rfl) ?_
      refine sx_RP.gref (k := 2) (b := 3) hI (Or.inl rfl) rfl rfl (by omega) (show _ = 46 from rfl) ?_
      refine sx_RP.step (pc2 := 47) (ls2 := [(3, .ref (1 + 4 + x3)), (0, .ref 0), (1, .int (nI x3)), (2, .int (nI x12))]) (st2 := [.int (nI x12), .ref 3]) (w3 := w) rfl rfl ?_
      refine sx_RP.ald (v := .ref (1 + 4 + x12)) rfl (hI.1.aG (Or.inl rfl)) rfl (grA_at (show x12 < 10 by omega)) (show _ = 48 from rfl) ?_
      refine sx_RP.step (pc2 := 50) (ls2 := [(4, .ref (1 + 4 + x12)), (3, .ref (1 + 4 + x3)), (0, .ref 0), (1, .int (nI x3)), (2, .int (nI x12))]) (st2 := []) (w3 := w) rfl rfl ?_
      refine sx_RP.step (pc2 := 51) (ls2 := [(4, .ref (1 + 4 + x12)), (3, .ref (1 + 4 + x3)), (0, .ref 0), (1, .int (nI x3)), (2, .int (nI x12))]) (st2 := [.ref (1 + 4 + x3)]) (w3 := w) rfl rfl ?_
      refine sx_RP.step (pc2 := 52) (ls2 := [(4, .ref (1 + 4 + x12)), (3, .ref (1 + 4 + x3)), (0, .ref 0), (1, .int (nI x3)), (2, .int (nI x12))]) (st2 := [.int 1, .ref (1 + 4 + x3)]) (w3 := w) rfl rfl ?_
      obtain ⟨x19, hx20, c21⟩ := p43 hI (gAd.of (Or.inl rfl) (show x3 < 10 by omega)) 1
      refine sx_RP.cu (as := [.ref (1 + 4 + x3), .int 1]) (rest2 := []) (st3 := [.int (nI x19)]) rfl rfl (sx_inv_v2 (mi := 58) (k := 186) (st := [.int 1, .ref (1 + 4 + x3)]) (w := w) rfl rfl (hI.1.oG (gAd.of (Or.inl rfl) (show x3 < 10 by omega))) rfl rfl rfl) rfl rfl (c21) rfl ?_
      refine sx_RP.br (p1 := 79) (l1 := [(4, .ref (1 + 4 + x12)), (3, .ref (1 + 4 + x3)), (0, .ref 0), (1, .int (nI x3)), (2, .int (nI x12))]) (s1 := []) (v1 := w) (p2 := 58) (l2 := [(4, .ref (1 + 4 + x12)), (3, .ref (1 + 4 + x3)), (0, .ref 0), (1, .int (nI x3)), (2, .int (nI x12))]) (s2 := []) (v2 := w) rfl rfl (fun q22 => ?_) (fun q22 => ?_)
      · replace q22 := of_decide_eq_true q22
        replace q22 := (nI_eq (a := x19) (b := 0) (by omega) (by omega)).mp q22
        refine sx_RP.step (pc2 := 80) (ls2 := [(4, .ref (1 + 4 + x12)), (3, .ref (1 + 4 + x3)), (0, .ref 0), (1, .int (nI x3)), (2, .int (nI x12))]) (st2 := [.ref 0]) (w3 := w) rfl rfl ?_
        refine sx_RP.step (pc2 := 82) (ls2 := [(4, .ref (1 + 4 + x12)), (3, .ref (1 + 4 + x3)), (0, .ref 0), (1, .int (nI x3)), (2, .int (nI x12))]) (st2 := [.int (-1000000005), .ref 0]) (w3 := w) rfl rfl ?_
        refine sx_RP.callp (as2 := [.ref 0, .int (-1000000005)]) (rest2 := []) rfl rfl (sx_inv_v2 (mi := 58) (k := 78) (st := [.int (-1000000005), .ref 0]) (w := w) rfl rfl hI.1.o0 rfl rfl rfl) rfl rfl rfl (s9_4 hI) (show _ = 85 from rfl) ?_
        rintro r4 w23 ⟨rfl, hI24, hE26⟩
        have hE25 := hE.tr hE26
        show sx_RP _ _ _ _ _ [.int (-1000000005)] _ _
        refine sx_RP.ret (r := (some (.int (-1000000005)))) rfl rfl ?_
        exact ⟨⟨_, rfl⟩, hI24, hE25⟩
      · replace q22 := of_decide_eq_false q22
        replace q22 := mt (nI_eq (a := x19) (b := 0) (by omega) (by omega)).mpr q22
        refine sx_RP.step (pc2 := 60) (ls2 := [(4, .ref (1 + 4 + x12)), (3, .ref (1 + 4 + x3)), (0, .ref 0), (1, .int (nI x3)), (2, .int (nI x12))]) (st2 := [.ref (1 + 4 + x12)]) (w3 := w) rfl rfl ?_
        refine sx_RP.step (pc2 := 61) (ls2 := [(4, .ref (1 + 4 + x12)), (3, .ref (1 + 4 + x3)), (0, .ref 0), (1, .int (nI x3)), (2, .int (nI x12))]) (st2 := [.int 0, .ref (1 + 4 + x12)]) (w3 := w) rfl rfl ?_
        obtain ⟨x27, hx28, c29⟩ := p43 hI (gAd.of (Or.inl rfl) (show x12 < 10 by omega)) 0
        refine sx_RP.cu (as := [.ref (1 + 4 + x12), .int 0]) (rest2 := []) (st3 := [.int (nI x27)]) rfl rfl (sx_inv_v2 (mi := 58) (k := 186) (st := [.int 0, .ref (1 + 4 + x12)]) (w := w) rfl rfl (hI.1.oG (gAd.of (Or.inl rfl) (show x12 < 10 by omega))) rfl rfl rfl) rfl rfl (c29) rfl ?_
        refine sx_RP.br (p1 := 79) (l1 := [(4, .ref (1 + 4 + x12)), (3, .ref (1 + 4 + x3)), (0, .ref 0), (1, .int (nI x3)), (2, .int (nI x12))]) (s1 := []) (v1 := w) (p2 := 67) (l2 := [(4, .ref (1 + 4 + x12)), (3, .ref (1 + 4 + x3)), (0, .ref 0), (1, .int (nI x3)), (2, .int (nI x12))]) (s2 := []) (v2 := w) rfl rfl (fun q30 => ?_) (fun q30 => ?_)
        · replace q30 := of_decide_eq_true q30
          replace q30 := (nI_eq (a := x27) (b := 0) (by omega) (by omega)).mp q30
          refine sx_RP.step (pc2 := 80) (ls2 := [(4, .ref (1 + 4 + x12)), (3, .ref (1 + 4 + x3)), (0, .ref 0), (1, .int (nI x3)), (2, .int (nI x12))]) (st2 := [.ref 0]) (w3 := w) rfl rfl ?_
          refine sx_RP.step (pc2 := 82) (ls2 := [(4, .ref (1 + 4 + x12)), (3, .ref (1 + 4 + x3)), (0, .ref 0), (1, .int (nI x3)), (2, .int (nI x12))]) (st2 := [.int (-1000000005), .ref 0]) (w3 := w) rfl rfl ?_
          refine sx_RP.callp (as2 := [.ref 0, .int (-1000000005)]) (rest2 := []) rfl rfl (sx_inv_v2 (mi := 58) (k := 78) (st := [.int (-1000000005), .ref 0]) (w := w) rfl rfl hI.1.o0 rfl rfl rfl) rfl rfl rfl (s9_4 hI) (show _ = 85 from rfl) ?_
          rintro r4 w31 ⟨rfl, hI32, hE34⟩
          have hE33 := hE.tr hE34
          show sx_RP _ _ _ _ _ [.int (-1000000005)] _ _
          refine sx_RP.ret (r := (some (.int (-1000000005)))) rfl rfl ?_
          exact ⟨⟨_, rfl⟩, hI32, hE33⟩
        · replace q30 := of_decide_eq_false q30
          replace q30 := mt (nI_eq (a := x27) (b := 0) (by omega) (by omega)).mpr q30
          refine sx_RP.step (pc2 := 68) (ls2 := [(4, .ref (1 + 4 + x12)), (3, .ref (1 + 4 + x3)), (0, .ref 0), (1, .int (nI x3)), (2, .int (nI x12))]) (st2 := [.ref 0]) (w3 := w) rfl rfl ?_
          refine sx_RP.gf (v := .ref 1) rfl rfl hI.1.o0 rfl rfl (show _ = 71 from rfl) ?_
          refine sx_RP.step (pc2 := 73) (ls2 := [(4, .ref (1 + 4 + x12)), (3, .ref (1 + 4 + x3)), (0, .ref 0), (1, .int (nI x3)), (2, .int (nI x12))]) (st2 := [.int 60, .ref 1]) (w3 := w) rfl rfl ?_
          obtain ⟨x35, hx36, c37⟩ := p40 hI (Or.inl rfl) 60
          refine sx_RP.cu (as := [.ref 1, .int 60]) (rest2 := []) (st3 := [.int (nI x35)]) rfl rfl (sx_inv_v2 (mi := 58) (k := 163) (st := [.int 60, .ref 1]) (w := w) rfl rfl (hI.1.oC (Or.inl rfl)) rfl rfl rfl) rfl rfl (c37) rfl ?_
          refine sx_RP.br (p1 := 86) (l1 := [(4, .ref (1 + 4 + x12)), (3, .ref (1 + 4 + x3)), (0, .ref 0), (1, .int (nI x3)), (2, .int (nI x12))]) (s1 := []) (v1 := w) (p2 := 79) (l2 := [(4, .ref (1 + 4 + x12)), (3, .ref (1 + 4 + x3)), (0, .ref 0), (1, .int (nI x3)), (2, .int (nI x12))]) (s2 := []) (v2 := w) rfl rfl (fun q38 => ?_) (fun q38 => ?_)
          · replace q38 := of_decide_eq_true q38
            replace q38 := mt (nI_eq (a := x35) (b := 0) (by omega) (by omega)).mpr q38
            refine sx_RP.step (pc2 := 87) (ls2 := [(4, .ref (1 + 4 + x12)), (3, .ref (1 + 4 + x3)), (0, .ref 0), (1, .int (nI x3)), (2, .int (nI x12))]) (st2 := [.ref 0]) (w3 := w) rfl rfl ?_
            refine sx_RP.step (pc2 := 88) (ls2 := [(4, .ref (1 + 4 + x12)), (3, .ref (1 + 4 + x3)), (0, .ref 0), (1, .int (nI x3)), (2, .int (nI x12))]) (st2 := [.ref (1 + 4 + x3), .ref 0]) (w3 := w) rfl rfl ?_
            refine sx_RP.step (pc2 := 90) (ls2 := [(4, .ref (1 + 4 + x12)), (3, .ref (1 + 4 + x3)), (0, .ref 0), (1, .int (nI x3)), (2, .int (nI x12))]) (st2 := [.ref (1 + 4 + x12), .ref (1 + 4 + x3), .ref 0]) (w3 := w) rfl rfl ?_
            refine sx_RP.callp (as2 := [.ref 0, .ref (1 + 4 + x3), .ref (1 + 4 + x12)]) (rest2 := []) rfl rfl (sx_inv_v2 (mi := 58) (k := 194) (st := [.ref (1 + 4 + x12), .ref (1 + 4 + x3), .ref 0]) (w := w) rfl rfl hI.1.o0 rfl rfl rfl) rfl rfl rfl (s59 hI (gAd.of (Or.inl rfl) (show x3 < 10 by omega)) (gAd.of (Or.inl rfl) (show x12 < 10 by omega))) (show _ = 93 from rfl) ?_
            rintro r4 w40 ⟨⟨v39, rfl⟩, hI41, hE43⟩
            have hE42 := hE.tr hE43
            show sx_RP _ _ _ _ _ [.int v39] _ _
            refine sx_RP.step (pc2 := 95) (ls2 := [(5, .int v39), (4, .ref (1 + 4 + x12)), (3, .ref (1 + 4 + x3)), (0, .ref 0), (1, .int (nI x3)), (2, .int (nI x12))]) (st2 := []) (w3 := w40) rfl rfl ?_
            refine sx_RP.step (pc2 := 97) (ls2 := [(5, .int v39), (4, .ref (1 + 4 + x12)), (3, .ref (1 + 4 + x3)), (0, .ref 0), (1, .int (nI x3)), (2, .int (nI x12))]) (st2 := [.int v39]) (w3 := w40) rfl rfl ?_
            refine sx_RP.step (pc2 := 98) (ls2 := [(5, .int v39), (4, .ref (1 + 4 + x12)), (3, .ref (1 + 4 + x3)), (0, .ref 0), (1, .int (nI x3)), (2, .int (nI x12))]) (st2 := [.int (-1), .int v39]) (w3 := w40) rfl rfl ?_
            refine sx_RP.br (p1 := 110) (l1 := [(5, .int v39), (4, .ref (1 + 4 + x12)), (3, .ref (1 + 4 + x3)), (0, .ref 0), (1, .int (nI x3)), (2, .int (nI x12))]) (s1 := []) (v1 := w40) (p2 := 101) (l2 := [(5, .int v39), (4, .ref (1 + 4 + x12)), (3, .ref (1 + 4 + x3)), (0, .ref 0), (1, .int (nI x3)), (2, .int (nI x12))]) (s2 := []) (v2 := w40) rfl rfl (fun q44 => ?_) (fun q44 => ?_)
            · replace q44 := of_decide_eq_true q44
              refine sx_RP.step (pc2 := 112) (ls2 := [(5, .int v39), (4, .ref (1 + 4 + x12)), (3, .ref (1 + 4 + x3)), (0, .ref 0), (1, .int (nI x3)), (2, .int (nI x12))]) (st2 := [.int v39]) (w3 := w40) rfl rfl ?_
              refine sx_RP.ret (r := (some (.int v39))) rfl rfl ?_
              exact ⟨⟨_, rfl⟩, hI41, hE42⟩
            · replace q44 := Decidable.not_not.mp (of_decide_eq_false q44)
              refine sx_RP.step (pc2 := 102) (ls2 := [(5, .int v39), (4, .ref (1 + 4 + x12)), (3, .ref (1 + 4 + x3)), (0, .ref 0), (1, .int (nI x3)), (2, .int (nI x12))]) (st2 := [.ref 0]) (w3 := w40) rfl rfl ?_
              refine sx_RP.step (pc2 := 104) (ls2 := [(5, .int v39), (4, .ref (1 + 4 + x12)), (3, .ref (1 + 4 + x3)), (0, .ref 0), (1, .int (nI x3)), (2, .int (nI x12))]) (st2 := [.int (-1000000004), .ref 0]) (w3 := w40) rfl rfl ?_
              refine sx_RP.callp (as2 := [.ref 0, .int (-1000000004)]) (rest2 := []) rfl rfl (sx_inv_v2 (mi := 58) (k := 78) (st := [.int (-1000000004), .ref 0]) (w := w40) rfl rfl hI41.1.o0 rfl rfl rfl) rfl rfl rfl (s9_3 hI41) (show _ = 107 from rfl) ?_
              rintro r4 w45 ⟨rfl, hI46, hE48⟩
              have hE47 := hE42.tr hE48
              show sx_RP _ _ _ _ _ [.int (-1000000004)] _ _
              refine sx_RP.step (pc2 := 112) (ls2 := [(5, .int v39), (4, .ref (1 + 4 + x12)), (3, .ref (1 + 4 + x3)), (0, .ref 0), (1, .int (nI x3)), (2, .int (nI x12))]) (st2 := [.int (-1000000004)]) (w3 := w45) rfl rfl ?_
              refine sx_RP.ret (r := (some (.int (-1000000004)))) rfl rfl ?_
              exact ⟨⟨_, rfl⟩, hI46, hE47⟩
          · replace q38 := Decidable.not_not.mp (of_decide_eq_false q38)
            replace q38 := (nI_eq (a := x35) (b := 0) (by omega) (by omega)).mp q38
            refine sx_RP.step (pc2 := 80) (ls2 := [(4, .ref (1 + 4 + x12)), (3, .ref (1 + 4 + x3)), (0, .ref 0), (1, .int (nI x3)), (2, .int (nI x12))]) (st2 := [.ref 0]) (w3 := w) rfl rfl ?_
            refine sx_RP.step (pc2 := 82) (ls2 := [(4, .ref (1 + 4 + x12)), (3, .ref (1 + 4 + x3)), (0, .ref 0), (1, .int (nI x3)), (2, .int (nI x12))]) (st2 := [.int (-1000000005), .ref 0]) (w3 := w) rfl rfl ?_
            refine sx_RP.callp (as2 := [.ref 0, .int (-1000000005)]) (rest2 := []) rfl rfl (sx_inv_v2 (mi := 58) (k := 78) (st := [.int (-1000000005), .ref 0]) (w := w) rfl rfl hI.1.o0 rfl rfl rfl) rfl rfl rfl (s9_4 hI) (show _ = 85 from rfl) ?_
            rintro r4 w49 ⟨rfl, hI50, hE52⟩
            have hE51 := hE.tr hE52
            show sx_RP _ _ _ _ _ [.int (-1000000005)] _ _
            refine sx_RP.ret (r := (some (.int (-1000000005)))) rfl rfl ?_
            exact ⟨⟨_, rfl⟩, hI50, hE51⟩
set_option maxRecDepth 20000 in
set_option maxHeartbeats 4000000 in
theorem s62 {xs : Option (List Int32)} {d : Nat} {w : List sx_C} (hI : WI w) (a1 : Int32) : sx_RP xs (d + 7) 62 0 (lv_args 0 [.ref 0, .int a1]) [] w (fun r w2 => (∃ v : Int32, r = some (.int v)) ∧ WI w2 ∧ EC w w2) := by
  have hE : EC w w := EC.rf
  refine sx_RP.step (pc2 := 1) (ls2 := [(0, .ref 0), (1, .int a1)]) (st2 := [.int a1]) (w3 := w) rfl rfl ?_
  rcases in_cases a1 0 47 (m := 0) (n := 47) rfl rfl (by decide) (by decide) with q1 | ⟨x2, hx3, hx4, rfl⟩
  · refine sx_RP.cu (as := [.int a1]) (rest2 := []) (st3 := [.int 0]) rfl rfl rfl rfl rfl (cx_7n q1) rfl ?_
    refine sx_RP.step (pc2 := 7) (ls2 := [(0, .ref 0), (1, .int a1)]) (st2 := []) (w3 := w) rfl rfl ?_
    refine sx_RP.step (pc2 := 8) (ls2 := [(0, .ref 0), (1, .int a1)]) (st2 := [.ref 0]) (w3 := w) rfl rfl ?_
    refine sx_RP.step (pc2 := 10) (ls2 := [(0, .ref 0), (1, .int a1)]) (st2 := [.int (-1000000001), .ref 0]) (w3 := w) rfl rfl ?_
    refine sx_RP.callp (as2 := [.ref 0, .int (-1000000001)]) (rest2 := []) rfl rfl (sx_inv_v2 (mi := 62) (k := 78) (st := [.int (-1000000001), .ref 0]) (w := w) rfl rfl hI.1.o0 rfl rfl rfl) rfl rfl rfl (s9_0 hI) (show _ = 13 from rfl) ?_
    rintro r4 w6 ⟨rfl, hI7, hE9⟩
    have hE8 := hE.tr hE9
    show sx_RP _ _ _ _ _ [.int (-1000000001)] _ _
    refine sx_RP.ret (r := (some (.int (-1000000001)))) rfl rfl ?_
    exact ⟨⟨_, rfl⟩, hI7, hE8⟩
  · refine sx_RP.cu (as := [.int (nI x2)]) (rest2 := []) (st3 := [.int 1]) rfl rfl rfl rfl rfl (cx_7p ⟨nI_le (a := 0) hx3 (by omega), nI_le (b := 47) hx4 (by decide)⟩) rfl ?_
    refine sx_RP.step (pc2 := 14) (ls2 := [(0, .ref 0), (1, .int (nI x2))]) (st2 := []) (w3 := w) rfl rfl ?_
    refine sx_RP.step (pc2 := 15) (ls2 := [(0, .ref 0), (1, .int (nI x2))]) (st2 := [.ref 0]) (w3 := w) rfl rfl ?_
    refine sx_RP.gf (v := .ref 1) rfl rfl hI.1.o0 rfl rfl (show _ = 18 from rfl) ?_
    rcases p63 (xs := xs) hI (Or.inl rfl) with c10 | ⟨⟨x11, hx12, ex13⟩, c10⟩
    · refine sx_RP.cu (as := [.ref 1]) (rest2 := []) (st3 := [.int 0]) rfl rfl (sx_inv_v2 (mi := 62) (k := 219) (st := [.ref 1]) (w := w) rfl rfl (hI.1.oC (Or.inl rfl)) rfl rfl rfl) rfl rfl (c10) rfl ?_
      refine sx_RP.step (pc2 := 24) (ls2 := [(0, .ref 0), (1, .int (nI x2))]) (st2 := []) (w3 := w) rfl rfl ?_
      refine sx_RP.step (pc2 := 25) (ls2 := [(0, .ref 0), (1, .int (nI x2))]) (st2 := [.ref 0]) (w3 := w) rfl rfl ?_
      refine sx_RP.step (pc2 := 27) (ls2 := [(0, .ref 0), (1, .int (nI x2))]) (st2 := [.int (-1000000002), .ref 0]) (w3 := w) rfl rfl ?_
      refine sx_RP.callp (as2 := [.ref 0, .int (-1000000002)]) (rest2 := []) rfl rfl (sx_inv_v2 (mi := 62) (k := 78) (st := [.int (-1000000002), .ref 0]) (w := w) rfl rfl hI.1.o0 rfl rfl rfl) rfl rfl rfl (s9_1 hI) (show _ = 30 from rfl) ?_
      rintro r4 w14 ⟨rfl, hI15, hE17⟩
      have hE16 := hE.tr hE17
      show sx_RP _ _ _ _ _ [.int (-1000000002)] _ _
      refine sx_RP.ret (r := (some (.int (-1000000002)))) rfl rfl ?_
      exact ⟨⟨_, rfl⟩, hI15, hE16⟩
    · refine sx_RP.cu (as := [.ref 1]) (rest2 := []) (st3 := [.int 1]) rfl rfl (sx_inv_v2 (mi := 62) (k := 219) (st := [.ref 1]) (w := w) rfl rfl (hI.1.oC (Or.inl rfl)) rfl rfl rfl) rfl rfl (c10) rfl ?_
      refine sx_RP.step (pc2 := 31) (ls2 := [(0, .ref 0), (1, .int (nI x2))]) (st2 := []) (w3 := w) rfl rfl ?_
      refine sx_RP.step (pc2 := 32) (ls2 := [(0, .ref 0), (1, .int (nI x2))]) (st2 := [.ref 0]) (w3 := w) rfl rfl ?_
      refine sx_RP.gf (v := .ref 1) rfl rfl hI.1.o0 rfl rfl (show _ = 35 from rfl) ?_
      refine sx_RP.step (pc2 := 36) (ls2 := [(0, .ref 0), (1, .int (nI x2))]) (st2 := [.int (nI x2), .ref 1]) (w3 := w) rfl rfl ?_
      refine sx_RP.callp (as2 := [.ref 1, .int (nI x2)]) (rest2 := []) rfl rfl (sx_inv_v2 (mi := 62) (k := 222) (st := [.int (nI x2), .ref 1]) (w := w) rfl rfl (hI.1.oC (Or.inl rfl)) rfl rfl rfl) rfl rfl rfl (s64 hI (Or.inl rfl) (by omega) ex13 (show x2 < 48 by omega)) (show _ = 39 from rfl) ?_
      rintro r4 w19 ⟨⟨v18, rfl⟩, hI20, hE22⟩
      have hE21 := hE.tr hE22
      show sx_RP _ _ _ _ _ [.int v18] _ _
      refine sx_RP.ret (r := (some (.int v18))) rfl rfl ?_
      exact ⟨⟨_, rfl⟩, hI20, hE21⟩
set_option maxRecDepth 20000 in
set_option maxHeartbeats 4000000 in
theorem s65 {xs : Option (List Int32)} {d : Nat} {w : List sx_C} (hI : WI w) (a1 a2 : Int32) : sx_RP xs (d + 7) 65 0 (lv_args 0 [.ref 0, .int a1, .int a2]) [] w (fun r w2 => (∃ v : Int32, r = some (.int v)) ∧ WI w2 ∧ EC w w2) := by
  have hE : EC w w := EC.rf
  refine sx_RP.step (pc2 := 1) (ls2 := [(0, .ref 0), (1, .int a1), (2, .int a2)]) (st2 := [.ref 0]) (w3 := w) rfl rfl ?_
  refine sx_RP.gf (v := .ref 1) rfl rfl hI.1.o0 rfl rfl (show _ = 4 from rfl) ?_
  refine sx_RP.step (pc2 := 5) (ls2 := [(0, .ref 0), (1, .int a1), (2, .int a2)]) (st2 := [.int a1, .ref 1]) (w3 := w) rfl rfl ?_
  rcases p66 (xs := xs) hI (Or.inl rfl) a1 with c2 | ⟨⟨x3, hx4, rfl⟩, c2⟩
  · refine sx_RP.cu (as := [.ref 1, .int a1]) (rest2 := []) (st3 := [.int 0]) rfl rfl (sx_inv_v2 (mi := 65) (k := 225) (st := [.int a1, .ref 1]) (w := w) rfl rfl (hI.1.oC (Or.inl rfl)) rfl rfl rfl) rfl rfl (c2) rfl ?_
    refine sx_RP.step (pc2 := 18) (ls2 := [(0, .ref 0), (1, .int a1), (2, .int a2)]) (st2 := []) (w3 := w) rfl rfl ?_
    refine sx_RP.step (pc2 := 19) (ls2 := [(0, .ref 0), (1, .int a1), (2, .int a2)]) (st2 := [.ref 0]) (w3 := w) rfl rfl ?_
    refine sx_RP.step (pc2 := 21) (ls2 := [(0, .ref 0), (1, .int a1), (2, .int a2)]) (st2 := [.int (-1000000001), .ref 0]) (w3 := w) rfl rfl ?_
    refine sx_RP.callp (as2 := [.ref 0, .int (-1000000001)]) (rest2 := []) rfl rfl (sx_inv_v2 (mi := 65) (k := 78) (st := [.int (-1000000001), .ref 0]) (w := w) rfl rfl hI.1.o0 rfl rfl rfl) rfl rfl rfl (s9_0 hI) (show _ = 24 from rfl) ?_
    rintro r4 w6 ⟨rfl, hI7, hE9⟩
    have hE8 := hE.tr hE9
    show sx_RP _ _ _ _ _ [.int (-1000000001)] _ _
    refine sx_RP.ret (r := (some (.int (-1000000001)))) rfl rfl ?_
    exact ⟨⟨_, rfl⟩, hI7, hE8⟩
  · refine sx_RP.cu (as := [.ref 1, .int (nI x3)]) (rest2 := []) (st3 := [.int 1]) rfl rfl (sx_inv_v2 (mi := 65) (k := 225) (st := [.int (nI x3), .ref 1]) (w := w) rfl rfl (hI.1.oC (Or.inl rfl)) rfl rfl rfl) rfl rfl (c2) rfl ?_
    refine sx_RP.step (pc2 := 11) (ls2 := [(0, .ref 0), (1, .int (nI x3)), (2, .int a2)]) (st2 := []) (w3 := w) rfl rfl ?_
    refine sx_RP.step (pc2 := 12) (ls2 := [(0, .ref 0), (1, .int (nI x3)), (2, .int a2)]) (st2 := [.int a2]) (w3 := w) rfl rfl ?_
    rcases in_cases a2 0 47 (m := 0) (n := 47) rfl rfl (by decide) (by decide) with q10 | ⟨x11, hx12, hx13, rfl⟩
    · refine sx_RP.cu (as := [.int a2]) (rest2 := []) (st3 := [.int 0]) rfl rfl rfl rfl rfl (cx_7n q10) rfl ?_
      refine sx_RP.step (pc2 := 18) (ls2 := [(0, .ref 0), (1, .int (nI x3)), (2, .int a2)]) (st2 := []) (w3 := w) rfl rfl ?_
      refine sx_RP.step (pc2 := 19) (ls2 := [(0, .ref 0), (1, .int (nI x3)), (2, .int a2)]) (st2 := [.ref 0]) (w3 := w) rfl rfl ?_
      refine sx_RP.step (pc2 := 21) (ls2 := [(0, .ref 0), (1, .int (nI x3)), (2, .int a2)]) (st2 := [.int (-1000000001), .ref 0]) (w3 := w) rfl rfl ?_
      refine sx_RP.callp (as2 := [.ref 0, .int (-1000000001)]) (rest2 := []) rfl rfl (sx_inv_v2 (mi := 65) (k := 78) (st := [.int (-1000000001), .ref 0]) (w := w) rfl rfl hI.1.o0 rfl rfl rfl) rfl rfl rfl (s9_0 hI) (show _ = 24 from rfl) ?_
      rintro r4 w15 ⟨rfl, hI16, hE18⟩
      have hE17 := hE.tr hE18
      show sx_RP _ _ _ _ _ [.int (-1000000001)] _ _
      refine sx_RP.ret (r := (some (.int (-1000000001)))) rfl rfl ?_
      exact ⟨⟨_, rfl⟩, hI16, hE17⟩
    · refine sx_RP.cu (as := [.int (nI x11)]) (rest2 := []) (st3 := [.int 1]) rfl rfl rfl rfl rfl (cx_7p ⟨nI_le (a := 0) hx12 (by omega), nI_le (b := 47) hx13 (by decide)⟩) rfl ?_
      refine sx_RP.step (pc2 := 25) (ls2 := [(0, .ref 0), (1, .int (nI x3)), (2, .int (nI x11))]) (st2 := []) (w3 := w) rfl rfl ?_
      refine sx_RP.step (pc2 := 26) (ls2 := [(0, .ref 0), (1, .int (nI x3)), (2, .int (nI x11))]) (st2 := [.ref 0]) (w3 := w) rfl rfl ?_
      refine sx_RP.gf (v := .ref 1) rfl rfl hI.1.o0 rfl rfl (show _ = 29 from rfl) ?_
      refine sx_RP.gref (k := 4) (b := 4) hI (Or.inl rfl) rfl rfl (by omega) (show _ = 32 from rfl) ?_
      refine sx_RP.step (pc2 := 33) (ls2 := [(0, .ref 0), (1, .int (nI x3)), (2, .int (nI x11))]) (st2 := [.int (nI x3), .ref 4]) (w3 := w) rfl rfl ?_
      refine sx_RP.ild (c := x3) rfl (hI.1.aD (Or.inl rfl)).1 (hI.1.aD (Or.inl rfl)).2 (sx_in_nI (show x3 < 9 by omega) (by decide)) (show (nI x3).toNatClampNeg = x3 from nI_clamp (by omega)) (show _ = 34 from rfl) ?_
      obtain ⟨x19, hx20, ex21⟩ : inR ((ia w 4).getD x3 0) 47 := hI.di (Or.inl rfl) (show x3 < 9 by omega)
      rw [ex21]
      refine sx_RP.step (pc2 := 35) (ls2 := [(3, .int (nI x19)), (0, .ref 0), (1, .int (nI x3)), (2, .int (nI x11))]) (st2 := []) (w3 := w) rfl rfl ?_
      refine sx_RP.step (pc2 := 36) (ls2 := [(3, .int (nI x19)), (0, .ref 0), (1, .int (nI x3)), (2, .int (nI x11))]) (st2 := [.ref 0]) (w3 := w) rfl rfl ?_
      refine sx_RP.gf (v := .ref 1) rfl rfl hI.1.o0 rfl rfl (show _ = 39 from rfl) ?_
      refine sx_RP.gref (k := 4) (b := 4) hI (Or.inl rfl) rfl rfl (by omega) (show _ = 42 from rfl) ?_
      refine sx_RP.step (pc2 := 43) (ls2 := [(3, .int (nI x19)), (0, .ref 0), (1, .int (nI x3)), (2, .int (nI x11))]) (st2 := [.int (nI x3), .ref 4]) (w3 := w) rfl rfl ?_
      refine sx_RP.step (pc2 := 44) (ls2 := [(3, .int (nI x19)), (0, .ref 0), (1, .int (nI x3)), (2, .int (nI x11))]) (st2 := [.int (nI x11), .int (nI x3), .ref 4]) (w3 := w) rfl rfl ?_
      refine sx_RP.stD hI hE (Or.inl rfl) rfl (sx_in_nI (show x3 < 9 by omega) (by decide)) (inR.n (show x11 ≤ 47 by omega)) (show _ = 45 from rfl) (fun w22 hI23 hE24 hk25 => ?_)
      refine sx_RP.step (pc2 := 46) (ls2 := [(3, .int (nI x19)), (0, .ref 0), (1, .int (nI x3)), (2, .int (nI x11))]) (st2 := [.int (nI x19)]) (w3 := w22) rfl rfl ?_
      refine sx_RP.ret (r := (some (.int (nI x19)))) rfl rfl ?_
      exact ⟨⟨_, rfl⟩, hI23, hE24⟩
set_option maxRecDepth 20000 in
set_option maxHeartbeats 4000000 in
theorem s67 {xs : Option (List Int32)} {d : Nat} {w : List sx_C} (hI : WI w) (a1 : Int32) : sx_RP xs (d + 7) 67 0 (lv_args 0 [.ref 0, .int a1]) [] w (fun r w2 => (∃ v : Int32, r = some (.int v)) ∧ WI w2 ∧ EC w w2) := by
  have hE : EC w w := EC.rf
  refine sx_RP.step (pc2 := 1) (ls2 := [(0, .ref 0), (1, .int a1)]) (st2 := [.ref 0]) (w3 := w) rfl rfl ?_
  refine sx_RP.gf (v := .ref 1) rfl rfl hI.1.o0 rfl rfl (show _ = 4 from rfl) ?_
  refine sx_RP.step (pc2 := 5) (ls2 := [(0, .ref 0), (1, .int a1)]) (st2 := [.int a1, .ref 1]) (w3 := w) rfl rfl ?_
  rcases p66 (xs := xs) hI (Or.inl rfl) a1 with c2 | ⟨⟨x3, hx4, rfl⟩, c2⟩
  · refine sx_RP.cu (as := [.ref 1, .int a1]) (rest2 := []) (st3 := [.int 0]) rfl rfl (sx_inv_v2 (mi := 67) (k := 225) (st := [.int a1, .ref 1]) (w := w) rfl rfl (hI.1.oC (Or.inl rfl)) rfl rfl rfl) rfl rfl (c2) rfl ?_
    refine sx_RP.step (pc2 := 11) (ls2 := [(0, .ref 0), (1, .int a1)]) (st2 := []) (w3 := w) rfl rfl ?_
    refine sx_RP.step (pc2 := 12) (ls2 := [(0, .ref 0), (1, .int a1)]) (st2 := [.ref 0]) (w3 := w) rfl rfl ?_
    refine sx_RP.step (pc2 := 14) (ls2 := [(0, .ref 0), (1, .int a1)]) (st2 := [.int (-1000000001), .ref 0]) (w3 := w) rfl rfl ?_
    refine sx_RP.callp (as2 := [.ref 0, .int (-1000000001)]) (rest2 := []) rfl rfl (sx_inv_v2 (mi := 67) (k := 78) (st := [.int (-1000000001), .ref 0]) (w := w) rfl rfl hI.1.o0 rfl rfl rfl) rfl rfl rfl (s9_0 hI) (show _ = 17 from rfl) ?_
    rintro r4 w6 ⟨rfl, hI7, hE9⟩
    have hE8 := hE.tr hE9
    show sx_RP _ _ _ _ _ [.int (-1000000001)] _ _
    refine sx_RP.ret (r := (some (.int (-1000000001)))) rfl rfl ?_
    exact ⟨⟨_, rfl⟩, hI7, hE8⟩
  · refine sx_RP.cu (as := [.ref 1, .int (nI x3)]) (rest2 := []) (st3 := [.int 1]) rfl rfl (sx_inv_v2 (mi := 67) (k := 225) (st := [.int (nI x3), .ref 1]) (w := w) rfl rfl (hI.1.oC (Or.inl rfl)) rfl rfl rfl) rfl rfl (c2) rfl ?_
    refine sx_RP.step (pc2 := 18) (ls2 := [(0, .ref 0), (1, .int (nI x3))]) (st2 := []) (w3 := w) rfl rfl ?_
    refine sx_RP.step (pc2 := 19) (ls2 := [(0, .ref 0), (1, .int (nI x3))]) (st2 := [.ref 0]) (w3 := w) rfl rfl ?_
    refine sx_RP.gf (v := .ref 44) rfl rfl hI.1.o0 rfl rfl (show _ = 22 from rfl) ?_
    refine sx_RP.step (pc2 := 23) (ls2 := [(0, .ref 0), (1, .int (nI x3))]) (st2 := [.ref 0, .ref 44]) (w3 := w) rfl rfl ?_
    refine sx_RP.gf (v := .ref 1) rfl rfl hI.1.o0 rfl rfl (show _ = 26 from rfl) ?_
    refine sx_RP.gref (k := 0) (b := 2) hI (Or.inl rfl) rfl rfl (by omega) (show _ = 29 from rfl) ?_
    refine sx_RP.callp (as2 := [.ref 44, .ref 2]) (rest2 := []) rfl rfl (sx_inv_v2 (mi := 67) (k := 95) (st := [.ref 2, .ref 44]) (w := w) rfl rfl hI.1.o44 rfl rfl rfl) rfl rfl rfl (s16 hI (Or.inl rfl)) (show _ = 32 from rfl) ?_
    rintro r4 w10 ⟨rfl, hI11, hE13⟩
    have hE12 := hE.tr hE13
    show sx_RP _ _ _ _ _ [] _ _
    refine sx_RP.step (pc2 := 33) (ls2 := [(0, .ref 0), (1, .int (nI x3))]) (st2 := [.ref 0]) (w3 := w10) rfl rfl ?_
    refine sx_RP.step (pc2 := 34) (ls2 := [(0, .ref 0), (1, .int (nI x3))]) (st2 := [.ref 0, .ref 0]) (w3 := w10) rfl rfl ?_
    refine sx_RP.gf (v := .ref 1) rfl rfl hI11.1.o0 rfl rfl (show _ = 37 from rfl) ?_
    refine sx_RP.step (pc2 := 38) (ls2 := [(0, .ref 0), (1, .int (nI x3))]) (st2 := [.ref 0, .ref 1, .ref 0]) (w3 := w10) rfl rfl ?_
    refine sx_RP.gf (v := .ref 1) rfl rfl hI11.1.o0 rfl rfl (show _ = 41 from rfl) ?_
    refine sx_RP.gref (k := 4) (b := 4) hI11 (Or.inl rfl) rfl rfl (by omega) (show _ = 44 from rfl) ?_
    refine sx_RP.step (pc2 := 45) (ls2 := [(0, .ref 0), (1, .int (nI x3))]) (st2 := [.int (nI x3), .ref 4, .ref 1, .ref 0]) (w3 := w10) rfl rfl ?_
    refine sx_RP.ild (c := x3) rfl (hI11.1.aD (Or.inl rfl)).1 (hI11.1.aD (Or.inl rfl)).2 (sx_in_nI (show x3 < 9 by omega) (by decide)) (show (nI x3).toNatClampNeg = x3 from nI_clamp (by omega)) (show _ = 46 from rfl) ?_
    obtain ⟨x14, hx15, ex16⟩ : inR ((ia w10 4).getD x3 0) 47 := hI11.di (Or.inl rfl) (show x3 < 9 by omega)
    rw [ex16]
    refine sx_RP.callp (as2 := [.ref 0, .ref 1, .int (nI x14)]) (rest2 := []) rfl rfl (sx_inv_v2 (mi := 67) (k := 231) (st := [.int (nI x14), .ref 1, .ref 0]) (w := w10) rfl rfl hI11.1.o0 rfl rfl rfl) rfl rfl rfl (s68 hI11 (Or.inl rfl) (show x14 < 48 by omega)) (show _ = 49 from rfl) ?_
    rintro r4 w18 ⟨⟨v17, rfl⟩, hI19, hE21⟩
    have hE20 := hE12.tr hE21
    show sx_RP _ _ _ _ _ [.int v17] _ _
    refine sx_RP.ret (r := (some (.int v17))) rfl rfl ?_
    exact ⟨⟨_, rfl⟩, hI19, hE20⟩
set_option maxRecDepth 20000 in
set_option maxHeartbeats 4000000 in
theorem s70 {xs : Option (List Int32)} {d : Nat} {w : List sx_C} (hI : WI w) (a1 a2 : Int32) : sx_RP xs (d + 7) 70 0 (lv_args 0 [.ref 0, .int a1, .int a2]) [] w (fun r w2 => (∃ v : Int32, r = some (.int v)) ∧ WI w2 ∧ EC w w2) := by
  have hE : EC w w := EC.rf
  refine sx_RP.step (pc2 := 1) (ls2 := [(0, .ref 0), (1, .int a1), (2, .int a2)]) (st2 := [.ref 0]) (w3 := w) rfl rfl ?_
  refine sx_RP.gf (v := .ref 1) rfl rfl hI.1.o0 rfl rfl (show _ = 4 from rfl) ?_
  refine sx_RP.step (pc2 := 5) (ls2 := [(0, .ref 0), (1, .int a1), (2, .int a2)]) (st2 := [.int a1, .ref 1]) (w3 := w) rfl rfl ?_
  rcases p66 (xs := xs) hI (Or.inl rfl) a1 with c2 | ⟨⟨x3, hx4, rfl⟩, c2⟩
  · refine sx_RP.cu (as := [.ref 1, .int a1]) (rest2 := []) (st3 := [.int 0]) rfl rfl (sx_inv_v2 (mi := 70) (k := 225) (st := [.int a1, .ref 1]) (w := w) rfl rfl (hI.1.oC (Or.inl rfl)) rfl rfl rfl) rfl rfl (c2) rfl ?_
    refine sx_RP.step (pc2 := 22) (ls2 := [(0, .ref 0), (1, .int a1), (2, .int a2)]) (st2 := []) (w3 := w) rfl rfl ?_
    refine sx_RP.step (pc2 := 23) (ls2 := [(0, .ref 0), (1, .int a1), (2, .int a2)]) (st2 := [.ref 0]) (w3 := w) rfl rfl ?_
    refine sx_RP.step (pc2 := 25) (ls2 := [(0, .ref 0), (1, .int a1), (2, .int a2)]) (st2 := [.int (-1000000001), .ref 0]) (w3 := w) rfl rfl ?_
    refine sx_RP.callp (as2 := [.ref 0, .int (-1000000001)]) (rest2 := []) rfl rfl (sx_inv_v2 (mi := 70) (k := 78) (st := [.int (-1000000001), .ref 0]) (w := w) rfl rfl hI.1.o0 rfl rfl rfl) rfl rfl rfl (s9_0 hI) (show _ = 28 from rfl) ?_
    rintro r4 w6 ⟨rfl, hI7, hE9⟩
    have hE8 := hE.tr hE9
    show sx_RP _ _ _ _ _ [.int (-1000000001)] _ _
    refine sx_RP.ret (r := (some (.int (-1000000001)))) rfl rfl ?_
    exact ⟨⟨_, rfl⟩, hI7, hE8⟩
  · refine sx_RP.cu (as := [.ref 1, .int (nI x3)]) (rest2 := []) (st3 := [.int 1]) rfl rfl (sx_inv_v2 (mi := 70) (k := 225) (st := [.int (nI x3), .ref 1]) (w := w) rfl rfl (hI.1.oC (Or.inl rfl)) rfl rfl rfl) rfl rfl (c2) rfl ?_
    refine sx_RP.step (pc2 := 11) (ls2 := [(0, .ref 0), (1, .int (nI x3)), (2, .int a2)]) (st2 := []) (w3 := w) rfl rfl ?_
    refine sx_RP.step (pc2 := 12) (ls2 := [(0, .ref 0), (1, .int (nI x3)), (2, .int a2)]) (st2 := [.ref 0]) (w3 := w) rfl rfl ?_
    refine sx_RP.gf (v := .ref 1) rfl rfl hI.1.o0 rfl rfl (show _ = 15 from rfl) ?_
    refine sx_RP.step (pc2 := 16) (ls2 := [(0, .ref 0), (1, .int (nI x3)), (2, .int a2)]) (st2 := [.int a2, .ref 1]) (w3 := w) rfl rfl ?_
    rcases p27 (xs := xs) hI (Or.inl rfl) a2 with c11 | ⟨⟨x12, hx13, rfl⟩, c11⟩
    · refine sx_RP.cu (as := [.ref 1, .int a2]) (rest2 := []) (st3 := [.int 0]) rfl rfl (sx_inv_v2 (mi := 70) (k := 120) (st := [.int a2, .ref 1]) (w := w) rfl rfl (hI.1.oC (Or.inl rfl)) rfl rfl rfl) rfl rfl (c11) rfl ?_
      refine sx_RP.step (pc2 := 22) (ls2 := [(0, .ref 0), (1, .int (nI x3)), (2, .int a2)]) (st2 := []) (w3 := w) rfl rfl ?_
      refine sx_RP.step (pc2 := 23) (ls2 := [(0, .ref 0), (1, .int (nI x3)), (2, .int a2)]) (st2 := [.ref 0]) (w3 := w) rfl rfl ?_
      refine sx_RP.step (pc2 := 25) (ls2 := [(0, .ref 0), (1, .int (nI x3)), (2, .int a2)]) (st2 := [.int (-1000000001), .ref 0]) (w3 := w) rfl rfl ?_
      refine sx_RP.callp (as2 := [.ref 0, .int (-1000000001)]) (rest2 := []) rfl rfl (sx_inv_v2 (mi := 70) (k := 78) (st := [.int (-1000000001), .ref 0]) (w := w) rfl rfl hI.1.o0 rfl rfl rfl) rfl rfl rfl (s9_0 hI) (show _ = 28 from rfl) ?_
      rintro r4 w15 ⟨rfl, hI16, hE18⟩
      have hE17 := hE.tr hE18
      show sx_RP _ _ _ _ _ [.int (-1000000001)] _ _
      refine sx_RP.ret (r := (some (.int (-1000000001)))) rfl rfl ?_
      exact ⟨⟨_, rfl⟩, hI16, hE17⟩
    · refine sx_RP.cu (as := [.ref 1, .int (nI x12)]) (rest2 := []) (st3 := [.int 1]) rfl rfl (sx_inv_v2 (mi := 70) (k := 120) (st := [.int (nI x12), .ref 1]) (w := w) rfl rfl (hI.1.oC (Or.inl rfl)) rfl rfl rfl) rfl rfl (c11) rfl ?_
      refine sx_RP.step (pc2 := 29) (ls2 := [(0, .ref 0), (1, .int (nI x3)), (2, .int (nI x12))]) (st2 := []) (w3 := w) rfl rfl ?_
      refine sx_RP.step (pc2 := 30) (ls2 := [(0, .ref 0), (1, .int (nI x3)), (2, .int (nI x12))]) (st2 := [.ref 0]) (w3 := w) rfl rfl ?_
      refine sx_RP.gf (v := .ref 1) rfl rfl hI.1.o0 rfl rfl (show _ = 33 from rfl) ?_
      refine sx_RP.gref (k := 2) (b := 3) hI (Or.inl rfl) rfl rfl (by omega) (show _ = 36 from rfl) ?_
      refine sx_RP.step (pc2 := 37) (ls2 := [(0, .ref 0), (1, .int (nI x3)), (2, .int (nI x12))]) (st2 := [.int (nI x12), .ref 3]) (w3 := w) rfl rfl ?_
      refine sx_RP.ald (v := .ref (1 + 4 + x12)) rfl (hI.1.aG (Or.inl rfl)) rfl (grA_at (show x12 < 10 by omega)) (show _ = 38 from rfl) ?_
      refine sx_RP.step (pc2 := 39) (ls2 := [(3, .ref (1 + 4 + x12)), (0, .ref 0), (1, .int (nI x3)), (2, .int (nI x12))]) (st2 := []) (w3 := w) rfl rfl ?_
      refine sx_RP.step (pc2 := 40) (ls2 := [(3, .ref (1 + 4 + x12)), (0, .ref 0), (1, .int (nI x3)), (2, .int (nI x12))]) (st2 := [.ref (1 + 4 + x12)]) (w3 := w) rfl rfl ?_
      refine sx_RP.step (pc2 := 41) (ls2 := [(3, .ref (1 + 4 + x12)), (0, .ref 0), (1, .int (nI x3)), (2, .int (nI x12))]) (st2 := [.int 0, .ref (1 + 4 + x12)]) (w3 := w) rfl rfl ?_
      obtain ⟨x19, hx20, c21⟩ := p43 hI (gAd.of (Or.inl rfl) (show x12 < 10 by omega)) 0
      refine sx_RP.cu (as := [.ref (1 + 4 + x12), .int 0]) (rest2 := []) (st3 := [.int (nI x19)]) rfl rfl (sx_inv_v2 (mi := 70) (k := 186) (st := [.int 0, .ref (1 + 4 + x12)]) (w := w) rfl rfl (hI.1.oG (gAd.of (Or.inl rfl) (show x12 < 10 by omega))) rfl rfl rfl) rfl rfl (c21) rfl ?_
      refine sx_RP.br (p1 := 49) (l1 := [(3, .ref (1 + 4 + x12)), (0, .ref 0), (1, .int (nI x3)), (2, .int (nI x12))]) (s1 := []) (v1 := w) (p2 := 47) (l2 := [(3, .ref (1 + 4 + x12)), (0, .ref 0), (1, .int (nI x3)), (2, .int (nI x12))]) (s2 := []) (v2 := w) rfl rfl (fun q22 => ?_) (fun q22 => ?_)
      · replace q22 := of_decide_eq_true q22
        replace q22 := mt (nI_eq (a := x19) (b := 0) (by omega) (by omega)).mpr q22
        refine sx_RP.step (pc2 := 50) (ls2 := [(3, .ref (1 + 4 + x12)), (0, .ref 0), (1, .int (nI x3)), (2, .int (nI x12))]) (st2 := [.ref 0]) (w3 := w) rfl rfl ?_
        refine sx_RP.gf (v := .ref 44) rfl rfl hI.1.o0 rfl rfl (show _ = 53 from rfl) ?_
        refine sx_RP.step (pc2 := 54) (ls2 := [(3, .ref (1 + 4 + x12)), (0, .ref 0), (1, .int (nI x3)), (2, .int (nI x12))]) (st2 := [.ref 0, .ref 44]) (w3 := w) rfl rfl ?_
        refine sx_RP.gf (v := .ref 1) rfl rfl hI.1.o0 rfl rfl (show _ = 57 from rfl) ?_
        refine sx_RP.gref (k := 0) (b := 2) hI (Or.inl rfl) rfl rfl (by omega) (show _ = 60 from rfl) ?_
        refine sx_RP.callp (as2 := [.ref 44, .ref 2]) (rest2 := []) rfl rfl (sx_inv_v2 (mi := 70) (k := 95) (st := [.ref 2, .ref 44]) (w := w) rfl rfl hI.1.o44 rfl rfl rfl) rfl rfl rfl (s16 hI (Or.inl rfl)) (show _ = 63 from rfl) ?_
        rintro r4 w23 ⟨rfl, hI24, hE26⟩
        have hE25 := hE.tr hE26
        show sx_RP _ _ _ _ _ [] _ _
        refine sx_RP.step (pc2 := 64) (ls2 := [(3, .ref (1 + 4 + x12)), (0, .ref 0), (1, .int (nI x3)), (2, .int (nI x12))]) (st2 := [.ref 0]) (w3 := w23) rfl rfl ?_
        refine sx_RP.step (pc2 := 65) (ls2 := [(3, .ref (1 + 4 + x12)), (0, .ref 0), (1, .int (nI x3)), (2, .int (nI x12))]) (st2 := [.ref (1 + 4 + x12), .ref 0]) (w3 := w23) rfl rfl ?_
        refine sx_RP.gg (k := 0) hI24 (gAd.of (Or.inl rfl) (show x12 < 10 by omega)) rfl rfl (by decide) (show _ = 68 from rfl) ?_
        obtain ⟨x27, hx28, ex29⟩ : inR (fi w23 (1 + 4 + x12) 0) 5 := hI24.gk (k := 0) (gAd.of (Or.inl rfl) (show x12 < 10 by omega)) (by decide)
        rw [ex29]
        refine sx_RP.step (pc2 := 69) (ls2 := [(3, .ref (1 + 4 + x12)), (0, .ref 0), (1, .int (nI x3)), (2, .int (nI x12))]) (st2 := [.ref (1 + 4 + x12), .int (nI x27), .ref 0]) (w3 := w23) rfl rfl ?_
        refine sx_RP.gg (k := 2) hI24 (gAd.of (Or.inl rfl) (show x12 < 10 by omega)) rfl rfl (by decide) (show _ = 72 from rfl) ?_
        obtain ⟨x30, hx31, ex32⟩ : inR (fi w23 (1 + 4 + x12) 2) 47 := hI24.gk (k := 2) (gAd.of (Or.inl rfl) (show x12 < 10 by omega)) (by decide)
        rw [ex32]
        refine sx_RP.step (pc2 := 73) (ls2 := [(3, .ref (1 + 4 + x12)), (0, .ref 0), (1, .int (nI x3)), (2, .int (nI x12))]) (st2 := [.ref 0, .int (nI x30), .int (nI x27), .ref 0]) (w3 := w23) rfl rfl ?_
        refine sx_RP.gf (v := .ref 44) rfl rfl hI24.1.o0 rfl rfl (show _ = 76 from rfl) ?_
        refine sx_RP.step (pc2 := 77) (ls2 := [(3, .ref (1 + 4 + x12)), (0, .ref 0), (1, .int (nI x3)), (2, .int (nI x12))]) (st2 := [.ref 0, .ref 44, .int (nI x30), .int (nI x27), .ref 0]) (w3 := w23) rfl rfl ?_
        refine sx_RP.gf (v := .ref 1) rfl rfl hI24.1.o0 rfl rfl (show _ = 80 from rfl) ?_
        refine sx_RP.gref (k := 4) (b := 4) hI24 (Or.inl rfl) rfl rfl (by omega) (show _ = 83 from rfl) ?_
        refine sx_RP.step (pc2 := 84) (ls2 := [(3, .ref (1 + 4 + x12)), (0, .ref 0), (1, .int (nI x3)), (2, .int (nI x12))]) (st2 := [.int (nI x3), .ref 4, .ref 44, .int (nI x30), .int (nI x27), .ref 0]) (w3 := w23) rfl rfl ?_
        refine sx_RP.ild (c := x3) rfl (hI24.1.aD (Or.inl rfl)).1 (hI24.1.aD (Or.inl rfl)).2 (sx_in_nI (show x3 < 9 by omega) (by decide)) (show (nI x3).toNatClampNeg = x3 from nI_clamp (by omega)) (show _ = 85 from rfl) ?_
        obtain ⟨x33, hx34, ex35⟩ : inR ((ia w23 4).getD x3 0) 47 := hI24.di (Or.inl rfl) (show x3 < 9 by omega)
        rw [ex35]
        refine sx_RP.callp (as2 := [.ref 44, .int (nI x33)]) (rest2 := [.int (nI x30), .int (nI x27), .ref 0]) rfl rfl (sx_inv_v2 (mi := 70) (k := 99) (st := [.int (nI x33), .ref 44, .int (nI x30), .int (nI x27), .ref 0]) (w := w23) rfl rfl hI24.1.o44 rfl rfl rfl) rfl rfl rfl (s17 hI24 (show x33 < 48 by omega)) (show _ = 88 from rfl) ?_
        rintro r4 w36 ⟨rfl, hI37, hE39⟩
        have hE38 := hE25.tr hE39
        show sx_RP _ _ _ _ _ [.ref (47 + x33), .int (nI x30), .int (nI x27), .ref 0] _ _
        obtain ⟨v40, c41⟩ := p69 hI37 (show x27 ≤ 5 by omega) (show x30 < 48 by omega) (show x33 < 48 by omega)
        refine sx_RP.cu (as := [.ref 0, .int (nI x27), .int (nI x30), .ref (47 + x33)]) (rest2 := []) (st3 := [.int v40]) rfl rfl (sx_inv_v2 (mi := 70) (k := 235) (st := [.ref (47 + x33), .int (nI x30), .int (nI x27), .ref 0]) (w := w36) rfl rfl hI37.1.o0 rfl rfl rfl) rfl rfl (c41) rfl ?_
        refine sx_RP.ret (r := (some (.int v40))) rfl rfl ?_
        exact ⟨⟨_, rfl⟩, hI37, hE38⟩
      · replace q22 := Decidable.not_not.mp (of_decide_eq_false q22)
        replace q22 := (nI_eq (a := x19) (b := 0) (by omega) (by omega)).mp q22
        refine sx_RP.step (pc2 := 48) (ls2 := [(3, .ref (1 + 4 + x12)), (0, .ref 0), (1, .int (nI x3)), (2, .int (nI x12))]) (st2 := [.int 0]) (w3 := w) rfl rfl ?_
        refine sx_RP.ret (r := (some (.int 0))) rfl rfl ?_
        exact ⟨⟨_, rfl⟩, hI, hE⟩
set_option maxRecDepth 20000 in
set_option maxHeartbeats 4000000 in
theorem s71 {xs : Option (List Int32)} {d : Nat} {w : List sx_C} (hI : WI w) (a1 : Int32) : sx_RP xs (d + 7) 71 0 (lv_args 0 [.ref 0, .int a1]) [] w (fun r w2 => (∃ v : Int64, r = some (.long v)) ∧ WI w2 ∧ EC w w2) := by
  have hE : EC w w := EC.rf
  refine sx_RP.step (pc2 := 1) (ls2 := [(0, .ref 0), (1, .int a1)]) (st2 := [.int a1]) (w3 := w) rfl rfl ?_
  rcases in_cases a1 0 5 (m := 0) (n := 5) rfl rfl (by decide) (by decide) with q1 | ⟨x2, hx3, hx4, rfl⟩
  · refine sx_RP.cu (as := [.int a1]) (rest2 := []) (st3 := [.int 0]) rfl rfl rfl rfl rfl (cx_22n q1) rfl ?_
    refine sx_RP.step (pc2 := 7) (ls2 := [(0, .ref 0), (1, .int a1)]) (st2 := []) (w3 := w) rfl rfl ?_
    refine sx_RP.step (pc2 := 8) (ls2 := [(0, .ref 0), (1, .int a1)]) (st2 := [.ref 0]) (w3 := w) rfl rfl ?_
    refine sx_RP.step (pc2 := 10) (ls2 := [(0, .ref 0), (1, .int a1)]) (st2 := [.int (-1000000001), .ref 0]) (w3 := w) rfl rfl ?_
    refine sx_RP.callp (as2 := [.ref 0, .int (-1000000001)]) (rest2 := []) rfl rfl (sx_inv_v2 (mi := 71) (k := 78) (st := [.int (-1000000001), .ref 0]) (w := w) rfl rfl hI.1.o0 rfl rfl rfl) rfl rfl rfl (s9_0 hI) (show _ = 13 from rfl) ?_
    rintro r4 w6 ⟨rfl, hI7, hE9⟩
    have hE8 := hE.tr hE9
    show sx_RP _ _ _ _ _ [.int (-1000000001)] _ _
    refine sx_RP.step (pc2 := 14) (ls2 := [(0, .ref 0), (1, .int a1)]) (st2 := [.long (-1000000001)]) (w3 := w6) rfl rfl ?_
    refine sx_RP.ret (r := (some (.long (-1000000001)))) rfl rfl ?_
    exact ⟨⟨_, rfl⟩, hI7, hE8⟩
  · refine sx_RP.cu (as := [.int (nI x2)]) (rest2 := []) (st3 := [.int 1]) rfl rfl rfl rfl rfl (cx_22p ⟨nI_le (a := 0) hx3 (by omega), nI_le (b := 5) hx4 (by decide)⟩) rfl ?_
    refine sx_RP.step (pc2 := 15) (ls2 := [(0, .ref 0), (1, .int (nI x2))]) (st2 := []) (w3 := w) rfl rfl ?_
    refine sx_RP.step (pc2 := 16) (ls2 := [(0, .ref 0), (1, .int (nI x2))]) (st2 := [.ref 0]) (w3 := w) rfl rfl ?_
    refine sx_RP.gf (v := .ref 1) rfl rfl hI.1.o0 rfl rfl (show _ = 19 from rfl) ?_
    refine sx_RP.gc (k := 5) hI (Or.inl rfl) rfl rfl (by omega) (show _ = 22 from rfl) ?_
    obtain ⟨x10, hx11, ex12⟩ : inR (fi w 1 5) 9 := (hI.c (Or.inl rfl)).2
    rw [ex12]
    refine sx_RP.br (p1 := 33) (l1 := [(0, .ref 0), (1, .int (nI x2))]) (s1 := []) (v1 := w) (p2 := 25) (l2 := [(0, .ref 0), (1, .int (nI x2))]) (s2 := []) (v2 := w) rfl rfl (fun q13 => ?_) (fun q13 => ?_)
    · replace q13 := of_decide_eq_true q13
      replace q13 := mt (nI_eq (a := x10) (b := 0) (by omega) (by omega)).mpr q13
      refine sx_RP.step (pc2 := 34) (ls2 := [(0, .ref 0), (1, .int (nI x2))]) (st2 := [.ref 0]) (w3 := w) rfl rfl ?_
      refine sx_RP.gf (v := .ref 44) rfl rfl hI.1.o0 rfl rfl (show _ = 37 from rfl) ?_
      refine sx_RP.step (pc2 := 38) (ls2 := [(0, .ref 0), (1, .int (nI x2))]) (st2 := [.ref 0, .ref 44]) (w3 := w) rfl rfl ?_
      refine sx_RP.gf (v := .ref 1) rfl rfl hI.1.o0 rfl rfl (show _ = 41 from rfl) ?_
      refine sx_RP.gref (k := 0) (b := 2) hI (Or.inl rfl) rfl rfl (by omega) (show _ = 44 from rfl) ?_
      refine sx_RP.callp (as2 := [.ref 44, .ref 2]) (rest2 := []) rfl rfl (sx_inv_v2 (mi := 71) (k := 95) (st := [.ref 2, .ref 44]) (w := w) rfl rfl hI.1.o44 rfl rfl rfl) rfl rfl rfl (s16 hI (Or.inl rfl)) (show _ = 47 from rfl) ?_
      rintro r4 w14 ⟨rfl, hI15, hE17⟩
      have hE16 := hE.tr hE17
      show sx_RP _ _ _ _ _ [] _ _
      refine sx_RP.step (pc2 := 48) (ls2 := [(0, .ref 0), (1, .int (nI x2))]) (st2 := [.ref 0]) (w3 := w14) rfl rfl ?_
      refine sx_RP.step (pc2 := 49) (ls2 := [(0, .ref 0), (1, .int (nI x2))]) (st2 := [.int (nI x2), .ref 0]) (w3 := w14) rfl rfl ?_
      refine sx_RP.callp (as2 := [.ref 0, .int (nI x2)]) (rest2 := []) rfl rfl (sx_inv_v2 (mi := 71) (k := 242) (st := [.int (nI x2), .ref 0]) (w := w14) rfl rfl hI15.1.o0 rfl rfl rfl) rfl rfl rfl (s72 hI15 (show x2 ≤ 5 by omega)) (show _ = 52 from rfl) ?_
      rintro r4 w19 ⟨⟨v18, rfl⟩, hI20, hE22⟩
      have hE21 := hE16.tr hE22
      show sx_RP _ _ _ _ _ [.long v18] _ _
      refine sx_RP.ret (r := (some (.long v18))) rfl rfl ?_
      exact ⟨⟨_, rfl⟩, hI20, hE21⟩
    · replace q13 := Decidable.not_not.mp (of_decide_eq_false q13)
      replace q13 := (nI_eq (a := x10) (b := 0) (by omega) (by omega)).mp q13
      refine sx_RP.step (pc2 := 26) (ls2 := [(0, .ref 0), (1, .int (nI x2))]) (st2 := [.ref 0]) (w3 := w) rfl rfl ?_
      refine sx_RP.step (pc2 := 28) (ls2 := [(0, .ref 0), (1, .int (nI x2))]) (st2 := [.int (-1000000004), .ref 0]) (w3 := w) rfl rfl ?_
      refine sx_RP.callp (as2 := [.ref 0, .int (-1000000004)]) (rest2 := []) rfl rfl (sx_inv_v2 (mi := 71) (k := 78) (st := [.int (-1000000004), .ref 0]) (w := w) rfl rfl hI.1.o0 rfl rfl rfl) rfl rfl rfl (s9_3 hI) (show _ = 31 from rfl) ?_
      rintro r4 w23 ⟨rfl, hI24, hE26⟩
      have hE25 := hE.tr hE26
      show sx_RP _ _ _ _ _ [.int (-1000000004)] _ _
      refine sx_RP.step (pc2 := 32) (ls2 := [(0, .ref 0), (1, .int (nI x2))]) (st2 := [.long (-1000000004)]) (w3 := w23) rfl rfl ?_
      refine sx_RP.ret (r := (some (.long (-1000000004)))) rfl rfl ?_
      exact ⟨⟨_, rfl⟩, hI24, hE25⟩
set_option maxRecDepth 20000 in
set_option maxHeartbeats 4000000 in
theorem s76 {xs : Option (List Int32)} {d : Nat} {w : List sx_C} (hI : WI w) (a1 a2 : Int32) : sx_RP xs (d + 7) 76 0 (lv_args 0 [.ref 0, .int a1, .int a2]) [] w (fun r w2 => (∃ v : Int32, r = some (.int v)) ∧ WI w2 ∧ EC w w2) := by
  have hE : EC w w := EC.rf
  refine sx_RP.step (pc2 := 1) (ls2 := [(0, .ref 0), (1, .int a1), (2, .int a2)]) (st2 := [.int a1]) (w3 := w) rfl rfl ?_
  rcases in_cases a1 0 47 (m := 0) (n := 47) rfl rfl (by decide) (by decide) with q1 | ⟨x2, hx3, hx4, rfl⟩
  · refine sx_RP.cu (as := [.int a1]) (rest2 := []) (st3 := [.int 0]) rfl rfl rfl rfl rfl (cx_7n q1) rfl ?_
    refine sx_RP.step (pc2 := 17) (ls2 := [(0, .ref 0), (1, .int a1), (2, .int a2)]) (st2 := []) (w3 := w) rfl rfl ?_
    refine sx_RP.step (pc2 := 18) (ls2 := [(0, .ref 0), (1, .int a1), (2, .int a2)]) (st2 := [.ref 0]) (w3 := w) rfl rfl ?_
    refine sx_RP.step (pc2 := 20) (ls2 := [(0, .ref 0), (1, .int a1), (2, .int a2)]) (st2 := [.int (-1000000001), .ref 0]) (w3 := w) rfl rfl ?_
    refine sx_RP.callp (as2 := [.ref 0, .int (-1000000001)]) (rest2 := []) rfl rfl (sx_inv_v2 (mi := 76) (k := 78) (st := [.int (-1000000001), .ref 0]) (w := w) rfl rfl hI.1.o0 rfl rfl rfl) rfl rfl rfl (s9_0 hI) (show _ = 23 from rfl) ?_
    rintro r4 w6 ⟨rfl, hI7, hE9⟩
    have hE8 := hE.tr hE9
    show sx_RP _ _ _ _ _ [.int (-1000000001)] _ _
    refine sx_RP.ret (r := (some (.int (-1000000001)))) rfl rfl ?_
    exact ⟨⟨_, rfl⟩, hI7, hE8⟩
  · refine sx_RP.cu (as := [.int (nI x2)]) (rest2 := []) (st3 := [.int 1]) rfl rfl rfl rfl rfl (cx_7p ⟨nI_le (a := 0) hx3 (by omega), nI_le (b := 47) hx4 (by decide)⟩) rfl ?_
    refine sx_RP.step (pc2 := 7) (ls2 := [(0, .ref 0), (1, .int (nI x2)), (2, .int a2)]) (st2 := []) (w3 := w) rfl rfl ?_
    refine sx_RP.step (pc2 := 8) (ls2 := [(0, .ref 0), (1, .int (nI x2)), (2, .int a2)]) (st2 := [.int a2]) (w3 := w) rfl rfl ?_
    refine sx_RP.step (pc2 := 9) (ls2 := [(0, .ref 0), (1, .int (nI x2)), (2, .int a2)]) (st2 := [.int 1, .int a2]) (w3 := w) rfl rfl ?_
    refine sx_RP.step (pc2 := 11) (ls2 := [(0, .ref 0), (1, .int (nI x2)), (2, .int a2)]) (st2 := [.int 30, .int 1, .int a2]) (w3 := w) rfl rfl ?_
    rcases in_cases a2 1 30 (m := 1) (n := 30) rfl rfl (by decide) (by decide) with q10 | ⟨x11, hx12, hx13, rfl⟩
    · refine sx_RP.cu (as := [.int a2, .int 1, .int 30]) (rest2 := []) (st3 := [.int 0]) rfl rfl rfl rfl rfl (cx_8n q10) rfl ?_
      refine sx_RP.step (pc2 := 17) (ls2 := [(0, .ref 0), (1, .int (nI x2)), (2, .int a2)]) (st2 := []) (w3 := w) rfl rfl ?_
      refine sx_RP.step (pc2 := 18) (ls2 := [(0, .ref 0), (1, .int (nI x2)), (2, .int a2)]) (st2 := [.ref 0]) (w3 := w) rfl rfl ?_
      refine sx_RP.step (pc2 := 20) (ls2 := [(0, .ref 0), (1, .int (nI x2)), (2, .int a2)]) (st2 := [.int (-1000000001), .ref 0]) (w3 := w) rfl rfl ?_
      refine sx_RP.callp (as2 := [.ref 0, .int (-1000000001)]) (rest2 := []) rfl rfl (sx_inv_v2 (mi := 76) (k := 78) (st := [.int (-1000000001), .ref 0]) (w := w) rfl rfl hI.1.o0 rfl rfl rfl) rfl rfl rfl (s9_0 hI) (show _ = 23 from rfl) ?_
      rintro r4 w15 ⟨rfl, hI16, hE18⟩
      have hE17 := hE.tr hE18
      show sx_RP _ _ _ _ _ [.int (-1000000001)] _ _
      refine sx_RP.ret (r := (some (.int (-1000000001)))) rfl rfl ?_
      exact ⟨⟨_, rfl⟩, hI16, hE17⟩
    · refine sx_RP.cu (as := [.int (nI x11), .int 1, .int 30]) (rest2 := []) (st3 := [.int 1]) rfl rfl rfl rfl rfl (cx_8p ⟨nI_le (a := 1) hx12 (by omega), nI_le (b := 30) hx13 (by decide)⟩) rfl ?_
      refine sx_RP.step (pc2 := 24) (ls2 := [(0, .ref 0), (1, .int (nI x2)), (2, .int (nI x11))]) (st2 := []) (w3 := w) rfl rfl ?_
      refine sx_RP.step (pc2 := 25) (ls2 := [(0, .ref 0), (1, .int (nI x2)), (2, .int (nI x11))]) (st2 := [.ref 0]) (w3 := w) rfl rfl ?_
      refine sx_RP.gf (v := .ref 1) rfl rfl hI.1.o0 rfl rfl (show _ = 28 from rfl) ?_
      refine sx_RP.step (pc2 := 29) (ls2 := [(0, .ref 0), (1, .int (nI x2)), (2, .int (nI x11))]) (st2 := [.int (nI x2), .ref 1]) (w3 := w) rfl rfl ?_
      refine sx_RP.step (pc2 := 30) (ls2 := [(0, .ref 0), (1, .int (nI x2)), (2, .int (nI x11))]) (st2 := [.int (nI x11), .int (nI x2), .ref 1]) (w3 := w) rfl rfl ?_
      obtain ⟨v19, c20⟩ := p77 hI (Or.inl rfl) (nI x2) (nI x11)
      refine sx_RP.cu (as := [.ref 1, .int (nI x2), .int (nI x11)]) (rest2 := []) (st3 := [.long v19]) rfl rfl (sx_inv_v2 (mi := 76) (k := 253) (st := [.int (nI x11), .int (nI x2), .ref 1]) (w := w) rfl rfl (hI.1.oC (Or.inl rfl)) rfl rfl rfl) rfl rfl (c20) rfl ?_
      refine sx_RP.step (pc2 := 34) (ls2 := [(0, .ref 0), (1, .int (nI x2)), (2, .int (nI x11))]) (st2 := [.ref 0, .long v19]) (w3 := w) rfl rfl ?_
      refine sx_RP.gf (v := .ref 1) rfl rfl hI.1.o0 rfl rfl (show _ = 37 from rfl) ?_
      refine sx_RP.gw hI (Or.inl rfl) rfl rfl (show _ = 40 from rfl) ?_
      refine sx_RP.step (pc2 := 41) (ls2 := [(0, .ref 0), (1, .int (nI x2)), (2, .int (nI x11))]) (st2 := [.long (v19 &&& (fj w 1 1))]) (w3 := w) rfl rfl ?_
      obtain ⟨v21, c22⟩ := p78 hI (v19 &&& (fj w 1 1))
      refine sx_RP.cu (as := [.long (v19 &&& (fj w 1 1))]) (rest2 := []) (st3 := [.int v21]) rfl rfl rfl rfl rfl (c22) rfl ?_
      refine sx_RP.ret (r := (some (.int v21))) rfl rfl ?_
      exact ⟨⟨_, rfl⟩, hI, hE⟩
set_option maxRecDepth 20000 in
set_option maxHeartbeats 4000000 in
theorem s79 {xs : Option (List Int32)} {d : Nat} {w : List sx_C} (hI : WI w) (a1 a2 : Int32) : sx_RP xs (d + 7) 79 0 (lv_args 0 [.ref 0, .int a1, .int a2]) [] w (fun r w2 => (∃ v : Int32, r = some (.int v)) ∧ WI w2 ∧ EC w w2) := by
  have hE : EC w w := EC.rf
  refine sx_RP.step (pc2 := 1) (ls2 := [(0, .ref 0), (1, .int a1), (2, .int a2)]) (st2 := [.int a1]) (w3 := w) rfl rfl ?_
  rcases in_cases a1 0 47 (m := 0) (n := 47) rfl rfl (by decide) (by decide) with q1 | ⟨x2, hx3, hx4, rfl⟩
  · refine sx_RP.cu (as := [.int a1]) (rest2 := []) (st3 := [.int 0]) rfl rfl rfl rfl rfl (cx_7n q1) rfl ?_
    refine sx_RP.step (pc2 := 17) (ls2 := [(0, .ref 0), (1, .int a1), (2, .int a2)]) (st2 := []) (w3 := w) rfl rfl ?_
    refine sx_RP.step (pc2 := 18) (ls2 := [(0, .ref 0), (1, .int a1), (2, .int a2)]) (st2 := [.ref 0]) (w3 := w) rfl rfl ?_
    refine sx_RP.step (pc2 := 20) (ls2 := [(0, .ref 0), (1, .int a1), (2, .int a2)]) (st2 := [.int (-1000000001), .ref 0]) (w3 := w) rfl rfl ?_
    refine sx_RP.callp (as2 := [.ref 0, .int (-1000000001)]) (rest2 := []) rfl rfl (sx_inv_v2 (mi := 79) (k := 78) (st := [.int (-1000000001), .ref 0]) (w := w) rfl rfl hI.1.o0 rfl rfl rfl) rfl rfl rfl (s9_0 hI) (show _ = 23 from rfl) ?_
    rintro r4 w6 ⟨rfl, hI7, hE9⟩
    have hE8 := hE.tr hE9
    show sx_RP _ _ _ _ _ [.int (-1000000001)] _ _
    refine sx_RP.ret (r := (some (.int (-1000000001)))) rfl rfl ?_
    exact ⟨⟨_, rfl⟩, hI7, hE8⟩
  · refine sx_RP.cu (as := [.int (nI x2)]) (rest2 := []) (st3 := [.int 1]) rfl rfl rfl rfl rfl (cx_7p ⟨nI_le (a := 0) hx3 (by omega), nI_le (b := 47) hx4 (by decide)⟩) rfl ?_
    refine sx_RP.step (pc2 := 7) (ls2 := [(0, .ref 0), (1, .int (nI x2)), (2, .int a2)]) (st2 := []) (w3 := w) rfl rfl ?_
    refine sx_RP.step (pc2 := 8) (ls2 := [(0, .ref 0), (1, .int (nI x2)), (2, .int a2)]) (st2 := [.int a2]) (w3 := w) rfl rfl ?_
    refine sx_RP.step (pc2 := 9) (ls2 := [(0, .ref 0), (1, .int (nI x2)), (2, .int a2)]) (st2 := [.int 1, .int a2]) (w3 := w) rfl rfl ?_
    refine sx_RP.step (pc2 := 11) (ls2 := [(0, .ref 0), (1, .int (nI x2)), (2, .int a2)]) (st2 := [.int 30, .int 1, .int a2]) (w3 := w) rfl rfl ?_
    rcases in_cases a2 1 30 (m := 1) (n := 30) rfl rfl (by decide) (by decide) with q10 | ⟨x11, hx12, hx13, rfl⟩
    · refine sx_RP.cu (as := [.int a2, .int 1, .int 30]) (rest2 := []) (st3 := [.int 0]) rfl rfl rfl rfl rfl (cx_8n q10) rfl ?_
      refine sx_RP.step (pc2 := 17) (ls2 := [(0, .ref 0), (1, .int (nI x2)), (2, .int a2)]) (st2 := []) (w3 := w) rfl rfl ?_
      refine sx_RP.step (pc2 := 18) (ls2 := [(0, .ref 0), (1, .int (nI x2)), (2, .int a2)]) (st2 := [.ref 0]) (w3 := w) rfl rfl ?_
      refine sx_RP.step (pc2 := 20) (ls2 := [(0, .ref 0), (1, .int (nI x2)), (2, .int a2)]) (st2 := [.int (-1000000001), .ref 0]) (w3 := w) rfl rfl ?_
      refine sx_RP.callp (as2 := [.ref 0, .int (-1000000001)]) (rest2 := []) rfl rfl (sx_inv_v2 (mi := 79) (k := 78) (st := [.int (-1000000001), .ref 0]) (w := w) rfl rfl hI.1.o0 rfl rfl rfl) rfl rfl rfl (s9_0 hI) (show _ = 23 from rfl) ?_
      rintro r4 w15 ⟨rfl, hI16, hE18⟩
      have hE17 := hE.tr hE18
      show sx_RP _ _ _ _ _ [.int (-1000000001)] _ _
      refine sx_RP.ret (r := (some (.int (-1000000001)))) rfl rfl ?_
      exact ⟨⟨_, rfl⟩, hI16, hE17⟩
    · refine sx_RP.cu (as := [.int (nI x11), .int 1, .int 30]) (rest2 := []) (st3 := [.int 1]) rfl rfl rfl rfl rfl (cx_8p ⟨nI_le (a := 1) hx12 (by omega), nI_le (b := 30) hx13 (by decide)⟩) rfl ?_
      refine sx_RP.step (pc2 := 24) (ls2 := [(0, .ref 0), (1, .int (nI x2)), (2, .int (nI x11))]) (st2 := []) (w3 := w) rfl rfl ?_
      refine sx_RP.step (pc2 := 25) (ls2 := [(0, .ref 0), (1, .int (nI x2)), (2, .int (nI x11))]) (st2 := [.ref 0]) (w3 := w) rfl rfl ?_
      refine sx_RP.gf (v := .ref 1) rfl rfl hI.1.o0 rfl rfl (show _ = 28 from rfl) ?_
      refine sx_RP.step (pc2 := 29) (ls2 := [(0, .ref 0), (1, .int (nI x2)), (2, .int (nI x11))]) (st2 := [.ref 0, .ref 1]) (w3 := w) rfl rfl ?_
      refine sx_RP.gf (v := .ref 1) rfl rfl hI.1.o0 rfl rfl (show _ = 32 from rfl) ?_
      refine sx_RP.step (pc2 := 33) (ls2 := [(0, .ref 0), (1, .int (nI x2)), (2, .int (nI x11))]) (st2 := [.int (nI x2), .ref 1, .ref 1]) (w3 := w) rfl rfl ?_
      refine sx_RP.step (pc2 := 34) (ls2 := [(0, .ref 0), (1, .int (nI x2)), (2, .int (nI x11))]) (st2 := [.int (nI x11), .int (nI x2), .ref 1, .ref 1]) (w3 := w) rfl rfl ?_
      obtain ⟨v19, c20⟩ := p77 hI (Or.inl rfl) (nI x2) (nI x11)
      refine sx_RP.cu (as := [.ref 1, .int (nI x2), .int (nI x11)]) (rest2 := [.ref 1]) (st3 := [.long v19, .ref 1]) rfl rfl (sx_inv_v2 (mi := 79) (k := 253) (st := [.int (nI x11), .int (nI x2), .ref 1, .ref 1]) (w := w) rfl rfl (hI.1.oC (Or.inl rfl)) rfl rfl rfl) rfl rfl (c20) rfl ?_
      refine sx_RP.callp (as2 := [.ref 1, .long v19]) (rest2 := []) rfl rfl (sx_inv_v2 (mi := 79) (k := 263) (st := [.long v19, .ref 1]) (w := w) rfl rfl (hI.1.oC (Or.inl rfl)) rfl rfl rfl) rfl rfl rfl (s80 hI (Or.inl rfl) v19) (show _ = 40 from rfl) ?_
      rintro r4 w22 ⟨⟨v21, rfl⟩, hI23, hE25⟩
      have hE24 := hE.tr hE25
      show sx_RP _ _ _ _ _ [.int v21] _ _
      refine sx_RP.ret (r := (some (.int v21))) rfl rfl ?_
      exact ⟨⟨_, rfl⟩, hI23, hE24⟩
set_option maxRecDepth 20000 in
set_option maxHeartbeats 4000000 in
theorem s82 {xs : Option (List Int32)} {d : Nat} {w : List sx_C} (hI : WI w) (a1 a2 : Int32) : sx_RP xs (d + 7) 82 0 (lv_args 0 [.ref 0, .int a1, .int a2]) [] w (fun r w2 => (∃ v : Int32, r = some (.int v)) ∧ WI w2 ∧ EC w w2) := by
  have hE : EC w w := EC.rf
  refine sx_RP.step (pc2 := 1) (ls2 := [(0, .ref 0), (1, .int a1), (2, .int a2)]) (st2 := [.int a1]) (w3 := w) rfl rfl ?_
  refine sx_RP.br (p1 := 34) (l1 := [(0, .ref 0), (1, .int a1), (2, .int a2)]) (s1 := []) (v1 := w) (p2 := 4) (l2 := [(0, .ref 0), (1, .int a1), (2, .int a2)]) (s2 := []) (v2 := w) rfl rfl (fun q1 => ?_) (fun q1 => ?_)
  · replace q1 := of_decide_eq_true q1
    refine sx_RP.step (pc2 := 35) (ls2 := [(0, .ref 0), (1, .int a1), (2, .int a2)]) (st2 := [.int a1]) (w3 := w) rfl rfl ?_
    refine sx_RP.step (pc2 := 36) (ls2 := [(0, .ref 0), (1, .int a1), (2, .int a2)]) (st2 := [.int 1, .int a1]) (w3 := w) rfl rfl ?_
    refine sx_RP.br (p1 := 69) (l1 := [(0, .ref 0), (1, .int a1), (2, .int a2)]) (s1 := []) (v1 := w) (p2 := 39) (l2 := [(0, .ref 0), (1, .int a1), (2, .int a2)]) (s2 := []) (v2 := w) rfl rfl (fun q2 => ?_) (fun q2 => ?_)
    · replace q2 := of_decide_eq_true q2
      refine sx_RP.step (pc2 := 70) (ls2 := [(0, .ref 0), (1, .int a1), (2, .int a2)]) (st2 := [.int a1]) (w3 := w) rfl rfl ?_
      refine sx_RP.step (pc2 := 71) (ls2 := [(0, .ref 0), (1, .int a1), (2, .int a2)]) (st2 := [.int 2, .int a1]) (w3 := w) rfl rfl ?_
      refine sx_RP.br (p1 := 103) (l1 := [(0, .ref 0), (1, .int a1), (2, .int a2)]) (s1 := []) (v1 := w) (p2 := 74) (l2 := [(0, .ref 0), (1, .int a1), (2, .int a2)]) (s2 := []) (v2 := w) rfl rfl (fun q3 => ?_) (fun q3 => ?_)
      · replace q3 := of_decide_eq_true q3
        refine sx_RP.step (pc2 := 104) (ls2 := [(0, .ref 0), (1, .int a1), (2, .int a2)]) (st2 := [.ref 0]) (w3 := w) rfl rfl ?_
        refine sx_RP.step (pc2 := 106) (ls2 := [(0, .ref 0), (1, .int a1), (2, .int a2)]) (st2 := [.int (-1000000001), .ref 0]) (w3 := w) rfl rfl ?_
        refine sx_RP.callp (as2 := [.ref 0, .int (-1000000001)]) (rest2 := []) rfl rfl (sx_inv_v2 (mi := 82) (k := 78) (st := [.int (-1000000001), .ref 0]) (w := w) rfl rfl hI.1.o0 rfl rfl rfl) rfl rfl rfl (s9_0 hI) (show _ = 109 from rfl) ?_
        rintro r4 w4 ⟨rfl, hI5, hE7⟩
        have hE6 := hE.tr hE7
        show sx_RP _ _ _ _ _ [.int (-1000000001)] _ _
        refine sx_RP.step (pc2 := 110) (ls2 := [(3, .int (-1000000001)), (0, .ref 0), (1, .int a1), (2, .int a2)]) (st2 := []) (w3 := w4) rfl rfl ?_
        refine sx_RP.step (pc2 := 111) (ls2 := [(3, .int (-1000000001)), (0, .ref 0), (1, .int a1), (2, .int a2)]) (st2 := [.int (-1000000001)]) (w3 := w4) rfl rfl ?_
        refine sx_RP.ret (r := (some (.int (-1000000001)))) rfl rfl ?_
        exact ⟨⟨_, rfl⟩, hI5, hE6⟩
      · replace q3 := Decidable.not_not.mp (of_decide_eq_false q3)
        refine sx_RP.step (pc2 := 75) (ls2 := [(0, .ref 0), (1, .int a1), (2, .int a2)]) (st2 := [.int a2]) (w3 := w) rfl rfl ?_
        refine sx_RP.step (pc2 := 76) (ls2 := [(0, .ref 0), (1, .int a1), (2, .int a2)]) (st2 := [.int 1, .int a2]) (w3 := w) rfl rfl ?_
        refine sx_RP.step (pc2 := 78) (ls2 := [(0, .ref 0), (1, .int a1), (2, .int a2)]) (st2 := [.int 99, .int 1, .int a2]) (w3 := w) rfl rfl ?_
        rcases in_cases a2 1 99 (m := 1) (n := 99) rfl rfl (by decide) (by decide) with q8 | ⟨x9, hx10, hx11, rfl⟩
        · refine sx_RP.cu (as := [.int a2, .int 1, .int 99]) (rest2 := []) (st3 := [.int 0]) rfl rfl rfl rfl rfl (cx_8n q8) rfl ?_
          refine sx_RP.step (pc2 := 103) (ls2 := [(0, .ref 0), (1, .int a1), (2, .int a2)]) (st2 := []) (w3 := w) rfl rfl ?_
          refine sx_RP.step (pc2 := 104) (ls2 := [(0, .ref 0), (1, .int a1), (2, .int a2)]) (st2 := [.ref 0]) (w3 := w) rfl rfl ?_
          refine sx_RP.step (pc2 := 106) (ls2 := [(0, .ref 0), (1, .int a1), (2, .int a2)]) (st2 := [.int (-1000000001), .ref 0]) (w3 := w) rfl rfl ?_
          refine sx_RP.callp (as2 := [.ref 0, .int (-1000000001)]) (rest2 := []) rfl rfl (sx_inv_v2 (mi := 82) (k := 78) (st := [.int (-1000000001), .ref 0]) (w := w) rfl rfl hI.1.o0 rfl rfl rfl) rfl rfl rfl (s9_0 hI) (show _ = 109 from rfl) ?_
          rintro r4 w13 ⟨rfl, hI14, hE16⟩
          have hE15 := hE.tr hE16
          show sx_RP _ _ _ _ _ [.int (-1000000001)] _ _
          refine sx_RP.step (pc2 := 110) (ls2 := [(3, .int (-1000000001)), (0, .ref 0), (1, .int a1), (2, .int a2)]) (st2 := []) (w3 := w13) rfl rfl ?_
          refine sx_RP.step (pc2 := 111) (ls2 := [(3, .int (-1000000001)), (0, .ref 0), (1, .int a1), (2, .int a2)]) (st2 := [.int (-1000000001)]) (w3 := w13) rfl rfl ?_
          refine sx_RP.ret (r := (some (.int (-1000000001)))) rfl rfl ?_
          exact ⟨⟨_, rfl⟩, hI14, hE15⟩
        · refine sx_RP.cu (as := [.int (nI x9), .int 1, .int 99]) (rest2 := []) (st3 := [.int 1]) rfl rfl rfl rfl rfl (cx_8p ⟨nI_le (a := 1) hx10 (by omega), nI_le (b := 99) hx11 (by decide)⟩) rfl ?_
          refine sx_RP.step (pc2 := 84) (ls2 := [(0, .ref 0), (1, .int a1), (2, .int (nI x9))]) (st2 := []) (w3 := w) rfl rfl ?_
          refine sx_RP.step (pc2 := 85) (ls2 := [(0, .ref 0), (1, .int a1), (2, .int (nI x9))]) (st2 := [.ref 0]) (w3 := w) rfl rfl ?_
          refine sx_RP.gf (v := .ref 1) rfl rfl hI.1.o0 rfl rfl (show _ = 88 from rfl) ?_
          refine sx_RP.gc (k := 10) hI (Or.inl rfl) rfl rfl (by omega) (show _ = 91 from rfl) ?_
          refine sx_RP.step (pc2 := 92) (ls2 := [(3, .int (fi w 1 10)), (0, .ref 0), (1, .int a1), (2, .int (nI x9))]) (st2 := []) (w3 := w) rfl rfl ?_
          refine sx_RP.step (pc2 := 93) (ls2 := [(3, .int (fi w 1 10)), (0, .ref 0), (1, .int a1), (2, .int (nI x9))]) (st2 := [.ref 0]) (w3 := w) rfl rfl ?_
          refine sx_RP.gf (v := .ref 1) rfl rfl hI.1.o0 rfl rfl (show _ = 96 from rfl) ?_
          refine sx_RP.step (pc2 := 97) (ls2 := [(3, .int (fi w 1 10)), (0, .ref 0), (1, .int a1), (2, .int (nI x9))]) (st2 := [.int (nI x9), .ref 1]) (w3 := w) rfl rfl ?_
          refine sx_RP.putc (k := 10) hI hE (Or.inl rfl) rfl rfl (by omega) rfl trivial (show _ = 100 from rfl) (fun w17 hI18 hE19 => ?_)
          refine sx_RP.step (pc2 := 110) (ls2 := [(3, .int (fi w 1 10)), (0, .ref 0), (1, .int a1), (2, .int (nI x9))]) (st2 := []) (w3 := w17) rfl rfl ?_
          refine sx_RP.step (pc2 := 111) (ls2 := [(3, .int (fi w 1 10)), (0, .ref 0), (1, .int a1), (2, .int (nI x9))]) (st2 := [.int (fi w 1 10)]) (w3 := w17) rfl rfl ?_
          refine sx_RP.ret (r := (some (.int (fi w 1 10)))) rfl rfl ?_
          exact ⟨⟨_, rfl⟩, hI18, hE19⟩
    · replace q2 := Decidable.not_not.mp (of_decide_eq_false q2)
      refine sx_RP.step (pc2 := 40) (ls2 := [(0, .ref 0), (1, .int a1), (2, .int a2)]) (st2 := [.int a2]) (w3 := w) rfl rfl ?_
      refine sx_RP.step (pc2 := 41) (ls2 := [(0, .ref 0), (1, .int a1), (2, .int a2)]) (st2 := [.int 1, .int a2]) (w3 := w) rfl rfl ?_
      refine sx_RP.step (pc2 := 44) (ls2 := [(0, .ref 0), (1, .int a1), (2, .int a2)]) (st2 := [.int 999, .int 1, .int a2]) (w3 := w) rfl rfl ?_
      rcases in_cases a2 1 999 (m := 1) (n := 999) rfl rfl (by decide) (by decide) with q20 | ⟨x21, hx22, hx23, rfl⟩
      · refine sx_RP.cu (as := [.int a2, .int 1, .int 999]) (rest2 := []) (st3 := [.int 0]) rfl rfl rfl rfl rfl (cx_8n q20) rfl ?_
        refine sx_RP.step (pc2 := 69) (ls2 := [(0, .ref 0), (1, .int a1), (2, .int a2)]) (st2 := []) (w3 := w) rfl rfl ?_
        refine sx_RP.step (pc2 := 70) (ls2 := [(0, .ref 0), (1, .int a1), (2, .int a2)]) (st2 := [.int a1]) (w3 := w) rfl rfl ?_
        refine sx_RP.step (pc2 := 71) (ls2 := [(0, .ref 0), (1, .int a1), (2, .int a2)]) (st2 := [.int 2, .int a1]) (w3 := w) rfl rfl ?_
        refine sx_RP.br (p1 := 103) (l1 := [(0, .ref 0), (1, .int a1), (2, .int a2)]) (s1 := []) (v1 := w) (p2 := 74) (l2 := [(0, .ref 0), (1, .int a1), (2, .int a2)]) (s2 := []) (v2 := w) rfl rfl (fun q25 => ?_) (fun q25 => ?_)
        · replace q25 := of_decide_eq_true q25
          refine sx_RP.step (pc2 := 104) (ls2 := [(0, .ref 0), (1, .int a1), (2, .int a2)]) (st2 := [.ref 0]) (w3 := w) rfl rfl ?_
          refine sx_RP.step (pc2 := 106) (ls2 := [(0, .ref 0), (1, .int a1), (2, .int a2)]) (st2 := [.int (-1000000001), .ref 0]) (w3 := w) rfl rfl ?_
          refine sx_RP.callp (as2 := [.ref 0, .int (-1000000001)]) (rest2 := []) rfl rfl (sx_inv_v2 (mi := 82) (k := 78) (st := [.int (-1000000001), .ref 0]) (w := w) rfl rfl hI.1.o0 rfl rfl rfl) rfl rfl rfl (s9_0 hI) (show _ = 109 from rfl) ?_
          rintro r4 w26 ⟨rfl, hI27, hE29⟩
          have hE28 := hE.tr hE29
          show sx_RP _ _ _ _ _ [.int (-1000000001)] _ _
          refine sx_RP.step (pc2 := 110) (ls2 := [(3, .int (-1000000001)), (0, .ref 0), (1, .int a1), (2, .int a2)]) (st2 := []) (w3 := w26) rfl rfl ?_
          refine sx_RP.step (pc2 := 111) (ls2 := [(3, .int (-1000000001)), (0, .ref 0), (1, .int a1), (2, .int a2)]) (st2 := [.int (-1000000001)]) (w3 := w26) rfl rfl ?_
          refine sx_RP.ret (r := (some (.int (-1000000001)))) rfl rfl ?_
          exact ⟨⟨_, rfl⟩, hI27, hE28⟩
        · replace q25 := Decidable.not_not.mp (of_decide_eq_false q25)
          refine sx_RP.step (pc2 := 75) (ls2 := [(0, .ref 0), (1, .int a1), (2, .int a2)]) (st2 := [.int a2]) (w3 := w) rfl rfl ?_
          refine sx_RP.step (pc2 := 76) (ls2 := [(0, .ref 0), (1, .int a1), (2, .int a2)]) (st2 := [.int 1, .int a2]) (w3 := w) rfl rfl ?_
          refine sx_RP.step (pc2 := 78) (ls2 := [(0, .ref 0), (1, .int a1), (2, .int a2)]) (st2 := [.int 99, .int 1, .int a2]) (w3 := w) rfl rfl ?_
          rcases in_cases a2 1 99 (m := 1) (n := 99) rfl rfl (by decide) (by decide) with q30 | ⟨x31, hx32, hx33, rfl⟩
          · refine sx_RP.cu (as := [.int a2, .int 1, .int 99]) (rest2 := []) (st3 := [.int 0]) rfl rfl rfl rfl rfl (cx_8n q30) rfl ?_
            refine sx_RP.step (pc2 := 103) (ls2 := [(0, .ref 0), (1, .int a1), (2, .int a2)]) (st2 := []) (w3 := w) rfl rfl ?_
            refine sx_RP.step (pc2 := 104) (ls2 := [(0, .ref 0), (1, .int a1), (2, .int a2)]) (st2 := [.ref 0]) (w3 := w) rfl rfl ?_
            refine sx_RP.step (pc2 := 106) (ls2 := [(0, .ref 0), (1, .int a1), (2, .int a2)]) (st2 := [.int (-1000000001), .ref 0]) (w3 := w) rfl rfl ?_
            refine sx_RP.callp (as2 := [.ref 0, .int (-1000000001)]) (rest2 := []) rfl rfl (sx_inv_v2 (mi := 82) (k := 78) (st := [.int (-1000000001), .ref 0]) (w := w) rfl rfl hI.1.o0 rfl rfl rfl) rfl rfl rfl (s9_0 hI) (show _ = 109 from rfl) ?_
            rintro r4 w35 ⟨rfl, hI36, hE38⟩
            have hE37 := hE.tr hE38
            show sx_RP _ _ _ _ _ [.int (-1000000001)] _ _
            refine sx_RP.step (pc2 := 110) (ls2 := [(3, .int (-1000000001)), (0, .ref 0), (1, .int a1), (2, .int a2)]) (st2 := []) (w3 := w35) rfl rfl ?_
            refine sx_RP.step (pc2 := 111) (ls2 := [(3, .int (-1000000001)), (0, .ref 0), (1, .int a1), (2, .int a2)]) (st2 := [.int (-1000000001)]) (w3 := w35) rfl rfl ?_
            refine sx_RP.ret (r := (some (.int (-1000000001)))) rfl rfl ?_
            exact ⟨⟨_, rfl⟩, hI36, hE37⟩
          · refine sx_RP.cu (as := [.int (nI x31), .int 1, .int 99]) (rest2 := []) (st3 := [.int 1]) rfl rfl rfl rfl rfl (cx_8p ⟨nI_le (a := 1) hx32 (by omega), nI_le (b := 99) hx33 (by decide)⟩) rfl ?_
            refine sx_RP.step (pc2 := 84) (ls2 := [(0, .ref 0), (1, .int a1), (2, .int (nI x31))]) (st2 := []) (w3 := w) rfl rfl ?_
            refine sx_RP.step (pc2 := 85) (ls2 := [(0, .ref 0), (1, .int a1), (2, .int (nI x31))]) (st2 := [.ref 0]) (w3 := w) rfl rfl ?_
            refine sx_RP.gf (v := .ref 1) rfl rfl hI.1.o0 rfl rfl (show _ = 88 from rfl) ?_
            refine sx_RP.gc (k := 10) hI (Or.inl rfl) rfl rfl (by omega) (show _ = 91 from rfl) ?_
            refine sx_RP.step (pc2 := 92) (ls2 := [(3, .int (fi w 1 10)), (0, .ref 0), (1, .int a1), (2, .int (nI x31))]) (st2 := []) (w3 := w) rfl rfl ?_
            refine sx_RP.step (pc2 := 93) (ls2 := [(3, .int (fi w 1 10)), (0, .ref 0), (1, .int a1), (2, .int (nI x31))]) (st2 := [.ref 0]) (w3 := w) rfl rfl ?_
            refine sx_RP.gf (v := .ref 1) rfl rfl hI.1.o0 rfl rfl (show _ = 96 from rfl) ?_
            refine sx_RP.step (pc2 := 97) (ls2 := [(3, .int (fi w 1 10)), (0, .ref 0), (1, .int a1), (2, .int (nI x31))]) (st2 := [.int (nI x31), .ref 1]) (w3 := w) rfl rfl ?_
            refine sx_RP.putc (k := 10) hI hE (Or.inl rfl) rfl rfl (by omega) rfl trivial (show _ = 100 from rfl) (fun w39 hI40 hE41 => ?_)
            refine sx_RP.step (pc2 := 110) (ls2 := [(3, .int (fi w 1 10)), (0, .ref 0), (1, .int a1), (2, .int (nI x31))]) (st2 := []) (w3 := w39) rfl rfl ?_
            refine sx_RP.step (pc2 := 111) (ls2 := [(3, .int (fi w 1 10)), (0, .ref 0), (1, .int a1), (2, .int (nI x31))]) (st2 := [.int (fi w 1 10)]) (w3 := w39) rfl rfl ?_
            refine sx_RP.ret (r := (some (.int (fi w 1 10)))) rfl rfl ?_
            exact ⟨⟨_, rfl⟩, hI40, hE41⟩
      · refine sx_RP.cu (as := [.int (nI x21), .int 1, .int 999]) (rest2 := []) (st3 := [.int 1]) rfl rfl rfl rfl rfl (cx_8p ⟨nI_le (a := 1) hx22 (by omega), nI_le (b := 999) hx23 (by decide)⟩) rfl ?_
        refine sx_RP.step (pc2 := 50) (ls2 := [(0, .ref 0), (1, .int a1), (2, .int (nI x21))]) (st2 := []) (w3 := w) rfl rfl ?_
        refine sx_RP.step (pc2 := 51) (ls2 := [(0, .ref 0), (1, .int a1), (2, .int (nI x21))]) (st2 := [.ref 0]) (w3 := w) rfl rfl ?_
        refine sx_RP.gf (v := .ref 1) rfl rfl hI.1.o0 rfl rfl (show _ = 54 from rfl) ?_
        refine sx_RP.gc (k := 9) hI (Or.inl rfl) rfl rfl (by omega) (show _ = 57 from rfl) ?_
        refine sx_RP.step (pc2 := 58) (ls2 := [(3, .int (fi w 1 9)), (0, .ref 0), (1, .int a1), (2, .int (nI x21))]) (st2 := []) (w3 := w) rfl rfl ?_
        refine sx_RP.step (pc2 := 59) (ls2 := [(3, .int (fi w 1 9)), (0, .ref 0), (1, .int a1), (2, .int (nI x21))]) (st2 := [.ref 0]) (w3 := w) rfl rfl ?_
        refine sx_RP.gf (v := .ref 1) rfl rfl hI.1.o0 rfl rfl (show _ = 62 from rfl) ?_
        refine sx_RP.step (pc2 := 63) (ls2 := [(3, .int (fi w 1 9)), (0, .ref 0), (1, .int a1), (2, .int (nI x21))]) (st2 := [.int (nI x21), .ref 1]) (w3 := w) rfl rfl ?_
        refine sx_RP.putc (k := 9) hI hE (Or.inl rfl) rfl rfl (by omega) rfl trivial (show _ = 66 from rfl) (fun w42 hI43 hE44 => ?_)
        refine sx_RP.step (pc2 := 110) (ls2 := [(3, .int (fi w 1 9)), (0, .ref 0), (1, .int a1), (2, .int (nI x21))]) (st2 := []) (w3 := w42) rfl rfl ?_
        refine sx_RP.step (pc2 := 111) (ls2 := [(3, .int (fi w 1 9)), (0, .ref 0), (1, .int a1), (2, .int (nI x21))]) (st2 := [.int (fi w 1 9)]) (w3 := w42) rfl rfl ?_
        refine sx_RP.ret (r := (some (.int (fi w 1 9)))) rfl rfl ?_
        exact ⟨⟨_, rfl⟩, hI43, hE44⟩
  · replace q1 := Decidable.not_not.mp (of_decide_eq_false q1)
    refine sx_RP.step (pc2 := 5) (ls2 := [(0, .ref 0), (1, .int a1), (2, .int a2)]) (st2 := [.int a2]) (w3 := w) rfl rfl ?_
    refine sx_RP.step (pc2 := 6) (ls2 := [(0, .ref 0), (1, .int a1), (2, .int a2)]) (st2 := [.int 0, .int a2]) (w3 := w) rfl rfl ?_
    refine sx_RP.step (pc2 := 9) (ls2 := [(0, .ref 0), (1, .int a1), (2, .int a2)]) (st2 := [.int 999999, .int 0, .int a2]) (w3 := w) rfl rfl ?_
    rcases in_cases a2 0 999999 (m := 0) (n := 999999) rfl rfl (by decide) (by decide) with q45 | ⟨x46, hx47, hx48, rfl⟩
    · refine sx_RP.cu (as := [.int a2, .int 0, .int 999999]) (rest2 := []) (st3 := [.int 0]) rfl rfl rfl rfl rfl (cx_8n q45) rfl ?_
      refine sx_RP.step (pc2 := 34) (ls2 := [(0, .ref 0), (1, .int a1), (2, .int a2)]) (st2 := []) (w3 := w) rfl rfl ?_
      refine sx_RP.step (pc2 := 35) (ls2 := [(0, .ref 0), (1, .int a1), (2, .int a2)]) (st2 := [.int a1]) (w3 := w) rfl rfl ?_
      refine sx_RP.step (pc2 := 36) (ls2 := [(0, .ref 0), (1, .int a1), (2, .int a2)]) (st2 := [.int 1, .int a1]) (w3 := w) rfl rfl ?_
      refine sx_RP.br (p1 := 69) (l1 := [(0, .ref 0), (1, .int a1), (2, .int a2)]) (s1 := []) (v1 := w) (p2 := 39) (l2 := [(0, .ref 0), (1, .int a1), (2, .int a2)]) (s2 := []) (v2 := w) rfl rfl (fun q50 => ?_) (fun q50 => ?_)
      · replace q50 := of_decide_eq_true q50
        refine sx_RP.step (pc2 := 70) (ls2 := [(0, .ref 0), (1, .int a1), (2, .int a2)]) (st2 := [.int a1]) (w3 := w) rfl rfl ?_
        refine sx_RP.step (pc2 := 71) (ls2 := [(0, .ref 0), (1, .int a1), (2, .int a2)]) (st2 := [.int 2, .int a1]) (w3 := w) rfl rfl ?_
        refine sx_RP.br (p1 := 103) (l1 := [(0, .ref 0), (1, .int a1), (2, .int a2)]) (s1 := []) (v1 := w) (p2 := 74) (l2 := [(0, .ref 0), (1, .int a1), (2, .int a2)]) (s2 := []) (v2 := w) rfl rfl (fun q51 => ?_) (fun q51 => ?_)
        · replace q51 := of_decide_eq_true q51
          refine sx_RP.step (pc2 := 104) (ls2 := [(0, .ref 0), (1, .int a1), (2, .int a2)]) (st2 := [.ref 0]) (w3 := w) rfl rfl ?_
          refine sx_RP.step (pc2 := 106) (ls2 := [(0, .ref 0), (1, .int a1), (2, .int a2)]) (st2 := [.int (-1000000001), .ref 0]) (w3 := w) rfl rfl ?_
          refine sx_RP.callp (as2 := [.ref 0, .int (-1000000001)]) (rest2 := []) rfl rfl (sx_inv_v2 (mi := 82) (k := 78) (st := [.int (-1000000001), .ref 0]) (w := w) rfl rfl hI.1.o0 rfl rfl rfl) rfl rfl rfl (s9_0 hI) (show _ = 109 from rfl) ?_
          rintro r4 w52 ⟨rfl, hI53, hE55⟩
          have hE54 := hE.tr hE55
          show sx_RP _ _ _ _ _ [.int (-1000000001)] _ _
          refine sx_RP.step (pc2 := 110) (ls2 := [(3, .int (-1000000001)), (0, .ref 0), (1, .int a1), (2, .int a2)]) (st2 := []) (w3 := w52) rfl rfl ?_
          refine sx_RP.step (pc2 := 111) (ls2 := [(3, .int (-1000000001)), (0, .ref 0), (1, .int a1), (2, .int a2)]) (st2 := [.int (-1000000001)]) (w3 := w52) rfl rfl ?_
          refine sx_RP.ret (r := (some (.int (-1000000001)))) rfl rfl ?_
          exact ⟨⟨_, rfl⟩, hI53, hE54⟩
        · replace q51 := Decidable.not_not.mp (of_decide_eq_false q51)
          refine sx_RP.step (pc2 := 75) (ls2 := [(0, .ref 0), (1, .int a1), (2, .int a2)]) (st2 := [.int a2]) (w3 := w) rfl rfl ?_
          refine sx_RP.step (pc2 := 76) (ls2 := [(0, .ref 0), (1, .int a1), (2, .int a2)]) (st2 := [.int 1, .int a2]) (w3 := w) rfl rfl ?_
          refine sx_RP.step (pc2 := 78) (ls2 := [(0, .ref 0), (1, .int a1), (2, .int a2)]) (st2 := [.int 99, .int 1, .int a2]) (w3 := w) rfl rfl ?_
          rcases in_cases a2 1 99 (m := 1) (n := 99) rfl rfl (by decide) (by decide) with q56 | ⟨x57, hx58, hx59, rfl⟩
          · refine sx_RP.cu (as := [.int a2, .int 1, .int 99]) (rest2 := []) (st3 := [.int 0]) rfl rfl rfl rfl rfl (cx_8n q56) rfl ?_
            refine sx_RP.step (pc2 := 103) (ls2 := [(0, .ref 0), (1, .int a1), (2, .int a2)]) (st2 := []) (w3 := w) rfl rfl ?_
            refine sx_RP.step (pc2 := 104) (ls2 := [(0, .ref 0), (1, .int a1), (2, .int a2)]) (st2 := [.ref 0]) (w3 := w) rfl rfl ?_
            refine sx_RP.step (pc2 := 106) (ls2 := [(0, .ref 0), (1, .int a1), (2, .int a2)]) (st2 := [.int (-1000000001), .ref 0]) (w3 := w) rfl rfl ?_
            refine sx_RP.callp (as2 := [.ref 0, .int (-1000000001)]) (rest2 := []) rfl rfl (sx_inv_v2 (mi := 82) (k := 78) (st := [.int (-1000000001), .ref 0]) (w := w) rfl rfl hI.1.o0 rfl rfl rfl) rfl rfl rfl (s9_0 hI) (show _ = 109 from rfl) ?_
            rintro r4 w61 ⟨rfl, hI62, hE64⟩
            have hE63 := hE.tr hE64
            show sx_RP _ _ _ _ _ [.int (-1000000001)] _ _
            refine sx_RP.step (pc2 := 110) (ls2 := [(3, .int (-1000000001)), (0, .ref 0), (1, .int a1), (2, .int a2)]) (st2 := []) (w3 := w61) rfl rfl ?_
            refine sx_RP.step (pc2 := 111) (ls2 := [(3, .int (-1000000001)), (0, .ref 0), (1, .int a1), (2, .int a2)]) (st2 := [.int (-1000000001)]) (w3 := w61) rfl rfl ?_
            refine sx_RP.ret (r := (some (.int (-1000000001)))) rfl rfl ?_
            exact ⟨⟨_, rfl⟩, hI62, hE63⟩
          · refine sx_RP.cu (as := [.int (nI x57), .int 1, .int 99]) (rest2 := []) (st3 := [.int 1]) rfl rfl rfl rfl rfl (cx_8p ⟨nI_le (a := 1) hx58 (by omega), nI_le (b := 99) hx59 (by decide)⟩) rfl ?_
            refine sx_RP.step (pc2 := 84) (ls2 := [(0, .ref 0), (1, .int a1), (2, .int (nI x57))]) (st2 := []) (w3 := w) rfl rfl ?_
            refine sx_RP.step (pc2 := 85) (ls2 := [(0, .ref 0), (1, .int a1), (2, .int (nI x57))]) (st2 := [.ref 0]) (w3 := w) rfl rfl ?_
            refine sx_RP.gf (v := .ref 1) rfl rfl hI.1.o0 rfl rfl (show _ = 88 from rfl) ?_
            refine sx_RP.gc (k := 10) hI (Or.inl rfl) rfl rfl (by omega) (show _ = 91 from rfl) ?_
            refine sx_RP.step (pc2 := 92) (ls2 := [(3, .int (fi w 1 10)), (0, .ref 0), (1, .int a1), (2, .int (nI x57))]) (st2 := []) (w3 := w) rfl rfl ?_
            refine sx_RP.step (pc2 := 93) (ls2 := [(3, .int (fi w 1 10)), (0, .ref 0), (1, .int a1), (2, .int (nI x57))]) (st2 := [.ref 0]) (w3 := w) rfl rfl ?_
            refine sx_RP.gf (v := .ref 1) rfl rfl hI.1.o0 rfl rfl (show _ = 96 from rfl) ?_
            refine sx_RP.step (pc2 := 97) (ls2 := [(3, .int (fi w 1 10)), (0, .ref 0), (1, .int a1), (2, .int (nI x57))]) (st2 := [.int (nI x57), .ref 1]) (w3 := w) rfl rfl ?_
            refine sx_RP.putc (k := 10) hI hE (Or.inl rfl) rfl rfl (by omega) rfl trivial (show _ = 100 from rfl) (fun w65 hI66 hE67 => ?_)
            refine sx_RP.step (pc2 := 110) (ls2 := [(3, .int (fi w 1 10)), (0, .ref 0), (1, .int a1), (2, .int (nI x57))]) (st2 := []) (w3 := w65) rfl rfl ?_
            refine sx_RP.step (pc2 := 111) (ls2 := [(3, .int (fi w 1 10)), (0, .ref 0), (1, .int a1), (2, .int (nI x57))]) (st2 := [.int (fi w 1 10)]) (w3 := w65) rfl rfl ?_
            refine sx_RP.ret (r := (some (.int (fi w 1 10)))) rfl rfl ?_
            exact ⟨⟨_, rfl⟩, hI66, hE67⟩
      · replace q50 := Decidable.not_not.mp (of_decide_eq_false q50)
        refine sx_RP.step (pc2 := 40) (ls2 := [(0, .ref 0), (1, .int a1), (2, .int a2)]) (st2 := [.int a2]) (w3 := w) rfl rfl ?_
        refine sx_RP.step (pc2 := 41) (ls2 := [(0, .ref 0), (1, .int a1), (2, .int a2)]) (st2 := [.int 1, .int a2]) (w3 := w) rfl rfl ?_
        refine sx_RP.step (pc2 := 44) (ls2 := [(0, .ref 0), (1, .int a1), (2, .int a2)]) (st2 := [.int 999, .int 1, .int a2]) (w3 := w) rfl rfl ?_
        rcases in_cases a2 1 999 (m := 1) (n := 999) rfl rfl (by decide) (by decide) with q68 | ⟨x69, hx70, hx71, rfl⟩
        · refine sx_RP.cu (as := [.int a2, .int 1, .int 999]) (rest2 := []) (st3 := [.int 0]) rfl rfl rfl rfl rfl (cx_8n q68) rfl ?_
          refine sx_RP.step (pc2 := 69) (ls2 := [(0, .ref 0), (1, .int a1), (2, .int a2)]) (st2 := []) (w3 := w) rfl rfl ?_
          refine sx_RP.step (pc2 := 70) (ls2 := [(0, .ref 0), (1, .int a1), (2, .int a2)]) (st2 := [.int a1]) (w3 := w) rfl rfl ?_
          refine sx_RP.step (pc2 := 71) (ls2 := [(0, .ref 0), (1, .int a1), (2, .int a2)]) (st2 := [.int 2, .int a1]) (w3 := w) rfl rfl ?_
          refine sx_RP.br (p1 := 103) (l1 := [(0, .ref 0), (1, .int a1), (2, .int a2)]) (s1 := []) (v1 := w) (p2 := 74) (l2 := [(0, .ref 0), (1, .int a1), (2, .int a2)]) (s2 := []) (v2 := w) rfl rfl (fun q73 => ?_) (fun q73 => ?_)
          · replace q73 := of_decide_eq_true q73
            refine sx_RP.step (pc2 := 104) (ls2 := [(0, .ref 0), (1, .int a1), (2, .int a2)]) (st2 := [.ref 0]) (w3 := w) rfl rfl ?_
            refine sx_RP.step (pc2 := 106) (ls2 := [(0, .ref 0), (1, .int a1), (2, .int a2)]) (st2 := [.int (-1000000001), .ref 0]) (w3 := w) rfl rfl ?_
            refine sx_RP.callp (as2 := [.ref 0, .int (-1000000001)]) (rest2 := []) rfl rfl (sx_inv_v2 (mi := 82) (k := 78) (st := [.int (-1000000001), .ref 0]) (w := w) rfl rfl hI.1.o0 rfl rfl rfl) rfl rfl rfl (s9_0 hI) (show _ = 109 from rfl) ?_
            rintro r4 w74 ⟨rfl, hI75, hE77⟩
            have hE76 := hE.tr hE77
            show sx_RP _ _ _ _ _ [.int (-1000000001)] _ _
            refine sx_RP.step (pc2 := 110) (ls2 := [(3, .int (-1000000001)), (0, .ref 0), (1, .int a1), (2, .int a2)]) (st2 := []) (w3 := w74) rfl rfl ?_
            refine sx_RP.step (pc2 := 111) (ls2 := [(3, .int (-1000000001)), (0, .ref 0), (1, .int a1), (2, .int a2)]) (st2 := [.int (-1000000001)]) (w3 := w74) rfl rfl ?_
            refine sx_RP.ret (r := (some (.int (-1000000001)))) rfl rfl ?_
            exact ⟨⟨_, rfl⟩, hI75, hE76⟩
          · replace q73 := Decidable.not_not.mp (of_decide_eq_false q73)
            refine sx_RP.step (pc2 := 75) (ls2 := [(0, .ref 0), (1, .int a1), (2, .int a2)]) (st2 := [.int a2]) (w3 := w) rfl rfl ?_
            refine sx_RP.step (pc2 := 76) (ls2 := [(0, .ref 0), (1, .int a1), (2, .int a2)]) (st2 := [.int 1, .int a2]) (w3 := w) rfl rfl ?_
            refine sx_RP.step (pc2 := 78) (ls2 := [(0, .ref 0), (1, .int a1), (2, .int a2)]) (st2 := [.int 99, .int 1, .int a2]) (w3 := w) rfl rfl ?_
            rcases in_cases a2 1 99 (m := 1) (n := 99) rfl rfl (by decide) (by decide) with q78 | ⟨x79, hx80, hx81, rfl⟩
            · refine sx_RP.cu (as := [.int a2, .int 1, .int 99]) (rest2 := []) (st3 := [.int 0]) rfl rfl rfl rfl rfl (cx_8n q78) rfl ?_
              refine sx_RP.step (pc2 := 103) (ls2 := [(0, .ref 0), (1, .int a1), (2, .int a2)]) (st2 := []) (w3 := w) rfl rfl ?_
              refine sx_RP.step (pc2 := 104) (ls2 := [(0, .ref 0), (1, .int a1), (2, .int a2)]) (st2 := [.ref 0]) (w3 := w) rfl rfl ?_
              refine sx_RP.step (pc2 := 106) (ls2 := [(0, .ref 0), (1, .int a1), (2, .int a2)]) (st2 := [.int (-1000000001), .ref 0]) (w3 := w) rfl rfl ?_
              refine sx_RP.callp (as2 := [.ref 0, .int (-1000000001)]) (rest2 := []) rfl rfl (sx_inv_v2 (mi := 82) (k := 78) (st := [.int (-1000000001), .ref 0]) (w := w) rfl rfl hI.1.o0 rfl rfl rfl) rfl rfl rfl (s9_0 hI) (show _ = 109 from rfl) ?_
              rintro r4 w83 ⟨rfl, hI84, hE86⟩
              have hE85 := hE.tr hE86
              show sx_RP _ _ _ _ _ [.int (-1000000001)] _ _
              refine sx_RP.step (pc2 := 110) (ls2 := [(3, .int (-1000000001)), (0, .ref 0), (1, .int a1), (2, .int a2)]) (st2 := []) (w3 := w83) rfl rfl ?_
              refine sx_RP.step (pc2 := 111) (ls2 := [(3, .int (-1000000001)), (0, .ref 0), (1, .int a1), (2, .int a2)]) (st2 := [.int (-1000000001)]) (w3 := w83) rfl rfl ?_
              refine sx_RP.ret (r := (some (.int (-1000000001)))) rfl rfl ?_
              exact ⟨⟨_, rfl⟩, hI84, hE85⟩
            · refine sx_RP.cu (as := [.int (nI x79), .int 1, .int 99]) (rest2 := []) (st3 := [.int 1]) rfl rfl rfl rfl rfl (cx_8p ⟨nI_le (a := 1) hx80 (by omega), nI_le (b := 99) hx81 (by decide)⟩) rfl ?_
              refine sx_RP.step (pc2 := 84) (ls2 := [(0, .ref 0), (1, .int a1), (2, .int (nI x79))]) (st2 := []) (w3 := w) rfl rfl ?_
              refine sx_RP.step (pc2 := 85) (ls2 := [(0, .ref 0), (1, .int a1), (2, .int (nI x79))]) (st2 := [.ref 0]) (w3 := w) rfl rfl ?_
              refine sx_RP.gf (v := .ref 1) rfl rfl hI.1.o0 rfl rfl (show _ = 88 from rfl) ?_
              refine sx_RP.gc (k := 10) hI (Or.inl rfl) rfl rfl (by omega) (show _ = 91 from rfl) ?_
              refine sx_RP.step (pc2 := 92) (ls2 := [(3, .int (fi w 1 10)), (0, .ref 0), (1, .int a1), (2, .int (nI x79))]) (st2 := []) (w3 := w) rfl rfl ?_
              refine sx_RP.step (pc2 := 93) (ls2 := [(3, .int (fi w 1 10)), (0, .ref 0), (1, .int a1), (2, .int (nI x79))]) (st2 := [.ref 0]) (w3 := w) rfl rfl ?_
              refine sx_RP.gf (v := .ref 1) rfl rfl hI.1.o0 rfl rfl (show _ = 96 from rfl) ?_
              refine sx_RP.step (pc2 := 97) (ls2 := [(3, .int (fi w 1 10)), (0, .ref 0), (1, .int a1), (2, .int (nI x79))]) (st2 := [.int (nI x79), .ref 1]) (w3 := w) rfl rfl ?_
              refine sx_RP.putc (k := 10) hI hE (Or.inl rfl) rfl rfl (by omega) rfl trivial (show _ = 100 from rfl) (fun w87 hI88 hE89 => ?_)
              refine sx_RP.step (pc2 := 110) (ls2 := [(3, .int (fi w 1 10)), (0, .ref 0), (1, .int a1), (2, .int (nI x79))]) (st2 := []) (w3 := w87) rfl rfl ?_
              refine sx_RP.step (pc2 := 111) (ls2 := [(3, .int (fi w 1 10)), (0, .ref 0), (1, .int a1), (2, .int (nI x79))]) (st2 := [.int (fi w 1 10)]) (w3 := w87) rfl rfl ?_
              refine sx_RP.ret (r := (some (.int (fi w 1 10)))) rfl rfl ?_
              exact ⟨⟨_, rfl⟩, hI88, hE89⟩
        · refine sx_RP.cu (as := [.int (nI x69), .int 1, .int 999]) (rest2 := []) (st3 := [.int 1]) rfl rfl rfl rfl rfl (cx_8p ⟨nI_le (a := 1) hx70 (by omega), nI_le (b := 999) hx71 (by decide)⟩) rfl ?_
          refine sx_RP.step (pc2 := 50) (ls2 := [(0, .ref 0), (1, .int a1), (2, .int (nI x69))]) (st2 := []) (w3 := w) rfl rfl ?_
          refine sx_RP.step (pc2 := 51) (ls2 := [(0, .ref 0), (1, .int a1), (2, .int (nI x69))]) (st2 := [.ref 0]) (w3 := w) rfl rfl ?_
          refine sx_RP.gf (v := .ref 1) rfl rfl hI.1.o0 rfl rfl (show _ = 54 from rfl) ?_
          refine sx_RP.gc (k := 9) hI (Or.inl rfl) rfl rfl (by omega) (show _ = 57 from rfl) ?_
          refine sx_RP.step (pc2 := 58) (ls2 := [(3, .int (fi w 1 9)), (0, .ref 0), (1, .int a1), (2, .int (nI x69))]) (st2 := []) (w3 := w) rfl rfl ?_
          refine sx_RP.step (pc2 := 59) (ls2 := [(3, .int (fi w 1 9)), (0, .ref 0), (1, .int a1), (2, .int (nI x69))]) (st2 := [.ref 0]) (w3 := w) rfl rfl ?_
          refine sx_RP.gf (v := .ref 1) rfl rfl hI.1.o0 rfl rfl (show _ = 62 from rfl) ?_
          refine sx_RP.step (pc2 := 63) (ls2 := [(3, .int (fi w 1 9)), (0, .ref 0), (1, .int a1), (2, .int (nI x69))]) (st2 := [.int (nI x69), .ref 1]) (w3 := w) rfl rfl ?_
          refine sx_RP.putc (k := 9) hI hE (Or.inl rfl) rfl rfl (by omega) rfl trivial (show _ = 66 from rfl) (fun w90 hI91 hE92 => ?_)
          refine sx_RP.step (pc2 := 110) (ls2 := [(3, .int (fi w 1 9)), (0, .ref 0), (1, .int a1), (2, .int (nI x69))]) (st2 := []) (w3 := w90) rfl rfl ?_
          refine sx_RP.step (pc2 := 111) (ls2 := [(3, .int (fi w 1 9)), (0, .ref 0), (1, .int a1), (2, .int (nI x69))]) (st2 := [.int (fi w 1 9)]) (w3 := w90) rfl rfl ?_
          refine sx_RP.ret (r := (some (.int (fi w 1 9)))) rfl rfl ?_
          exact ⟨⟨_, rfl⟩, hI91, hE92⟩
    · refine sx_RP.cu (as := [.int (nI x46), .int 0, .int 999999]) (rest2 := []) (st3 := [.int 1]) rfl rfl rfl rfl rfl (cx_8p ⟨nI_le (a := 0) hx47 (by omega), nI_le (b := 999999) hx48 (by decide)⟩) rfl ?_
      refine sx_RP.step (pc2 := 15) (ls2 := [(0, .ref 0), (1, .int a1), (2, .int (nI x46))]) (st2 := []) (w3 := w) rfl rfl ?_
      refine sx_RP.step (pc2 := 16) (ls2 := [(0, .ref 0), (1, .int a1), (2, .int (nI x46))]) (st2 := [.ref 0]) (w3 := w) rfl rfl ?_
      refine sx_RP.gf (v := .ref 1) rfl rfl hI.1.o0 rfl rfl (show _ = 19 from rfl) ?_
      refine sx_RP.gc (k := 8) hI (Or.inl rfl) rfl rfl (by omega) (show _ = 22 from rfl) ?_
      refine sx_RP.step (pc2 := 23) (ls2 := [(3, .int (fi w 1 8)), (0, .ref 0), (1, .int a1), (2, .int (nI x46))]) (st2 := []) (w3 := w) rfl rfl ?_
      refine sx_RP.step (pc2 := 24) (ls2 := [(3, .int (fi w 1 8)), (0, .ref 0), (1, .int a1), (2, .int (nI x46))]) (st2 := [.ref 0]) (w3 := w) rfl rfl ?_
      refine sx_RP.gf (v := .ref 1) rfl rfl hI.1.o0 rfl rfl (show _ = 27 from rfl) ?_
      refine sx_RP.step (pc2 := 28) (ls2 := [(3, .int (fi w 1 8)), (0, .ref 0), (1, .int a1), (2, .int (nI x46))]) (st2 := [.int (nI x46), .ref 1]) (w3 := w) rfl rfl ?_
      refine sx_RP.putc (k := 8) hI hE (Or.inl rfl) rfl rfl (by omega) rfl trivial (show _ = 31 from rfl) (fun w93 hI94 hE95 => ?_)
      refine sx_RP.step (pc2 := 110) (ls2 := [(3, .int (fi w 1 8)), (0, .ref 0), (1, .int a1), (2, .int (nI x46))]) (st2 := []) (w3 := w93) rfl rfl ?_
      refine sx_RP.step (pc2 := 111) (ls2 := [(3, .int (fi w 1 8)), (0, .ref 0), (1, .int a1), (2, .int (nI x46))]) (st2 := [.int (fi w 1 8)]) (w3 := w93) rfl rfl ?_
      refine sx_RP.ret (r := (some (.int (fi w 1 8)))) rfl rfl ?_
      exact ⟨⟨_, rfl⟩, hI94, hE95⟩
set_option maxRecDepth 20000 in
set_option maxHeartbeats 4000000 in
theorem s83 {xs : Option (List Int32)} {d : Nat} {w : List sx_C} (hI : WI w) : sx_RP xs (d + 7) 83 0 (lv_args 0 [.ref 0]) [] w (fun r w2 => (∃ v : Int32, r = some (.int v)) ∧ WI w2 ∧ EC w w2) := by
  have hE : EC w w := EC.rf
  refine sx_RP.step (pc2 := 1) (ls2 := [(0, .ref 0)]) (st2 := [.ref 0]) (w3 := w) rfl rfl ?_
  refine sx_RP.gf (v := .ref 1) rfl rfl hI.1.o0 rfl rfl (show _ = 4 from rfl) ?_
  refine sx_RP.step (pc2 := 5) (ls2 := [(0, .ref 0)]) (st2 := [.ref 0, .ref 1]) (w3 := w) rfl rfl ?_
  refine sx_RP.gf (v := .ref 1) rfl rfl hI.1.o0 rfl rfl (show _ = 8 from rfl) ?_
  refine sx_RP.gc (k := 10) hI (Or.inl rfl) rfl rfl (by omega) (show _ = 11 from rfl) ?_
  obtain ⟨v1, c2⟩ := p84 hI (Or.inl rfl) (fi w 1 10)
  refine sx_RP.cu (as := [.ref 1, .int (fi w 1 10)]) (rest2 := []) (st3 := [.int v1]) rfl rfl (sx_inv_v2 (mi := 83) (k := 276) (st := [.int (fi w 1 10), .ref 1]) (w := w) rfl rfl (hI.1.oC (Or.inl rfl)) rfl rfl rfl) rfl rfl (c2) rfl ?_
  refine sx_RP.ret (r := (some (.int v1))) rfl rfl ?_
  exact ⟨⟨_, rfl⟩, hI, hE⟩
set_option maxRecDepth 20000 in
set_option maxHeartbeats 4000000 in
theorem s127 {xs : Option (List Int32)} {d : Nat} {w : List sx_C} (hI : WI w) (a1 : Int32) : sx_RP xs (d + 7) 127 0 (lv_args 0 [.ref 0, .int a1]) [] w (fun r w2 => (∃ v : Int32, r = some (.int v)) ∧ WI w2 ∧ EC w w2) := by
  have hE : EC w w := EC.rf
  refine sx_RP.step (pc2 := 1) (ls2 := [(0, .ref 0), (1, .int a1)]) (st2 := [.int a1]) (w3 := w) rfl rfl ?_
  rcases sw_cases (n := 6) (a1) with q1 | ⟨x2, hx3, ex4⟩
  · refine sx_RP.swo (t := 103) rfl q1 rfl ?_
    refine sx_RP.step (pc2 := 104) (ls2 := [(0, .ref 0), (1, .int a1)]) (st2 := [.ref 0]) (w3 := w) rfl rfl ?_
    refine sx_RP.step (pc2 := 106) (ls2 := [(0, .ref 0), (1, .int a1)]) (st2 := [.int (-1000000001), .ref 0]) (w3 := w) rfl rfl ?_
    refine sx_RP.callp (as2 := [.ref 0, .int (-1000000001)]) (rest2 := []) rfl rfl (sx_inv_v2 (mi := 127) (k := 78) (st := [.int (-1000000001), .ref 0]) (w := w) rfl rfl hI.1.o0 rfl rfl rfl) rfl rfl rfl (s9_0 hI) (show _ = 109 from rfl) ?_
    rintro r4 w5 ⟨rfl, hI6, hE8⟩
    have hE7 := hE.tr hE8
    show sx_RP _ _ _ _ _ [.int (-1000000001)] _ _
    refine sx_RP.ret (r := (some (.int (-1000000001)))) rfl rfl ?_
    exact ⟨⟨_, rfl⟩, hI6, hE7⟩
  · rw [ex4]
    rcases (show x2 = 0 ∨ x2 = 1 ∨ x2 = 2 ∨ x2 = 3 ∨ x2 = 4 ∨ x2 = 5 ∨ x2 = 6 by omega) with rfl | rfl | rfl | rfl | rfl | rfl | rfl
    · refine sx_RP.step (pc2 := 44) (ls2 := [(0, .ref 0), (1, .int (nI 0))]) (st2 := []) (w3 := w) rfl rfl ?_
      refine sx_RP.step (pc2 := 45) (ls2 := [(0, .ref 0), (1, .int (nI 0))]) (st2 := [.ref 0]) (w3 := w) rfl rfl ?_
      refine sx_RP.gf (v := .ref 1) rfl rfl hI.1.o0 rfl rfl (show _ = 48 from rfl) ?_
      refine sx_RP.gc (k := 3) hI (Or.inl rfl) rfl rfl (by omega) (show _ = 51 from rfl) ?_
      obtain ⟨x9, hx10, ex11⟩ : inR (fi w 1 3) 10 := (hI.c (Or.inl rfl)).1
      rw [ex11]
      refine sx_RP.ret (r := (some (.int (nI x9)))) rfl rfl ?_
      exact ⟨⟨_, rfl⟩, hI, hE⟩
    · refine sx_RP.step (pc2 := 52) (ls2 := [(0, .ref 0), (1, .int (nI 1))]) (st2 := []) (w3 := w) rfl rfl ?_
      refine sx_RP.step (pc2 := 53) (ls2 := [(0, .ref 0), (1, .int (nI 1))]) (st2 := [.ref 0]) (w3 := w) rfl rfl ?_
      refine sx_RP.gf (v := .ref 1) rfl rfl hI.1.o0 rfl rfl (show _ = 56 from rfl) ?_
      refine sx_RP.gc (k := 5) hI (Or.inl rfl) rfl rfl (by omega) (show _ = 59 from rfl) ?_
      obtain ⟨x12, hx13, ex14⟩ : inR (fi w 1 5) 9 := (hI.c (Or.inl rfl)).2
      rw [ex14]
      refine sx_RP.ret (r := (some (.int (nI x12)))) rfl rfl ?_
      exact ⟨⟨_, rfl⟩, hI, hE⟩
    · refine sx_RP.step (pc2 := 60) (ls2 := [(0, .ref 0), (1, .int (nI 2))]) (st2 := []) (w3 := w) rfl rfl ?_
      refine sx_RP.step (pc2 := 61) (ls2 := [(0, .ref 0), (1, .int (nI 2))]) (st2 := [.ref 0]) (w3 := w) rfl rfl ?_
      refine sx_RP.gf (v := .ref 1) rfl rfl hI.1.o0 rfl rfl (show _ = 64 from rfl) ?_
      refine sx_RP.gw hI (Or.inl rfl) rfl rfl (show _ = 67 from rfl) ?_
      obtain ⟨v15, c16⟩ := p78 hI (fj w 1 1)
      refine sx_RP.cu (as := [.long (fj w 1 1)]) (rest2 := []) (st3 := [.int v15]) rfl rfl rfl rfl rfl (c16) rfl ?_
      refine sx_RP.ret (r := (some (.int v15))) rfl rfl ?_
      exact ⟨⟨_, rfl⟩, hI, hE⟩
    · refine sx_RP.step (pc2 := 71) (ls2 := [(0, .ref 0), (1, .int (nI 3))]) (st2 := []) (w3 := w) rfl rfl ?_
      refine sx_RP.step (pc2 := 72) (ls2 := [(0, .ref 0), (1, .int (nI 3))]) (st2 := [.ref 0]) (w3 := w) rfl rfl ?_
      refine sx_RP.gf (v := .ref 96) rfl rfl hI.1.o0 rfl rfl (show _ = 75 from rfl) ?_
      refine sx_RP.gt (k := 1) hI rfl rfl (by decide) (show _ = 78 from rfl) ?_
      obtain ⟨x17, hx18, ex19⟩ : inR (fi w 96 1) 120 := hI.t.1
      rw [ex19]
      refine sx_RP.ret (r := (some (.int (nI x17)))) rfl rfl ?_
      exact ⟨⟨_, rfl⟩, hI, hE⟩
    · refine sx_RP.step (pc2 := 79) (ls2 := [(0, .ref 0), (1, .int (nI 4))]) (st2 := []) (w3 := w) rfl rfl ?_
      refine sx_RP.step (pc2 := 80) (ls2 := [(0, .ref 0), (1, .int (nI 4))]) (st2 := [.ref 0]) (w3 := w) rfl rfl ?_
      refine sx_RP.gf (v := .ref 1) rfl rfl hI.1.o0 rfl rfl (show _ = 83 from rfl) ?_
      refine sx_RP.gc (k := 8) hI (Or.inl rfl) rfl rfl (by omega) (show _ = 86 from rfl) ?_
      refine sx_RP.ret (r := (some (.int (fi w 1 8)))) rfl rfl ?_
      exact ⟨⟨_, rfl⟩, hI, hE⟩
    · refine sx_RP.step (pc2 := 87) (ls2 := [(0, .ref 0), (1, .int (nI 5))]) (st2 := []) (w3 := w) rfl rfl ?_
      refine sx_RP.step (pc2 := 88) (ls2 := [(0, .ref 0), (1, .int (nI 5))]) (st2 := [.ref 0]) (w3 := w) rfl rfl ?_
      refine sx_RP.gf (v := .ref 1) rfl rfl hI.1.o0 rfl rfl (show _ = 91 from rfl) ?_
      refine sx_RP.gc (k := 9) hI (Or.inl rfl) rfl rfl (by omega) (show _ = 94 from rfl) ?_
      refine sx_RP.ret (r := (some (.int (fi w 1 9)))) rfl rfl ?_
      exact ⟨⟨_, rfl⟩, hI, hE⟩
    · refine sx_RP.step (pc2 := 95) (ls2 := [(0, .ref 0), (1, .int (nI 6))]) (st2 := []) (w3 := w) rfl rfl ?_
      refine sx_RP.step (pc2 := 96) (ls2 := [(0, .ref 0), (1, .int (nI 6))]) (st2 := [.ref 0]) (w3 := w) rfl rfl ?_
      refine sx_RP.gf (v := .ref 1) rfl rfl hI.1.o0 rfl rfl (show _ = 99 from rfl) ?_
      refine sx_RP.gc (k := 10) hI (Or.inl rfl) rfl rfl (by omega) (show _ = 102 from rfl) ?_
      refine sx_RP.ret (r := (some (.int (fi w 1 10)))) rfl rfl ?_
      exact ⟨⟨_, rfl⟩, hI, hE⟩
set_option maxRecDepth 20000 in
set_option maxHeartbeats 4000000 in
theorem s115 {xs : Option (List Int32)} {d : Nat} {w : List sx_C} (hI : WI w) (a1 a2 : Int32) (v : Int64) : sx_RP xs (d + 7) 115 0 (lv_args 0 [.ref 0, .int a1, .int a2, .long v]) [] w (fun r w2 => (∃ v : Int64, r = some (.long v)) ∧ WI w2 ∧ EC w w2) := by
  have hE : EC w w := EC.rf
  refine sx_RP.step (pc2 := 1) (ls2 := [(0, .ref 0), (1, .int a1), (2, .int a2), (3, .long v)]) (st2 := [.int a1]) (w3 := w) rfl rfl ?_
  rcases in_cases a1 0 3 (m := 0) (n := 3) rfl rfl (by decide) (by decide) with q1 | ⟨x2, hx3, hx4, rfl⟩
  · refine sx_RP.cu (as := [.int a1]) (rest2 := []) (st3 := [.int 0]) rfl rfl rfl rfl rfl (cx_112n q1) rfl ?_
    refine sx_RP.step (pc2 := 7) (ls2 := [(0, .ref 0), (1, .int a1), (2, .int a2), (3, .long v)]) (st2 := []) (w3 := w) rfl rfl ?_
    refine sx_RP.step (pc2 := 8) (ls2 := [(0, .ref 0), (1, .int a1), (2, .int a2), (3, .long v)]) (st2 := [.ref 0]) (w3 := w) rfl rfl ?_
    refine sx_RP.step (pc2 := 10) (ls2 := [(0, .ref 0), (1, .int a1), (2, .int a2), (3, .long v)]) (st2 := [.int (-1000000001), .ref 0]) (w3 := w) rfl rfl ?_
    refine sx_RP.callp (as2 := [.ref 0, .int (-1000000001)]) (rest2 := []) rfl rfl (sx_inv_v2 (mi := 115) (k := 78) (st := [.int (-1000000001), .ref 0]) (w := w) rfl rfl hI.1.o0 rfl rfl rfl) rfl rfl rfl (s9_0 hI) (show _ = 13 from rfl) ?_
    rintro r4 w6 ⟨rfl, hI7, hE9⟩
    have hE8 := hE.tr hE9
    show sx_RP _ _ _ _ _ [.int (-1000000001)] _ _
    refine sx_RP.step (pc2 := 14) (ls2 := [(0, .ref 0), (1, .int a1), (2, .int a2), (3, .long v)]) (st2 := [.long (-1000000001)]) (w3 := w6) rfl rfl ?_
    refine sx_RP.ret (r := (some (.long (-1000000001)))) rfl rfl ?_
    exact ⟨⟨_, rfl⟩, hI7, hE8⟩
  · refine sx_RP.cu (as := [.int (nI x2)]) (rest2 := []) (st3 := [.int 1]) rfl rfl rfl rfl rfl (cx_112p ⟨nI_le (a := 0) hx3 (by omega), nI_le (b := 3) hx4 (by decide)⟩) rfl ?_
    refine sx_RP.step (pc2 := 15) (ls2 := [(0, .ref 0), (1, .int (nI x2)), (2, .int a2), (3, .long v)]) (st2 := []) (w3 := w) rfl rfl ?_
    refine sx_RP.step (pc2 := 16) (ls2 := [(0, .ref 0), (1, .int (nI x2)), (2, .int a2), (3, .long v)]) (st2 := [.ref 0]) (w3 := w) rfl rfl ?_
    refine sx_RP.gf (v := .ref 98) rfl rfl hI.1.o0 rfl rfl (show _ = 19 from rfl) ?_
    refine sx_RP.step (pc2 := 20) (ls2 := [(0, .ref 0), (1, .int (nI x2)), (2, .int a2), (3, .long v)]) (st2 := [.int (nI x2), .ref 98]) (w3 := w) rfl rfl ?_
    refine sx_RP.ald (v := .ref (103 + 2 * x2)) rfl hI.1.a98 rfl (shA_at (show x2 < 4 by omega)) (show _ = 21 from rfl) ?_
    refine sx_RP.step (pc2 := 23) (ls2 := [(5, .ref (103 + 2 * x2)), (0, .ref 0), (1, .int (nI x2)), (2, .int a2), (3, .long v)]) (st2 := []) (w3 := w) rfl rfl ?_
    refine sx_RP.step (pc2 := 25) (ls2 := [(5, .ref (103 + 2 * x2)), (0, .ref 0), (1, .int (nI x2)), (2, .int a2), (3, .long v)]) (st2 := [.ref (103 + 2 * x2)]) (w3 := w) rfl rfl ?_
    obtain ⟨x10, hx11, c12⟩ := p116 hI (show x2 < 4 by omega)
    refine sx_RP.cu (as := [.ref (103 + 2 * x2)]) (rest2 := []) (st3 := [.int (nI x10)]) rfl rfl (sx_inv_v2 (mi := 115) (k := 310) (st := [.ref (103 + 2 * x2)]) (w := w) rfl rfl (hI.1.oS (show x2 < 4 by omega)) rfl rfl rfl) rfl rfl (c12) rfl ?_
    refine sx_RP.br (p1 := 40) (l1 := [(5, .ref (103 + 2 * x2)), (0, .ref 0), (1, .int (nI x2)), (2, .int a2), (3, .long v)]) (s1 := []) (v1 := w) (p2 := 31) (l2 := [(5, .ref (103 + 2 * x2)), (0, .ref 0), (1, .int (nI x2)), (2, .int a2), (3, .long v)]) (s2 := []) (v2 := w) rfl rfl (fun q13 => ?_) (fun q13 => ?_)
    · replace q13 := of_decide_eq_true q13
      replace q13 := (nI_eq (a := x10) (b := 0) (by omega) (by omega)).mp q13
      refine sx_RP.step (pc2 := 41) (ls2 := [(5, .ref (103 + 2 * x2)), (0, .ref 0), (1, .int (nI x2)), (2, .int a2), (3, .long v)]) (st2 := [.int a2]) (w3 := w) rfl rfl ?_
      refine sx_RP.step (pc2 := 42) (ls2 := [(5, .ref (103 + 2 * x2)), (0, .ref 0), (1, .int (nI x2)), (2, .int a2), (3, .long v)]) (st2 := [.int 0, .int a2]) (w3 := w) rfl rfl ?_
      refine sx_RP.step (pc2 := 44) (ls2 := [(5, .ref (103 + 2 * x2)), (0, .ref 0), (1, .int (nI x2)), (2, .int a2), (3, .long v)]) (st2 := [.ref (103 + 2 * x2), .int 0, .int a2]) (w3 := w) rfl rfl ?_
      refine sx_RP.gf (v := .int (fi w (103 + 2 * x2) 2)) rfl rfl (hI.1.oS (show x2 < 4 by omega)) rfl rfl (show _ = 47 from rfl) ?_
      obtain ⟨x14, hx15, ex16⟩ : inR (fi w (103 + 2 * x2) 2) 40 := hI.sh (show x2 < 4 by omega)
      rw [ex16]
      refine sx_RP.step (pc2 := 48) (ls2 := [(5, .ref (103 + 2 * x2)), (0, .ref 0), (1, .int (nI x2)), (2, .int a2), (3, .long v)]) (st2 := [.int 1, .int (nI x14), .int 0, .int a2]) (w3 := w) rfl rfl ?_
      refine sx_RP.step (pc2 := 49) (ls2 := [(5, .ref (103 + 2 * x2)), (0, .ref 0), (1, .int (nI x2)), (2, .int a2), (3, .long v)]) (st2 := [.int ((nI x14) - 1), .int 0, .int a2]) (w3 := w) rfl rfl ?_
      rcases in_casesS a2 (n := x14) (by omega) with q17 | ⟨q17, x18, hx19, rfl⟩
      · refine sx_RP.cu (as := [.int a2, .int 0, .int ((nI x14) - 1)]) (rest2 := []) (st3 := [.int 0]) rfl rfl rfl rfl rfl (cx_8n q17) rfl ?_
        refine sx_RP.step (pc2 := 55) (ls2 := [(5, .ref (103 + 2 * x2)), (0, .ref 0), (1, .int (nI x2)), (2, .int a2), (3, .long v)]) (st2 := []) (w3 := w) rfl rfl ?_
        refine sx_RP.step (pc2 := 56) (ls2 := [(5, .ref (103 + 2 * x2)), (0, .ref 0), (1, .int (nI x2)), (2, .int a2), (3, .long v)]) (st2 := [.ref 0]) (w3 := w) rfl rfl ?_
        refine sx_RP.step (pc2 := 58) (ls2 := [(5, .ref (103 + 2 * x2)), (0, .ref 0), (1, .int (nI x2)), (2, .int a2), (3, .long v)]) (st2 := [.int (-1000000001), .ref 0]) (w3 := w) rfl rfl ?_
        refine sx_RP.callp (as2 := [.ref 0, .int (-1000000001)]) (rest2 := []) rfl rfl (sx_inv_v2 (mi := 115) (k := 78) (st := [.int (-1000000001), .ref 0]) (w := w) rfl rfl hI.1.o0 rfl rfl rfl) rfl rfl rfl (s9_0 hI) (show _ = 61 from rfl) ?_
        rintro r4 w21 ⟨rfl, hI22, hE24⟩
        have hE23 := hE.tr hE24
        show sx_RP _ _ _ _ _ [.int (-1000000001)] _ _
        refine sx_RP.step (pc2 := 62) (ls2 := [(5, .ref (103 + 2 * x2)), (0, .ref 0), (1, .int (nI x2)), (2, .int a2), (3, .long v)]) (st2 := [.long (-1000000001)]) (w3 := w21) rfl rfl ?_
        refine sx_RP.ret (r := (some (.long (-1000000001)))) rfl rfl ?_
        exact ⟨⟨_, rfl⟩, hI22, hE23⟩
      · refine sx_RP.cu (as := [.int (nI x18), .int 0, .int ((nI x14) - 1)]) (rest2 := []) (st3 := [.int 1]) rfl rfl rfl rfl rfl (cx_8p q17) rfl ?_
        refine sx_RP.step (pc2 := 63) (ls2 := [(5, .ref (103 + 2 * x2)), (0, .ref 0), (1, .int (nI x2)), (2, .int (nI x18)), (3, .long v)]) (st2 := []) (w3 := w) rfl rfl ?_
        refine sx_RP.step (pc2 := 65) (ls2 := [(5, .ref (103 + 2 * x2)), (0, .ref 0), (1, .int (nI x2)), (2, .int (nI x18)), (3, .long v)]) (st2 := [.ref (103 + 2 * x2)]) (w3 := w) rfl rfl ?_
        refine sx_RP.gf (v := .ref (104 + 2 * x2)) rfl rfl (hI.1.oS (show x2 < 4 by omega)) rfl rfl (show _ = 68 from rfl) ?_
        refine sx_RP.step (pc2 := 69) (ls2 := [(5, .ref (103 + 2 * x2)), (0, .ref 0), (1, .int (nI x2)), (2, .int (nI x18)), (3, .long v)]) (st2 := [.int (nI x18), .ref (104 + 2 * x2)]) (w3 := w) rfl rfl ?_
        refine sx_RP.lld (c := x18) rfl (hI.1.aN (show x2 < 4 by omega)).1 (hI.1.aN (show x2 < 4 by omega)).2 (sx_in_nI (show x18 < 40 by omega) (by decide)) (show (nI x18).toNatClampNeg = x18 from nI_clamp (by omega)) (show _ = 70 from rfl) ?_
        refine sx_RP.step (pc2 := 72) (ls2 := [(6, .long ((ja w (104 + 2 * x2)).getD x18 0)), (5, .ref (103 + 2 * x2)), (0, .ref 0), (1, .int (nI x2)), (2, .int (nI x18)), (3, .long v)]) (st2 := []) (w3 := w) rfl rfl ?_
        refine sx_RP.step (pc2 := 74) (ls2 := [(6, .long ((ja w (104 + 2 * x2)).getD x18 0)), (5, .ref (103 + 2 * x2)), (0, .ref 0), (1, .int (nI x2)), (2, .int (nI x18)), (3, .long v)]) (st2 := [.ref (103 + 2 * x2)]) (w3 := w) rfl rfl ?_
        refine sx_RP.step (pc2 := 75) (ls2 := [(6, .long ((ja w (104 + 2 * x2)).getD x18 0)), (5, .ref (103 + 2 * x2)), (0, .ref 0), (1, .int (nI x2)), (2, .int (nI x18)), (3, .long v)]) (st2 := [.int (nI x18), .ref (103 + 2 * x2)]) (w3 := w) rfl rfl ?_
        refine sx_RP.step (pc2 := 76) (ls2 := [(6, .long ((ja w (104 + 2 * x2)).getD x18 0)), (5, .ref (103 + 2 * x2)), (0, .ref 0), (1, .int (nI x2)), (2, .int (nI x18)), (3, .long v)]) (st2 := [.long v, .int (nI x18), .ref (103 + 2 * x2)]) (w3 := w) rfl rfl ?_
        refine sx_RP.callp (as2 := [.ref (103 + 2 * x2), .int (nI x18), .long v]) (rest2 := []) rfl rfl (sx_inv_v2 (mi := 115) (k := 318) (st := [.long v, .int (nI x18), .ref (103 + 2 * x2)]) (w := w) rfl rfl (hI.1.oS (show x2 < 4 by omega)) rfl rfl rfl) rfl rfl rfl (s117 hI (show x2 < 4 by omega) (show x18 < 40 by omega) v) (show _ = 79 from rfl) ?_
        rintro r4 w25 ⟨rfl, hI26, hE28⟩
        have hE27 := hE.tr hE28
        show sx_RP _ _ _ _ _ [] _ _
        refine sx_RP.step (pc2 := 81) (ls2 := [(6, .long ((ja w (104 + 2 * x2)).getD x18 0)), (5, .ref (103 + 2 * x2)), (0, .ref 0), (1, .int (nI x2)), (2, .int (nI x18)), (3, .long v)]) (st2 := [.long ((ja w (104 + 2 * x2)).getD x18 0)]) (w3 := w25) rfl rfl ?_
        refine sx_RP.ret (r := (some (.long ((ja w (104 + 2 * x2)).getD x18 0)))) rfl rfl ?_
        exact ⟨⟨_, rfl⟩, hI26, hE27⟩
    · replace q13 := of_decide_eq_false q13
      replace q13 := mt (nI_eq (a := x10) (b := 0) (by omega) (by omega)).mpr q13
      refine sx_RP.step (pc2 := 32) (ls2 := [(5, .ref (103 + 2 * x2)), (0, .ref 0), (1, .int (nI x2)), (2, .int a2), (3, .long v)]) (st2 := [.ref 0]) (w3 := w) rfl rfl ?_
      refine sx_RP.step (pc2 := 35) (ls2 := [(5, .ref (103 + 2 * x2)), (0, .ref 0), (1, .int (nI x2)), (2, .int a2), (3, .long v)]) (st2 := [.int (-1000000006), .ref 0]) (w3 := w) rfl rfl ?_
      refine sx_RP.callp (as2 := [.ref 0, .int (-1000000006)]) (rest2 := []) rfl rfl (sx_inv_v2 (mi := 115) (k := 78) (st := [.int (-1000000006), .ref 0]) (w := w) rfl rfl hI.1.o0 rfl rfl rfl) rfl rfl rfl (s9_5 hI) (show _ = 38 from rfl) ?_
      rintro r4 w29 ⟨rfl, hI30, hE32⟩
      have hE31 := hE.tr hE32
      show sx_RP _ _ _ _ _ [.int (-1000000006)] _ _
      refine sx_RP.step (pc2 := 39) (ls2 := [(5, .ref (103 + 2 * x2)), (0, .ref 0), (1, .int (nI x2)), (2, .int a2), (3, .long v)]) (st2 := [.long (-1000000006)]) (w3 := w29) rfl rfl ?_
      refine sx_RP.ret (r := (some (.long (-1000000006)))) rfl rfl ?_
      exact ⟨⟨_, rfl⟩, hI30, hE31⟩
