-- safety: the class, first half
set_option maxRecDepth 20000 in
set_option maxHeartbeats 4000000 in
theorem s6 {xs : Option (List Int32)} {d : Nat} {w : List sx_C} (hI : WI w) (a1 a2 : Int32) : sx_RP xs (d + 7) 6 0 (lv_args 0 [.ref 0, .int a1, .int a2]) [] w (fun r w2 => (∃ v : Int32, r = some (.int v)) ∧ WI w2 ∧ EC w w2) := by
  have hE : EC w w := EC.rf
  refine sx_RP.step (pc2 := 1) (ls2 := [(0, .ref 0), (1, .int a1), (2, .int a2)]) (st2 := [.int a1]) (w3 := w) rfl rfl ?_
  rcases in_cases a1 0 47 (m := 0) (n := 47) rfl rfl (by decide) (by decide) with q1 | ⟨x2, hx3, hx4, rfl⟩
  · refine sx_RP.cu (as := [.int a1]) (rest2 := []) (st3 := [.int 0]) rfl rfl rfl rfl rfl (cx_7n q1) rfl ?_
    refine sx_RP.step (pc2 := 16) (ls2 := [(0, .ref 0), (1, .int a1), (2, .int a2)]) (st2 := []) (w3 := w) rfl rfl ?_
    refine sx_RP.step (pc2 := 17) (ls2 := [(0, .ref 0), (1, .int a1), (2, .int a2)]) (st2 := [.ref 0]) (w3 := w) rfl rfl ?_
    refine sx_RP.step (pc2 := 19) (ls2 := [(0, .ref 0), (1, .int a1), (2, .int a2)]) (st2 := [.int (-1000000001), .ref 0]) (w3 := w) rfl rfl ?_
    refine sx_RP.callp (as2 := [.ref 0, .int (-1000000001)]) (rest2 := []) rfl rfl (sx_inv_v2 (mi := 6) (k := 78) (st := [.int (-1000000001), .ref 0]) (w := w) rfl rfl hI.1.o0 rfl rfl rfl) rfl rfl rfl (s9_0 hI) (show _ = 22 from rfl) ?_
    rintro r4 w7 ⟨⟨v6, rfl⟩, hI8, hE10⟩
    have hE9 := hE.tr hE10
    show sx_RP _ _ _ _ _ [.int v6] _ _
    refine sx_RP.ret (r := (some (.int v6))) rfl rfl ?_
    exact ⟨⟨_, rfl⟩, hI8, hE9⟩
  · refine sx_RP.cu (as := [.int (nI x2)]) (rest2 := []) (st3 := [.int 1]) rfl rfl rfl rfl rfl (cx_7p ⟨nI_le (a := 0) hx3 (by omega), nI_le (b := 47) hx4 (by decide)⟩) rfl ?_
    refine sx_RP.step (pc2 := 7) (ls2 := [(0, .ref 0), (1, .int (nI x2)), (2, .int a2)]) (st2 := []) (w3 := w) rfl rfl ?_
    refine sx_RP.step (pc2 := 8) (ls2 := [(0, .ref 0), (1, .int (nI x2)), (2, .int a2)]) (st2 := [.int a2]) (w3 := w) rfl rfl ?_
    refine sx_RP.step (pc2 := 9) (ls2 := [(0, .ref 0), (1, .int (nI x2)), (2, .int a2)]) (st2 := [.int 0, .int a2]) (w3 := w) rfl rfl ?_
    refine sx_RP.step (pc2 := 10) (ls2 := [(0, .ref 0), (1, .int (nI x2)), (2, .int a2)]) (st2 := [.int 3, .int 0, .int a2]) (w3 := w) rfl rfl ?_
    rcases in_cases a2 0 3 (m := 0) (n := 3) rfl rfl (by decide) (by decide) with q11 | ⟨x12, hx13, hx14, rfl⟩
    · refine sx_RP.cu (as := [.int a2, .int 0, .int 3]) (rest2 := []) (st3 := [.int 0]) rfl rfl rfl rfl rfl (cx_8n q11) rfl ?_
      refine sx_RP.step (pc2 := 16) (ls2 := [(0, .ref 0), (1, .int (nI x2)), (2, .int a2)]) (st2 := []) (w3 := w) rfl rfl ?_
      refine sx_RP.step (pc2 := 17) (ls2 := [(0, .ref 0), (1, .int (nI x2)), (2, .int a2)]) (st2 := [.ref 0]) (w3 := w) rfl rfl ?_
      refine sx_RP.step (pc2 := 19) (ls2 := [(0, .ref 0), (1, .int (nI x2)), (2, .int a2)]) (st2 := [.int (-1000000001), .ref 0]) (w3 := w) rfl rfl ?_
      refine sx_RP.callp (as2 := [.ref 0, .int (-1000000001)]) (rest2 := []) rfl rfl (sx_inv_v2 (mi := 6) (k := 78) (st := [.int (-1000000001), .ref 0]) (w := w) rfl rfl hI.1.o0 rfl rfl rfl) rfl rfl rfl (s9_0 hI) (show _ = 22 from rfl) ?_
      rintro r4 w17 ⟨⟨v16, rfl⟩, hI18, hE20⟩
      have hE19 := hE.tr hE20
      show sx_RP _ _ _ _ _ [.int v16] _ _
      refine sx_RP.ret (r := (some (.int v16))) rfl rfl ?_
      exact ⟨⟨_, rfl⟩, hI18, hE19⟩
    · refine sx_RP.cu (as := [.int (nI x12), .int 0, .int 3]) (rest2 := []) (st3 := [.int 1]) rfl rfl rfl rfl rfl (cx_8p ⟨nI_le (a := 0) hx13 (by omega), nI_le (b := 3) hx14 (by decide)⟩) rfl ?_
      refine sx_RP.step (pc2 := 23) (ls2 := [(0, .ref 0), (1, .int (nI x2)), (2, .int (nI x12))]) (st2 := []) (w3 := w) rfl rfl ?_
      refine sx_RP.step (pc2 := 24) (ls2 := [(0, .ref 0), (1, .int (nI x2)), (2, .int (nI x12))]) (st2 := [.ref 0]) (w3 := w) rfl rfl ?_
      refine sx_RP.gf (v := .ref 1) rfl rfl hI.1.o0 rfl rfl (show _ = 27 from rfl) ?_
      refine sx_RP.gref (k := 0) (b := 2) hI (Or.inl rfl) rfl rfl (by omega) (show _ = 30 from rfl) ?_
      refine sx_RP.step (pc2 := 31) (ls2 := [(0, .ref 0), (1, .int (nI x2)), (2, .int (nI x12))]) (st2 := [.int (nI x2), .ref 2]) (w3 := w) rfl rfl ?_
      refine sx_RP.ild (c := x2) rfl (hI.1.aS (Or.inl rfl)).1 (hI.1.aS (Or.inl rfl)).2 (sx_in_nI (show x2 < 48 by omega) (by decide)) (show (nI x2).toNatClampNeg = x2 from nI_clamp (by omega)) (show _ = 32 from rfl) ?_
      obtain ⟨x21, hx22, ex23⟩ : inR ((ia w 2).getD x2 0) 3 := hI.st (Or.inl rfl) (show x2 < 48 by omega)
      rw [ex23]
      refine sx_RP.step (pc2 := 33) (ls2 := [(3, .int (nI x21)), (0, .ref 0), (1, .int (nI x2)), (2, .int (nI x12))]) (st2 := []) (w3 := w) rfl rfl ?_
      refine sx_RP.step (pc2 := 34) (ls2 := [(3, .int (nI x21)), (0, .ref 0), (1, .int (nI x2)), (2, .int (nI x12))]) (st2 := [.ref 0]) (w3 := w) rfl rfl ?_
      refine sx_RP.gf (v := .ref 1) rfl rfl hI.1.o0 rfl rfl (show _ = 37 from rfl) ?_
      refine sx_RP.gref (k := 0) (b := 2) hI (Or.inl rfl) rfl rfl (by omega) (show _ = 40 from rfl) ?_
      refine sx_RP.step (pc2 := 41) (ls2 := [(3, .int (nI x21)), (0, .ref 0), (1, .int (nI x2)), (2, .int (nI x12))]) (st2 := [.int (nI x2), .ref 2]) (w3 := w) rfl rfl ?_
      refine sx_RP.step (pc2 := 42) (ls2 := [(3, .int (nI x21)), (0, .ref 0), (1, .int (nI x2)), (2, .int (nI x12))]) (st2 := [.int (nI x12), .int (nI x2), .ref 2]) (w3 := w) rfl rfl ?_
      refine sx_RP.stS hI hE (Or.inl rfl) rfl (sx_in_nI (show x2 < 48 by omega) (by decide)) (inR.n (show x12 ≤ 3 by omega)) (show _ = 43 from rfl) (fun w24 hI25 hE26 => ?_)
      refine sx_RP.step (pc2 := 44) (ls2 := [(3, .int (nI x21)), (0, .ref 0), (1, .int (nI x2)), (2, .int (nI x12))]) (st2 := [.int (nI x21)]) (w3 := w24) rfl rfl ?_
      refine sx_RP.ret (r := (some (.int (nI x21)))) rfl rfl ?_
      exact ⟨⟨_, rfl⟩, hI25, hE26⟩
set_option maxRecDepth 20000 in
set_option maxHeartbeats 4000000 in
theorem s10 {xs : Option (List Int32)} {d : Nat} {w : List sx_C} (hI : WI w) (a1 a2 : Int32) : sx_RP xs (d + 7) 10 0 (lv_args 0 [.ref 0, .int a1, .int a2]) [] w (fun r w2 => (∃ v : Int32, r = some (.int v)) ∧ WI w2 ∧ EC w w2) := by
  have hE : EC w w := EC.rf
  refine sx_RP.step (pc2 := 1) (ls2 := [(0, .ref 0), (1, .int a1), (2, .int a2)]) (st2 := [.int a1]) (w3 := w) rfl rfl ?_
  rcases in_cases a1 0 47 (m := 0) (n := 47) rfl rfl (by decide) (by decide) with q1 | ⟨x2, hx3, hx4, rfl⟩
  · refine sx_RP.cu (as := [.int a1]) (rest2 := []) (st3 := [.int 0]) rfl rfl rfl rfl rfl (cx_7n q1) rfl ?_
    refine sx_RP.step (pc2 := 7) (ls2 := [(0, .ref 0), (1, .int a1), (2, .int a2)]) (st2 := []) (w3 := w) rfl rfl ?_
    refine sx_RP.step (pc2 := 8) (ls2 := [(0, .ref 0), (1, .int a1), (2, .int a2)]) (st2 := [.ref 0]) (w3 := w) rfl rfl ?_
    refine sx_RP.step (pc2 := 10) (ls2 := [(0, .ref 0), (1, .int a1), (2, .int a2)]) (st2 := [.int (-1000000001), .ref 0]) (w3 := w) rfl rfl ?_
    refine sx_RP.callp (as2 := [.ref 0, .int (-1000000001)]) (rest2 := []) rfl rfl (sx_inv_v2 (mi := 10) (k := 78) (st := [.int (-1000000001), .ref 0]) (w := w) rfl rfl hI.1.o0 rfl rfl rfl) rfl rfl rfl (s9_0 hI) (show _ = 13 from rfl) ?_
    rintro r4 w7 ⟨⟨v6, rfl⟩, hI8, hE10⟩
    have hE9 := hE.tr hE10
    show sx_RP _ _ _ _ _ [.int v6] _ _
    refine sx_RP.ret (r := (some (.int v6))) rfl rfl ?_
    exact ⟨⟨_, rfl⟩, hI8, hE9⟩
  · refine sx_RP.cu (as := [.int (nI x2)]) (rest2 := []) (st3 := [.int 1]) rfl rfl rfl rfl rfl (cx_7p ⟨nI_le (a := 0) hx3 (by omega), nI_le (b := 47) hx4 (by decide)⟩) rfl ?_
    refine sx_RP.step (pc2 := 14) (ls2 := [(0, .ref 0), (1, .int (nI x2)), (2, .int a2)]) (st2 := []) (w3 := w) rfl rfl ?_
    refine sx_RP.step (pc2 := 15) (ls2 := [(0, .ref 0), (1, .int (nI x2)), (2, .int a2)]) (st2 := [.ref 0]) (w3 := w) rfl rfl ?_
    refine sx_RP.gf (v := .ref 1) rfl rfl hI.1.o0 rfl rfl (show _ = 18 from rfl) ?_
    refine sx_RP.step (pc2 := 19) (ls2 := [(0, .ref 0), (1, .int (nI x2)), (2, .int a2)]) (st2 := [.int (nI x2), .ref 1]) (w3 := w) rfl rfl ?_
    obtain ⟨x11, hx12, c13⟩ := p11 hI (Or.inl rfl) (nI x2)
    refine sx_RP.cu (as := [.ref 1, .int (nI x2)]) (rest2 := []) (st3 := [.int (nI x11)]) rfl rfl (sx_inv_v2 (mi := 10) (k := 85) (st := [.int (nI x2), .ref 1]) (w := w) rfl rfl (hI.1.oC (Or.inl rfl)) rfl rfl rfl) rfl rfl (c13) rfl ?_
    refine sx_RP.step (pc2 := 23) (ls2 := [(0, .ref 0), (1, .int (nI x2)), (2, .int a2)]) (st2 := [.int a2, .int (nI x11)]) (w3 := w) rfl rfl ?_
    refine sx_RP.br (p1 := 28) (l1 := [(0, .ref 0), (1, .int (nI x2)), (2, .int a2)]) (s1 := []) (v1 := w) (p2 := 26) (l2 := [(0, .ref 0), (1, .int (nI x2)), (2, .int a2)]) (s2 := []) (v2 := w) rfl rfl (fun q14 => ?_) (fun q14 => ?_)
    · replace q14 := of_decide_eq_true q14
      refine sx_RP.step (pc2 := 29) (ls2 := [(0, .ref 0), (1, .int (nI x2)), (2, .int a2)]) (st2 := [.ref 0]) (w3 := w) rfl rfl ?_
      refine sx_RP.gf (v := .ref 1) rfl rfl hI.1.o0 rfl rfl (show _ = 32 from rfl) ?_
      refine sx_RP.step (pc2 := 33) (ls2 := [(0, .ref 0), (1, .int (nI x2)), (2, .int a2)]) (st2 := [.ref 1, .ref 1]) (w3 := w) rfl rfl ?_
      refine sx_RP.gw hI (Or.inl rfl) rfl rfl (show _ = 36 from rfl) ?_
      refine sx_RP.step (pc2 := 37) (ls2 := [(0, .ref 0), (1, .int (nI x2)), (2, .int a2)]) (st2 := [.long 1, .long (fj w 1 1), .ref 1]) (w3 := w) rfl rfl ?_
      refine sx_RP.step (pc2 := 38) (ls2 := [(0, .ref 0), (1, .int (nI x2)), (2, .int a2)]) (st2 := [.int (nI x2), .long 1, .long (fj w 1 1), .ref 1]) (w3 := w) rfl rfl ?_
      refine sx_RP.step (pc2 := 39) (ls2 := [(0, .ref 0), (1, .int (nI x2)), (2, .int a2)]) (st2 := [.long ((1 : Int64) <<< ((nI x2).toInt64 &&& 63)), .long (fj w 1 1), .ref 1]) (w3 := w) rfl rfl ?_
      refine sx_RP.step (pc2 := 40) (ls2 := [(0, .ref 0), (1, .int (nI x2)), (2, .int a2)]) (st2 := [.long ((fj w 1 1) ^^^ ((1 : Int64) <<< ((nI x2).toInt64 &&& 63))), .ref 1]) (w3 := w) rfl rfl ?_
      refine sx_RP.pw hI hE (Or.inl rfl) rfl rfl rfl (show _ = 43 from rfl) (fun w15 hI16 hE17 => ?_)
      refine sx_RP.step (pc2 := 44) (ls2 := [(0, .ref 0), (1, .int (nI x2)), (2, .int a2)]) (st2 := [.int 1]) (w3 := w15) rfl rfl ?_
      refine sx_RP.ret (r := (some (.int 1))) rfl rfl ?_
      exact ⟨⟨_, rfl⟩, hI16, hE17⟩
    · replace q14 := Decidable.not_not.mp (of_decide_eq_false q14)
      refine sx_RP.step (pc2 := 27) (ls2 := [(0, .ref 0), (1, .int (nI x2)), (2, .int a2)]) (st2 := [.int 0]) (w3 := w) rfl rfl ?_
      refine sx_RP.ret (r := (some (.int 0))) rfl rfl ?_
      exact ⟨⟨_, rfl⟩, hI, hE⟩
set_option maxRecDepth 20000 in
set_option maxHeartbeats 4000000 in
theorem s12 {xs : Option (List Int32)} {d : Nat} {w : List sx_C} (hI : WI w) (a1 a2 : Int32) : sx_RP xs (d + 7) 12 0 (lv_args 0 [.ref 0, .int a1, .int a2]) [] w (fun r w2 => (∃ v : Int32, r = some (.int v)) ∧ WI w2 ∧ EC w w2) := by
  have hE : EC w w := EC.rf
  refine sx_RP.step (pc2 := 1) (ls2 := [(0, .ref 0), (1, .int a1), (2, .int a2)]) (st2 := [.int a1]) (w3 := w) rfl rfl ?_
  rcases in_cases a1 0 47 (m := 0) (n := 47) rfl rfl (by decide) (by decide) with q1 | ⟨x2, hx3, hx4, rfl⟩
  · refine sx_RP.cu (as := [.int a1]) (rest2 := []) (st3 := [.int 0]) rfl rfl rfl rfl rfl (cx_7n q1) rfl ?_
    refine sx_RP.step (pc2 := 7) (ls2 := [(0, .ref 0), (1, .int a1), (2, .int a2)]) (st2 := []) (w3 := w) rfl rfl ?_
    refine sx_RP.step (pc2 := 8) (ls2 := [(0, .ref 0), (1, .int a1), (2, .int a2)]) (st2 := [.ref 0]) (w3 := w) rfl rfl ?_
    refine sx_RP.step (pc2 := 10) (ls2 := [(0, .ref 0), (1, .int a1), (2, .int a2)]) (st2 := [.int (-1000000001), .ref 0]) (w3 := w) rfl rfl ?_
    refine sx_RP.callp (as2 := [.ref 0, .int (-1000000001)]) (rest2 := []) rfl rfl (sx_inv_v2 (mi := 12) (k := 78) (st := [.int (-1000000001), .ref 0]) (w := w) rfl rfl hI.1.o0 rfl rfl rfl) rfl rfl rfl (s9_0 hI) (show _ = 13 from rfl) ?_
    rintro r4 w7 ⟨⟨v6, rfl⟩, hI8, hE10⟩
    have hE9 := hE.tr hE10
    show sx_RP _ _ _ _ _ [.int v6] _ _
    refine sx_RP.ret (r := (some (.int v6))) rfl rfl ?_
    exact ⟨⟨_, rfl⟩, hI8, hE9⟩
  · refine sx_RP.cu (as := [.int (nI x2)]) (rest2 := []) (st3 := [.int 1]) rfl rfl rfl rfl rfl (cx_7p ⟨nI_le (a := 0) hx3 (by omega), nI_le (b := 47) hx4 (by decide)⟩) rfl ?_
    refine sx_RP.step (pc2 := 14) (ls2 := [(0, .ref 0), (1, .int (nI x2)), (2, .int a2)]) (st2 := []) (w3 := w) rfl rfl ?_
    refine sx_RP.step (pc2 := 15) (ls2 := [(0, .ref 0), (1, .int (nI x2)), (2, .int a2)]) (st2 := [.int a2]) (w3 := w) rfl rfl ?_
    rcases sw_cases (n := 2) (a2) with q11 | ⟨x12, hx13, ex14⟩
    · refine sx_RP.swo (t := 76) rfl q11 rfl ?_
      refine sx_RP.step (pc2 := 77) (ls2 := [(0, .ref 0), (1, .int (nI x2)), (2, .int a2)]) (st2 := [.ref 0]) (w3 := w) rfl rfl ?_
      refine sx_RP.step (pc2 := 79) (ls2 := [(0, .ref 0), (1, .int (nI x2)), (2, .int a2)]) (st2 := [.int (-1000000001), .ref 0]) (w3 := w) rfl rfl ?_
      refine sx_RP.callp (as2 := [.ref 0, .int (-1000000001)]) (rest2 := []) rfl rfl (sx_inv_v2 (mi := 12) (k := 78) (st := [.int (-1000000001), .ref 0]) (w := w) rfl rfl hI.1.o0 rfl rfl rfl) rfl rfl rfl (s9_0 hI) (show _ = 82 from rfl) ?_
      rintro r4 w16 ⟨⟨v15, rfl⟩, hI17, hE19⟩
      have hE18 := hE.tr hE19
      show sx_RP _ _ _ _ _ [.int v15] _ _
      refine sx_RP.ret (r := (some (.int v15))) rfl rfl ?_
      exact ⟨⟨_, rfl⟩, hI17, hE18⟩
    · rw [ex14]
      rcases (show x12 = 0 ∨ x12 = 1 ∨ x12 = 2 by omega) with rfl | rfl | rfl
      · refine sx_RP.step (pc2 := 40) (ls2 := [(0, .ref 0), (1, .int (nI x2)), (2, .int (nI 0))]) (st2 := []) (w3 := w) rfl rfl ?_
        refine sx_RP.step (pc2 := 41) (ls2 := [(0, .ref 0), (1, .int (nI x2)), (2, .int (nI 0))]) (st2 := [.ref 0]) (w3 := w) rfl rfl ?_
        refine sx_RP.gf (v := .ref 1) rfl rfl hI.1.o0 rfl rfl (show _ = 44 from rfl) ?_
        refine sx_RP.gref (k := 0) (b := 2) hI (Or.inl rfl) rfl rfl (by omega) (show _ = 47 from rfl) ?_
        refine sx_RP.step (pc2 := 48) (ls2 := [(0, .ref 0), (1, .int (nI x2)), (2, .int (nI 0))]) (st2 := [.int (nI x2), .ref 2]) (w3 := w) rfl rfl ?_
        refine sx_RP.ild (c := x2) rfl (hI.1.aS (Or.inl rfl)).1 (hI.1.aS (Or.inl rfl)).2 (sx_in_nI (show x2 < 48 by omega) (by decide)) (show (nI x2).toNatClampNeg = x2 from nI_clamp (by omega)) (show _ = 49 from rfl) ?_
        obtain ⟨x20, hx21, ex22⟩ : inR ((ia w 2).getD x2 0) 3 := hI.st (Or.inl rfl) (show x2 < 48 by omega)
        rw [ex22]
        refine sx_RP.ret (r := (some (.int (nI x20)))) rfl rfl ?_
        exact ⟨⟨_, rfl⟩, hI, hE⟩
      · refine sx_RP.step (pc2 := 50) (ls2 := [(0, .ref 0), (1, .int (nI x2)), (2, .int (nI 1))]) (st2 := []) (w3 := w) rfl rfl ?_
        refine sx_RP.step (pc2 := 51) (ls2 := [(0, .ref 0), (1, .int (nI x2)), (2, .int (nI 1))]) (st2 := [.ref 0]) (w3 := w) rfl rfl ?_
        refine sx_RP.gf (v := .ref 1) rfl rfl hI.1.o0 rfl rfl (show _ = 54 from rfl) ?_
        refine sx_RP.step (pc2 := 55) (ls2 := [(0, .ref 0), (1, .int (nI x2)), (2, .int (nI 1))]) (st2 := [.int (nI x2), .ref 1]) (w3 := w) rfl rfl ?_
        obtain ⟨x23, hx24, c25⟩ := p11 hI (Or.inl rfl) (nI x2)
        refine sx_RP.cu (as := [.ref 1, .int (nI x2)]) (rest2 := []) (st3 := [.int (nI x23)]) rfl rfl (sx_inv_v2 (mi := 12) (k := 85) (st := [.int (nI x2), .ref 1]) (w := w) rfl rfl (hI.1.oC (Or.inl rfl)) rfl rfl rfl) rfl rfl (c25) rfl ?_
        refine sx_RP.br (p1 := 65) (l1 := [(0, .ref 0), (1, .int (nI x2)), (2, .int (nI 1))]) (s1 := []) (v1 := w) (p2 := 61) (l2 := [(0, .ref 0), (1, .int (nI x2)), (2, .int (nI 1))]) (s2 := []) (v2 := w) rfl rfl (fun q26 => ?_) (fun q26 => ?_)
        · replace q26 := of_decide_eq_true q26
          replace q26 := (nI_eq (a := x23) (b := 0) (by omega) (by omega)).mp q26
          refine sx_RP.step (pc2 := 66) (ls2 := [(0, .ref 0), (1, .int (nI x2)), (2, .int (nI 1))]) (st2 := [.int 0]) (w3 := w) rfl rfl ?_
          refine sx_RP.ret (r := (some (.int 0))) rfl rfl ?_
          exact ⟨⟨_, rfl⟩, hI, hE⟩
        · replace q26 := of_decide_eq_false q26
          replace q26 := mt (nI_eq (a := x23) (b := 0) (by omega) (by omega)).mpr q26
          refine sx_RP.step (pc2 := 62) (ls2 := [(0, .ref 0), (1, .int (nI x2)), (2, .int (nI 1))]) (st2 := [.int 1]) (w3 := w) rfl rfl ?_
          refine sx_RP.step (pc2 := 66) (ls2 := [(0, .ref 0), (1, .int (nI x2)), (2, .int (nI 1))]) (st2 := [.int 1]) (w3 := w) rfl rfl ?_
          refine sx_RP.ret (r := (some (.int 1))) rfl rfl ?_
          exact ⟨⟨_, rfl⟩, hI, hE⟩
      · refine sx_RP.step (pc2 := 67) (ls2 := [(0, .ref 0), (1, .int (nI x2)), (2, .int (nI 2))]) (st2 := []) (w3 := w) rfl rfl ?_
        refine sx_RP.step (pc2 := 68) (ls2 := [(0, .ref 0), (1, .int (nI x2)), (2, .int (nI 2))]) (st2 := [.ref 0]) (w3 := w) rfl rfl ?_
        refine sx_RP.gf (v := .ref 1) rfl rfl hI.1.o0 rfl rfl (show _ = 71 from rfl) ?_
        refine sx_RP.step (pc2 := 72) (ls2 := [(0, .ref 0), (1, .int (nI x2)), (2, .int (nI 2))]) (st2 := [.int (nI x2), .ref 1]) (w3 := w) rfl rfl ?_
        obtain ⟨v27, c28⟩ := p13 hI (Or.inl rfl) (nI x2)
        refine sx_RP.cu (as := [.ref 1, .int (nI x2)]) (rest2 := []) (st3 := [.int v27]) rfl rfl (sx_inv_v2 (mi := 12) (k := 92) (st := [.int (nI x2), .ref 1]) (w := w) rfl rfl (hI.1.oC (Or.inl rfl)) rfl rfl rfl) rfl rfl (c28) rfl ?_
        refine sx_RP.ret (r := (some (.int v27))) rfl rfl ?_
        exact ⟨⟨_, rfl⟩, hI, hE⟩
set_option maxRecDepth 20000 in
set_option maxHeartbeats 4000000 in
theorem s14 {xs : Option (List Int32)} {d : Nat} {w : List sx_C} (hI : WI w) : sx_RP xs (d + 7) 14 0 (lv_args 0 [.ref 0]) [] w (fun r w2 => (∃ v : Int64, r = some (.long v)) ∧ WI w2 ∧ EC w w2) := by
  have hE : EC w w := EC.rf
  refine sx_RP.step (pc2 := 1) (ls2 := [(0, .ref 0)]) (st2 := [.ref 0]) (w3 := w) rfl rfl ?_
  refine sx_RP.gf (v := .ref 1) rfl rfl hI.1.o0 rfl rfl (show _ = 4 from rfl) ?_
  refine sx_RP.gw hI (Or.inl rfl) rfl rfl (show _ = 7 from rfl) ?_
  refine sx_RP.ret (r := (some (.long (fj w 1 1)))) rfl rfl ?_
  exact ⟨⟨_, rfl⟩, hI, hE⟩
set_option maxRecDepth 20000 in
set_option maxHeartbeats 4000000 in
theorem s15 {xs : Option (List Int32)} {d : Nat} {w : List sx_C} (hI : WI w) (a1 a2 : Int32) : sx_RP xs (d + 7) 15 0 (lv_args 0 [.ref 0, .int a1, .int a2]) [] w (fun r w2 => (∃ v : Int32, r = some (.int v)) ∧ WI w2 ∧ EC w w2) := by
  have hE : EC w w := EC.rf
  refine sx_RP.step (pc2 := 1) (ls2 := [(0, .ref 0), (1, .int a1), (2, .int a2)]) (st2 := [.int a1]) (w3 := w) rfl rfl ?_
  rcases in_cases a1 0 47 (m := 0) (n := 47) rfl rfl (by decide) (by decide) with q1 | ⟨x2, hx3, hx4, rfl⟩
  · refine sx_RP.cu (as := [.int a1]) (rest2 := []) (st3 := [.int 0]) rfl rfl rfl rfl rfl (cx_7n q1) rfl ?_
    refine sx_RP.step (pc2 := 14) (ls2 := [(0, .ref 0), (1, .int a1), (2, .int a2)]) (st2 := []) (w3 := w) rfl rfl ?_
    refine sx_RP.step (pc2 := 15) (ls2 := [(0, .ref 0), (1, .int a1), (2, .int a2)]) (st2 := [.ref 0]) (w3 := w) rfl rfl ?_
    refine sx_RP.step (pc2 := 17) (ls2 := [(0, .ref 0), (1, .int a1), (2, .int a2)]) (st2 := [.int (-1000000001), .ref 0]) (w3 := w) rfl rfl ?_
    refine sx_RP.callp (as2 := [.ref 0, .int (-1000000001)]) (rest2 := []) rfl rfl (sx_inv_v2 (mi := 15) (k := 78) (st := [.int (-1000000001), .ref 0]) (w := w) rfl rfl hI.1.o0 rfl rfl rfl) rfl rfl rfl (s9_0 hI) (show _ = 20 from rfl) ?_
    rintro r4 w7 ⟨⟨v6, rfl⟩, hI8, hE10⟩
    have hE9 := hE.tr hE10
    show sx_RP _ _ _ _ _ [.int v6] _ _
    refine sx_RP.ret (r := (some (.int v6))) rfl rfl ?_
    exact ⟨⟨_, rfl⟩, hI8, hE9⟩
  · refine sx_RP.cu (as := [.int (nI x2)]) (rest2 := []) (st3 := [.int 1]) rfl rfl rfl rfl rfl (cx_7p ⟨nI_le (a := 0) hx3 (by omega), nI_le (b := 47) hx4 (by decide)⟩) rfl ?_
    refine sx_RP.step (pc2 := 7) (ls2 := [(0, .ref 0), (1, .int (nI x2)), (2, .int a2)]) (st2 := []) (w3 := w) rfl rfl ?_
    refine sx_RP.step (pc2 := 8) (ls2 := [(0, .ref 0), (1, .int (nI x2)), (2, .int a2)]) (st2 := [.int a2]) (w3 := w) rfl rfl ?_
    rcases in_cases a2 0 47 (m := 0) (n := 47) rfl rfl (by decide) (by decide) with q11 | ⟨x12, hx13, hx14, rfl⟩
    · refine sx_RP.cu (as := [.int a2]) (rest2 := []) (st3 := [.int 0]) rfl rfl rfl rfl rfl (cx_7n q11) rfl ?_
      refine sx_RP.step (pc2 := 14) (ls2 := [(0, .ref 0), (1, .int (nI x2)), (2, .int a2)]) (st2 := []) (w3 := w) rfl rfl ?_
      refine sx_RP.step (pc2 := 15) (ls2 := [(0, .ref 0), (1, .int (nI x2)), (2, .int a2)]) (st2 := [.ref 0]) (w3 := w) rfl rfl ?_
      refine sx_RP.step (pc2 := 17) (ls2 := [(0, .ref 0), (1, .int (nI x2)), (2, .int a2)]) (st2 := [.int (-1000000001), .ref 0]) (w3 := w) rfl rfl ?_
      refine sx_RP.callp (as2 := [.ref 0, .int (-1000000001)]) (rest2 := []) rfl rfl (sx_inv_v2 (mi := 15) (k := 78) (st := [.int (-1000000001), .ref 0]) (w := w) rfl rfl hI.1.o0 rfl rfl rfl) rfl rfl rfl (s9_0 hI) (show _ = 20 from rfl) ?_
      rintro r4 w17 ⟨⟨v16, rfl⟩, hI18, hE20⟩
      have hE19 := hE.tr hE20
      show sx_RP _ _ _ _ _ [.int v16] _ _
      refine sx_RP.ret (r := (some (.int v16))) rfl rfl ?_
      exact ⟨⟨_, rfl⟩, hI18, hE19⟩
    · refine sx_RP.cu (as := [.int (nI x12)]) (rest2 := []) (st3 := [.int 1]) rfl rfl rfl rfl rfl (cx_7p ⟨nI_le (a := 0) hx13 (by omega), nI_le (b := 47) hx14 (by decide)⟩) rfl ?_
      refine sx_RP.step (pc2 := 21) (ls2 := [(0, .ref 0), (1, .int (nI x2)), (2, .int (nI x12))]) (st2 := []) (w3 := w) rfl rfl ?_
      refine sx_RP.step (pc2 := 22) (ls2 := [(0, .ref 0), (1, .int (nI x2)), (2, .int (nI x12))]) (st2 := [.ref 0]) (w3 := w) rfl rfl ?_
      refine sx_RP.gf (v := .ref 44) rfl rfl hI.1.o0 rfl rfl (show _ = 25 from rfl) ?_
      refine sx_RP.step (pc2 := 26) (ls2 := [(0, .ref 0), (1, .int (nI x2)), (2, .int (nI x12))]) (st2 := [.ref 0, .ref 44]) (w3 := w) rfl rfl ?_
      refine sx_RP.gf (v := .ref 1) rfl rfl hI.1.o0 rfl rfl (show _ = 29 from rfl) ?_
      refine sx_RP.gref (k := 0) (b := 2) hI (Or.inl rfl) rfl rfl (by omega) (show _ = 32 from rfl) ?_
      refine sx_RP.callp (as2 := [.ref 44, .ref 2]) (rest2 := []) rfl rfl (sx_inv_v2 (mi := 15) (k := 95) (st := [.ref 2, .ref 44]) (w := w) rfl rfl hI.1.o44 rfl rfl rfl) rfl rfl rfl (s16 hI (Or.inl rfl)) (show _ = 35 from rfl) ?_
      rintro r4 w21 ⟨rfl, hI22, hE24⟩
      have hE23 := hE.tr hE24
      show sx_RP _ _ _ _ _ [] _ _
      refine sx_RP.step (pc2 := 36) (ls2 := [(0, .ref 0), (1, .int (nI x2)), (2, .int (nI x12))]) (st2 := [.ref 0]) (w3 := w21) rfl rfl ?_
      refine sx_RP.gf (v := .ref 44) rfl rfl hI22.1.o0 rfl rfl (show _ = 39 from rfl) ?_
      refine sx_RP.step (pc2 := 40) (ls2 := [(0, .ref 0), (1, .int (nI x2)), (2, .int (nI x12))]) (st2 := [.int (nI x12), .ref 44]) (w3 := w21) rfl rfl ?_
      refine sx_RP.callp (as2 := [.ref 44, .int (nI x12)]) (rest2 := []) rfl rfl (sx_inv_v2 (mi := 15) (k := 99) (st := [.int (nI x12), .ref 44]) (w := w21) rfl rfl hI22.1.o44 rfl rfl rfl) rfl rfl rfl (s17 hI22 (show x12 < 48 by omega)) (show _ = 43 from rfl) ?_
      rintro r4 w25 ⟨rfl, hI26, hE28⟩
      have hE27 := hE23.tr hE28
      show sx_RP _ _ _ _ _ [.ref (47 + x12)] _ _
      refine sx_RP.step (pc2 := 44) (ls2 := [(0, .ref 0), (1, .int (nI x2)), (2, .int (nI x12))]) (st2 := [.int (nI x2), .ref (47 + x12)]) (w3 := w25) rfl rfl ?_
      refine sx_RP.ild (c := x2) rfl (hI26.1.aR (show x12 < 48 by omega)).1 (hI26.1.aR (show x12 < 48 by omega)).2 (sx_in_nI (show x2 < 48 by omega) (by decide)) (show (nI x2).toNatClampNeg = x2 from nI_clamp (by omega)) (show _ = 45 from rfl) ?_
      refine sx_RP.ret (r := (some (.int ((ia w25 (47 + x12)).getD x2 0)))) rfl rfl ?_
      exact ⟨⟨_, rfl⟩, hI26, hE27⟩
set_option maxRecDepth 20000 in
set_option maxHeartbeats 4000000 in
theorem s21 {xs : Option (List Int32)} {d : Nat} {w : List sx_C} (hI : WI w) (a1 a2 a3 a4 : Int32) : sx_RP xs (d + 7) 21 0 (lv_args 0 [.ref 0, .int a1, .int a2, .int a3, .int a4]) [] w (fun r w2 => (∃ v : Int32, r = some (.int v)) ∧ WI w2 ∧ EC w w2) := by
  have hE : EC w w := EC.rf
  refine sx_RP.step (pc2 := 1) (ls2 := [(0, .ref 0), (1, .int a1), (2, .int a2), (3, .int a3), (4, .int a4)]) (st2 := [.int a1]) (w3 := w) rfl rfl ?_
  rcases in_cases a1 0 5 (m := 0) (n := 5) rfl rfl (by decide) (by decide) with q1 | ⟨x2, hx3, hx4, rfl⟩
  · refine sx_RP.cu (as := [.int a1]) (rest2 := []) (st3 := [.int 0]) rfl rfl rfl rfl rfl (cx_22n q1) rfl ?_
    refine sx_RP.step (pc2 := 31) (ls2 := [(0, .ref 0), (1, .int a1), (2, .int a2), (3, .int a3), (4, .int a4)]) (st2 := []) (w3 := w) rfl rfl ?_
    refine sx_RP.step (pc2 := 32) (ls2 := [(0, .ref 0), (1, .int a1), (2, .int a2), (3, .int a3), (4, .int a4)]) (st2 := [.ref 0]) (w3 := w) rfl rfl ?_
    refine sx_RP.step (pc2 := 34) (ls2 := [(0, .ref 0), (1, .int a1), (2, .int a2), (3, .int a3), (4, .int a4)]) (st2 := [.int (-1000000001), .ref 0]) (w3 := w) rfl rfl ?_
    refine sx_RP.callp (as2 := [.ref 0, .int (-1000000001)]) (rest2 := []) rfl rfl (sx_inv_v2 (mi := 21) (k := 78) (st := [.int (-1000000001), .ref 0]) (w := w) rfl rfl hI.1.o0 rfl rfl rfl) rfl rfl rfl (s9_0 hI) (show _ = 37 from rfl) ?_
    rintro r4 w7 ⟨⟨v6, rfl⟩, hI8, hE10⟩
    have hE9 := hE.tr hE10
    show sx_RP _ _ _ _ _ [.int v6] _ _
    refine sx_RP.ret (r := (some (.int v6))) rfl rfl ?_
    exact ⟨⟨_, rfl⟩, hI8, hE9⟩
  · refine sx_RP.cu (as := [.int (nI x2)]) (rest2 := []) (st3 := [.int 1]) rfl rfl rfl rfl rfl (cx_22p ⟨nI_le (a := 0) hx3 (by omega), nI_le (b := 5) hx4 (by decide)⟩) rfl ?_
    refine sx_RP.step (pc2 := 7) (ls2 := [(0, .ref 0), (1, .int (nI x2)), (2, .int a2), (3, .int a3), (4, .int a4)]) (st2 := []) (w3 := w) rfl rfl ?_
    refine sx_RP.step (pc2 := 8) (ls2 := [(0, .ref 0), (1, .int (nI x2)), (2, .int a2), (3, .int a3), (4, .int a4)]) (st2 := [.int a2]) (w3 := w) rfl rfl ?_
    refine sx_RP.step (pc2 := 9) (ls2 := [(0, .ref 0), (1, .int (nI x2)), (2, .int a2), (3, .int a3), (4, .int a4)]) (st2 := [.int 0, .int a2]) (w3 := w) rfl rfl ?_
    refine sx_RP.step (pc2 := 10) (ls2 := [(0, .ref 0), (1, .int (nI x2)), (2, .int a2), (3, .int a3), (4, .int a4)]) (st2 := [.int 1, .int 0, .int a2]) (w3 := w) rfl rfl ?_
    rcases in_cases a2 0 1 (m := 0) (n := 1) rfl rfl (by decide) (by decide) with q11 | ⟨x12, hx13, hx14, rfl⟩
    · refine sx_RP.cu (as := [.int a2, .int 0, .int 1]) (rest2 := []) (st3 := [.int 0]) rfl rfl rfl rfl rfl (cx_8n q11) rfl ?_
      refine sx_RP.step (pc2 := 31) (ls2 := [(0, .ref 0), (1, .int (nI x2)), (2, .int a2), (3, .int a3), (4, .int a4)]) (st2 := []) (w3 := w) rfl rfl ?_
      refine sx_RP.step (pc2 := 32) (ls2 := [(0, .ref 0), (1, .int (nI x2)), (2, .int a2), (3, .int a3), (4, .int a4)]) (st2 := [.ref 0]) (w3 := w) rfl rfl ?_
      refine sx_RP.step (pc2 := 34) (ls2 := [(0, .ref 0), (1, .int (nI x2)), (2, .int a2), (3, .int a3), (4, .int a4)]) (st2 := [.int (-1000000001), .ref 0]) (w3 := w) rfl rfl ?_
      refine sx_RP.callp (as2 := [.ref 0, .int (-1000000001)]) (rest2 := []) rfl rfl (sx_inv_v2 (mi := 21) (k := 78) (st := [.int (-1000000001), .ref 0]) (w := w) rfl rfl hI.1.o0 rfl rfl rfl) rfl rfl rfl (s9_0 hI) (show _ = 37 from rfl) ?_
      rintro r4 w17 ⟨⟨v16, rfl⟩, hI18, hE20⟩
      have hE19 := hE.tr hE20
      show sx_RP _ _ _ _ _ [.int v16] _ _
      refine sx_RP.ret (r := (some (.int v16))) rfl rfl ?_
      exact ⟨⟨_, rfl⟩, hI18, hE19⟩
    · refine sx_RP.cu (as := [.int (nI x12), .int 0, .int 1]) (rest2 := []) (st3 := [.int 1]) rfl rfl rfl rfl rfl (cx_8p ⟨nI_le (a := 0) hx13 (by omega), nI_le (b := 1) hx14 (by decide)⟩) rfl ?_
      refine sx_RP.step (pc2 := 16) (ls2 := [(0, .ref 0), (1, .int (nI x2)), (2, .int (nI x12)), (3, .int a3), (4, .int a4)]) (st2 := []) (w3 := w) rfl rfl ?_
      refine sx_RP.step (pc2 := 17) (ls2 := [(0, .ref 0), (1, .int (nI x2)), (2, .int (nI x12)), (3, .int a3), (4, .int a4)]) (st2 := [.int a3]) (w3 := w) rfl rfl ?_
      rcases in_cases a3 0 47 (m := 0) (n := 47) rfl rfl (by decide) (by decide) with q21 | ⟨x22, hx23, hx24, rfl⟩
      · refine sx_RP.cu (as := [.int a3]) (rest2 := []) (st3 := [.int 0]) rfl rfl rfl rfl rfl (cx_7n q21) rfl ?_
        refine sx_RP.step (pc2 := 31) (ls2 := [(0, .ref 0), (1, .int (nI x2)), (2, .int (nI x12)), (3, .int a3), (4, .int a4)]) (st2 := []) (w3 := w) rfl rfl ?_
        refine sx_RP.step (pc2 := 32) (ls2 := [(0, .ref 0), (1, .int (nI x2)), (2, .int (nI x12)), (3, .int a3), (4, .int a4)]) (st2 := [.ref 0]) (w3 := w) rfl rfl ?_
        refine sx_RP.step (pc2 := 34) (ls2 := [(0, .ref 0), (1, .int (nI x2)), (2, .int (nI x12)), (3, .int a3), (4, .int a4)]) (st2 := [.int (-1000000001), .ref 0]) (w3 := w) rfl rfl ?_
        refine sx_RP.callp (as2 := [.ref 0, .int (-1000000001)]) (rest2 := []) rfl rfl (sx_inv_v2 (mi := 21) (k := 78) (st := [.int (-1000000001), .ref 0]) (w := w) rfl rfl hI.1.o0 rfl rfl rfl) rfl rfl rfl (s9_0 hI) (show _ = 37 from rfl) ?_
        rintro r4 w27 ⟨⟨v26, rfl⟩, hI28, hE30⟩
        have hE29 := hE.tr hE30
        show sx_RP _ _ _ _ _ [.int v26] _ _
        refine sx_RP.ret (r := (some (.int v26))) rfl rfl ?_
        exact ⟨⟨_, rfl⟩, hI28, hE29⟩
      · refine sx_RP.cu (as := [.int (nI x22)]) (rest2 := []) (st3 := [.int 1]) rfl rfl rfl rfl rfl (cx_7p ⟨nI_le (a := 0) hx23 (by omega), nI_le (b := 47) hx24 (by decide)⟩) rfl ?_
        refine sx_RP.step (pc2 := 23) (ls2 := [(0, .ref 0), (1, .int (nI x2)), (2, .int (nI x12)), (3, .int (nI x22)), (4, .int a4)]) (st2 := []) (w3 := w) rfl rfl ?_
        refine sx_RP.step (pc2 := 25) (ls2 := [(0, .ref 0), (1, .int (nI x2)), (2, .int (nI x12)), (3, .int (nI x22)), (4, .int a4)]) (st2 := [.int a4]) (w3 := w) rfl rfl ?_
        rcases in_cases a4 0 3 (m := 0) (n := 3) rfl rfl (by decide) (by decide) with q31 | ⟨x32, hx33, hx34, rfl⟩
        · refine sx_RP.cu (as := [.int a4]) (rest2 := []) (st3 := [.int 0]) rfl rfl rfl rfl rfl (cx_23n q31) rfl ?_
          refine sx_RP.step (pc2 := 31) (ls2 := [(0, .ref 0), (1, .int (nI x2)), (2, .int (nI x12)), (3, .int (nI x22)), (4, .int a4)]) (st2 := []) (w3 := w) rfl rfl ?_
          refine sx_RP.step (pc2 := 32) (ls2 := [(0, .ref 0), (1, .int (nI x2)), (2, .int (nI x12)), (3, .int (nI x22)), (4, .int a4)]) (st2 := [.ref 0]) (w3 := w) rfl rfl ?_
          refine sx_RP.step (pc2 := 34) (ls2 := [(0, .ref 0), (1, .int (nI x2)), (2, .int (nI x12)), (3, .int (nI x22)), (4, .int a4)]) (st2 := [.int (-1000000001), .ref 0]) (w3 := w) rfl rfl ?_
          refine sx_RP.callp (as2 := [.ref 0, .int (-1000000001)]) (rest2 := []) rfl rfl (sx_inv_v2 (mi := 21) (k := 78) (st := [.int (-1000000001), .ref 0]) (w := w) rfl rfl hI.1.o0 rfl rfl rfl) rfl rfl rfl (s9_0 hI) (show _ = 37 from rfl) ?_
          rintro r4 w37 ⟨⟨v36, rfl⟩, hI38, hE40⟩
          have hE39 := hE.tr hE40
          show sx_RP _ _ _ _ _ [.int v36] _ _
          refine sx_RP.ret (r := (some (.int v36))) rfl rfl ?_
          exact ⟨⟨_, rfl⟩, hI38, hE39⟩
        · refine sx_RP.cu (as := [.int (nI x32)]) (rest2 := []) (st3 := [.int 1]) rfl rfl rfl rfl rfl (cx_23p ⟨nI_le (a := 0) hx33 (by omega), nI_le (b := 3) hx34 (by decide)⟩) rfl ?_
          refine sx_RP.step (pc2 := 38) (ls2 := [(0, .ref 0), (1, .int (nI x2)), (2, .int (nI x12)), (3, .int (nI x22)), (4, .int (nI x32))]) (st2 := []) (w3 := w) rfl rfl ?_
          refine sx_RP.step (pc2 := 39) (ls2 := [(0, .ref 0), (1, .int (nI x2)), (2, .int (nI x12)), (3, .int (nI x22)), (4, .int (nI x32))]) (st2 := [.ref 0]) (w3 := w) rfl rfl ?_
          refine sx_RP.gf (v := .ref 1) rfl rfl hI.1.o0 rfl rfl (show _ = 42 from rfl) ?_
          rcases p24 (xs := xs) hI (Or.inl rfl) with c41 | ⟨⟨x42, hx43, ex44⟩, c41⟩
          · refine sx_RP.cu (as := [.ref 1]) (rest2 := []) (st3 := [.int 0]) rfl rfl (sx_inv_v2 (mi := 21) (k := 111) (st := [.ref 1]) (w := w) rfl rfl (hI.1.oC (Or.inl rfl)) rfl rfl rfl) rfl rfl (c41) rfl ?_
            refine sx_RP.step (pc2 := 48) (ls2 := [(0, .ref 0), (1, .int (nI x2)), (2, .int (nI x12)), (3, .int (nI x22)), (4, .int (nI x32))]) (st2 := []) (w3 := w) rfl rfl ?_
            refine sx_RP.step (pc2 := 49) (ls2 := [(0, .ref 0), (1, .int (nI x2)), (2, .int (nI x12)), (3, .int (nI x22)), (4, .int (nI x32))]) (st2 := [.ref 0]) (w3 := w) rfl rfl ?_
            refine sx_RP.step (pc2 := 51) (ls2 := [(0, .ref 0), (1, .int (nI x2)), (2, .int (nI x12)), (3, .int (nI x22)), (4, .int (nI x32))]) (st2 := [.int (-1000000002), .ref 0]) (w3 := w) rfl rfl ?_
            refine sx_RP.callp (as2 := [.ref 0, .int (-1000000002)]) (rest2 := []) rfl rfl (sx_inv_v2 (mi := 21) (k := 78) (st := [.int (-1000000002), .ref 0]) (w := w) rfl rfl hI.1.o0 rfl rfl rfl) rfl rfl rfl (s9_1 hI) (show _ = 54 from rfl) ?_
            rintro r4 w46 ⟨⟨v45, rfl⟩, hI47, hE49⟩
            have hE48 := hE.tr hE49
            show sx_RP _ _ _ _ _ [.int v45] _ _
            refine sx_RP.ret (r := (some (.int v45))) rfl rfl ?_
            exact ⟨⟨_, rfl⟩, hI47, hE48⟩
          · refine sx_RP.cu (as := [.ref 1]) (rest2 := []) (st3 := [.int 1]) rfl rfl (sx_inv_v2 (mi := 21) (k := 111) (st := [.ref 1]) (w := w) rfl rfl (hI.1.oC (Or.inl rfl)) rfl rfl rfl) rfl rfl (c41) rfl ?_
            refine sx_RP.step (pc2 := 55) (ls2 := [(0, .ref 0), (1, .int (nI x2)), (2, .int (nI x12)), (3, .int (nI x22)), (4, .int (nI x32))]) (st2 := []) (w3 := w) rfl rfl ?_
            refine sx_RP.step (pc2 := 56) (ls2 := [(0, .ref 0), (1, .int (nI x2)), (2, .int (nI x12)), (3, .int (nI x22)), (4, .int (nI x32))]) (st2 := [.ref 0]) (w3 := w) rfl rfl ?_
            refine sx_RP.gf (v := .ref 1) rfl rfl hI.1.o0 rfl rfl (show _ = 59 from rfl) ?_
            refine sx_RP.step (pc2 := 60) (ls2 := [(0, .ref 0), (1, .int (nI x2)), (2, .int (nI x12)), (3, .int (nI x22)), (4, .int (nI x32))]) (st2 := [.int (nI x2), .ref 1]) (w3 := w) rfl rfl ?_
            refine sx_RP.step (pc2 := 61) (ls2 := [(0, .ref 0), (1, .int (nI x2)), (2, .int (nI x12)), (3, .int (nI x22)), (4, .int (nI x32))]) (st2 := [.int (nI x12), .int (nI x2), .ref 1]) (w3 := w) rfl rfl ?_
            refine sx_RP.step (pc2 := 62) (ls2 := [(0, .ref 0), (1, .int (nI x2)), (2, .int (nI x12)), (3, .int (nI x22)), (4, .int (nI x32))]) (st2 := [.int (nI x22), .int (nI x12), .int (nI x2), .ref 1]) (w3 := w) rfl rfl ?_
            refine sx_RP.step (pc2 := 64) (ls2 := [(0, .ref 0), (1, .int (nI x2)), (2, .int (nI x12)), (3, .int (nI x22)), (4, .int (nI x32))]) (st2 := [.int (nI x32), .int (nI x22), .int (nI x12), .int (nI x2), .ref 1]) (w3 := w) rfl rfl ?_
            refine sx_RP.callp (as2 := [.ref 1, .int (nI x2), .int (nI x12), .int (nI x22), .int (nI x32)]) (rest2 := []) rfl rfl (sx_inv_v2 (mi := 21) (k := 116) (st := [.int (nI x32), .int (nI x22), .int (nI x12), .int (nI x2), .ref 1]) (w := w) rfl rfl (hI.1.oC (Or.inl rfl)) rfl rfl rfl) rfl rfl rfl (s25 hI (Or.inl rfl) (by omega) ex44 (show x2 ≤ 5 by omega) (show x12 ≤ 1 by omega) (show x22 < 48 by omega) (show x32 ≤ 3 by omega)) (show _ = 67 from rfl) ?_
            rintro r4 w51 ⟨⟨v50, rfl⟩, hI52, hE54⟩
            have hE53 := hE.tr hE54
            show sx_RP _ _ _ _ _ [.int v50] _ _
            refine sx_RP.ret (r := (some (.int v50))) rfl rfl ?_
            exact ⟨⟨_, rfl⟩, hI52, hE53⟩
set_option maxRecDepth 20000 in
set_option maxHeartbeats 4000000 in
theorem s26 {xs : Option (List Int32)} {d : Nat} {w : List sx_C} (hI : WI w) (a1 a2 : Int32) : sx_RP xs (d + 7) 26 0 (lv_args 0 [.ref 0, .int a1, .int a2]) [] w (fun r w2 => (∃ v : Int32, r = some (.int v)) ∧ WI w2 ∧ EC w w2) := by
  have hE : EC w w := EC.rf
  refine sx_RP.step (pc2 := 1) (ls2 := [(0, .ref 0), (1, .int a1), (2, .int a2)]) (st2 := [.ref 0]) (w3 := w) rfl rfl ?_
  refine sx_RP.gf (v := .ref 1) rfl rfl hI.1.o0 rfl rfl (show _ = 4 from rfl) ?_
  refine sx_RP.step (pc2 := 5) (ls2 := [(0, .ref 0), (1, .int a1), (2, .int a2)]) (st2 := [.int a1, .ref 1]) (w3 := w) rfl rfl ?_
  rcases p27 (xs := xs) hI (Or.inl rfl) a1 with c2 | ⟨⟨x3, hx4, rfl⟩, c2⟩
  · refine sx_RP.cu (as := [.ref 1, .int a1]) (rest2 := []) (st3 := [.int 0]) rfl rfl (sx_inv_v2 (mi := 26) (k := 120) (st := [.int a1, .ref 1]) (w := w) rfl rfl (hI.1.oC (Or.inl rfl)) rfl rfl rfl) rfl rfl (c2) rfl ?_
    refine sx_RP.step (pc2 := 11) (ls2 := [(0, .ref 0), (1, .int a1), (2, .int a2)]) (st2 := []) (w3 := w) rfl rfl ?_
    refine sx_RP.step (pc2 := 12) (ls2 := [(0, .ref 0), (1, .int a1), (2, .int a2)]) (st2 := [.ref 0]) (w3 := w) rfl rfl ?_
    refine sx_RP.step (pc2 := 14) (ls2 := [(0, .ref 0), (1, .int a1), (2, .int a2)]) (st2 := [.int (-1000000001), .ref 0]) (w3 := w) rfl rfl ?_
    refine sx_RP.callp (as2 := [.ref 0, .int (-1000000001)]) (rest2 := []) rfl rfl (sx_inv_v2 (mi := 26) (k := 78) (st := [.int (-1000000001), .ref 0]) (w := w) rfl rfl hI.1.o0 rfl rfl rfl) rfl rfl rfl (s9_0 hI) (show _ = 17 from rfl) ?_
    rintro r4 w7 ⟨⟨v6, rfl⟩, hI8, hE10⟩
    have hE9 := hE.tr hE10
    show sx_RP _ _ _ _ _ [.int v6] _ _
    refine sx_RP.ret (r := (some (.int v6))) rfl rfl ?_
    exact ⟨⟨_, rfl⟩, hI8, hE9⟩
  · refine sx_RP.cu (as := [.ref 1, .int (nI x3)]) (rest2 := []) (st3 := [.int 1]) rfl rfl (sx_inv_v2 (mi := 26) (k := 120) (st := [.int (nI x3), .ref 1]) (w := w) rfl rfl (hI.1.oC (Or.inl rfl)) rfl rfl rfl) rfl rfl (c2) rfl ?_
    refine sx_RP.step (pc2 := 18) (ls2 := [(0, .ref 0), (1, .int (nI x3)), (2, .int a2)]) (st2 := []) (w3 := w) rfl rfl ?_
    refine sx_RP.step (pc2 := 19) (ls2 := [(0, .ref 0), (1, .int (nI x3)), (2, .int a2)]) (st2 := [.ref 0]) (w3 := w) rfl rfl ?_
    refine sx_RP.gf (v := .ref 1) rfl rfl hI.1.o0 rfl rfl (show _ = 22 from rfl) ?_
    refine sx_RP.gref (k := 2) (b := 3) hI (Or.inl rfl) rfl rfl (by omega) (show _ = 25 from rfl) ?_
    refine sx_RP.step (pc2 := 26) (ls2 := [(0, .ref 0), (1, .int (nI x3)), (2, .int a2)]) (st2 := [.int (nI x3), .ref 3]) (w3 := w) rfl rfl ?_
    refine sx_RP.ald (v := .ref (1 + 4 + x3)) rfl (hI.1.aG (Or.inl rfl)) rfl (grA_at (show x3 < 10 by omega)) (show _ = 27 from rfl) ?_
    refine sx_RP.step (pc2 := 28) (ls2 := [(3, .ref (1 + 4 + x3)), (0, .ref 0), (1, .int (nI x3)), (2, .int a2)]) (st2 := []) (w3 := w) rfl rfl ?_
    refine sx_RP.step (pc2 := 29) (ls2 := [(3, .ref (1 + 4 + x3)), (0, .ref 0), (1, .int (nI x3)), (2, .int a2)]) (st2 := [.int a2]) (w3 := w) rfl rfl ?_
    rcases sw_cases (n := 5) (a2) with q11 | ⟨x12, hx13, ex14⟩
    · refine sx_RP.swo (t := 106) rfl q11 rfl ?_
      refine sx_RP.step (pc2 := 107) (ls2 := [(3, .ref (1 + 4 + x3)), (0, .ref 0), (1, .int (nI x3)), (2, .int a2)]) (st2 := [.ref 0]) (w3 := w) rfl rfl ?_
      refine sx_RP.step (pc2 := 109) (ls2 := [(3, .ref (1 + 4 + x3)), (0, .ref 0), (1, .int (nI x3)), (2, .int a2)]) (st2 := [.int (-1000000001), .ref 0]) (w3 := w) rfl rfl ?_
      refine sx_RP.callp (as2 := [.ref 0, .int (-1000000001)]) (rest2 := []) rfl rfl (sx_inv_v2 (mi := 26) (k := 78) (st := [.int (-1000000001), .ref 0]) (w := w) rfl rfl hI.1.o0 rfl rfl rfl) rfl rfl rfl (s9_0 hI) (show _ = 112 from rfl) ?_
      rintro r4 w16 ⟨⟨v15, rfl⟩, hI17, hE19⟩
      have hE18 := hE.tr hE19
      show sx_RP _ _ _ _ _ [.int v15] _ _
      refine sx_RP.ret (r := (some (.int v15))) rfl rfl ?_
      exact ⟨⟨_, rfl⟩, hI17, hE18⟩
    · rw [ex14]
      rcases (show x12 = 0 ∨ x12 = 1 ∨ x12 = 2 ∨ x12 = 3 ∨ x12 = 4 ∨ x12 = 5 by omega) with rfl | rfl | rfl | rfl | rfl | rfl
      · refine sx_RP.step (pc2 := 68) (ls2 := [(3, .ref (1 + 4 + x3)), (0, .ref 0), (1, .int (nI x3)), (2, .int (nI 0))]) (st2 := []) (w3 := w) rfl rfl ?_
        refine sx_RP.step (pc2 := 69) (ls2 := [(3, .ref (1 + 4 + x3)), (0, .ref 0), (1, .int (nI x3)), (2, .int (nI 0))]) (st2 := [.ref (1 + 4 + x3)]) (w3 := w) rfl rfl ?_
        refine sx_RP.gg (k := 0) hI (gAd.of (Or.inl rfl) (show x3 < 10 by omega)) rfl rfl (by decide) (show _ = 72 from rfl) ?_
        obtain ⟨x20, hx21, ex22⟩ : inR (fi w (1 + 4 + x3) 0) 5 := hI.gk (k := 0) (gAd.of (Or.inl rfl) (show x3 < 10 by omega)) (by decide)
        rw [ex22]
        refine sx_RP.ret (r := (some (.int (nI x20)))) rfl rfl ?_
        exact ⟨⟨_, rfl⟩, hI, hE⟩
      · refine sx_RP.step (pc2 := 73) (ls2 := [(3, .ref (1 + 4 + x3)), (0, .ref 0), (1, .int (nI x3)), (2, .int (nI 1))]) (st2 := []) (w3 := w) rfl rfl ?_
        refine sx_RP.step (pc2 := 74) (ls2 := [(3, .ref (1 + 4 + x3)), (0, .ref 0), (1, .int (nI x3)), (2, .int (nI 1))]) (st2 := [.ref (1 + 4 + x3)]) (w3 := w) rfl rfl ?_
        refine sx_RP.gg (k := 1) hI (gAd.of (Or.inl rfl) (show x3 < 10 by omega)) rfl rfl (by decide) (show _ = 77 from rfl) ?_
        obtain ⟨x23, hx24, ex25⟩ : inR (fi w (1 + 4 + x3) 1) 1 := hI.gk (k := 1) (gAd.of (Or.inl rfl) (show x3 < 10 by omega)) (by decide)
        rw [ex25]
        refine sx_RP.ret (r := (some (.int (nI x23)))) rfl rfl ?_
        exact ⟨⟨_, rfl⟩, hI, hE⟩
      · refine sx_RP.step (pc2 := 78) (ls2 := [(3, .ref (1 + 4 + x3)), (0, .ref 0), (1, .int (nI x3)), (2, .int (nI 2))]) (st2 := []) (w3 := w) rfl rfl ?_
        refine sx_RP.step (pc2 := 79) (ls2 := [(3, .ref (1 + 4 + x3)), (0, .ref 0), (1, .int (nI x3)), (2, .int (nI 2))]) (st2 := [.ref (1 + 4 + x3)]) (w3 := w) rfl rfl ?_
        refine sx_RP.gg (k := 2) hI (gAd.of (Or.inl rfl) (show x3 < 10 by omega)) rfl rfl (by decide) (show _ = 82 from rfl) ?_
        obtain ⟨x26, hx27, ex28⟩ : inR (fi w (1 + 4 + x3) 2) 47 := hI.gk (k := 2) (gAd.of (Or.inl rfl) (show x3 < 10 by omega)) (by decide)
        rw [ex28]
        refine sx_RP.ret (r := (some (.int (nI x26)))) rfl rfl ?_
        exact ⟨⟨_, rfl⟩, hI, hE⟩
      · refine sx_RP.step (pc2 := 83) (ls2 := [(3, .ref (1 + 4 + x3)), (0, .ref 0), (1, .int (nI x3)), (2, .int (nI 3))]) (st2 := []) (w3 := w) rfl rfl ?_
        refine sx_RP.step (pc2 := 84) (ls2 := [(3, .ref (1 + 4 + x3)), (0, .ref 0), (1, .int (nI x3)), (2, .int (nI 3))]) (st2 := [.ref (1 + 4 + x3)]) (w3 := w) rfl rfl ?_
        refine sx_RP.gg (k := 3) hI (gAd.of (Or.inl rfl) (show x3 < 10 by omega)) rfl rfl (by decide) (show _ = 87 from rfl) ?_
        obtain ⟨x29, hx30, ex31⟩ : inR (fi w (1 + 4 + x3) 3) 3 := hI.gk (k := 3) (gAd.of (Or.inl rfl) (show x3 < 10 by omega)) (by decide)
        rw [ex31]
        refine sx_RP.ret (r := (some (.int (nI x29)))) rfl rfl ?_
        exact ⟨⟨_, rfl⟩, hI, hE⟩
      · refine sx_RP.step (pc2 := 88) (ls2 := [(3, .ref (1 + 4 + x3)), (0, .ref 0), (1, .int (nI x3)), (2, .int (nI 4))]) (st2 := []) (w3 := w) rfl rfl ?_
        refine sx_RP.step (pc2 := 89) (ls2 := [(3, .ref (1 + 4 + x3)), (0, .ref 0), (1, .int (nI x3)), (2, .int (nI 4))]) (st2 := [.ref (1 + 4 + x3)]) (w3 := w) rfl rfl ?_
        refine sx_RP.gg (k := 4) hI (gAd.of (Or.inl rfl) (show x3 < 10 by omega)) rfl rfl (by decide) (show _ = 92 from rfl) ?_
        refine sx_RP.ret (r := (some (.int (fi w (1 + 4 + x3) 4)))) rfl rfl ?_
        exact ⟨⟨_, rfl⟩, hI, hE⟩
      · refine sx_RP.step (pc2 := 93) (ls2 := [(3, .ref (1 + 4 + x3)), (0, .ref 0), (1, .int (nI x3)), (2, .int (nI 5))]) (st2 := []) (w3 := w) rfl rfl ?_
        refine sx_RP.step (pc2 := 94) (ls2 := [(3, .ref (1 + 4 + x3)), (0, .ref 0), (1, .int (nI x3)), (2, .int (nI 5))]) (st2 := [.ref (1 + 4 + x3)]) (w3 := w) rfl rfl ?_
        refine sx_RP.gg (k := 5) hI (gAd.of (Or.inl rfl) (show x3 < 10 by omega)) rfl rfl (by decide) (show _ = 97 from rfl) ?_
        obtain ⟨x32, hx33, ex34⟩ : inR (fi w (1 + 4 + x3) 5) 1 := hI.gk (k := 5) (gAd.of (Or.inl rfl) (show x3 < 10 by omega)) (by decide)
        rw [ex34]
        refine sx_RP.br (p1 := 104) (l1 := [(3, .ref (1 + 4 + x3)), (0, .ref 0), (1, .int (nI x3)), (2, .int (nI 5))]) (s1 := []) (v1 := w) (p2 := 100) (l2 := [(3, .ref (1 + 4 + x3)), (0, .ref 0), (1, .int (nI x3)), (2, .int (nI 5))]) (s2 := []) (v2 := w) rfl rfl (fun q35 => ?_) (fun q35 => ?_)
        · replace q35 := of_decide_eq_true q35
          replace q35 := (nI_eq (a := x32) (b := 0) (by omega) (by omega)).mp q35
          refine sx_RP.step (pc2 := 105) (ls2 := [(3, .ref (1 + 4 + x3)), (0, .ref 0), (1, .int (nI x3)), (2, .int (nI 5))]) (st2 := [.int 0]) (w3 := w) rfl rfl ?_
          refine sx_RP.ret (r := (some (.int 0))) rfl rfl ?_
          exact ⟨⟨_, rfl⟩, hI, hE⟩
        · replace q35 := of_decide_eq_false q35
          replace q35 := mt (nI_eq (a := x32) (b := 0) (by omega) (by omega)).mpr q35
          refine sx_RP.step (pc2 := 101) (ls2 := [(3, .ref (1 + 4 + x3)), (0, .ref 0), (1, .int (nI x3)), (2, .int (nI 5))]) (st2 := [.int 1]) (w3 := w) rfl rfl ?_
          refine sx_RP.step (pc2 := 105) (ls2 := [(3, .ref (1 + 4 + x3)), (0, .ref 0), (1, .int (nI x3)), (2, .int (nI 5))]) (st2 := [.int 1]) (w3 := w) rfl rfl ?_
          refine sx_RP.ret (r := (some (.int 1))) rfl rfl ?_
          exact ⟨⟨_, rfl⟩, hI, hE⟩
set_option maxRecDepth 20000 in
set_option maxHeartbeats 4000000 in
theorem s28 {xs : Option (List Int32)} {d : Nat} {w : List sx_C} (hI : WI w) (a1 a2 : Int32) : sx_RP xs (d + 7) 28 0 (lv_args 0 [.ref 0, .int a1, .int a2]) [] w (fun r w2 => (∃ v : Int32, r = some (.int v)) ∧ WI w2 ∧ EC w w2) := by
  have hE : EC w w := EC.rf
  refine sx_RP.step (pc2 := 1) (ls2 := [(0, .ref 0), (1, .int a1), (2, .int a2)]) (st2 := [.ref 0]) (w3 := w) rfl rfl ?_
  refine sx_RP.gf (v := .ref 1) rfl rfl hI.1.o0 rfl rfl (show _ = 4 from rfl) ?_
  refine sx_RP.step (pc2 := 5) (ls2 := [(0, .ref 0), (1, .int a1), (2, .int a2)]) (st2 := [.int a1, .ref 1]) (w3 := w) rfl rfl ?_
  rcases p27 (xs := xs) hI (Or.inl rfl) a1 with c2 | ⟨⟨x3, hx4, rfl⟩, c2⟩
  · refine sx_RP.cu (as := [.ref 1, .int a1]) (rest2 := []) (st3 := [.int 0]) rfl rfl (sx_inv_v2 (mi := 28) (k := 120) (st := [.int a1, .ref 1]) (w := w) rfl rfl (hI.1.oC (Or.inl rfl)) rfl rfl rfl) rfl rfl (c2) rfl ?_
    refine sx_RP.step (pc2 := 18) (ls2 := [(0, .ref 0), (1, .int a1), (2, .int a2)]) (st2 := []) (w3 := w) rfl rfl ?_
    refine sx_RP.step (pc2 := 19) (ls2 := [(0, .ref 0), (1, .int a1), (2, .int a2)]) (st2 := [.ref 0]) (w3 := w) rfl rfl ?_
    refine sx_RP.step (pc2 := 21) (ls2 := [(0, .ref 0), (1, .int a1), (2, .int a2)]) (st2 := [.int (-1000000001), .ref 0]) (w3 := w) rfl rfl ?_
    refine sx_RP.callp (as2 := [.ref 0, .int (-1000000001)]) (rest2 := []) rfl rfl (sx_inv_v2 (mi := 28) (k := 78) (st := [.int (-1000000001), .ref 0]) (w := w) rfl rfl hI.1.o0 rfl rfl rfl) rfl rfl rfl (s9_0 hI) (show _ = 24 from rfl) ?_
    rintro r4 w7 ⟨⟨v6, rfl⟩, hI8, hE10⟩
    have hE9 := hE.tr hE10
    show sx_RP _ _ _ _ _ [.int v6] _ _
    refine sx_RP.ret (r := (some (.int v6))) rfl rfl ?_
    exact ⟨⟨_, rfl⟩, hI8, hE9⟩
  · refine sx_RP.cu (as := [.ref 1, .int (nI x3)]) (rest2 := []) (st3 := [.int 1]) rfl rfl (sx_inv_v2 (mi := 28) (k := 120) (st := [.int (nI x3), .ref 1]) (w := w) rfl rfl (hI.1.oC (Or.inl rfl)) rfl rfl rfl) rfl rfl (c2) rfl ?_
    refine sx_RP.step (pc2 := 11) (ls2 := [(0, .ref 0), (1, .int (nI x3)), (2, .int a2)]) (st2 := []) (w3 := w) rfl rfl ?_
    refine sx_RP.step (pc2 := 12) (ls2 := [(0, .ref 0), (1, .int (nI x3)), (2, .int a2)]) (st2 := [.int a2]) (w3 := w) rfl rfl ?_
    rcases in_cases a2 0 3 (m := 0) (n := 3) rfl rfl (by decide) (by decide) with q11 | ⟨x12, hx13, hx14, rfl⟩
    · refine sx_RP.cu (as := [.int a2]) (rest2 := []) (st3 := [.int 0]) rfl rfl rfl rfl rfl (cx_23n q11) rfl ?_
      refine sx_RP.step (pc2 := 18) (ls2 := [(0, .ref 0), (1, .int (nI x3)), (2, .int a2)]) (st2 := []) (w3 := w) rfl rfl ?_
      refine sx_RP.step (pc2 := 19) (ls2 := [(0, .ref 0), (1, .int (nI x3)), (2, .int a2)]) (st2 := [.ref 0]) (w3 := w) rfl rfl ?_
      refine sx_RP.step (pc2 := 21) (ls2 := [(0, .ref 0), (1, .int (nI x3)), (2, .int a2)]) (st2 := [.int (-1000000001), .ref 0]) (w3 := w) rfl rfl ?_
      refine sx_RP.callp (as2 := [.ref 0, .int (-1000000001)]) (rest2 := []) rfl rfl (sx_inv_v2 (mi := 28) (k := 78) (st := [.int (-1000000001), .ref 0]) (w := w) rfl rfl hI.1.o0 rfl rfl rfl) rfl rfl rfl (s9_0 hI) (show _ = 24 from rfl) ?_
      rintro r4 w17 ⟨⟨v16, rfl⟩, hI18, hE20⟩
      have hE19 := hE.tr hE20
      show sx_RP _ _ _ _ _ [.int v16] _ _
      refine sx_RP.ret (r := (some (.int v16))) rfl rfl ?_
      exact ⟨⟨_, rfl⟩, hI18, hE19⟩
    · refine sx_RP.cu (as := [.int (nI x12)]) (rest2 := []) (st3 := [.int 1]) rfl rfl rfl rfl rfl (cx_23p ⟨nI_le (a := 0) hx13 (by omega), nI_le (b := 3) hx14 (by decide)⟩) rfl ?_
      refine sx_RP.step (pc2 := 25) (ls2 := [(0, .ref 0), (1, .int (nI x3)), (2, .int (nI x12))]) (st2 := []) (w3 := w) rfl rfl ?_
      refine sx_RP.step (pc2 := 26) (ls2 := [(0, .ref 0), (1, .int (nI x3)), (2, .int (nI x12))]) (st2 := [.ref 0]) (w3 := w) rfl rfl ?_
      refine sx_RP.gf (v := .ref 1) rfl rfl hI.1.o0 rfl rfl (show _ = 29 from rfl) ?_
      refine sx_RP.gref (k := 2) (b := 3) hI (Or.inl rfl) rfl rfl (by omega) (show _ = 32 from rfl) ?_
      refine sx_RP.step (pc2 := 33) (ls2 := [(0, .ref 0), (1, .int (nI x3)), (2, .int (nI x12))]) (st2 := [.int (nI x3), .ref 3]) (w3 := w) rfl rfl ?_
      refine sx_RP.ald (v := .ref (1 + 4 + x3)) rfl (hI.1.aG (Or.inl rfl)) rfl (grA_at (show x3 < 10 by omega)) (show _ = 34 from rfl) ?_
      refine sx_RP.step (pc2 := 35) (ls2 := [(3, .ref (1 + 4 + x3)), (0, .ref 0), (1, .int (nI x3)), (2, .int (nI x12))]) (st2 := []) (w3 := w) rfl rfl ?_
      refine sx_RP.step (pc2 := 36) (ls2 := [(3, .ref (1 + 4 + x3)), (0, .ref 0), (1, .int (nI x3)), (2, .int (nI x12))]) (st2 := [.ref (1 + 4 + x3)]) (w3 := w) rfl rfl ?_
      refine sx_RP.gg (k := 5) hI (gAd.of (Or.inl rfl) (show x3 < 10 by omega)) rfl rfl (by decide) (show _ = 39 from rfl) ?_
      obtain ⟨x21, hx22, ex23⟩ : inR (fi w (1 + 4 + x3) 5) 1 := hI.gk (k := 5) (gAd.of (Or.inl rfl) (show x3 < 10 by omega)) (by decide)
      rw [ex23]
      refine sx_RP.br (p1 := 49) (l1 := [(3, .ref (1 + 4 + x3)), (0, .ref 0), (1, .int (nI x3)), (2, .int (nI x12))]) (s1 := []) (v1 := w) (p2 := 42) (l2 := [(3, .ref (1 + 4 + x3)), (0, .ref 0), (1, .int (nI x3)), (2, .int (nI x12))]) (s2 := []) (v2 := w) rfl rfl (fun q24 => ?_) (fun q24 => ?_)
      · replace q24 := of_decide_eq_true q24
        replace q24 := (nI_eq (a := x21) (b := 0) (by omega) (by omega)).mp q24
        refine sx_RP.step (pc2 := 50) (ls2 := [(3, .ref (1 + 4 + x3)), (0, .ref 0), (1, .int (nI x3)), (2, .int (nI x12))]) (st2 := [.ref (1 + 4 + x3)]) (w3 := w) rfl rfl ?_
        refine sx_RP.gg (k := 3) hI (gAd.of (Or.inl rfl) (show x3 < 10 by omega)) rfl rfl (by decide) (show _ = 53 from rfl) ?_
        obtain ⟨x25, hx26, ex27⟩ : inR (fi w (1 + 4 + x3) 3) 3 := hI.gk (k := 3) (gAd.of (Or.inl rfl) (show x3 < 10 by omega)) (by decide)
        rw [ex27]
        refine sx_RP.step (pc2 := 55) (ls2 := [(4, .int (nI x25)), (3, .ref (1 + 4 + x3)), (0, .ref 0), (1, .int (nI x3)), (2, .int (nI x12))]) (st2 := []) (w3 := w) rfl rfl ?_
        refine sx_RP.step (pc2 := 57) (ls2 := [(4, .int (nI x25)), (3, .ref (1 + 4 + x3)), (0, .ref 0), (1, .int (nI x3)), (2, .int (nI x12))]) (st2 := [.int (nI x25)]) (w3 := w) rfl rfl ?_
        refine sx_RP.step (pc2 := 58) (ls2 := [(4, .int (nI x25)), (3, .ref (1 + 4 + x3)), (0, .ref 0), (1, .int (nI x3)), (2, .int (nI x12))]) (st2 := [.int (nI x12), .int (nI x25)]) (w3 := w) rfl rfl ?_
        refine sx_RP.br (p1 := 71) (l1 := [(4, .int (nI x25)), (3, .ref (1 + 4 + x3)), (0, .ref 0), (1, .int (nI x3)), (2, .int (nI x12))]) (s1 := []) (v1 := w) (p2 := 61) (l2 := [(4, .int (nI x25)), (3, .ref (1 + 4 + x3)), (0, .ref 0), (1, .int (nI x3)), (2, .int (nI x12))]) (s2 := []) (v2 := w) rfl rfl (fun q28 => ?_) (fun q28 => ?_)
        · replace q28 := of_decide_eq_true q28
          replace q28 := (nI_eq (a := x25) (b := x12) (by omega) (by omega)).mp q28
          refine sx_RP.step (pc2 := 73) (ls2 := [(4, .int (nI x25)), (3, .ref (1 + 4 + x3)), (0, .ref 0), (1, .int (nI x3)), (2, .int (nI x12))]) (st2 := [.int (nI x25)]) (w3 := w) rfl rfl ?_
          refine sx_RP.ret (r := (some (.int (nI x25)))) rfl rfl ?_
          exact ⟨⟨_, rfl⟩, hI, hE⟩
        · replace q28 := of_decide_eq_false q28
          replace q28 := mt (nI_eq (a := x25) (b := x12) (by omega) (by omega)).mpr q28
          refine sx_RP.step (pc2 := 62) (ls2 := [(4, .int (nI x25)), (3, .ref (1 + 4 + x3)), (0, .ref 0), (1, .int (nI x3)), (2, .int (nI x12))]) (st2 := [.ref (1 + 4 + x3)]) (w3 := w) rfl rfl ?_
          refine sx_RP.step (pc2 := 63) (ls2 := [(4, .int (nI x25)), (3, .ref (1 + 4 + x3)), (0, .ref 0), (1, .int (nI x3)), (2, .int (nI x12))]) (st2 := [.int (nI x12), .ref (1 + 4 + x3)]) (w3 := w) rfl rfl ?_
          refine sx_RP.pg (k := 3) hI hE (gAd.of (Or.inl rfl) (show x3 < 10 by omega)) rfl rfl (by decide) rfl (inR.n (show x12 ≤ 3 by omega)) (show _ = 66 from rfl) (fun w29 hI30 hE31 hk32 => ?_)
          refine sx_RP.step (pc2 := 67) (ls2 := [(4, .int (nI x25)), (3, .ref (1 + 4 + x3)), (0, .ref 0), (1, .int (nI x3)), (2, .int (nI x12))]) (st2 := [.ref (1 + 4 + x3)]) (w3 := w29) rfl rfl ?_
          refine sx_RP.step (pc2 := 68) (ls2 := [(4, .int (nI x25)), (3, .ref (1 + 4 + x3)), (0, .ref 0), (1, .int (nI x3)), (2, .int (nI x12))]) (st2 := [.int 0, .ref (1 + 4 + x3)]) (w3 := w29) rfl rfl ?_
          refine sx_RP.pg (k := 4) hI30 hE31 (gAd.of (Or.inl rfl) (show x3 < 10 by omega)) rfl rfl (by decide) rfl trivial (show _ = 71 from rfl) (fun w33 hI34 hE35 hk36 => ?_)
          refine sx_RP.step (pc2 := 73) (ls2 := [(4, .int (nI x25)), (3, .ref (1 + 4 + x3)), (0, .ref 0), (1, .int (nI x3)), (2, .int (nI x12))]) (st2 := [.int (nI x25)]) (w3 := w33) rfl rfl ?_
          refine sx_RP.ret (r := (some (.int (nI x25)))) rfl rfl ?_
          exact ⟨⟨_, rfl⟩, hI34, hE35⟩
      · replace q24 := of_decide_eq_false q24
        replace q24 := mt (nI_eq (a := x21) (b := 0) (by omega) (by omega)).mpr q24
        refine sx_RP.step (pc2 := 43) (ls2 := [(3, .ref (1 + 4 + x3)), (0, .ref 0), (1, .int (nI x3)), (2, .int (nI x12))]) (st2 := [.ref 0]) (w3 := w) rfl rfl ?_
        refine sx_RP.step (pc2 := 45) (ls2 := [(3, .ref (1 + 4 + x3)), (0, .ref 0), (1, .int (nI x3)), (2, .int (nI x12))]) (st2 := [.int (-1000000005), .ref 0]) (w3 := w) rfl rfl ?_
        refine sx_RP.callp (as2 := [.ref 0, .int (-1000000005)]) (rest2 := []) rfl rfl (sx_inv_v2 (mi := 28) (k := 78) (st := [.int (-1000000005), .ref 0]) (w := w) rfl rfl hI.1.o0 rfl rfl rfl) rfl rfl rfl (s9_4 hI) (show _ = 48 from rfl) ?_
        rintro r4 w38 ⟨⟨v37, rfl⟩, hI39, hE41⟩
        have hE40 := hE.tr hE41
        show sx_RP _ _ _ _ _ [.int v37] _ _
        refine sx_RP.ret (r := (some (.int v37))) rfl rfl ?_
        exact ⟨⟨_, rfl⟩, hI39, hE40⟩
set_option maxRecDepth 20000 in
set_option maxHeartbeats 4000000 in
theorem s29 {xs : Option (List Int32)} {d : Nat} {w : List sx_C} (hI : WI w) (a1 a2 : Int32) : sx_RP xs (d + 7) 29 0 (lv_args 0 [.ref 0, .int a1, .int a2]) [] w (fun r w2 => (∃ v : Int32, r = some (.int v)) ∧ WI w2 ∧ EC w w2) := by
  have hE : EC w w := EC.rf
  refine sx_RP.step (pc2 := 1) (ls2 := [(0, .ref 0), (1, .int a1), (2, .int a2)]) (st2 := [.ref 0]) (w3 := w) rfl rfl ?_
  refine sx_RP.gf (v := .ref 1) rfl rfl hI.1.o0 rfl rfl (show _ = 4 from rfl) ?_
  refine sx_RP.step (pc2 := 5) (ls2 := [(0, .ref 0), (1, .int a1), (2, .int a2)]) (st2 := [.int a1, .ref 1]) (w3 := w) rfl rfl ?_
  rcases p27 (xs := xs) hI (Or.inl rfl) a1 with c2 | ⟨⟨x3, hx4, rfl⟩, c2⟩
  · refine sx_RP.cu (as := [.ref 1, .int a1]) (rest2 := []) (st3 := [.int 0]) rfl rfl (sx_inv_v2 (mi := 29) (k := 120) (st := [.int a1, .ref 1]) (w := w) rfl rfl (hI.1.oC (Or.inl rfl)) rfl rfl rfl) rfl rfl (c2) rfl ?_
    refine sx_RP.step (pc2 := 18) (ls2 := [(0, .ref 0), (1, .int a1), (2, .int a2)]) (st2 := []) (w3 := w) rfl rfl ?_
    refine sx_RP.step (pc2 := 19) (ls2 := [(0, .ref 0), (1, .int a1), (2, .int a2)]) (st2 := [.ref 0]) (w3 := w) rfl rfl ?_
    refine sx_RP.step (pc2 := 21) (ls2 := [(0, .ref 0), (1, .int a1), (2, .int a2)]) (st2 := [.int (-1000000001), .ref 0]) (w3 := w) rfl rfl ?_
    refine sx_RP.callp (as2 := [.ref 0, .int (-1000000001)]) (rest2 := []) rfl rfl (sx_inv_v2 (mi := 29) (k := 78) (st := [.int (-1000000001), .ref 0]) (w := w) rfl rfl hI.1.o0 rfl rfl rfl) rfl rfl rfl (s9_0 hI) (show _ = 24 from rfl) ?_
    rintro r4 w7 ⟨⟨v6, rfl⟩, hI8, hE10⟩
    have hE9 := hE.tr hE10
    show sx_RP _ _ _ _ _ [.int v6] _ _
    refine sx_RP.ret (r := (some (.int v6))) rfl rfl ?_
    exact ⟨⟨_, rfl⟩, hI8, hE9⟩
  · refine sx_RP.cu (as := [.ref 1, .int (nI x3)]) (rest2 := []) (st3 := [.int 1]) rfl rfl (sx_inv_v2 (mi := 29) (k := 120) (st := [.int (nI x3), .ref 1]) (w := w) rfl rfl (hI.1.oC (Or.inl rfl)) rfl rfl rfl) rfl rfl (c2) rfl ?_
    refine sx_RP.step (pc2 := 11) (ls2 := [(0, .ref 0), (1, .int (nI x3)), (2, .int a2)]) (st2 := []) (w3 := w) rfl rfl ?_
    refine sx_RP.step (pc2 := 12) (ls2 := [(0, .ref 0), (1, .int (nI x3)), (2, .int a2)]) (st2 := [.int a2]) (w3 := w) rfl rfl ?_
    rcases in_cases a2 0 5 (m := 0) (n := 5) rfl rfl (by decide) (by decide) with q11 | ⟨x12, hx13, hx14, rfl⟩
    · refine sx_RP.cu (as := [.int a2]) (rest2 := []) (st3 := [.int 0]) rfl rfl rfl rfl rfl (cx_22n q11) rfl ?_
      refine sx_RP.step (pc2 := 18) (ls2 := [(0, .ref 0), (1, .int (nI x3)), (2, .int a2)]) (st2 := []) (w3 := w) rfl rfl ?_
      refine sx_RP.step (pc2 := 19) (ls2 := [(0, .ref 0), (1, .int (nI x3)), (2, .int a2)]) (st2 := [.ref 0]) (w3 := w) rfl rfl ?_
      refine sx_RP.step (pc2 := 21) (ls2 := [(0, .ref 0), (1, .int (nI x3)), (2, .int a2)]) (st2 := [.int (-1000000001), .ref 0]) (w3 := w) rfl rfl ?_
      refine sx_RP.callp (as2 := [.ref 0, .int (-1000000001)]) (rest2 := []) rfl rfl (sx_inv_v2 (mi := 29) (k := 78) (st := [.int (-1000000001), .ref 0]) (w := w) rfl rfl hI.1.o0 rfl rfl rfl) rfl rfl rfl (s9_0 hI) (show _ = 24 from rfl) ?_
      rintro r4 w17 ⟨⟨v16, rfl⟩, hI18, hE20⟩
      have hE19 := hE.tr hE20
      show sx_RP _ _ _ _ _ [.int v16] _ _
      refine sx_RP.ret (r := (some (.int v16))) rfl rfl ?_
      exact ⟨⟨_, rfl⟩, hI18, hE19⟩
    · refine sx_RP.cu (as := [.int (nI x12)]) (rest2 := []) (st3 := [.int 1]) rfl rfl rfl rfl rfl (cx_22p ⟨nI_le (a := 0) hx13 (by omega), nI_le (b := 5) hx14 (by decide)⟩) rfl ?_
      refine sx_RP.step (pc2 := 25) (ls2 := [(0, .ref 0), (1, .int (nI x3)), (2, .int (nI x12))]) (st2 := []) (w3 := w) rfl rfl ?_
      refine sx_RP.step (pc2 := 26) (ls2 := [(0, .ref 0), (1, .int (nI x3)), (2, .int (nI x12))]) (st2 := [.ref 0]) (w3 := w) rfl rfl ?_
      refine sx_RP.gf (v := .ref 1) rfl rfl hI.1.o0 rfl rfl (show _ = 29 from rfl) ?_
      refine sx_RP.gref (k := 2) (b := 3) hI (Or.inl rfl) rfl rfl (by omega) (show _ = 32 from rfl) ?_
      refine sx_RP.step (pc2 := 33) (ls2 := [(0, .ref 0), (1, .int (nI x3)), (2, .int (nI x12))]) (st2 := [.int (nI x3), .ref 3]) (w3 := w) rfl rfl ?_
      refine sx_RP.ald (v := .ref (1 + 4 + x3)) rfl (hI.1.aG (Or.inl rfl)) rfl (grA_at (show x3 < 10 by omega)) (show _ = 34 from rfl) ?_
      refine sx_RP.step (pc2 := 35) (ls2 := [(3, .ref (1 + 4 + x3)), (0, .ref 0), (1, .int (nI x3)), (2, .int (nI x12))]) (st2 := []) (w3 := w) rfl rfl ?_
      refine sx_RP.step (pc2 := 36) (ls2 := [(3, .ref (1 + 4 + x3)), (0, .ref 0), (1, .int (nI x3)), (2, .int (nI x12))]) (st2 := [.ref (1 + 4 + x3)]) (w3 := w) rfl rfl ?_
      refine sx_RP.gg (k := 0) hI (gAd.of (Or.inl rfl) (show x3 < 10 by omega)) rfl rfl (by decide) (show _ = 39 from rfl) ?_
      obtain ⟨x21, hx22, ex23⟩ : inR (fi w (1 + 4 + x3) 0) 5 := hI.gk (k := 0) (gAd.of (Or.inl rfl) (show x3 < 10 by omega)) (by decide)
      rw [ex23]
      refine sx_RP.step (pc2 := 41) (ls2 := [(4, .int (nI x21)), (3, .ref (1 + 4 + x3)), (0, .ref 0), (1, .int (nI x3)), (2, .int (nI x12))]) (st2 := []) (w3 := w) rfl rfl ?_
      refine sx_RP.step (pc2 := 42) (ls2 := [(4, .int (nI x21)), (3, .ref (1 + 4 + x3)), (0, .ref 0), (1, .int (nI x3)), (2, .int (nI x12))]) (st2 := [.ref (1 + 4 + x3)]) (w3 := w) rfl rfl ?_
      refine sx_RP.step (pc2 := 43) (ls2 := [(4, .int (nI x21)), (3, .ref (1 + 4 + x3)), (0, .ref 0), (1, .int (nI x3)), (2, .int (nI x12))]) (st2 := [.int (nI x12), .ref (1 + 4 + x3)]) (w3 := w) rfl rfl ?_
      refine sx_RP.pg (k := 0) hI hE (gAd.of (Or.inl rfl) (show x3 < 10 by omega)) rfl rfl (by decide) rfl (inR.n (show x12 ≤ 5 by omega)) (show _ = 46 from rfl) (fun w24 hI25 hE26 hk27 => ?_)
      refine sx_RP.step (pc2 := 48) (ls2 := [(4, .int (nI x21)), (3, .ref (1 + 4 + x3)), (0, .ref 0), (1, .int (nI x3)), (2, .int (nI x12))]) (st2 := [.int (nI x21)]) (w3 := w24) rfl rfl ?_
      refine sx_RP.ret (r := (some (.int (nI x21)))) rfl rfl ?_
      exact ⟨⟨_, rfl⟩, hI25, hE26⟩
set_option maxRecDepth 20000 in
set_option maxHeartbeats 4000000 in
theorem s30 {xs : Option (List Int32)} {d : Nat} {w : List sx_C} (hI : WI w) (a1 a2 : Int32) : sx_RP xs (d + 7) 30 0 (lv_args 0 [.ref 0, .int a1, .int a2]) [] w (fun r w2 => (∃ v : Int32, r = some (.int v)) ∧ WI w2 ∧ EC w w2) := by
  have hE : EC w w := EC.rf
  refine sx_RP.step (pc2 := 1) (ls2 := [(0, .ref 0), (1, .int a1), (2, .int a2)]) (st2 := [.ref 0]) (w3 := w) rfl rfl ?_
  refine sx_RP.gf (v := .ref 1) rfl rfl hI.1.o0 rfl rfl (show _ = 4 from rfl) ?_
  refine sx_RP.step (pc2 := 5) (ls2 := [(0, .ref 0), (1, .int a1), (2, .int a2)]) (st2 := [.int a1, .ref 1]) (w3 := w) rfl rfl ?_
  rcases p27 (xs := xs) hI (Or.inl rfl) a1 with c2 | ⟨⟨x3, hx4, rfl⟩, c2⟩
  · refine sx_RP.cu (as := [.ref 1, .int a1]) (rest2 := []) (st3 := [.int 0]) rfl rfl (sx_inv_v2 (mi := 30) (k := 120) (st := [.int a1, .ref 1]) (w := w) rfl rfl (hI.1.oC (Or.inl rfl)) rfl rfl rfl) rfl rfl (c2) rfl ?_
    refine sx_RP.step (pc2 := 18) (ls2 := [(0, .ref 0), (1, .int a1), (2, .int a2)]) (st2 := []) (w3 := w) rfl rfl ?_
    refine sx_RP.step (pc2 := 19) (ls2 := [(0, .ref 0), (1, .int a1), (2, .int a2)]) (st2 := [.ref 0]) (w3 := w) rfl rfl ?_
    refine sx_RP.step (pc2 := 21) (ls2 := [(0, .ref 0), (1, .int a1), (2, .int a2)]) (st2 := [.int (-1000000001), .ref 0]) (w3 := w) rfl rfl ?_
    refine sx_RP.callp (as2 := [.ref 0, .int (-1000000001)]) (rest2 := []) rfl rfl (sx_inv_v2 (mi := 30) (k := 78) (st := [.int (-1000000001), .ref 0]) (w := w) rfl rfl hI.1.o0 rfl rfl rfl) rfl rfl rfl (s9_0 hI) (show _ = 24 from rfl) ?_
    rintro r4 w7 ⟨⟨v6, rfl⟩, hI8, hE10⟩
    have hE9 := hE.tr hE10
    show sx_RP _ _ _ _ _ [.int v6] _ _
    refine sx_RP.ret (r := (some (.int v6))) rfl rfl ?_
    exact ⟨⟨_, rfl⟩, hI8, hE9⟩
  · refine sx_RP.cu (as := [.ref 1, .int (nI x3)]) (rest2 := []) (st3 := [.int 1]) rfl rfl (sx_inv_v2 (mi := 30) (k := 120) (st := [.int (nI x3), .ref 1]) (w := w) rfl rfl (hI.1.oC (Or.inl rfl)) rfl rfl rfl) rfl rfl (c2) rfl ?_
    refine sx_RP.step (pc2 := 11) (ls2 := [(0, .ref 0), (1, .int (nI x3)), (2, .int a2)]) (st2 := []) (w3 := w) rfl rfl ?_
    refine sx_RP.step (pc2 := 12) (ls2 := [(0, .ref 0), (1, .int (nI x3)), (2, .int a2)]) (st2 := [.int a2]) (w3 := w) rfl rfl ?_
    rcases in_cases a2 0 5 (m := 0) (n := 5) rfl rfl (by decide) (by decide) with q11 | ⟨x12, hx13, hx14, rfl⟩
    · refine sx_RP.cu (as := [.int a2]) (rest2 := []) (st3 := [.int 0]) rfl rfl rfl rfl rfl (cx_22n q11) rfl ?_
      refine sx_RP.step (pc2 := 18) (ls2 := [(0, .ref 0), (1, .int (nI x3)), (2, .int a2)]) (st2 := []) (w3 := w) rfl rfl ?_
      refine sx_RP.step (pc2 := 19) (ls2 := [(0, .ref 0), (1, .int (nI x3)), (2, .int a2)]) (st2 := [.ref 0]) (w3 := w) rfl rfl ?_
      refine sx_RP.step (pc2 := 21) (ls2 := [(0, .ref 0), (1, .int (nI x3)), (2, .int a2)]) (st2 := [.int (-1000000001), .ref 0]) (w3 := w) rfl rfl ?_
      refine sx_RP.callp (as2 := [.ref 0, .int (-1000000001)]) (rest2 := []) rfl rfl (sx_inv_v2 (mi := 30) (k := 78) (st := [.int (-1000000001), .ref 0]) (w := w) rfl rfl hI.1.o0 rfl rfl rfl) rfl rfl rfl (s9_0 hI) (show _ = 24 from rfl) ?_
      rintro r4 w17 ⟨⟨v16, rfl⟩, hI18, hE20⟩
      have hE19 := hE.tr hE20
      show sx_RP _ _ _ _ _ [.int v16] _ _
      refine sx_RP.ret (r := (some (.int v16))) rfl rfl ?_
      exact ⟨⟨_, rfl⟩, hI18, hE19⟩
    · refine sx_RP.cu (as := [.int (nI x12)]) (rest2 := []) (st3 := [.int 1]) rfl rfl rfl rfl rfl (cx_22p ⟨nI_le (a := 0) hx13 (by omega), nI_le (b := 5) hx14 (by decide)⟩) rfl ?_
      refine sx_RP.step (pc2 := 25) (ls2 := [(0, .ref 0), (1, .int (nI x3)), (2, .int (nI x12))]) (st2 := []) (w3 := w) rfl rfl ?_
      refine sx_RP.step (pc2 := 26) (ls2 := [(0, .ref 0), (1, .int (nI x3)), (2, .int (nI x12))]) (st2 := [.ref 0]) (w3 := w) rfl rfl ?_
      refine sx_RP.gf (v := .ref 1) rfl rfl hI.1.o0 rfl rfl (show _ = 29 from rfl) ?_
      refine sx_RP.gref (k := 2) (b := 3) hI (Or.inl rfl) rfl rfl (by omega) (show _ = 32 from rfl) ?_
      refine sx_RP.step (pc2 := 33) (ls2 := [(0, .ref 0), (1, .int (nI x3)), (2, .int (nI x12))]) (st2 := [.int (nI x3), .ref 3]) (w3 := w) rfl rfl ?_
      refine sx_RP.ald (v := .ref (1 + 4 + x3)) rfl (hI.1.aG (Or.inl rfl)) rfl (grA_at (show x3 < 10 by omega)) (show _ = 34 from rfl) ?_
      refine sx_RP.step (pc2 := 35) (ls2 := [(3, .ref (1 + 4 + x3)), (0, .ref 0), (1, .int (nI x3)), (2, .int (nI x12))]) (st2 := []) (w3 := w) rfl rfl ?_
      refine sx_RP.step (pc2 := 36) (ls2 := [(3, .ref (1 + 4 + x3)), (0, .ref 0), (1, .int (nI x3)), (2, .int (nI x12))]) (st2 := [.ref (1 + 4 + x3)]) (w3 := w) rfl rfl ?_
      refine sx_RP.gg (k := 0) hI (gAd.of (Or.inl rfl) (show x3 < 10 by omega)) rfl rfl (by decide) (show _ = 39 from rfl) ?_
      obtain ⟨x21, hx22, ex23⟩ : inR (fi w (1 + 4 + x3) 0) 5 := hI.gk (k := 0) (gAd.of (Or.inl rfl) (show x3 < 10 by omega)) (by decide)
      rw [ex23]
      refine sx_RP.step (pc2 := 40) (ls2 := [(3, .ref (1 + 4 + x3)), (0, .ref 0), (1, .int (nI x3)), (2, .int (nI x12))]) (st2 := [.int (nI x12), .int (nI x21)]) (w3 := w) rfl rfl ?_
      obtain ⟨x24, hx25, c26⟩ := p31 hI (show x21 ≤ 5 by omega) (nI x12)
      refine sx_RP.cu (as := [.int (nI x21), .int (nI x12)]) (rest2 := []) (st3 := [.int (nI x24)]) rfl rfl rfl rfl rfl (c26) rfl ?_
      refine sx_RP.br (p1 := 53) (l1 := [(3, .ref (1 + 4 + x3)), (0, .ref 0), (1, .int (nI x3)), (2, .int (nI x12))]) (s1 := []) (v1 := w) (p2 := 46) (l2 := [(3, .ref (1 + 4 + x3)), (0, .ref 0), (1, .int (nI x3)), (2, .int (nI x12))]) (s2 := []) (v2 := w) rfl rfl (fun q27 => ?_) (fun q27 => ?_)
      · replace q27 := of_decide_eq_true q27
        replace q27 := mt (nI_eq (a := x24) (b := 0) (by omega) (by omega)).mpr q27
        refine sx_RP.step (pc2 := 54) (ls2 := [(3, .ref (1 + 4 + x3)), (0, .ref 0), (1, .int (nI x3)), (2, .int (nI x12))]) (st2 := [.ref (1 + 4 + x3)]) (w3 := w) rfl rfl ?_
        refine sx_RP.gg (k := 2) hI (gAd.of (Or.inl rfl) (show x3 < 10 by omega)) rfl rfl (by decide) (show _ = 57 from rfl) ?_
        obtain ⟨x28, hx29, ex30⟩ : inR (fi w (1 + 4 + x3) 2) 47 := hI.gk (k := 2) (gAd.of (Or.inl rfl) (show x3 < 10 by omega)) (by decide)
        rw [ex30]
        refine sx_RP.ret (r := (some (.int (nI x28)))) rfl rfl ?_
        exact ⟨⟨_, rfl⟩, hI, hE⟩
      · replace q27 := Decidable.not_not.mp (of_decide_eq_false q27)
        replace q27 := (nI_eq (a := x24) (b := 0) (by omega) (by omega)).mp q27
        refine sx_RP.step (pc2 := 47) (ls2 := [(3, .ref (1 + 4 + x3)), (0, .ref 0), (1, .int (nI x3)), (2, .int (nI x12))]) (st2 := [.ref 0]) (w3 := w) rfl rfl ?_
        refine sx_RP.step (pc2 := 49) (ls2 := [(3, .ref (1 + 4 + x3)), (0, .ref 0), (1, .int (nI x3)), (2, .int (nI x12))]) (st2 := [.int (-1000000003), .ref 0]) (w3 := w) rfl rfl ?_
        refine sx_RP.callp (as2 := [.ref 0, .int (-1000000003)]) (rest2 := []) rfl rfl (sx_inv_v2 (mi := 30) (k := 78) (st := [.int (-1000000003), .ref 0]) (w := w) rfl rfl hI.1.o0 rfl rfl rfl) rfl rfl rfl (s9_2 hI) (show _ = 52 from rfl) ?_
        rintro r4 w32 ⟨⟨v31, rfl⟩, hI33, hE35⟩
        have hE34 := hE.tr hE35
        show sx_RP _ _ _ _ _ [.int v31] _ _
        refine sx_RP.ret (r := (some (.int v31))) rfl rfl ?_
        exact ⟨⟨_, rfl⟩, hI33, hE34⟩
set_option maxRecDepth 20000 in
set_option maxHeartbeats 4000000 in
theorem s32 {xs : Option (List Int32)} {d : Nat} {w : List sx_C} (hI : WI w) (a1 a2 a3 : Int32) : sx_RP xs (d + 7) 32 0 (lv_args 0 [.ref 0, .int a1, .int a2, .int a3]) [] w (fun r w2 => (∃ v : Int32, r = some (.int v)) ∧ WI w2 ∧ EC w w2) := by
  have hE : EC w w := EC.rf
  refine sx_RP.step (pc2 := 1) (ls2 := [(0, .ref 0), (1, .int a1), (2, .int a2), (3, .int a3)]) (st2 := [.ref 0]) (w3 := w) rfl rfl ?_
  refine sx_RP.gf (v := .ref 1) rfl rfl hI.1.o0 rfl rfl (show _ = 4 from rfl) ?_
  refine sx_RP.step (pc2 := 5) (ls2 := [(0, .ref 0), (1, .int a1), (2, .int a2), (3, .int a3)]) (st2 := [.int a1, .ref 1]) (w3 := w) rfl rfl ?_
  rcases p27 (xs := xs) hI (Or.inl rfl) a1 with c2 | ⟨⟨x3, hx4, rfl⟩, c2⟩
  · refine sx_RP.cu (as := [.ref 1, .int a1]) (rest2 := []) (st3 := [.int 0]) rfl rfl (sx_inv_v2 (mi := 32) (k := 120) (st := [.int a1, .ref 1]) (w := w) rfl rfl (hI.1.oC (Or.inl rfl)) rfl rfl rfl) rfl rfl (c2) rfl ?_
    refine sx_RP.step (pc2 := 18) (ls2 := [(0, .ref 0), (1, .int a1), (2, .int a2), (3, .int a3)]) (st2 := []) (w3 := w) rfl rfl ?_
    refine sx_RP.step (pc2 := 19) (ls2 := [(0, .ref 0), (1, .int a1), (2, .int a2), (3, .int a3)]) (st2 := [.ref 0]) (w3 := w) rfl rfl ?_
    refine sx_RP.step (pc2 := 21) (ls2 := [(0, .ref 0), (1, .int a1), (2, .int a2), (3, .int a3)]) (st2 := [.int (-1000000001), .ref 0]) (w3 := w) rfl rfl ?_
    refine sx_RP.callp (as2 := [.ref 0, .int (-1000000001)]) (rest2 := []) rfl rfl (sx_inv_v2 (mi := 32) (k := 78) (st := [.int (-1000000001), .ref 0]) (w := w) rfl rfl hI.1.o0 rfl rfl rfl) rfl rfl rfl (s9_0 hI) (show _ = 24 from rfl) ?_
    rintro r4 w7 ⟨⟨v6, rfl⟩, hI8, hE10⟩
    have hE9 := hE.tr hE10
    show sx_RP _ _ _ _ _ [.int v6] _ _
    refine sx_RP.ret (r := (some (.int v6))) rfl rfl ?_
    exact ⟨⟨_, rfl⟩, hI8, hE9⟩
  · refine sx_RP.cu (as := [.ref 1, .int (nI x3)]) (rest2 := []) (st3 := [.int 1]) rfl rfl (sx_inv_v2 (mi := 32) (k := 120) (st := [.int (nI x3), .ref 1]) (w := w) rfl rfl (hI.1.oC (Or.inl rfl)) rfl rfl rfl) rfl rfl (c2) rfl ?_
    refine sx_RP.step (pc2 := 11) (ls2 := [(0, .ref 0), (1, .int (nI x3)), (2, .int a2), (3, .int a3)]) (st2 := []) (w3 := w) rfl rfl ?_
    refine sx_RP.step (pc2 := 12) (ls2 := [(0, .ref 0), (1, .int (nI x3)), (2, .int a2), (3, .int a3)]) (st2 := [.int a2]) (w3 := w) rfl rfl ?_
    rcases in_cases a2 0 47 (m := 0) (n := 47) rfl rfl (by decide) (by decide) with q11 | ⟨x12, hx13, hx14, rfl⟩
    · refine sx_RP.cu (as := [.int a2]) (rest2 := []) (st3 := [.int 0]) rfl rfl rfl rfl rfl (cx_7n q11) rfl ?_
      refine sx_RP.step (pc2 := 18) (ls2 := [(0, .ref 0), (1, .int (nI x3)), (2, .int a2), (3, .int a3)]) (st2 := []) (w3 := w) rfl rfl ?_
      refine sx_RP.step (pc2 := 19) (ls2 := [(0, .ref 0), (1, .int (nI x3)), (2, .int a2), (3, .int a3)]) (st2 := [.ref 0]) (w3 := w) rfl rfl ?_
      refine sx_RP.step (pc2 := 21) (ls2 := [(0, .ref 0), (1, .int (nI x3)), (2, .int a2), (3, .int a3)]) (st2 := [.int (-1000000001), .ref 0]) (w3 := w) rfl rfl ?_
      refine sx_RP.callp (as2 := [.ref 0, .int (-1000000001)]) (rest2 := []) rfl rfl (sx_inv_v2 (mi := 32) (k := 78) (st := [.int (-1000000001), .ref 0]) (w := w) rfl rfl hI.1.o0 rfl rfl rfl) rfl rfl rfl (s9_0 hI) (show _ = 24 from rfl) ?_
      rintro r4 w17 ⟨⟨v16, rfl⟩, hI18, hE20⟩
      have hE19 := hE.tr hE20
      show sx_RP _ _ _ _ _ [.int v16] _ _
      refine sx_RP.ret (r := (some (.int v16))) rfl rfl ?_
      exact ⟨⟨_, rfl⟩, hI18, hE19⟩
    · refine sx_RP.cu (as := [.int (nI x12)]) (rest2 := []) (st3 := [.int 1]) rfl rfl rfl rfl rfl (cx_7p ⟨nI_le (a := 0) hx13 (by omega), nI_le (b := 47) hx14 (by decide)⟩) rfl ?_
      refine sx_RP.step (pc2 := 25) (ls2 := [(0, .ref 0), (1, .int (nI x3)), (2, .int (nI x12)), (3, .int a3)]) (st2 := []) (w3 := w) rfl rfl ?_
      refine sx_RP.step (pc2 := 26) (ls2 := [(0, .ref 0), (1, .int (nI x3)), (2, .int (nI x12)), (3, .int a3)]) (st2 := [.ref 0]) (w3 := w) rfl rfl ?_
      refine sx_RP.gf (v := .ref 1) rfl rfl hI.1.o0 rfl rfl (show _ = 29 from rfl) ?_
      refine sx_RP.gref (k := 2) (b := 3) hI (Or.inl rfl) rfl rfl (by omega) (show _ = 32 from rfl) ?_
      refine sx_RP.step (pc2 := 33) (ls2 := [(0, .ref 0), (1, .int (nI x3)), (2, .int (nI x12)), (3, .int a3)]) (st2 := [.int (nI x3), .ref 3]) (w3 := w) rfl rfl ?_
      refine sx_RP.ald (v := .ref (1 + 4 + x3)) rfl (hI.1.aG (Or.inl rfl)) rfl (grA_at (show x3 < 10 by omega)) (show _ = 34 from rfl) ?_
      refine sx_RP.gg (k := 0) hI (gAd.of (Or.inl rfl) (show x3 < 10 by omega)) rfl rfl (by decide) (show _ = 37 from rfl) ?_
      obtain ⟨x21, hx22, ex23⟩ : inR (fi w (1 + 4 + x3) 0) 5 := hI.gk (k := 0) (gAd.of (Or.inl rfl) (show x3 < 10 by omega)) (by decide)
      rw [ex23]
      refine sx_RP.step (pc2 := 39) (ls2 := [(4, .int (nI x21)), (0, .ref 0), (1, .int (nI x3)), (2, .int (nI x12)), (3, .int a3)]) (st2 := []) (w3 := w) rfl rfl ?_
      refine sx_RP.step (pc2 := 40) (ls2 := [(4, .int (nI x21)), (0, .ref 0), (1, .int (nI x3)), (2, .int (nI x12)), (3, .int a3)]) (st2 := [.int a3]) (w3 := w) rfl rfl ?_
      rcases sw_cases (n := 2) (a3) with q24 | ⟨x25, hx26, ex27⟩
      · refine sx_RP.swo (t := 131) rfl q24 rfl ?_
        refine sx_RP.step (pc2 := 132) (ls2 := [(4, .int (nI x21)), (0, .ref 0), (1, .int (nI x3)), (2, .int (nI x12)), (3, .int a3)]) (st2 := [.ref 0]) (w3 := w) rfl rfl ?_
        refine sx_RP.step (pc2 := 134) (ls2 := [(4, .int (nI x21)), (0, .ref 0), (1, .int (nI x3)), (2, .int (nI x12)), (3, .int a3)]) (st2 := [.int (-1000000001), .ref 0]) (w3 := w) rfl rfl ?_
        refine sx_RP.callp (as2 := [.ref 0, .int (-1000000001)]) (rest2 := []) rfl rfl (sx_inv_v2 (mi := 32) (k := 78) (st := [.int (-1000000001), .ref 0]) (w := w) rfl rfl hI.1.o0 rfl rfl rfl) rfl rfl rfl (s9_0 hI) (show _ = 137 from rfl) ?_
        rintro r4 w29 ⟨⟨v28, rfl⟩, hI30, hE32⟩
        have hE31 := hE.tr hE32
        show sx_RP _ _ _ _ _ [.int v28] _ _
        refine sx_RP.ret (r := (some (.int v28))) rfl rfl ?_
        exact ⟨⟨_, rfl⟩, hI30, hE31⟩
      · rw [ex27]
        rcases (show x25 = 0 ∨ x25 = 1 ∨ x25 = 2 by omega) with rfl | rfl | rfl
        · refine sx_RP.step (pc2 := 68) (ls2 := [(4, .int (nI x21)), (0, .ref 0), (1, .int (nI x3)), (2, .int (nI x12)), (3, .int (nI 0))]) (st2 := []) (w3 := w) rfl rfl ?_
          refine sx_RP.step (pc2 := 69) (ls2 := [(4, .int (nI x21)), (0, .ref 0), (1, .int (nI x3)), (2, .int (nI x12)), (3, .int (nI 0))]) (st2 := [.ref 0]) (w3 := w) rfl rfl ?_
          refine sx_RP.gf (v := .ref 1) rfl rfl hI.1.o0 rfl rfl (show _ = 72 from rfl) ?_
          refine sx_RP.gref (k := 0) (b := 2) hI (Or.inl rfl) rfl rfl (by omega) (show _ = 75 from rfl) ?_
          refine sx_RP.step (pc2 := 76) (ls2 := [(4, .int (nI x21)), (0, .ref 0), (1, .int (nI x3)), (2, .int (nI x12)), (3, .int (nI 0))]) (st2 := [.int (nI x12), .ref 2]) (w3 := w) rfl rfl ?_
          refine sx_RP.ild (c := x12) rfl (hI.1.aS (Or.inl rfl)).1 (hI.1.aS (Or.inl rfl)).2 (sx_in_nI (show x12 < 48 by omega) (by decide)) (show (nI x12).toNatClampNeg = x12 from nI_clamp (by omega)) (show _ = 77 from rfl) ?_
          obtain ⟨x33, hx34, ex35⟩ : inR ((ia w 2).getD x12 0) 3 := hI.st (Or.inl rfl) (show x12 < 48 by omega)
          rw [ex35]
          refine sx_RP.step (pc2 := 78) (ls2 := [(4, .int (nI x21)), (0, .ref 0), (1, .int (nI x3)), (2, .int (nI x12)), (3, .int (nI 0))]) (st2 := [.int 3, .int (nI x33)]) (w3 := w) rfl rfl ?_
          refine sx_RP.br (p1 := 90) (l1 := [(4, .int (nI x21)), (0, .ref 0), (1, .int (nI x3)), (2, .int (nI x12)), (3, .int (nI 0))]) (s1 := []) (v1 := w) (p2 := 81) (l2 := [(4, .int (nI x21)), (0, .ref 0), (1, .int (nI x3)), (2, .int (nI x12)), (3, .int (nI 0))]) (s2 := []) (v2 := w) rfl rfl (fun q36 => ?_) (fun q36 => ?_)
          · replace q36 := of_decide_eq_true q36
            replace q36 := mt (nI_eq (a := x33) (b := 3) (by omega) (by omega)).mpr q36
            refine sx_RP.step (pc2 := 91) (ls2 := [(4, .int (nI x21)), (0, .ref 0), (1, .int (nI x3)), (2, .int (nI x12)), (3, .int (nI 0))]) (st2 := [.ref 0]) (w3 := w) rfl rfl ?_
            refine sx_RP.gf (v := .ref 1) rfl rfl hI.1.o0 rfl rfl (show _ = 94 from rfl) ?_
            refine sx_RP.step (pc2 := 96) (ls2 := [(4, .int (nI x21)), (0, .ref 0), (1, .int (nI x3)), (2, .int (nI x12)), (3, .int (nI 0))]) (st2 := [.int (nI x21), .ref 1]) (w3 := w) rfl rfl ?_
            refine sx_RP.step (pc2 := 97) (ls2 := [(4, .int (nI x21)), (0, .ref 0), (1, .int (nI x3)), (2, .int (nI x12)), (3, .int (nI 0))]) (st2 := [.int (nI x12), .int (nI x21), .ref 1]) (w3 := w) rfl rfl ?_
            obtain ⟨v37, c38⟩ := p33 hI (Or.inl rfl) (show x21 ≤ 5 by omega) (show x12 < 48 by omega)
            refine sx_RP.cu (as := [.ref 1, .int (nI x21), .int (nI x12)]) (rest2 := []) (st3 := [.int v37]) rfl rfl (sx_inv_v2 (mi := 32) (k := 153) (st := [.int (nI x12), .int (nI x21), .ref 1]) (w := w) rfl rfl (hI.1.oC (Or.inl rfl)) rfl rfl rfl) rfl rfl (c38) rfl ?_
            refine sx_RP.ret (r := (some (.int v37))) rfl rfl ?_
            exact ⟨⟨_, rfl⟩, hI, hE⟩
          · replace q36 := Decidable.not_not.mp (of_decide_eq_false q36)
            replace q36 := (nI_eq (a := x33) (b := 3) (by omega) (by omega)).mp q36
            refine sx_RP.step (pc2 := 82) (ls2 := [(4, .int (nI x21)), (0, .ref 0), (1, .int (nI x3)), (2, .int (nI x12)), (3, .int (nI 0))]) (st2 := [.ref 0]) (w3 := w) rfl rfl ?_
            refine sx_RP.step (pc2 := 84) (ls2 := [(4, .int (nI x21)), (0, .ref 0), (1, .int (nI x3)), (2, .int (nI x12)), (3, .int (nI 0))]) (st2 := [.int (-1000000004), .ref 0]) (w3 := w) rfl rfl ?_
            refine sx_RP.callp (as2 := [.ref 0, .int (-1000000004)]) (rest2 := []) rfl rfl (sx_inv_v2 (mi := 32) (k := 78) (st := [.int (-1000000004), .ref 0]) (w := w) rfl rfl hI.1.o0 rfl rfl rfl) rfl rfl rfl (s9_3 hI) (show _ = 87 from rfl) ?_
            rintro r4 w40 ⟨⟨v39, rfl⟩, hI41, hE43⟩
            have hE42 := hE.tr hE43
            show sx_RP _ _ _ _ _ [.int v39] _ _
            refine sx_RP.step (pc2 := 100) (ls2 := [(4, .int (nI x21)), (0, .ref 0), (1, .int (nI x3)), (2, .int (nI x12)), (3, .int (nI 0))]) (st2 := [.int v39]) (w3 := w40) rfl rfl ?_
            refine sx_RP.ret (r := (some (.int v39))) rfl rfl ?_
            exact ⟨⟨_, rfl⟩, hI41, hE42⟩
        · refine sx_RP.step (pc2 := 101) (ls2 := [(4, .int (nI x21)), (0, .ref 0), (1, .int (nI x3)), (2, .int (nI x12)), (3, .int (nI 1))]) (st2 := []) (w3 := w) rfl rfl ?_
          refine sx_RP.step (pc2 := 102) (ls2 := [(4, .int (nI x21)), (0, .ref 0), (1, .int (nI x3)), (2, .int (nI x12)), (3, .int (nI 1))]) (st2 := [.ref 0]) (w3 := w) rfl rfl ?_
          refine sx_RP.gf (v := .ref 1) rfl rfl hI.1.o0 rfl rfl (show _ = 105 from rfl) ?_
          refine sx_RP.step (pc2 := 107) (ls2 := [(4, .int (nI x21)), (0, .ref 0), (1, .int (nI x3)), (2, .int (nI x12)), (3, .int (nI 1))]) (st2 := [.int (nI x21), .ref 1]) (w3 := w) rfl rfl ?_
          refine sx_RP.step (pc2 := 108) (ls2 := [(4, .int (nI x21)), (0, .ref 0), (1, .int (nI x3)), (2, .int (nI x12)), (3, .int (nI 1))]) (st2 := [.int (nI x12), .int (nI x21), .ref 1]) (w3 := w) rfl rfl ?_
          obtain ⟨v44, c45⟩ := p35 hI (Or.inl rfl) (show x21 ≤ 5 by omega) (show x12 < 48 by omega)
          refine sx_RP.cu (as := [.ref 1, .int (nI x21), .int (nI x12)]) (rest2 := []) (st3 := [.int v44]) rfl rfl (sx_inv_v2 (mi := 32) (k := 157) (st := [.int (nI x12), .int (nI x21), .ref 1]) (w := w) rfl rfl (hI.1.oC (Or.inl rfl)) rfl rfl rfl) rfl rfl (c45) rfl ?_
          refine sx_RP.ret (r := (some (.int v44))) rfl rfl ?_
          exact ⟨⟨_, rfl⟩, hI, hE⟩
        · refine sx_RP.step (pc2 := 112) (ls2 := [(4, .int (nI x21)), (0, .ref 0), (1, .int (nI x3)), (2, .int (nI x12)), (3, .int (nI 2))]) (st2 := []) (w3 := w) rfl rfl ?_
          refine sx_RP.step (pc2 := 113) (ls2 := [(4, .int (nI x21)), (0, .ref 0), (1, .int (nI x3)), (2, .int (nI x12)), (3, .int (nI 2))]) (st2 := [.ref 0]) (w3 := w) rfl rfl ?_
          refine sx_RP.gf (v := .ref 1) rfl rfl hI.1.o0 rfl rfl (show _ = 116 from rfl) ?_
          refine sx_RP.step (pc2 := 118) (ls2 := [(4, .int (nI x21)), (0, .ref 0), (1, .int (nI x3)), (2, .int (nI x12)), (3, .int (nI 2))]) (st2 := [.int (nI x21), .ref 1]) (w3 := w) rfl rfl ?_
          refine sx_RP.step (pc2 := 119) (ls2 := [(4, .int (nI x21)), (0, .ref 0), (1, .int (nI x3)), (2, .int (nI x12)), (3, .int (nI 2))]) (st2 := [.int (nI x12), .int (nI x21), .ref 1]) (w3 := w) rfl rfl ?_
          obtain ⟨x46, hx47, c48⟩ := p37 hI (Or.inl rfl) (show x21 ≤ 5 by omega) (show x12 < 48 by omega)
          refine sx_RP.cu (as := [.ref 1, .int (nI x21), .int (nI x12)]) (rest2 := []) (st3 := [.int (nI x46)]) rfl rfl (sx_inv_v2 (mi := 32) (k := 160) (st := [.int (nI x12), .int (nI x21), .ref 1]) (w := w) rfl rfl (hI.1.oC (Or.inl rfl)) rfl rfl rfl) rfl rfl (c48) rfl ?_
          refine sx_RP.br (p1 := 129) (l1 := [(4, .int (nI x21)), (0, .ref 0), (1, .int (nI x3)), (2, .int (nI x12)), (3, .int (nI 2))]) (s1 := []) (v1 := w) (p2 := 125) (l2 := [(4, .int (nI x21)), (0, .ref 0), (1, .int (nI x3)), (2, .int (nI x12)), (3, .int (nI 2))]) (s2 := []) (v2 := w) rfl rfl (fun q49 => ?_) (fun q49 => ?_)
          · replace q49 := of_decide_eq_true q49
            replace q49 := (nI_eq (a := x46) (b := 0) (by omega) (by omega)).mp q49
            refine sx_RP.step (pc2 := 130) (ls2 := [(4, .int (nI x21)), (0, .ref 0), (1, .int (nI x3)), (2, .int (nI x12)), (3, .int (nI 2))]) (st2 := [.int 0]) (w3 := w) rfl rfl ?_
            refine sx_RP.ret (r := (some (.int 0))) rfl rfl ?_
            exact ⟨⟨_, rfl⟩, hI, hE⟩
          · replace q49 := of_decide_eq_false q49
            replace q49 := mt (nI_eq (a := x46) (b := 0) (by omega) (by omega)).mpr q49
            refine sx_RP.step (pc2 := 126) (ls2 := [(4, .int (nI x21)), (0, .ref 0), (1, .int (nI x3)), (2, .int (nI x12)), (3, .int (nI 2))]) (st2 := [.int 1]) (w3 := w) rfl rfl ?_
            refine sx_RP.step (pc2 := 130) (ls2 := [(4, .int (nI x21)), (0, .ref 0), (1, .int (nI x3)), (2, .int (nI x12)), (3, .int (nI 2))]) (st2 := [.int 1]) (w3 := w) rfl rfl ?_
            refine sx_RP.ret (r := (some (.int 1))) rfl rfl ?_
            exact ⟨⟨_, rfl⟩, hI, hE⟩
set_option maxRecDepth 20000 in
set_option maxHeartbeats 4000000 in
theorem s48 {xs : Option (List Int32)} {d : Nat} {w : List sx_C} (hI : WI w) (a1 : Int32) : sx_RP xs (d + 7) 48 0 (lv_args 0 [.ref 0, .int a1]) [] w (fun r w2 => (∃ v : Int32, r = some (.int v)) ∧ WI w2 ∧ EC w w2) := by
  have hE : EC w w := EC.rf
  refine sx_RP.step (pc2 := 1) (ls2 := [(0, .ref 0), (1, .int a1)]) (st2 := [.int a1]) (w3 := w) rfl rfl ?_
  rcases sw_cases (n := 3) (a1) with q1 | ⟨x2, hx3, ex4⟩
  · refine sx_RP.swo (t := 66) rfl q1 rfl ?_
    refine sx_RP.step (pc2 := 67) (ls2 := [(0, .ref 0), (1, .int a1)]) (st2 := [.ref 0]) (w3 := w) rfl rfl ?_
    refine sx_RP.step (pc2 := 69) (ls2 := [(0, .ref 0), (1, .int a1)]) (st2 := [.int (-1000000001), .ref 0]) (w3 := w) rfl rfl ?_
    refine sx_RP.callp (as2 := [.ref 0, .int (-1000000001)]) (rest2 := []) rfl rfl (sx_inv_v2 (mi := 48) (k := 78) (st := [.int (-1000000001), .ref 0]) (w := w) rfl rfl hI.1.o0 rfl rfl rfl) rfl rfl rfl (s9_0 hI) (show _ = 72 from rfl) ?_
    rintro r4 w6 ⟨⟨v5, rfl⟩, hI7, hE9⟩
    have hE8 := hE.tr hE9
    show sx_RP _ _ _ _ _ [.int v5] _ _
    refine sx_RP.ret (r := (some (.int v5))) rfl rfl ?_
    exact ⟨⟨_, rfl⟩, hI7, hE8⟩
  · rw [ex4]
    rcases (show x2 = 0 ∨ x2 = 1 ∨ x2 = 2 ∨ x2 = 3 by omega) with rfl | rfl | rfl | rfl
    · refine sx_RP.step (pc2 := 32) (ls2 := [(0, .ref 0), (1, .int (nI 0))]) (st2 := []) (w3 := w) rfl rfl ?_
      refine sx_RP.step (pc2 := 33) (ls2 := [(0, .ref 0), (1, .int (nI 0))]) (st2 := [.ref 0]) (w3 := w) rfl rfl ?_
      refine sx_RP.gf (v := .ref 1) rfl rfl hI.1.o0 rfl rfl (show _ = 36 from rfl) ?_
      refine sx_RP.gc (k := 6) hI (Or.inl rfl) rfl rfl (by omega) (show _ = 39 from rfl) ?_
      refine sx_RP.ret (r := (some (.int (fi w 1 6)))) rfl rfl ?_
      exact ⟨⟨_, rfl⟩, hI, hE⟩
    · refine sx_RP.step (pc2 := 40) (ls2 := [(0, .ref 0), (1, .int (nI 1))]) (st2 := []) (w3 := w) rfl rfl ?_
      refine sx_RP.step (pc2 := 41) (ls2 := [(0, .ref 0), (1, .int (nI 1))]) (st2 := [.ref 0]) (w3 := w) rfl rfl ?_
      refine sx_RP.gf (v := .ref 1) rfl rfl hI.1.o0 rfl rfl (show _ = 44 from rfl) ?_
      refine sx_RP.step (pc2 := 45) (ls2 := [(0, .ref 0), (1, .int (nI 1))]) (st2 := [.int 0, .ref 1]) (w3 := w) rfl rfl ?_
      obtain ⟨v10, c11⟩ := p42 hI (Or.inl rfl) 0
      refine sx_RP.cu (as := [.ref 1, .int 0]) (rest2 := []) (st3 := [.int v10]) rfl rfl (sx_inv_v2 (mi := 48) (k := 173) (st := [.int 0, .ref 1]) (w := w) rfl rfl (hI.1.oC (Or.inl rfl)) rfl rfl rfl) rfl rfl (c11) rfl ?_
      refine sx_RP.ret (r := (some (.int v10))) rfl rfl ?_
      exact ⟨⟨_, rfl⟩, hI, hE⟩
    · refine sx_RP.step (pc2 := 49) (ls2 := [(0, .ref 0), (1, .int (nI 2))]) (st2 := []) (w3 := w) rfl rfl ?_
      refine sx_RP.step (pc2 := 50) (ls2 := [(0, .ref 0), (1, .int (nI 2))]) (st2 := [.ref 0]) (w3 := w) rfl rfl ?_
      refine sx_RP.gf (v := .ref 1) rfl rfl hI.1.o0 rfl rfl (show _ = 53 from rfl) ?_
      refine sx_RP.step (pc2 := 54) (ls2 := [(0, .ref 0), (1, .int (nI 2))]) (st2 := [.int 1, .ref 1]) (w3 := w) rfl rfl ?_
      obtain ⟨v12, c13⟩ := p42 hI (Or.inl rfl) 1
      refine sx_RP.cu (as := [.ref 1, .int 1]) (rest2 := []) (st3 := [.int v12]) rfl rfl (sx_inv_v2 (mi := 48) (k := 173) (st := [.int 1, .ref 1]) (w := w) rfl rfl (hI.1.oC (Or.inl rfl)) rfl rfl rfl) rfl rfl (c13) rfl ?_
      refine sx_RP.ret (r := (some (.int v12))) rfl rfl ?_
      exact ⟨⟨_, rfl⟩, hI, hE⟩
    · refine sx_RP.step (pc2 := 58) (ls2 := [(0, .ref 0), (1, .int (nI 3))]) (st2 := []) (w3 := w) rfl rfl ?_
      refine sx_RP.step (pc2 := 59) (ls2 := [(0, .ref 0), (1, .int (nI 3))]) (st2 := [.ref 0]) (w3 := w) rfl rfl ?_
      refine sx_RP.gf (v := .ref 1) rfl rfl hI.1.o0 rfl rfl (show _ = 62 from rfl) ?_
      refine sx_RP.gc (k := 7) hI (Or.inl rfl) rfl rfl (by omega) (show _ = 65 from rfl) ?_
      refine sx_RP.ret (r := (some (.int (fi w 1 7)))) rfl rfl ?_
      exact ⟨⟨_, rfl⟩, hI, hE⟩
set_option maxRecDepth 20000 in
set_option maxHeartbeats 4000000 in
theorem s55 {xs : Option (List Int32)} {d : Nat} {w : List sx_C} (hI : WI w) (a1 a2 : Int32) : sx_RP xs (d + 7) 55 0 (lv_args 0 [.ref 0, .int a1, .int a2]) [] w (fun r w2 => (∃ v : Int32, r = some (.int v)) ∧ WI w2 ∧ EC w w2) := by
  have hE : EC w w := EC.rf
  refine sx_RP.step (pc2 := 1) (ls2 := [(0, .ref 0), (1, .int a1), (2, .int a2)]) (st2 := [.ref 0]) (w3 := w) rfl rfl ?_
  refine sx_RP.gf (v := .ref 1) rfl rfl hI.1.o0 rfl rfl (show _ = 4 from rfl) ?_
  refine sx_RP.step (pc2 := 5) (ls2 := [(0, .ref 0), (1, .int a1), (2, .int a2)]) (st2 := [.int a1, .ref 1]) (w3 := w) rfl rfl ?_
  rcases p27 (xs := xs) hI (Or.inl rfl) a1 with c2 | ⟨⟨x3, hx4, rfl⟩, c2⟩
  · refine sx_RP.cu (as := [.ref 1, .int a1]) (rest2 := []) (st3 := [.int 0]) rfl rfl (sx_inv_v2 (mi := 55) (k := 120) (st := [.int a1, .ref 1]) (w := w) rfl rfl (hI.1.oC (Or.inl rfl)) rfl rfl rfl) rfl rfl (c2) rfl ?_
    refine sx_RP.step (pc2 := 18) (ls2 := [(0, .ref 0), (1, .int a1), (2, .int a2)]) (st2 := []) (w3 := w) rfl rfl ?_
    refine sx_RP.step (pc2 := 19) (ls2 := [(0, .ref 0), (1, .int a1), (2, .int a2)]) (st2 := [.ref 0]) (w3 := w) rfl rfl ?_
    refine sx_RP.step (pc2 := 21) (ls2 := [(0, .ref 0), (1, .int a1), (2, .int a2)]) (st2 := [.int (-1000000001), .ref 0]) (w3 := w) rfl rfl ?_
    refine sx_RP.callp (as2 := [.ref 0, .int (-1000000001)]) (rest2 := []) rfl rfl (sx_inv_v2 (mi := 55) (k := 78) (st := [.int (-1000000001), .ref 0]) (w := w) rfl rfl hI.1.o0 rfl rfl rfl) rfl rfl rfl (s9_0 hI) (show _ = 24 from rfl) ?_
    rintro r4 w7 ⟨⟨v6, rfl⟩, hI8, hE10⟩
    have hE9 := hE.tr hE10
    show sx_RP _ _ _ _ _ [.int v6] _ _
    refine sx_RP.ret (r := (some (.int v6))) rfl rfl ?_
    exact ⟨⟨_, rfl⟩, hI8, hE9⟩
  · refine sx_RP.cu (as := [.ref 1, .int (nI x3)]) (rest2 := []) (st3 := [.int 1]) rfl rfl (sx_inv_v2 (mi := 55) (k := 120) (st := [.int (nI x3), .ref 1]) (w := w) rfl rfl (hI.1.oC (Or.inl rfl)) rfl rfl rfl) rfl rfl (c2) rfl ?_
    refine sx_RP.step (pc2 := 11) (ls2 := [(0, .ref 0), (1, .int (nI x3)), (2, .int a2)]) (st2 := []) (w3 := w) rfl rfl ?_
    refine sx_RP.step (pc2 := 12) (ls2 := [(0, .ref 0), (1, .int (nI x3)), (2, .int a2)]) (st2 := [.int a2]) (w3 := w) rfl rfl ?_
    rcases in_cases a2 0 47 (m := 0) (n := 47) rfl rfl (by decide) (by decide) with q11 | ⟨x12, hx13, hx14, rfl⟩
    · refine sx_RP.cu (as := [.int a2]) (rest2 := []) (st3 := [.int 0]) rfl rfl rfl rfl rfl (cx_7n q11) rfl ?_
      refine sx_RP.step (pc2 := 18) (ls2 := [(0, .ref 0), (1, .int (nI x3)), (2, .int a2)]) (st2 := []) (w3 := w) rfl rfl ?_
      refine sx_RP.step (pc2 := 19) (ls2 := [(0, .ref 0), (1, .int (nI x3)), (2, .int a2)]) (st2 := [.ref 0]) (w3 := w) rfl rfl ?_
      refine sx_RP.step (pc2 := 21) (ls2 := [(0, .ref 0), (1, .int (nI x3)), (2, .int a2)]) (st2 := [.int (-1000000001), .ref 0]) (w3 := w) rfl rfl ?_
      refine sx_RP.callp (as2 := [.ref 0, .int (-1000000001)]) (rest2 := []) rfl rfl (sx_inv_v2 (mi := 55) (k := 78) (st := [.int (-1000000001), .ref 0]) (w := w) rfl rfl hI.1.o0 rfl rfl rfl) rfl rfl rfl (s9_0 hI) (show _ = 24 from rfl) ?_
      rintro r4 w17 ⟨⟨v16, rfl⟩, hI18, hE20⟩
      have hE19 := hE.tr hE20
      show sx_RP _ _ _ _ _ [.int v16] _ _
      refine sx_RP.ret (r := (some (.int v16))) rfl rfl ?_
      exact ⟨⟨_, rfl⟩, hI18, hE19⟩
    · refine sx_RP.cu (as := [.int (nI x12)]) (rest2 := []) (st3 := [.int 1]) rfl rfl rfl rfl rfl (cx_7p ⟨nI_le (a := 0) hx13 (by omega), nI_le (b := 47) hx14 (by decide)⟩) rfl ?_
      refine sx_RP.step (pc2 := 25) (ls2 := [(0, .ref 0), (1, .int (nI x3)), (2, .int (nI x12))]) (st2 := []) (w3 := w) rfl rfl ?_
      refine sx_RP.step (pc2 := 26) (ls2 := [(0, .ref 0), (1, .int (nI x3)), (2, .int (nI x12))]) (st2 := [.ref 0]) (w3 := w) rfl rfl ?_
      refine sx_RP.gf (v := .ref 1) rfl rfl hI.1.o0 rfl rfl (show _ = 29 from rfl) ?_
      refine sx_RP.gref (k := 2) (b := 3) hI (Or.inl rfl) rfl rfl (by omega) (show _ = 32 from rfl) ?_
      refine sx_RP.step (pc2 := 33) (ls2 := [(0, .ref 0), (1, .int (nI x3)), (2, .int (nI x12))]) (st2 := [.int (nI x3), .ref 3]) (w3 := w) rfl rfl ?_
      refine sx_RP.ald (v := .ref (1 + 4 + x3)) rfl (hI.1.aG (Or.inl rfl)) rfl (grA_at (show x3 < 10 by omega)) (show _ = 34 from rfl) ?_
      refine sx_RP.step (pc2 := 35) (ls2 := [(3, .ref (1 + 4 + x3)), (0, .ref 0), (1, .int (nI x3)), (2, .int (nI x12))]) (st2 := []) (w3 := w) rfl rfl ?_
      refine sx_RP.step (pc2 := 36) (ls2 := [(3, .ref (1 + 4 + x3)), (0, .ref 0), (1, .int (nI x3)), (2, .int (nI x12))]) (st2 := [.ref (1 + 4 + x3)]) (w3 := w) rfl rfl ?_
      refine sx_RP.step (pc2 := 37) (ls2 := [(3, .ref (1 + 4 + x3)), (0, .ref 0), (1, .int (nI x3)), (2, .int (nI x12))]) (st2 := [.int 1, .ref (1 + 4 + x3)]) (w3 := w) rfl rfl ?_
      obtain ⟨x21, hx22, c23⟩ := p43 hI (gAd.of (Or.inl rfl) (show x3 < 10 by omega)) 1
      refine sx_RP.cu (as := [.ref (1 + 4 + x3), .int 1]) (rest2 := []) (st3 := [.int (nI x21)]) rfl rfl (sx_inv_v2 (mi := 55) (k := 186) (st := [.int 1, .ref (1 + 4 + x3)]) (w := w) rfl rfl (hI.1.oG (gAd.of (Or.inl rfl) (show x3 < 10 by omega))) rfl rfl rfl) rfl rfl (c23) rfl ?_
      refine sx_RP.br (p1 := 50) (l1 := [(3, .ref (1 + 4 + x3)), (0, .ref 0), (1, .int (nI x3)), (2, .int (nI x12))]) (s1 := []) (v1 := w) (p2 := 43) (l2 := [(3, .ref (1 + 4 + x3)), (0, .ref 0), (1, .int (nI x3)), (2, .int (nI x12))]) (s2 := []) (v2 := w) rfl rfl (fun q24 => ?_) (fun q24 => ?_)
      · replace q24 := of_decide_eq_true q24
        replace q24 := mt (nI_eq (a := x21) (b := 0) (by omega) (by omega)).mpr q24
        refine sx_RP.step (pc2 := 51) (ls2 := [(3, .ref (1 + 4 + x3)), (0, .ref 0), (1, .int (nI x3)), (2, .int (nI x12))]) (st2 := [.ref 0]) (w3 := w) rfl rfl ?_
        refine sx_RP.step (pc2 := 52) (ls2 := [(3, .ref (1 + 4 + x3)), (0, .ref 0), (1, .int (nI x3)), (2, .int (nI x12))]) (st2 := [.ref (1 + 4 + x3), .ref 0]) (w3 := w) rfl rfl ?_
        refine sx_RP.callp (as2 := [.ref 0, .ref (1 + 4 + x3)]) (rest2 := []) rfl rfl (sx_inv_v2 (mi := 55) (k := 189) (st := [.ref (1 + 4 + x3), .ref 0]) (w := w) rfl rfl hI.1.o0 rfl rfl rfl) rfl rfl rfl (s56 hI (gAd.of (Or.inl rfl) (show x3 < 10 by omega))) (show _ = 55 from rfl) ?_
        rintro r4 w25 ⟨rfl, hI26, hE28⟩
        have hE27 := hE.tr hE28
        show sx_RP _ _ _ _ _ [] _ _
        refine sx_RP.step (pc2 := 56) (ls2 := [(3, .ref (1 + 4 + x3)), (0, .ref 0), (1, .int (nI x3)), (2, .int (nI x12))]) (st2 := [.ref 0]) (w3 := w25) rfl rfl ?_
        refine sx_RP.gf (v := .ref 101) rfl rfl hI26.1.o0 rfl rfl (show _ = 59 from rfl) ?_
        refine sx_RP.step (pc2 := 60) (ls2 := [(3, .ref (1 + 4 + x3)), (0, .ref 0), (1, .int (nI x3)), (2, .int (nI x12))]) (st2 := [.int (nI x12), .ref 101]) (w3 := w25) rfl rfl ?_
        refine sx_RP.ild (c := x12) rfl hI26.1.a101.1 hI26.1.a101.2 (sx_in_nI (show x12 < 48 by omega) (by decide)) (show (nI x12).toNatClampNeg = x12 from nI_clamp (by omega)) (show _ = 61 from rfl) ?_
        refine sx_RP.step (pc2 := 63) (ls2 := [(3, .ref (1 + 4 + x3)), (0, .ref 0), (1, .int (nI x3)), (2, .int (nI x12))]) (st2 := [.int 1000000, .int ((ia w25 101).getD x12 0)]) (w3 := w25) rfl rfl ?_
        refine sx_RP.br (p1 := 75) (l1 := [(3, .ref (1 + 4 + x3)), (0, .ref 0), (1, .int (nI x3)), (2, .int (nI x12))]) (s1 := []) (v1 := w25) (p2 := 66) (l2 := [(3, .ref (1 + 4 + x3)), (0, .ref 0), (1, .int (nI x3)), (2, .int (nI x12))]) (s2 := []) (v2 := w25) rfl rfl (fun q29 => ?_) (fun q29 => ?_)
        · replace q29 := of_decide_eq_true q29
          refine sx_RP.step (pc2 := 76) (ls2 := [(3, .ref (1 + 4 + x3)), (0, .ref 0), (1, .int (nI x3)), (2, .int (nI x12))]) (st2 := [.ref 0]) (w3 := w25) rfl rfl ?_
          refine sx_RP.gf (v := .ref 101) rfl rfl hI26.1.o0 rfl rfl (show _ = 79 from rfl) ?_
          refine sx_RP.step (pc2 := 80) (ls2 := [(3, .ref (1 + 4 + x3)), (0, .ref 0), (1, .int (nI x3)), (2, .int (nI x12))]) (st2 := [.int (nI x12), .ref 101]) (w3 := w25) rfl rfl ?_
          refine sx_RP.ild (c := x12) rfl hI26.1.a101.1 hI26.1.a101.2 (sx_in_nI (show x12 < 48 by omega) (by decide)) (show (nI x12).toNatClampNeg = x12 from nI_clamp (by omega)) (show _ = 81 from rfl) ?_
          refine sx_RP.ret (r := (some (.int ((ia w25 101).getD x12 0)))) rfl rfl ?_
          exact ⟨⟨_, rfl⟩, hI26, hE27⟩
        · replace q29 := Decidable.not_not.mp (of_decide_eq_false q29)
          refine sx_RP.step (pc2 := 67) (ls2 := [(3, .ref (1 + 4 + x3)), (0, .ref 0), (1, .int (nI x3)), (2, .int (nI x12))]) (st2 := [.ref 0]) (w3 := w25) rfl rfl ?_
          refine sx_RP.step (pc2 := 69) (ls2 := [(3, .ref (1 + 4 + x3)), (0, .ref 0), (1, .int (nI x3)), (2, .int (nI x12))]) (st2 := [.int (-1000000004), .ref 0]) (w3 := w25) rfl rfl ?_
          refine sx_RP.callp (as2 := [.ref 0, .int (-1000000004)]) (rest2 := []) rfl rfl (sx_inv_v2 (mi := 55) (k := 78) (st := [.int (-1000000004), .ref 0]) (w := w25) rfl rfl hI26.1.o0 rfl rfl rfl) rfl rfl rfl (s9_3 hI26) (show _ = 72 from rfl) ?_
          rintro r4 w31 ⟨⟨v30, rfl⟩, hI32, hE34⟩
          have hE33 := hE27.tr hE34
          show sx_RP _ _ _ _ _ [.int v30] _ _
          refine sx_RP.step (pc2 := 81) (ls2 := [(3, .ref (1 + 4 + x3)), (0, .ref 0), (1, .int (nI x3)), (2, .int (nI x12))]) (st2 := [.int v30]) (w3 := w31) rfl rfl ?_
          refine sx_RP.ret (r := (some (.int v30))) rfl rfl ?_
          exact ⟨⟨_, rfl⟩, hI32, hE33⟩
      · replace q24 := Decidable.not_not.mp (of_decide_eq_false q24)
        replace q24 := (nI_eq (a := x21) (b := 0) (by omega) (by omega)).mp q24
        refine sx_RP.step (pc2 := 44) (ls2 := [(3, .ref (1 + 4 + x3)), (0, .ref 0), (1, .int (nI x3)), (2, .int (nI x12))]) (st2 := [.ref 0]) (w3 := w) rfl rfl ?_
        refine sx_RP.step (pc2 := 46) (ls2 := [(3, .ref (1 + 4 + x3)), (0, .ref 0), (1, .int (nI x3)), (2, .int (nI x12))]) (st2 := [.int (-1000000005), .ref 0]) (w3 := w) rfl rfl ?_
        refine sx_RP.callp (as2 := [.ref 0, .int (-1000000005)]) (rest2 := []) rfl rfl (sx_inv_v2 (mi := 55) (k := 78) (st := [.int (-1000000005), .ref 0]) (w := w) rfl rfl hI.1.o0 rfl rfl rfl) rfl rfl rfl (s9_4 hI) (show _ = 49 from rfl) ?_
        rintro r4 w36 ⟨⟨v35, rfl⟩, hI37, hE39⟩
        have hE38 := hE.tr hE39
        show sx_RP _ _ _ _ _ [.int v35] _ _
        refine sx_RP.ret (r := (some (.int v35))) rfl rfl ?_
        exact ⟨⟨_, rfl⟩, hI37, hE38⟩
set_option maxRecDepth 20000 in
set_option maxHeartbeats 4000000 in
theorem s58 {xs : Option (List Int32)} {d : Nat} {w : List sx_C} (hI : WI w) (a1 a2 : Int32) : sx_RP xs (d + 7) 58 0 (lv_args 0 [.ref 0, .int a1, .int a2]) [] w (fun r w2 => (∃ v : Int32, r = some (.int v)) ∧ WI w2 ∧ EC w w2) := by
  have hE : EC w w := EC.rf
  refine sx_RP.step (pc2 := 1) (ls2 := [(0, .ref 0), (1, .int a1), (2, .int a2)]) (st2 := [.ref 0]) (w3 := w) rfl rfl ?_
  refine sx_RP.gf (v := .ref 1) rfl rfl hI.1.o0 rfl rfl (show _ = 4 from rfl) ?_
  refine sx_RP.step (pc2 := 5) (ls2 := [(0, .ref 0), (1, .int a1), (2, .int a2)]) (st2 := [.int a1, .ref 1]) (w3 := w) rfl rfl ?_
  rcases p27 (xs := xs) hI (Or.inl rfl) a1 with c2 | ⟨⟨x3, hx4, rfl⟩, c2⟩
  · refine sx_RP.cu (as := [.ref 1, .int a1]) (rest2 := []) (st3 := [.int 0]) rfl rfl (sx_inv_v2 (mi := 58) (k := 120) (st := [.int a1, .ref 1]) (w := w) rfl rfl (hI.1.oC (Or.inl rfl)) rfl rfl rfl) rfl rfl (c2) rfl ?_
    refine sx_RP.step (pc2 := 22) (ls2 := [(0, .ref 0), (1, .int a1), (2, .int a2)]) (st2 := []) (w3 := w) rfl rfl ?_
    refine sx_RP.step (pc2 := 23) (ls2 := [(0, .ref 0), (1, .int a1), (2, .int a2)]) (st2 := [.ref 0]) (w3 := w) rfl rfl ?_
    refine sx_RP.step (pc2 := 25) (ls2 := [(0, .ref 0), (1, .int a1), (2, .int a2)]) (st2 := [.int (-1000000001), .ref 0]) (w3 := w) rfl rfl ?_
    refine sx_RP.callp (as2 := [.ref 0, .int (-1000000001)]) (rest2 := []) rfl rfl (sx_inv_v2 (mi := 58) (k := 78) (st := [.int (-1000000001), .ref 0]) (w := w) rfl rfl hI.1.o0 rfl rfl rfl) rfl rfl rfl (s9_0 hI) (show _ = 28 from rfl) ?_
    rintro r4 w7 ⟨⟨v6, rfl⟩, hI8, hE10⟩
    have hE9 := hE.tr hE10
    show sx_RP _ _ _ _ _ [.int v6] _ _
    refine sx_RP.ret (r := (some (.int v6))) rfl rfl ?_
    exact ⟨⟨_, rfl⟩, hI8, hE9⟩
  · refine sx_RP.cu (as := [.ref 1, .int (nI x3)]) (rest2 := []) (st3 := [.int 1]) rfl rfl (sx_inv_v2 (mi := 58) (k := 120) (st := [.int (nI x3), .ref 1]) (w := w) rfl rfl (hI.1.oC (Or.inl rfl)) rfl rfl rfl) rfl rfl (c2) rfl ?_
    refine sx_RP.step (pc2 := 11) (ls2 := [(0, .ref 0), (1, .int (nI x3)), (2, .int a2)]) (st2 := []) (w3 := w) rfl rfl ?_
    refine sx_RP.step (pc2 := 12) (ls2 := [(0, .ref 0), (1, .int (nI x3)), (2, .int a2)]) (st2 := [.ref 0]) (w3 := w) rfl rfl ?_
    refine sx_RP.gf (v := .ref 1) rfl rfl hI.1.o0 rfl rfl (show _ = 15 from rfl) ?_
    refine sx_RP.step (pc2 := 16) (ls2 := [(0, .ref 0), (1, .int (nI x3)), (2, .int a2)]) (st2 := [.int a2, .ref 1]) (w3 := w) rfl rfl ?_
    rcases p27 (xs := xs) hI (Or.inl rfl) a2 with c12 | ⟨⟨x13, hx14, rfl⟩, c12⟩
    · refine sx_RP.cu (as := [.ref 1, .int a2]) (rest2 := []) (st3 := [.int 0]) rfl rfl (sx_inv_v2 (mi := 58) (k := 120) (st := [.int a2, .ref 1]) (w := w) rfl rfl (hI.1.oC (Or.inl rfl)) rfl rfl rfl) rfl rfl (c12) rfl ?_
      refine sx_RP.step (pc2 := 22) (ls2 := [(0, .ref 0), (1, .int (nI x3)), (2, .int a2)]) (st2 := []) (w3 := w) rfl rfl ?_
      refine sx_RP.step (pc2 := 23) (ls2 := [(0, .ref 0), (1, .int (nI x3)), (2, .int a2)]) (st2 := [.ref 0]) (w3 := w) rfl rfl ?_
      refine sx_RP.step (pc2 := 25) (ls2 := [(0, .ref 0), (1, .int (nI x3)), (2, .int a2)]) (st2 := [.int (-1000000001), .ref 0]) (w3 := w) rfl rfl ?_
      refine sx_RP.callp (as2 := [.ref 0, .int (-1000000001)]) (rest2 := []) rfl rfl (sx_inv_v2 (mi := 58) (k := 78) (st := [.int (-1000000001), .ref 0]) (w := w) rfl rfl hI.1.o0 rfl rfl rfl) rfl rfl rfl (s9_0 hI) (show _ = 28 from rfl) ?_
      rintro r4 w17 ⟨⟨v16, rfl⟩, hI18, hE20⟩
      have hE19 := hE.tr hE20
      show sx_RP _ _ _ _ _ [.int v16] _ _
      refine sx_RP.ret (r := (some (.int v16))) rfl rfl ?_
      exact ⟨⟨_, rfl⟩, hI18, hE19⟩
    · refine sx_RP.cu (as := [.ref 1, .int (nI x13)]) (rest2 := []) (st3 := [.int 1]) rfl rfl (sx_inv_v2 (mi := 58) (k := 120) (st := [.int (nI x13), .ref 1]) (w := w) rfl rfl (hI.1.oC (Or.inl rfl)) rfl rfl rfl) rfl rfl (c12) rfl ?_
      refine sx_RP.step (pc2 := 29) (ls2 := [(0, .ref 0), (1, .int (nI x3)), (2, .int (nI x13))]) (st2 := []) (w3 := w) rfl rfl ?_
      refine sx_RP.step (pc2 := 30) (ls2 := [(0, .ref 0), (1, .int (nI x3)), (2, .int (nI x13))]) (st2 := [.ref 0]) (w3 := w) rfl rfl ?_
      refine sx_RP.gf (v := .ref 1) rfl rfl hI.1.o0 rfl rfl (show _ = 33 from rfl) ?_
      refine sx_RP.gref (k := 2) (b := 3) hI (Or.inl rfl) rfl rfl (by omega) (show _ = 36 from rfl) ?_
      refine sx_RP.step (pc2 := 37) (ls2 := [(0, .ref 0), (1, .int (nI x3)), (2, .int (nI x13))]) (st2 := [.int (nI x3), .ref 3]) (w3 := w) rfl rfl ?_
      refine sx_RP.ald (v := .ref (1 + 4 + x3)) rfl (hI.1.aG (Or.inl rfl)) rfl (grA_at (show x3 < 10 by omega)) (show _ = 38 from rfl) ?_
      refine sx_RP.step (pc2 := 39) (ls2 := [(3, .ref (1 + 4 + x3)), (0, .ref 0), (1, .int (nI x3)), (2, .int (nI x13))]) (st2 := []) (w3 := w) rfl rfl ?_
      refine sx_RP.step (pc2 := 40) (ls2 := [(3, .ref (1 + 4 + x3)), (0, .ref 0), (1, .int (nI x3)), (2, .int (nI x13))]) (st2 := [.ref 0]) (w3 := w) rfl rfl ?_
      refine sx_RP.gf (v := .ref 1) rfl rfl hI.1.o0 rfl rfl (show _ = 43 from rfl) ?_
      refine sx_RP.gref (k := 2) (b := 3) hI (Or.inl rfl) rfl rfl (by omega) (show _ = 46 from rfl) ?_
      refine sx_RP.step (pc2 := 47) (ls2 := [(3, .ref (1 + 4 + x3)), (0, .ref 0), (1, .int (nI x3)), (2, .int (nI x13))]) (st2 := [.int (nI x13), .ref 3]) (w3 := w) rfl rfl ?_
      refine sx_RP.ald (v := .ref (1 + 4 + x13)) rfl (hI.1.aG (Or.inl rfl)) rfl (grA_at (show x13 < 10 by omega)) (show _ = 48 from rfl) ?_
      refine sx_RP.step (pc2 := 50) (ls2 := [(4, .ref (1 + 4 + x13)), (3, .ref (1 + 4 + x3)), (0, .ref 0), (1, .int (nI x3)), (2, .int (nI x13))]) (st2 := []) (w3 := w) rfl rfl ?_
      refine sx_RP.step (pc2 := 51) (ls2 := [(4, .ref (1 + 4 + x13)), (3, .ref (1 + 4 + x3)), (0, .ref 0), (1, .int (nI x3)), (2, .int (nI x13))]) (st2 := [.ref (1 + 4 + x3)]) (w3 := w) rfl rfl ?_
      refine sx_RP.step (pc2 := 52) (ls2 := [(4, .ref (1 + 4 + x13)), (3, .ref (1 + 4 + x3)), (0, .ref 0), (1, .int (nI x3)), (2, .int (nI x13))]) (st2 := [.int 1, .ref (1 + 4 + x3)]) (w3 := w) rfl rfl ?_
      obtain ⟨x21, hx22, c23⟩ := p43 hI (gAd.of (Or.inl rfl) (show x3 < 10 by omega)) 1
      refine sx_RP.cu (as := [.ref (1 + 4 + x3), .int 1]) (rest2 := []) (st3 := [.int (nI x21)]) rfl rfl (sx_inv_v2 (mi := 58) (k := 186) (st := [.int 1, .ref (1 + 4 + x3)]) (w := w) rfl rfl (hI.1.oG (gAd.of (Or.inl rfl) (show x3 < 10 by omega))) rfl rfl rfl) rfl rfl (c23) rfl ?_
      refine sx_RP.br (p1 := 79) (l1 := [(4, .ref (1 + 4 + x13)), (3, .ref (1 + 4 + x3)), (0, .ref 0), (1, .int (nI x3)), (2, .int (nI x13))]) (s1 := []) (v1 := w) (p2 := 58) (l2 := [(4, .ref (1 + 4 + x13)), (3, .ref (1 + 4 + x3)), (0, .ref 0), (1, .int (nI x3)), (2, .int (nI x13))]) (s2 := []) (v2 := w) rfl rfl (fun q24 => ?_) (fun q24 => ?_)
      · replace q24 := of_decide_eq_true q24
        replace q24 := (nI_eq (a := x21) (b := 0) (by omega) (by omega)).mp q24
        refine sx_RP.step (pc2 := 80) (ls2 := [(4, .ref (1 + 4 + x13)), (3, .ref (1 + 4 + x3)), (0, .ref 0), (1, .int (nI x3)), (2, .int (nI x13))]) (st2 := [.ref 0]) (w3 := w) rfl rfl ?_
        refine sx_RP.step (pc2 := 82) (ls2 := [(4, .ref (1 + 4 + x13)), (3, .ref (1 + 4 + x3)), (0, .ref 0), (1, .int (nI x3)), (2, .int (nI x13))]) (st2 := [.int (-1000000005), .ref 0]) (w3 := w) rfl rfl ?_
        refine sx_RP.callp (as2 := [.ref 0, .int (-1000000005)]) (rest2 := []) rfl rfl (sx_inv_v2 (mi := 58) (k := 78) (st := [.int (-1000000005), .ref 0]) (w := w) rfl rfl hI.1.o0 rfl rfl rfl) rfl rfl rfl (s9_4 hI) (show _ = 85 from rfl) ?_
        rintro r4 w26 ⟨⟨v25, rfl⟩, hI27, hE29⟩
        have hE28 := hE.tr hE29
        show sx_RP _ _ _ _ _ [.int v25] _ _
        refine sx_RP.ret (r := (some (.int v25))) rfl rfl ?_
        exact ⟨⟨_, rfl⟩, hI27, hE28⟩
      · replace q24 := of_decide_eq_false q24
        replace q24 := mt (nI_eq (a := x21) (b := 0) (by omega) (by omega)).mpr q24
        refine sx_RP.step (pc2 := 60) (ls2 := [(4, .ref (1 + 4 + x13)), (3, .ref (1 + 4 + x3)), (0, .ref 0), (1, .int (nI x3)), (2, .int (nI x13))]) (st2 := [.ref (1 + 4 + x13)]) (w3 := w) rfl rfl ?_
        refine sx_RP.step (pc2 := 61) (ls2 := [(4, .ref (1 + 4 + x13)), (3, .ref (1 + 4 + x3)), (0, .ref 0), (1, .int (nI x3)), (2, .int (nI x13))]) (st2 := [.int 0, .ref (1 + 4 + x13)]) (w3 := w) rfl rfl ?_
        obtain ⟨x30, hx31, c32⟩ := p43 hI (gAd.of (Or.inl rfl) (show x13 < 10 by omega)) 0
        refine sx_RP.cu (as := [.ref (1 + 4 + x13), .int 0]) (rest2 := []) (st3 := [.int (nI x30)]) rfl rfl (sx_inv_v2 (mi := 58) (k := 186) (st := [.int 0, .ref (1 + 4 + x13)]) (w := w) rfl rfl (hI.1.oG (gAd.of (Or.inl rfl) (show x13 < 10 by omega))) rfl rfl rfl) rfl rfl (c32) rfl ?_
        refine sx_RP.br (p1 := 79) (l1 := [(4, .ref (1 + 4 + x13)), (3, .ref (1 + 4 + x3)), (0, .ref 0), (1, .int (nI x3)), (2, .int (nI x13))]) (s1 := []) (v1 := w) (p2 := 67) (l2 := [(4, .ref (1 + 4 + x13)), (3, .ref (1 + 4 + x3)), (0, .ref 0), (1, .int (nI x3)), (2, .int (nI x13))]) (s2 := []) (v2 := w) rfl rfl (fun q33 => ?_) (fun q33 => ?_)
        · replace q33 := of_decide_eq_true q33
          replace q33 := (nI_eq (a := x30) (b := 0) (by omega) (by omega)).mp q33
          refine sx_RP.step (pc2 := 80) (ls2 := [(4, .ref (1 + 4 + x13)), (3, .ref (1 + 4 + x3)), (0, .ref 0), (1, .int (nI x3)), (2, .int (nI x13))]) (st2 := [.ref 0]) (w3 := w) rfl rfl ?_
          refine sx_RP.step (pc2 := 82) (ls2 := [(4, .ref (1 + 4 + x13)), (3, .ref (1 + 4 + x3)), (0, .ref 0), (1, .int (nI x3)), (2, .int (nI x13))]) (st2 := [.int (-1000000005), .ref 0]) (w3 := w) rfl rfl ?_
          refine sx_RP.callp (as2 := [.ref 0, .int (-1000000005)]) (rest2 := []) rfl rfl (sx_inv_v2 (mi := 58) (k := 78) (st := [.int (-1000000005), .ref 0]) (w := w) rfl rfl hI.1.o0 rfl rfl rfl) rfl rfl rfl (s9_4 hI) (show _ = 85 from rfl) ?_
          rintro r4 w35 ⟨⟨v34, rfl⟩, hI36, hE38⟩
          have hE37 := hE.tr hE38
          show sx_RP _ _ _ _ _ [.int v34] _ _
          refine sx_RP.ret (r := (some (.int v34))) rfl rfl ?_
          exact ⟨⟨_, rfl⟩, hI36, hE37⟩
        · replace q33 := of_decide_eq_false q33
          replace q33 := mt (nI_eq (a := x30) (b := 0) (by omega) (by omega)).mpr q33
          refine sx_RP.step (pc2 := 68) (ls2 := [(4, .ref (1 + 4 + x13)), (3, .ref (1 + 4 + x3)), (0, .ref 0), (1, .int (nI x3)), (2, .int (nI x13))]) (st2 := [.ref 0]) (w3 := w) rfl rfl ?_
          refine sx_RP.gf (v := .ref 1) rfl rfl hI.1.o0 rfl rfl (show _ = 71 from rfl) ?_
          refine sx_RP.step (pc2 := 73) (ls2 := [(4, .ref (1 + 4 + x13)), (3, .ref (1 + 4 + x3)), (0, .ref 0), (1, .int (nI x3)), (2, .int (nI x13))]) (st2 := [.int 60, .ref 1]) (w3 := w) rfl rfl ?_
          obtain ⟨x39, hx40, c41⟩ := p40 hI (Or.inl rfl) 60
          refine sx_RP.cu (as := [.ref 1, .int 60]) (rest2 := []) (st3 := [.int (nI x39)]) rfl rfl (sx_inv_v2 (mi := 58) (k := 163) (st := [.int 60, .ref 1]) (w := w) rfl rfl (hI.1.oC (Or.inl rfl)) rfl rfl rfl) rfl rfl (c41) rfl ?_
          refine sx_RP.br (p1 := 86) (l1 := [(4, .ref (1 + 4 + x13)), (3, .ref (1 + 4 + x3)), (0, .ref 0), (1, .int (nI x3)), (2, .int (nI x13))]) (s1 := []) (v1 := w) (p2 := 79) (l2 := [(4, .ref (1 + 4 + x13)), (3, .ref (1 + 4 + x3)), (0, .ref 0), (1, .int (nI x3)), (2, .int (nI x13))]) (s2 := []) (v2 := w) rfl rfl (fun q42 => ?_) (fun q42 => ?_)
          · replace q42 := of_decide_eq_true q42
            replace q42 := mt (nI_eq (a := x39) (b := 0) (by omega) (by omega)).mpr q42
            refine sx_RP.step (pc2 := 87) (ls2 := [(4, .ref (1 + 4 + x13)), (3, .ref (1 + 4 + x3)), (0, .ref 0), (1, .int (nI x3)), (2, .int (nI x13))]) (st2 := [.ref 0]) (w3 := w) rfl rfl ?_
            refine sx_RP.step (pc2 := 88) (ls2 := [(4, .ref (1 + 4 + x13)), (3, .ref (1 + 4 + x3)), (0, .ref 0), (1, .int (nI x3)), (2, .int (nI x13))]) (st2 := [.ref (1 + 4 + x3), .ref 0]) (w3 := w) rfl rfl ?_
            refine sx_RP.step (pc2 := 90) (ls2 := [(4, .ref (1 + 4 + x13)), (3, .ref (1 + 4 + x3)), (0, .ref 0), (1, .int (nI x3)), (2, .int (nI x13))]) (st2 := [.ref (1 + 4 + x13), .ref (1 + 4 + x3), .ref 0]) (w3 := w) rfl rfl ?_
            refine sx_RP.callp (as2 := [.ref 0, .ref (1 + 4 + x3), .ref (1 + 4 + x13)]) (rest2 := []) rfl rfl (sx_inv_v2 (mi := 58) (k := 194) (st := [.ref (1 + 4 + x13), .ref (1 + 4 + x3), .ref 0]) (w := w) rfl rfl hI.1.o0 rfl rfl rfl) rfl rfl rfl (s59 hI (gAd.of (Or.inl rfl) (show x3 < 10 by omega)) (gAd.of (Or.inl rfl) (show x13 < 10 by omega))) (show _ = 93 from rfl) ?_
            rintro r4 w44 ⟨⟨v43, rfl⟩, hI45, hE47⟩
            have hE46 := hE.tr hE47
            show sx_RP _ _ _ _ _ [.int v43] _ _
            refine sx_RP.step (pc2 := 95) (ls2 := [(5, .int v43), (4, .ref (1 + 4 + x13)), (3, .ref (1 + 4 + x3)), (0, .ref 0), (1, .int (nI x3)), (2, .int (nI x13))]) (st2 := []) (w3 := w44) rfl rfl ?_
            refine sx_RP.step (pc2 := 97) (ls2 := [(5, .int v43), (4, .ref (1 + 4 + x13)), (3, .ref (1 + 4 + x3)), (0, .ref 0), (1, .int (nI x3)), (2, .int (nI x13))]) (st2 := [.int v43]) (w3 := w44) rfl rfl ?_
            refine sx_RP.step (pc2 := 98) (ls2 := [(5, .int v43), (4, .ref (1 + 4 + x13)), (3, .ref (1 + 4 + x3)), (0, .ref 0), (1, .int (nI x3)), (2, .int (nI x13))]) (st2 := [.int (-1), .int v43]) (w3 := w44) rfl rfl ?_
            refine sx_RP.br (p1 := 110) (l1 := [(5, .int v43), (4, .ref (1 + 4 + x13)), (3, .ref (1 + 4 + x3)), (0, .ref 0), (1, .int (nI x3)), (2, .int (nI x13))]) (s1 := []) (v1 := w44) (p2 := 101) (l2 := [(5, .int v43), (4, .ref (1 + 4 + x13)), (3, .ref (1 + 4 + x3)), (0, .ref 0), (1, .int (nI x3)), (2, .int (nI x13))]) (s2 := []) (v2 := w44) rfl rfl (fun q48 => ?_) (fun q48 => ?_)
            · replace q48 := of_decide_eq_true q48
              refine sx_RP.step (pc2 := 112) (ls2 := [(5, .int v43), (4, .ref (1 + 4 + x13)), (3, .ref (1 + 4 + x3)), (0, .ref 0), (1, .int (nI x3)), (2, .int (nI x13))]) (st2 := [.int v43]) (w3 := w44) rfl rfl ?_
              refine sx_RP.ret (r := (some (.int v43))) rfl rfl ?_
              exact ⟨⟨_, rfl⟩, hI45, hE46⟩
            · replace q48 := Decidable.not_not.mp (of_decide_eq_false q48)
              refine sx_RP.step (pc2 := 102) (ls2 := [(5, .int v43), (4, .ref (1 + 4 + x13)), (3, .ref (1 + 4 + x3)), (0, .ref 0), (1, .int (nI x3)), (2, .int (nI x13))]) (st2 := [.ref 0]) (w3 := w44) rfl rfl ?_
              refine sx_RP.step (pc2 := 104) (ls2 := [(5, .int v43), (4, .ref (1 + 4 + x13)), (3, .ref (1 + 4 + x3)), (0, .ref 0), (1, .int (nI x3)), (2, .int (nI x13))]) (st2 := [.int (-1000000004), .ref 0]) (w3 := w44) rfl rfl ?_
              refine sx_RP.callp (as2 := [.ref 0, .int (-1000000004)]) (rest2 := []) rfl rfl (sx_inv_v2 (mi := 58) (k := 78) (st := [.int (-1000000004), .ref 0]) (w := w44) rfl rfl hI45.1.o0 rfl rfl rfl) rfl rfl rfl (s9_3 hI45) (show _ = 107 from rfl) ?_
              rintro r4 w50 ⟨⟨v49, rfl⟩, hI51, hE53⟩
              have hE52 := hE46.tr hE53
              show sx_RP _ _ _ _ _ [.int v49] _ _
              refine sx_RP.step (pc2 := 112) (ls2 := [(5, .int v43), (4, .ref (1 + 4 + x13)), (3, .ref (1 + 4 + x3)), (0, .ref 0), (1, .int (nI x3)), (2, .int (nI x13))]) (st2 := [.int v49]) (w3 := w50) rfl rfl ?_
              refine sx_RP.ret (r := (some (.int v49))) rfl rfl ?_
              exact ⟨⟨_, rfl⟩, hI51, hE52⟩
          · replace q42 := Decidable.not_not.mp (of_decide_eq_false q42)
            replace q42 := (nI_eq (a := x39) (b := 0) (by omega) (by omega)).mp q42
            refine sx_RP.step (pc2 := 80) (ls2 := [(4, .ref (1 + 4 + x13)), (3, .ref (1 + 4 + x3)), (0, .ref 0), (1, .int (nI x3)), (2, .int (nI x13))]) (st2 := [.ref 0]) (w3 := w) rfl rfl ?_
            refine sx_RP.step (pc2 := 82) (ls2 := [(4, .ref (1 + 4 + x13)), (3, .ref (1 + 4 + x3)), (0, .ref 0), (1, .int (nI x3)), (2, .int (nI x13))]) (st2 := [.int (-1000000005), .ref 0]) (w3 := w) rfl rfl ?_
            refine sx_RP.callp (as2 := [.ref 0, .int (-1000000005)]) (rest2 := []) rfl rfl (sx_inv_v2 (mi := 58) (k := 78) (st := [.int (-1000000005), .ref 0]) (w := w) rfl rfl hI.1.o0 rfl rfl rfl) rfl rfl rfl (s9_4 hI) (show _ = 85 from rfl) ?_
            rintro r4 w55 ⟨⟨v54, rfl⟩, hI56, hE58⟩
            have hE57 := hE.tr hE58
            show sx_RP _ _ _ _ _ [.int v54] _ _
            refine sx_RP.ret (r := (some (.int v54))) rfl rfl ?_
            exact ⟨⟨_, rfl⟩, hI56, hE57⟩
set_option maxRecDepth 20000 in
set_option maxHeartbeats 4000000 in
theorem s62 {xs : Option (List Int32)} {d : Nat} {w : List sx_C} (hI : WI w) (a1 : Int32) : sx_RP xs (d + 7) 62 0 (lv_args 0 [.ref 0, .int a1]) [] w (fun r w2 => (∃ v : Int32, r = some (.int v)) ∧ WI w2 ∧ EC w w2) := by
  have hE : EC w w := EC.rf
  refine sx_RP.step (pc2 := 1) (ls2 := [(0, .ref 0), (1, .int a1)]) (st2 := [.int a1]) (w3 := w) rfl rfl ?_
  rcases in_cases a1 0 47 (m := 0) (n := 47) rfl rfl (by decide) (by decide) with q1 | ⟨x2, hx3, hx4, rfl⟩
  · refine sx_RP.cu (as := [.int a1]) (rest2 := []) (st3 := [.int 0]) rfl rfl rfl rfl rfl (cx_7n q1) rfl ?_
    refine sx_RP.step (pc2 := 7) (ls2 := [(0, .ref 0), (1, .int a1)]) (st2 := []) (w3 := w) rfl rfl ?_
    refine sx_RP.step (pc2 := 8) (ls2 := [(0, .ref 0), (1, .int a1)]) (st2 := [.ref 0]) (w3 := w) rfl rfl ?_
    refine sx_RP.step (pc2 := 10) (ls2 := [(0, .ref 0), (1, .int a1)]) (st2 := [.int (-1000000001), .ref 0]) (w3 := w) rfl rfl ?_
    refine sx_RP.callp (as2 := [.ref 0, .int (-1000000001)]) (rest2 := []) rfl rfl (sx_inv_v2 (mi := 62) (k := 78) (st := [.int (-1000000001), .ref 0]) (w := w) rfl rfl hI.1.o0 rfl rfl rfl) rfl rfl rfl (s9_0 hI) (show _ = 13 from rfl) ?_
    rintro r4 w7 ⟨⟨v6, rfl⟩, hI8, hE10⟩
    have hE9 := hE.tr hE10
    show sx_RP _ _ _ _ _ [.int v6] _ _
    refine sx_RP.ret (r := (some (.int v6))) rfl rfl ?_
    exact ⟨⟨_, rfl⟩, hI8, hE9⟩
  · refine sx_RP.cu (as := [.int (nI x2)]) (rest2 := []) (st3 := [.int 1]) rfl rfl rfl rfl rfl (cx_7p ⟨nI_le (a := 0) hx3 (by omega), nI_le (b := 47) hx4 (by decide)⟩) rfl ?_
    refine sx_RP.step (pc2 := 14) (ls2 := [(0, .ref 0), (1, .int (nI x2))]) (st2 := []) (w3 := w) rfl rfl ?_
    refine sx_RP.step (pc2 := 15) (ls2 := [(0, .ref 0), (1, .int (nI x2))]) (st2 := [.ref 0]) (w3 := w) rfl rfl ?_
    refine sx_RP.gf (v := .ref 1) rfl rfl hI.1.o0 rfl rfl (show _ = 18 from rfl) ?_
    rcases p63 (xs := xs) hI (Or.inl rfl) with c11 | ⟨⟨x12, hx13, ex14⟩, c11⟩
    · refine sx_RP.cu (as := [.ref 1]) (rest2 := []) (st3 := [.int 0]) rfl rfl (sx_inv_v2 (mi := 62) (k := 219) (st := [.ref 1]) (w := w) rfl rfl (hI.1.oC (Or.inl rfl)) rfl rfl rfl) rfl rfl (c11) rfl ?_
      refine sx_RP.step (pc2 := 24) (ls2 := [(0, .ref 0), (1, .int (nI x2))]) (st2 := []) (w3 := w) rfl rfl ?_
      refine sx_RP.step (pc2 := 25) (ls2 := [(0, .ref 0), (1, .int (nI x2))]) (st2 := [.ref 0]) (w3 := w) rfl rfl ?_
      refine sx_RP.step (pc2 := 27) (ls2 := [(0, .ref 0), (1, .int (nI x2))]) (st2 := [.int (-1000000002), .ref 0]) (w3 := w) rfl rfl ?_
      refine sx_RP.callp (as2 := [.ref 0, .int (-1000000002)]) (rest2 := []) rfl rfl (sx_inv_v2 (mi := 62) (k := 78) (st := [.int (-1000000002), .ref 0]) (w := w) rfl rfl hI.1.o0 rfl rfl rfl) rfl rfl rfl (s9_1 hI) (show _ = 30 from rfl) ?_
      rintro r4 w16 ⟨⟨v15, rfl⟩, hI17, hE19⟩
      have hE18 := hE.tr hE19
      show sx_RP _ _ _ _ _ [.int v15] _ _
      refine sx_RP.ret (r := (some (.int v15))) rfl rfl ?_
      exact ⟨⟨_, rfl⟩, hI17, hE18⟩
    · refine sx_RP.cu (as := [.ref 1]) (rest2 := []) (st3 := [.int 1]) rfl rfl (sx_inv_v2 (mi := 62) (k := 219) (st := [.ref 1]) (w := w) rfl rfl (hI.1.oC (Or.inl rfl)) rfl rfl rfl) rfl rfl (c11) rfl ?_
      refine sx_RP.step (pc2 := 31) (ls2 := [(0, .ref 0), (1, .int (nI x2))]) (st2 := []) (w3 := w) rfl rfl ?_
      refine sx_RP.step (pc2 := 32) (ls2 := [(0, .ref 0), (1, .int (nI x2))]) (st2 := [.ref 0]) (w3 := w) rfl rfl ?_
      refine sx_RP.gf (v := .ref 1) rfl rfl hI.1.o0 rfl rfl (show _ = 35 from rfl) ?_
      refine sx_RP.step (pc2 := 36) (ls2 := [(0, .ref 0), (1, .int (nI x2))]) (st2 := [.int (nI x2), .ref 1]) (w3 := w) rfl rfl ?_
      refine sx_RP.callp (as2 := [.ref 1, .int (nI x2)]) (rest2 := []) rfl rfl (sx_inv_v2 (mi := 62) (k := 222) (st := [.int (nI x2), .ref 1]) (w := w) rfl rfl (hI.1.oC (Or.inl rfl)) rfl rfl rfl) rfl rfl rfl (s64 hI (Or.inl rfl) (by omega) ex14 (show x2 < 48 by omega)) (show _ = 39 from rfl) ?_
      rintro r4 w21 ⟨⟨v20, rfl⟩, hI22, hE24⟩
      have hE23 := hE.tr hE24
      show sx_RP _ _ _ _ _ [.int v20] _ _
      refine sx_RP.ret (r := (some (.int v20))) rfl rfl ?_
      exact ⟨⟨_, rfl⟩, hI22, hE23⟩
set_option maxRecDepth 20000 in
set_option maxHeartbeats 4000000 in
theorem s65 {xs : Option (List Int32)} {d : Nat} {w : List sx_C} (hI : WI w) (a1 a2 : Int32) : sx_RP xs (d + 7) 65 0 (lv_args 0 [.ref 0, .int a1, .int a2]) [] w (fun r w2 => (∃ v : Int32, r = some (.int v)) ∧ WI w2 ∧ EC w w2) := by
  have hE : EC w w := EC.rf
  refine sx_RP.step (pc2 := 1) (ls2 := [(0, .ref 0), (1, .int a1), (2, .int a2)]) (st2 := [.ref 0]) (w3 := w) rfl rfl ?_
  refine sx_RP.gf (v := .ref 1) rfl rfl hI.1.o0 rfl rfl (show _ = 4 from rfl) ?_
  refine sx_RP.step (pc2 := 5) (ls2 := [(0, .ref 0), (1, .int a1), (2, .int a2)]) (st2 := [.int a1, .ref 1]) (w3 := w) rfl rfl ?_
  rcases p66 (xs := xs) hI (Or.inl rfl) a1 with c2 | ⟨⟨x3, hx4, rfl⟩, c2⟩
  · refine sx_RP.cu (as := [.ref 1, .int a1]) (rest2 := []) (st3 := [.int 0]) rfl rfl (sx_inv_v2 (mi := 65) (k := 225) (st := [.int a1, .ref 1]) (w := w) rfl rfl (hI.1.oC (Or.inl rfl)) rfl rfl rfl) rfl rfl (c2) rfl ?_
    refine sx_RP.step (pc2 := 18) (ls2 := [(0, .ref 0), (1, .int a1), (2, .int a2)]) (st2 := []) (w3 := w) rfl rfl ?_
    refine sx_RP.step (pc2 := 19) (ls2 := [(0, .ref 0), (1, .int a1), (2, .int a2)]) (st2 := [.ref 0]) (w3 := w) rfl rfl ?_
    refine sx_RP.step (pc2 := 21) (ls2 := [(0, .ref 0), (1, .int a1), (2, .int a2)]) (st2 := [.int (-1000000001), .ref 0]) (w3 := w) rfl rfl ?_
    refine sx_RP.callp (as2 := [.ref 0, .int (-1000000001)]) (rest2 := []) rfl rfl (sx_inv_v2 (mi := 65) (k := 78) (st := [.int (-1000000001), .ref 0]) (w := w) rfl rfl hI.1.o0 rfl rfl rfl) rfl rfl rfl (s9_0 hI) (show _ = 24 from rfl) ?_
    rintro r4 w7 ⟨⟨v6, rfl⟩, hI8, hE10⟩
    have hE9 := hE.tr hE10
    show sx_RP _ _ _ _ _ [.int v6] _ _
    refine sx_RP.ret (r := (some (.int v6))) rfl rfl ?_
    exact ⟨⟨_, rfl⟩, hI8, hE9⟩
  · refine sx_RP.cu (as := [.ref 1, .int (nI x3)]) (rest2 := []) (st3 := [.int 1]) rfl rfl (sx_inv_v2 (mi := 65) (k := 225) (st := [.int (nI x3), .ref 1]) (w := w) rfl rfl (hI.1.oC (Or.inl rfl)) rfl rfl rfl) rfl rfl (c2) rfl ?_
    refine sx_RP.step (pc2 := 11) (ls2 := [(0, .ref 0), (1, .int (nI x3)), (2, .int a2)]) (st2 := []) (w3 := w) rfl rfl ?_
    refine sx_RP.step (pc2 := 12) (ls2 := [(0, .ref 0), (1, .int (nI x3)), (2, .int a2)]) (st2 := [.int a2]) (w3 := w) rfl rfl ?_
    rcases in_cases a2 0 47 (m := 0) (n := 47) rfl rfl (by decide) (by decide) with q11 | ⟨x12, hx13, hx14, rfl⟩
    · refine sx_RP.cu (as := [.int a2]) (rest2 := []) (st3 := [.int 0]) rfl rfl rfl rfl rfl (cx_7n q11) rfl ?_
      refine sx_RP.step (pc2 := 18) (ls2 := [(0, .ref 0), (1, .int (nI x3)), (2, .int a2)]) (st2 := []) (w3 := w) rfl rfl ?_
      refine sx_RP.step (pc2 := 19) (ls2 := [(0, .ref 0), (1, .int (nI x3)), (2, .int a2)]) (st2 := [.ref 0]) (w3 := w) rfl rfl ?_
      refine sx_RP.step (pc2 := 21) (ls2 := [(0, .ref 0), (1, .int (nI x3)), (2, .int a2)]) (st2 := [.int (-1000000001), .ref 0]) (w3 := w) rfl rfl ?_
      refine sx_RP.callp (as2 := [.ref 0, .int (-1000000001)]) (rest2 := []) rfl rfl (sx_inv_v2 (mi := 65) (k := 78) (st := [.int (-1000000001), .ref 0]) (w := w) rfl rfl hI.1.o0 rfl rfl rfl) rfl rfl rfl (s9_0 hI) (show _ = 24 from rfl) ?_
      rintro r4 w17 ⟨⟨v16, rfl⟩, hI18, hE20⟩
      have hE19 := hE.tr hE20
      show sx_RP _ _ _ _ _ [.int v16] _ _
      refine sx_RP.ret (r := (some (.int v16))) rfl rfl ?_
      exact ⟨⟨_, rfl⟩, hI18, hE19⟩
    · refine sx_RP.cu (as := [.int (nI x12)]) (rest2 := []) (st3 := [.int 1]) rfl rfl rfl rfl rfl (cx_7p ⟨nI_le (a := 0) hx13 (by omega), nI_le (b := 47) hx14 (by decide)⟩) rfl ?_
      refine sx_RP.step (pc2 := 25) (ls2 := [(0, .ref 0), (1, .int (nI x3)), (2, .int (nI x12))]) (st2 := []) (w3 := w) rfl rfl ?_
      refine sx_RP.step (pc2 := 26) (ls2 := [(0, .ref 0), (1, .int (nI x3)), (2, .int (nI x12))]) (st2 := [.ref 0]) (w3 := w) rfl rfl ?_
      refine sx_RP.gf (v := .ref 1) rfl rfl hI.1.o0 rfl rfl (show _ = 29 from rfl) ?_
      refine sx_RP.gref (k := 4) (b := 4) hI (Or.inl rfl) rfl rfl (by omega) (show _ = 32 from rfl) ?_
      refine sx_RP.step (pc2 := 33) (ls2 := [(0, .ref 0), (1, .int (nI x3)), (2, .int (nI x12))]) (st2 := [.int (nI x3), .ref 4]) (w3 := w) rfl rfl ?_
      refine sx_RP.ild (c := x3) rfl (hI.1.aD (Or.inl rfl)).1 (hI.1.aD (Or.inl rfl)).2 (sx_in_nI (show x3 < 9 by omega) (by decide)) (show (nI x3).toNatClampNeg = x3 from nI_clamp (by omega)) (show _ = 34 from rfl) ?_
      obtain ⟨x21, hx22, ex23⟩ : inR ((ia w 4).getD x3 0) 47 := hI.di (Or.inl rfl) (show x3 < 9 by omega)
      rw [ex23]
      refine sx_RP.step (pc2 := 35) (ls2 := [(3, .int (nI x21)), (0, .ref 0), (1, .int (nI x3)), (2, .int (nI x12))]) (st2 := []) (w3 := w) rfl rfl ?_
      refine sx_RP.step (pc2 := 36) (ls2 := [(3, .int (nI x21)), (0, .ref 0), (1, .int (nI x3)), (2, .int (nI x12))]) (st2 := [.ref 0]) (w3 := w) rfl rfl ?_
      refine sx_RP.gf (v := .ref 1) rfl rfl hI.1.o0 rfl rfl (show _ = 39 from rfl) ?_
      refine sx_RP.gref (k := 4) (b := 4) hI (Or.inl rfl) rfl rfl (by omega) (show _ = 42 from rfl) ?_
      refine sx_RP.step (pc2 := 43) (ls2 := [(3, .int (nI x21)), (0, .ref 0), (1, .int (nI x3)), (2, .int (nI x12))]) (st2 := [.int (nI x3), .ref 4]) (w3 := w) rfl rfl ?_
      refine sx_RP.step (pc2 := 44) (ls2 := [(3, .int (nI x21)), (0, .ref 0), (1, .int (nI x3)), (2, .int (nI x12))]) (st2 := [.int (nI x12), .int (nI x3), .ref 4]) (w3 := w) rfl rfl ?_
      refine sx_RP.stD hI hE (Or.inl rfl) rfl (sx_in_nI (show x3 < 9 by omega) (by decide)) (inR.n (show x12 ≤ 47 by omega)) (show _ = 45 from rfl) (fun w24 hI25 hE26 hk27 => ?_)
      refine sx_RP.step (pc2 := 46) (ls2 := [(3, .int (nI x21)), (0, .ref 0), (1, .int (nI x3)), (2, .int (nI x12))]) (st2 := [.int (nI x21)]) (w3 := w24) rfl rfl ?_
      refine sx_RP.ret (r := (some (.int (nI x21)))) rfl rfl ?_
      exact ⟨⟨_, rfl⟩, hI25, hE26⟩
set_option maxRecDepth 20000 in
set_option maxHeartbeats 4000000 in
theorem s67 {xs : Option (List Int32)} {d : Nat} {w : List sx_C} (hI : WI w) (a1 : Int32) : sx_RP xs (d + 7) 67 0 (lv_args 0 [.ref 0, .int a1]) [] w (fun r w2 => (∃ v : Int32, r = some (.int v)) ∧ WI w2 ∧ EC w w2) := by
  have hE : EC w w := EC.rf
  refine sx_RP.step (pc2 := 1) (ls2 := [(0, .ref 0), (1, .int a1)]) (st2 := [.ref 0]) (w3 := w) rfl rfl ?_
  refine sx_RP.gf (v := .ref 1) rfl rfl hI.1.o0 rfl rfl (show _ = 4 from rfl) ?_
  refine sx_RP.step (pc2 := 5) (ls2 := [(0, .ref 0), (1, .int a1)]) (st2 := [.int a1, .ref 1]) (w3 := w) rfl rfl ?_
  rcases p66 (xs := xs) hI (Or.inl rfl) a1 with c2 | ⟨⟨x3, hx4, rfl⟩, c2⟩
  · refine sx_RP.cu (as := [.ref 1, .int a1]) (rest2 := []) (st3 := [.int 0]) rfl rfl (sx_inv_v2 (mi := 67) (k := 225) (st := [.int a1, .ref 1]) (w := w) rfl rfl (hI.1.oC (Or.inl rfl)) rfl rfl rfl) rfl rfl (c2) rfl ?_
    refine sx_RP.step (pc2 := 11) (ls2 := [(0, .ref 0), (1, .int a1)]) (st2 := []) (w3 := w) rfl rfl ?_
    refine sx_RP.step (pc2 := 12) (ls2 := [(0, .ref 0), (1, .int a1)]) (st2 := [.ref 0]) (w3 := w) rfl rfl ?_
    refine sx_RP.step (pc2 := 14) (ls2 := [(0, .ref 0), (1, .int a1)]) (st2 := [.int (-1000000001), .ref 0]) (w3 := w) rfl rfl ?_
    refine sx_RP.callp (as2 := [.ref 0, .int (-1000000001)]) (rest2 := []) rfl rfl (sx_inv_v2 (mi := 67) (k := 78) (st := [.int (-1000000001), .ref 0]) (w := w) rfl rfl hI.1.o0 rfl rfl rfl) rfl rfl rfl (s9_0 hI) (show _ = 17 from rfl) ?_
    rintro r4 w7 ⟨⟨v6, rfl⟩, hI8, hE10⟩
    have hE9 := hE.tr hE10
    show sx_RP _ _ _ _ _ [.int v6] _ _
    refine sx_RP.ret (r := (some (.int v6))) rfl rfl ?_
    exact ⟨⟨_, rfl⟩, hI8, hE9⟩
  · refine sx_RP.cu (as := [.ref 1, .int (nI x3)]) (rest2 := []) (st3 := [.int 1]) rfl rfl (sx_inv_v2 (mi := 67) (k := 225) (st := [.int (nI x3), .ref 1]) (w := w) rfl rfl (hI.1.oC (Or.inl rfl)) rfl rfl rfl) rfl rfl (c2) rfl ?_
    refine sx_RP.step (pc2 := 18) (ls2 := [(0, .ref 0), (1, .int (nI x3))]) (st2 := []) (w3 := w) rfl rfl ?_
    refine sx_RP.step (pc2 := 19) (ls2 := [(0, .ref 0), (1, .int (nI x3))]) (st2 := [.ref 0]) (w3 := w) rfl rfl ?_
    refine sx_RP.gf (v := .ref 44) rfl rfl hI.1.o0 rfl rfl (show _ = 22 from rfl) ?_
    refine sx_RP.step (pc2 := 23) (ls2 := [(0, .ref 0), (1, .int (nI x3))]) (st2 := [.ref 0, .ref 44]) (w3 := w) rfl rfl ?_
    refine sx_RP.gf (v := .ref 1) rfl rfl hI.1.o0 rfl rfl (show _ = 26 from rfl) ?_
    refine sx_RP.gref (k := 0) (b := 2) hI (Or.inl rfl) rfl rfl (by omega) (show _ = 29 from rfl) ?_
    refine sx_RP.callp (as2 := [.ref 44, .ref 2]) (rest2 := []) rfl rfl (sx_inv_v2 (mi := 67) (k := 95) (st := [.ref 2, .ref 44]) (w := w) rfl rfl hI.1.o44 rfl rfl rfl) rfl rfl rfl (s16 hI (Or.inl rfl)) (show _ = 32 from rfl) ?_
    rintro r4 w11 ⟨rfl, hI12, hE14⟩
    have hE13 := hE.tr hE14
    show sx_RP _ _ _ _ _ [] _ _
    refine sx_RP.step (pc2 := 33) (ls2 := [(0, .ref 0), (1, .int (nI x3))]) (st2 := [.ref 0]) (w3 := w11) rfl rfl ?_
    refine sx_RP.step (pc2 := 34) (ls2 := [(0, .ref 0), (1, .int (nI x3))]) (st2 := [.ref 0, .ref 0]) (w3 := w11) rfl rfl ?_
    refine sx_RP.gf (v := .ref 1) rfl rfl hI12.1.o0 rfl rfl (show _ = 37 from rfl) ?_
    refine sx_RP.step (pc2 := 38) (ls2 := [(0, .ref 0), (1, .int (nI x3))]) (st2 := [.ref 0, .ref 1, .ref 0]) (w3 := w11) rfl rfl ?_
    refine sx_RP.gf (v := .ref 1) rfl rfl hI12.1.o0 rfl rfl (show _ = 41 from rfl) ?_
    refine sx_RP.gref (k := 4) (b := 4) hI12 (Or.inl rfl) rfl rfl (by omega) (show _ = 44 from rfl) ?_
    refine sx_RP.step (pc2 := 45) (ls2 := [(0, .ref 0), (1, .int (nI x3))]) (st2 := [.int (nI x3), .ref 4, .ref 1, .ref 0]) (w3 := w11) rfl rfl ?_
    refine sx_RP.ild (c := x3) rfl (hI12.1.aD (Or.inl rfl)).1 (hI12.1.aD (Or.inl rfl)).2 (sx_in_nI (show x3 < 9 by omega) (by decide)) (show (nI x3).toNatClampNeg = x3 from nI_clamp (by omega)) (show _ = 46 from rfl) ?_
    obtain ⟨x15, hx16, ex17⟩ : inR ((ia w11 4).getD x3 0) 47 := hI12.di (Or.inl rfl) (show x3 < 9 by omega)
    rw [ex17]
    refine sx_RP.callp (as2 := [.ref 0, .ref 1, .int (nI x15)]) (rest2 := []) rfl rfl (sx_inv_v2 (mi := 67) (k := 231) (st := [.int (nI x15), .ref 1, .ref 0]) (w := w11) rfl rfl hI12.1.o0 rfl rfl rfl) rfl rfl rfl (s68 hI12 (Or.inl rfl) (show x15 < 48 by omega)) (show _ = 49 from rfl) ?_
    rintro r4 w19 ⟨⟨v18, rfl⟩, hI20, hE22⟩
    have hE21 := hE13.tr hE22
    show sx_RP _ _ _ _ _ [.int v18] _ _
    refine sx_RP.ret (r := (some (.int v18))) rfl rfl ?_
    exact ⟨⟨_, rfl⟩, hI20, hE21⟩
set_option maxRecDepth 20000 in
set_option maxHeartbeats 4000000 in
theorem s70 {xs : Option (List Int32)} {d : Nat} {w : List sx_C} (hI : WI w) (a1 a2 : Int32) : sx_RP xs (d + 7) 70 0 (lv_args 0 [.ref 0, .int a1, .int a2]) [] w (fun r w2 => (∃ v : Int32, r = some (.int v)) ∧ WI w2 ∧ EC w w2) := by
  have hE : EC w w := EC.rf
  refine sx_RP.step (pc2 := 1) (ls2 := [(0, .ref 0), (1, .int a1), (2, .int a2)]) (st2 := [.ref 0]) (w3 := w) rfl rfl ?_
  refine sx_RP.gf (v := .ref 1) rfl rfl hI.1.o0 rfl rfl (show _ = 4 from rfl) ?_
  refine sx_RP.step (pc2 := 5) (ls2 := [(0, .ref 0), (1, .int a1), (2, .int a2)]) (st2 := [.int a1, .ref 1]) (w3 := w) rfl rfl ?_
  rcases p66 (xs := xs) hI (Or.inl rfl) a1 with c2 | ⟨⟨x3, hx4, rfl⟩, c2⟩
  · refine sx_RP.cu (as := [.ref 1, .int a1]) (rest2 := []) (st3 := [.int 0]) rfl rfl (sx_inv_v2 (mi := 70) (k := 225) (st := [.int a1, .ref 1]) (w := w) rfl rfl (hI.1.oC (Or.inl rfl)) rfl rfl rfl) rfl rfl (c2) rfl ?_
    refine sx_RP.step (pc2 := 22) (ls2 := [(0, .ref 0), (1, .int a1), (2, .int a2)]) (st2 := []) (w3 := w) rfl rfl ?_
    refine sx_RP.step (pc2 := 23) (ls2 := [(0, .ref 0), (1, .int a1), (2, .int a2)]) (st2 := [.ref 0]) (w3 := w) rfl rfl ?_
    refine sx_RP.step (pc2 := 25) (ls2 := [(0, .ref 0), (1, .int a1), (2, .int a2)]) (st2 := [.int (-1000000001), .ref 0]) (w3 := w) rfl rfl ?_
    refine sx_RP.callp (as2 := [.ref 0, .int (-1000000001)]) (rest2 := []) rfl rfl (sx_inv_v2 (mi := 70) (k := 78) (st := [.int (-1000000001), .ref 0]) (w := w) rfl rfl hI.1.o0 rfl rfl rfl) rfl rfl rfl (s9_0 hI) (show _ = 28 from rfl) ?_
    rintro r4 w7 ⟨⟨v6, rfl⟩, hI8, hE10⟩
    have hE9 := hE.tr hE10
    show sx_RP _ _ _ _ _ [.int v6] _ _
    refine sx_RP.ret (r := (some (.int v6))) rfl rfl ?_
    exact ⟨⟨_, rfl⟩, hI8, hE9⟩
  · refine sx_RP.cu (as := [.ref 1, .int (nI x3)]) (rest2 := []) (st3 := [.int 1]) rfl rfl (sx_inv_v2 (mi := 70) (k := 225) (st := [.int (nI x3), .ref 1]) (w := w) rfl rfl (hI.1.oC (Or.inl rfl)) rfl rfl rfl) rfl rfl (c2) rfl ?_
    refine sx_RP.step (pc2 := 11) (ls2 := [(0, .ref 0), (1, .int (nI x3)), (2, .int a2)]) (st2 := []) (w3 := w) rfl rfl ?_
    refine sx_RP.step (pc2 := 12) (ls2 := [(0, .ref 0), (1, .int (nI x3)), (2, .int a2)]) (st2 := [.ref 0]) (w3 := w) rfl rfl ?_
    refine sx_RP.gf (v := .ref 1) rfl rfl hI.1.o0 rfl rfl (show _ = 15 from rfl) ?_
    refine sx_RP.step (pc2 := 16) (ls2 := [(0, .ref 0), (1, .int (nI x3)), (2, .int a2)]) (st2 := [.int a2, .ref 1]) (w3 := w) rfl rfl ?_
    rcases p27 (xs := xs) hI (Or.inl rfl) a2 with c12 | ⟨⟨x13, hx14, rfl⟩, c12⟩
    · refine sx_RP.cu (as := [.ref 1, .int a2]) (rest2 := []) (st3 := [.int 0]) rfl rfl (sx_inv_v2 (mi := 70) (k := 120) (st := [.int a2, .ref 1]) (w := w) rfl rfl (hI.1.oC (Or.inl rfl)) rfl rfl rfl) rfl rfl (c12) rfl ?_
      refine sx_RP.step (pc2 := 22) (ls2 := [(0, .ref 0), (1, .int (nI x3)), (2, .int a2)]) (st2 := []) (w3 := w) rfl rfl ?_
      refine sx_RP.step (pc2 := 23) (ls2 := [(0, .ref 0), (1, .int (nI x3)), (2, .int a2)]) (st2 := [.ref 0]) (w3 := w) rfl rfl ?_
      refine sx_RP.step (pc2 := 25) (ls2 := [(0, .ref 0), (1, .int (nI x3)), (2, .int a2)]) (st2 := [.int (-1000000001), .ref 0]) (w3 := w) rfl rfl ?_
      refine sx_RP.callp (as2 := [.ref 0, .int (-1000000001)]) (rest2 := []) rfl rfl (sx_inv_v2 (mi := 70) (k := 78) (st := [.int (-1000000001), .ref 0]) (w := w) rfl rfl hI.1.o0 rfl rfl rfl) rfl rfl rfl (s9_0 hI) (show _ = 28 from rfl) ?_
      rintro r4 w17 ⟨⟨v16, rfl⟩, hI18, hE20⟩
      have hE19 := hE.tr hE20
      show sx_RP _ _ _ _ _ [.int v16] _ _
      refine sx_RP.ret (r := (some (.int v16))) rfl rfl ?_
      exact ⟨⟨_, rfl⟩, hI18, hE19⟩
    · refine sx_RP.cu (as := [.ref 1, .int (nI x13)]) (rest2 := []) (st3 := [.int 1]) rfl rfl (sx_inv_v2 (mi := 70) (k := 120) (st := [.int (nI x13), .ref 1]) (w := w) rfl rfl (hI.1.oC (Or.inl rfl)) rfl rfl rfl) rfl rfl (c12) rfl ?_
      refine sx_RP.step (pc2 := 29) (ls2 := [(0, .ref 0), (1, .int (nI x3)), (2, .int (nI x13))]) (st2 := []) (w3 := w) rfl rfl ?_
      refine sx_RP.step (pc2 := 30) (ls2 := [(0, .ref 0), (1, .int (nI x3)), (2, .int (nI x13))]) (st2 := [.ref 0]) (w3 := w) rfl rfl ?_
      refine sx_RP.gf (v := .ref 1) rfl rfl hI.1.o0 rfl rfl (show _ = 33 from rfl) ?_
      refine sx_RP.gref (k := 2) (b := 3) hI (Or.inl rfl) rfl rfl (by omega) (show _ = 36 from rfl) ?_
      refine sx_RP.step (pc2 := 37) (ls2 := [(0, .ref 0), (1, .int (nI x3)), (2, .int (nI x13))]) (st2 := [.int (nI x13), .ref 3]) (w3 := w) rfl rfl ?_
      refine sx_RP.ald (v := .ref (1 + 4 + x13)) rfl (hI.1.aG (Or.inl rfl)) rfl (grA_at (show x13 < 10 by omega)) (show _ = 38 from rfl) ?_
      refine sx_RP.step (pc2 := 39) (ls2 := [(3, .ref (1 + 4 + x13)), (0, .ref 0), (1, .int (nI x3)), (2, .int (nI x13))]) (st2 := []) (w3 := w) rfl rfl ?_
      refine sx_RP.step (pc2 := 40) (ls2 := [(3, .ref (1 + 4 + x13)), (0, .ref 0), (1, .int (nI x3)), (2, .int (nI x13))]) (st2 := [.ref (1 + 4 + x13)]) (w3 := w) rfl rfl ?_
      refine sx_RP.step (pc2 := 41) (ls2 := [(3, .ref (1 + 4 + x13)), (0, .ref 0), (1, .int (nI x3)), (2, .int (nI x13))]) (st2 := [.int 0, .ref (1 + 4 + x13)]) (w3 := w) rfl rfl ?_
      obtain ⟨x21, hx22, c23⟩ := p43 hI (gAd.of (Or.inl rfl) (show x13 < 10 by omega)) 0
      refine sx_RP.cu (as := [.ref (1 + 4 + x13), .int 0]) (rest2 := []) (st3 := [.int (nI x21)]) rfl rfl (sx_inv_v2 (mi := 70) (k := 186) (st := [.int 0, .ref (1 + 4 + x13)]) (w := w) rfl rfl (hI.1.oG (gAd.of (Or.inl rfl) (show x13 < 10 by omega))) rfl rfl rfl) rfl rfl (c23) rfl ?_
      refine sx_RP.br (p1 := 49) (l1 := [(3, .ref (1 + 4 + x13)), (0, .ref 0), (1, .int (nI x3)), (2, .int (nI x13))]) (s1 := []) (v1 := w) (p2 := 47) (l2 := [(3, .ref (1 + 4 + x13)), (0, .ref 0), (1, .int (nI x3)), (2, .int (nI x13))]) (s2 := []) (v2 := w) rfl rfl (fun q24 => ?_) (fun q24 => ?_)
      · replace q24 := of_decide_eq_true q24
        replace q24 := mt (nI_eq (a := x21) (b := 0) (by omega) (by omega)).mpr q24
        refine sx_RP.step (pc2 := 50) (ls2 := [(3, .ref (1 + 4 + x13)), (0, .ref 0), (1, .int (nI x3)), (2, .int (nI x13))]) (st2 := [.ref 0]) (w3 := w) rfl rfl ?_
        refine sx_RP.gf (v := .ref 44) rfl rfl hI.1.o0 rfl rfl (show _ = 53 from rfl) ?_
        refine sx_RP.step (pc2 := 54) (ls2 := [(3, .ref (1 + 4 + x13)), (0, .ref 0), (1, .int (nI x3)), (2, .int (nI x13))]) (st2 := [.ref 0, .ref 44]) (w3 := w) rfl rfl ?_
        refine sx_RP.gf (v := .ref 1) rfl rfl hI.1.o0 rfl rfl (show _ = 57 from rfl) ?_
        refine sx_RP.gref (k := 0) (b := 2) hI (Or.inl rfl) rfl rfl (by omega) (show _ = 60 from rfl) ?_
        refine sx_RP.callp (as2 := [.ref 44, .ref 2]) (rest2 := []) rfl rfl (sx_inv_v2 (mi := 70) (k := 95) (st := [.ref 2, .ref 44]) (w := w) rfl rfl hI.1.o44 rfl rfl rfl) rfl rfl rfl (s16 hI (Or.inl rfl)) (show _ = 63 from rfl) ?_
        rintro r4 w25 ⟨rfl, hI26, hE28⟩
        have hE27 := hE.tr hE28
        show sx_RP _ _ _ _ _ [] _ _
        refine sx_RP.step (pc2 := 64) (ls2 := [(3, .ref (1 + 4 + x13)), (0, .ref 0), (1, .int (nI x3)), (2, .int (nI x13))]) (st2 := [.ref 0]) (w3 := w25) rfl rfl ?_
        refine sx_RP.step (pc2 := 65) (ls2 := [(3, .ref (1 + 4 + x13)), (0, .ref 0), (1, .int (nI x3)), (2, .int (nI x13))]) (st2 := [.ref (1 + 4 + x13), .ref 0]) (w3 := w25) rfl rfl ?_
        refine sx_RP.gg (k := 0) hI26 (gAd.of (Or.inl rfl) (show x13 < 10 by omega)) rfl rfl (by decide) (show _ = 68 from rfl) ?_
        obtain ⟨x29, hx30, ex31⟩ : inR (fi w25 (1 + 4 + x13) 0) 5 := hI26.gk (k := 0) (gAd.of (Or.inl rfl) (show x13 < 10 by omega)) (by decide)
        rw [ex31]
        refine sx_RP.step (pc2 := 69) (ls2 := [(3, .ref (1 + 4 + x13)), (0, .ref 0), (1, .int (nI x3)), (2, .int (nI x13))]) (st2 := [.ref (1 + 4 + x13), .int (nI x29), .ref 0]) (w3 := w25) rfl rfl ?_
        refine sx_RP.gg (k := 2) hI26 (gAd.of (Or.inl rfl) (show x13 < 10 by omega)) rfl rfl (by decide) (show _ = 72 from rfl) ?_
        obtain ⟨x32, hx33, ex34⟩ : inR (fi w25 (1 + 4 + x13) 2) 47 := hI26.gk (k := 2) (gAd.of (Or.inl rfl) (show x13 < 10 by omega)) (by decide)
        rw [ex34]
        refine sx_RP.step (pc2 := 73) (ls2 := [(3, .ref (1 + 4 + x13)), (0, .ref 0), (1, .int (nI x3)), (2, .int (nI x13))]) (st2 := [.ref 0, .int (nI x32), .int (nI x29), .ref 0]) (w3 := w25) rfl rfl ?_
        refine sx_RP.gf (v := .ref 44) rfl rfl hI26.1.o0 rfl rfl (show _ = 76 from rfl) ?_
        refine sx_RP.step (pc2 := 77) (ls2 := [(3, .ref (1 + 4 + x13)), (0, .ref 0), (1, .int (nI x3)), (2, .int (nI x13))]) (st2 := [.ref 0, .ref 44, .int (nI x32), .int (nI x29), .ref 0]) (w3 := w25) rfl rfl ?_
        refine sx_RP.gf (v := .ref 1) rfl rfl hI26.1.o0 rfl rfl (show _ = 80 from rfl) ?_
        refine sx_RP.gref (k := 4) (b := 4) hI26 (Or.inl rfl) rfl rfl (by omega) (show _ = 83 from rfl) ?_
        refine sx_RP.step (pc2 := 84) (ls2 := [(3, .ref (1 + 4 + x13)), (0, .ref 0), (1, .int (nI x3)), (2, .int (nI x13))]) (st2 := [.int (nI x3), .ref 4, .ref 44, .int (nI x32), .int (nI x29), .ref 0]) (w3 := w25) rfl rfl ?_
        refine sx_RP.ild (c := x3) rfl (hI26.1.aD (Or.inl rfl)).1 (hI26.1.aD (Or.inl rfl)).2 (sx_in_nI (show x3 < 9 by omega) (by decide)) (show (nI x3).toNatClampNeg = x3 from nI_clamp (by omega)) (show _ = 85 from rfl) ?_
        obtain ⟨x35, hx36, ex37⟩ : inR ((ia w25 4).getD x3 0) 47 := hI26.di (Or.inl rfl) (show x3 < 9 by omega)
        rw [ex37]
        refine sx_RP.callp (as2 := [.ref 44, .int (nI x35)]) (rest2 := [.int (nI x32), .int (nI x29), .ref 0]) rfl rfl (sx_inv_v2 (mi := 70) (k := 99) (st := [.int (nI x35), .ref 44, .int (nI x32), .int (nI x29), .ref 0]) (w := w25) rfl rfl hI26.1.o44 rfl rfl rfl) rfl rfl rfl (s17 hI26 (show x35 < 48 by omega)) (show _ = 88 from rfl) ?_
        rintro r4 w38 ⟨rfl, hI39, hE41⟩
        have hE40 := hE27.tr hE41
        show sx_RP _ _ _ _ _ [.ref (47 + x35), .int (nI x32), .int (nI x29), .ref 0] _ _
        obtain ⟨v42, c43⟩ := p69 hI39 (show x29 ≤ 5 by omega) (show x32 < 48 by omega) (show x35 < 48 by omega)
        refine sx_RP.cu (as := [.ref 0, .int (nI x29), .int (nI x32), .ref (47 + x35)]) (rest2 := []) (st3 := [.int v42]) rfl rfl (sx_inv_v2 (mi := 70) (k := 235) (st := [.ref (47 + x35), .int (nI x32), .int (nI x29), .ref 0]) (w := w38) rfl rfl hI39.1.o0 rfl rfl rfl) rfl rfl (c43) rfl ?_
        refine sx_RP.ret (r := (some (.int v42))) rfl rfl ?_
        exact ⟨⟨_, rfl⟩, hI39, hE40⟩
      · replace q24 := Decidable.not_not.mp (of_decide_eq_false q24)
        replace q24 := (nI_eq (a := x21) (b := 0) (by omega) (by omega)).mp q24
        refine sx_RP.step (pc2 := 48) (ls2 := [(3, .ref (1 + 4 + x13)), (0, .ref 0), (1, .int (nI x3)), (2, .int (nI x13))]) (st2 := [.int 0]) (w3 := w) rfl rfl ?_
        refine sx_RP.ret (r := (some (.int 0))) rfl rfl ?_
        exact ⟨⟨_, rfl⟩, hI, hE⟩
set_option maxRecDepth 20000 in
set_option maxHeartbeats 4000000 in
theorem s71 {xs : Option (List Int32)} {d : Nat} {w : List sx_C} (hI : WI w) (a1 : Int32) : sx_RP xs (d + 7) 71 0 (lv_args 0 [.ref 0, .int a1]) [] w (fun r w2 => (∃ v : Int64, r = some (.long v)) ∧ WI w2 ∧ EC w w2) := by
  have hE : EC w w := EC.rf
  refine sx_RP.step (pc2 := 1) (ls2 := [(0, .ref 0), (1, .int a1)]) (st2 := [.int a1]) (w3 := w) rfl rfl ?_
  rcases in_cases a1 0 5 (m := 0) (n := 5) rfl rfl (by decide) (by decide) with q1 | ⟨x2, hx3, hx4, rfl⟩
  · refine sx_RP.cu (as := [.int a1]) (rest2 := []) (st3 := [.int 0]) rfl rfl rfl rfl rfl (cx_22n q1) rfl ?_
    refine sx_RP.step (pc2 := 7) (ls2 := [(0, .ref 0), (1, .int a1)]) (st2 := []) (w3 := w) rfl rfl ?_
    refine sx_RP.step (pc2 := 8) (ls2 := [(0, .ref 0), (1, .int a1)]) (st2 := [.ref 0]) (w3 := w) rfl rfl ?_
    refine sx_RP.step (pc2 := 10) (ls2 := [(0, .ref 0), (1, .int a1)]) (st2 := [.int (-1000000001), .ref 0]) (w3 := w) rfl rfl ?_
    refine sx_RP.callp (as2 := [.ref 0, .int (-1000000001)]) (rest2 := []) rfl rfl (sx_inv_v2 (mi := 71) (k := 78) (st := [.int (-1000000001), .ref 0]) (w := w) rfl rfl hI.1.o0 rfl rfl rfl) rfl rfl rfl (s9_0 hI) (show _ = 13 from rfl) ?_
    rintro r4 w7 ⟨⟨v6, rfl⟩, hI8, hE10⟩
    have hE9 := hE.tr hE10
    show sx_RP _ _ _ _ _ [.int v6] _ _
    refine sx_RP.step (pc2 := 14) (ls2 := [(0, .ref 0), (1, .int a1)]) (st2 := [.long v6.toInt64]) (w3 := w7) rfl rfl ?_
    refine sx_RP.ret (r := (some (.long v6.toInt64))) rfl rfl ?_
    exact ⟨⟨_, rfl⟩, hI8, hE9⟩
  · refine sx_RP.cu (as := [.int (nI x2)]) (rest2 := []) (st3 := [.int 1]) rfl rfl rfl rfl rfl (cx_22p ⟨nI_le (a := 0) hx3 (by omega), nI_le (b := 5) hx4 (by decide)⟩) rfl ?_
    refine sx_RP.step (pc2 := 15) (ls2 := [(0, .ref 0), (1, .int (nI x2))]) (st2 := []) (w3 := w) rfl rfl ?_
    refine sx_RP.step (pc2 := 16) (ls2 := [(0, .ref 0), (1, .int (nI x2))]) (st2 := [.ref 0]) (w3 := w) rfl rfl ?_
    refine sx_RP.gf (v := .ref 1) rfl rfl hI.1.o0 rfl rfl (show _ = 19 from rfl) ?_
    refine sx_RP.gc (k := 5) hI (Or.inl rfl) rfl rfl (by omega) (show _ = 22 from rfl) ?_
    obtain ⟨x11, hx12, ex13⟩ : inR (fi w 1 5) 9 := (hI.c (Or.inl rfl)).2
    rw [ex13]
    refine sx_RP.br (p1 := 33) (l1 := [(0, .ref 0), (1, .int (nI x2))]) (s1 := []) (v1 := w) (p2 := 25) (l2 := [(0, .ref 0), (1, .int (nI x2))]) (s2 := []) (v2 := w) rfl rfl (fun q14 => ?_) (fun q14 => ?_)
    · replace q14 := of_decide_eq_true q14
      replace q14 := mt (nI_eq (a := x11) (b := 0) (by omega) (by omega)).mpr q14
      refine sx_RP.step (pc2 := 34) (ls2 := [(0, .ref 0), (1, .int (nI x2))]) (st2 := [.ref 0]) (w3 := w) rfl rfl ?_
      refine sx_RP.gf (v := .ref 44) rfl rfl hI.1.o0 rfl rfl (show _ = 37 from rfl) ?_
      refine sx_RP.step (pc2 := 38) (ls2 := [(0, .ref 0), (1, .int (nI x2))]) (st2 := [.ref 0, .ref 44]) (w3 := w) rfl rfl ?_
      refine sx_RP.gf (v := .ref 1) rfl rfl hI.1.o0 rfl rfl (show _ = 41 from rfl) ?_
      refine sx_RP.gref (k := 0) (b := 2) hI (Or.inl rfl) rfl rfl (by omega) (show _ = 44 from rfl) ?_
      refine sx_RP.callp (as2 := [.ref 44, .ref 2]) (rest2 := []) rfl rfl (sx_inv_v2 (mi := 71) (k := 95) (st := [.ref 2, .ref 44]) (w := w) rfl rfl hI.1.o44 rfl rfl rfl) rfl rfl rfl (s16 hI (Or.inl rfl)) (show _ = 47 from rfl) ?_
      rintro r4 w15 ⟨rfl, hI16, hE18⟩
      have hE17 := hE.tr hE18
      show sx_RP _ _ _ _ _ [] _ _
      refine sx_RP.step (pc2 := 48) (ls2 := [(0, .ref 0), (1, .int (nI x2))]) (st2 := [.ref 0]) (w3 := w15) rfl rfl ?_
      refine sx_RP.step (pc2 := 49) (ls2 := [(0, .ref 0), (1, .int (nI x2))]) (st2 := [.int (nI x2), .ref 0]) (w3 := w15) rfl rfl ?_
      refine sx_RP.callp (as2 := [.ref 0, .int (nI x2)]) (rest2 := []) rfl rfl (sx_inv_v2 (mi := 71) (k := 242) (st := [.int (nI x2), .ref 0]) (w := w15) rfl rfl hI16.1.o0 rfl rfl rfl) rfl rfl rfl (s72 hI16 (show x2 ≤ 5 by omega)) (show _ = 52 from rfl) ?_
      rintro r4 w20 ⟨⟨v19, rfl⟩, hI21, hE23⟩
      have hE22 := hE17.tr hE23
      show sx_RP _ _ _ _ _ [.long v19] _ _
      refine sx_RP.ret (r := (some (.long v19))) rfl rfl ?_
      exact ⟨⟨_, rfl⟩, hI21, hE22⟩
    · replace q14 := Decidable.not_not.mp (of_decide_eq_false q14)
      replace q14 := (nI_eq (a := x11) (b := 0) (by omega) (by omega)).mp q14
      refine sx_RP.step (pc2 := 26) (ls2 := [(0, .ref 0), (1, .int (nI x2))]) (st2 := [.ref 0]) (w3 := w) rfl rfl ?_
      refine sx_RP.step (pc2 := 28) (ls2 := [(0, .ref 0), (1, .int (nI x2))]) (st2 := [.int (-1000000004), .ref 0]) (w3 := w) rfl rfl ?_
      refine sx_RP.callp (as2 := [.ref 0, .int (-1000000004)]) (rest2 := []) rfl rfl (sx_inv_v2 (mi := 71) (k := 78) (st := [.int (-1000000004), .ref 0]) (w := w) rfl rfl hI.1.o0 rfl rfl rfl) rfl rfl rfl (s9_3 hI) (show _ = 31 from rfl) ?_
      rintro r4 w25 ⟨⟨v24, rfl⟩, hI26, hE28⟩
      have hE27 := hE.tr hE28
      show sx_RP _ _ _ _ _ [.int v24] _ _
      refine sx_RP.step (pc2 := 32) (ls2 := [(0, .ref 0), (1, .int (nI x2))]) (st2 := [.long v24.toInt64]) (w3 := w25) rfl rfl ?_
      refine sx_RP.ret (r := (some (.long v24.toInt64))) rfl rfl ?_
      exact ⟨⟨_, rfl⟩, hI26, hE27⟩
set_option maxRecDepth 20000 in
set_option maxHeartbeats 4000000 in
theorem s76 {xs : Option (List Int32)} {d : Nat} {w : List sx_C} (hI : WI w) (a1 a2 : Int32) : sx_RP xs (d + 7) 76 0 (lv_args 0 [.ref 0, .int a1, .int a2]) [] w (fun r w2 => (∃ v : Int32, r = some (.int v)) ∧ WI w2 ∧ EC w w2) := by
  have hE : EC w w := EC.rf
  refine sx_RP.step (pc2 := 1) (ls2 := [(0, .ref 0), (1, .int a1), (2, .int a2)]) (st2 := [.int a1]) (w3 := w) rfl rfl ?_
  rcases in_cases a1 0 47 (m := 0) (n := 47) rfl rfl (by decide) (by decide) with q1 | ⟨x2, hx3, hx4, rfl⟩
  · refine sx_RP.cu (as := [.int a1]) (rest2 := []) (st3 := [.int 0]) rfl rfl rfl rfl rfl (cx_7n q1) rfl ?_
    refine sx_RP.step (pc2 := 17) (ls2 := [(0, .ref 0), (1, .int a1), (2, .int a2)]) (st2 := []) (w3 := w) rfl rfl ?_
    refine sx_RP.step (pc2 := 18) (ls2 := [(0, .ref 0), (1, .int a1), (2, .int a2)]) (st2 := [.ref 0]) (w3 := w) rfl rfl ?_
    refine sx_RP.step (pc2 := 20) (ls2 := [(0, .ref 0), (1, .int a1), (2, .int a2)]) (st2 := [.int (-1000000001), .ref 0]) (w3 := w) rfl rfl ?_
    refine sx_RP.callp (as2 := [.ref 0, .int (-1000000001)]) (rest2 := []) rfl rfl (sx_inv_v2 (mi := 76) (k := 78) (st := [.int (-1000000001), .ref 0]) (w := w) rfl rfl hI.1.o0 rfl rfl rfl) rfl rfl rfl (s9_0 hI) (show _ = 23 from rfl) ?_
    rintro r4 w7 ⟨⟨v6, rfl⟩, hI8, hE10⟩
    have hE9 := hE.tr hE10
    show sx_RP _ _ _ _ _ [.int v6] _ _
    refine sx_RP.ret (r := (some (.int v6))) rfl rfl ?_
    exact ⟨⟨_, rfl⟩, hI8, hE9⟩
  · refine sx_RP.cu (as := [.int (nI x2)]) (rest2 := []) (st3 := [.int 1]) rfl rfl rfl rfl rfl (cx_7p ⟨nI_le (a := 0) hx3 (by omega), nI_le (b := 47) hx4 (by decide)⟩) rfl ?_
    refine sx_RP.step (pc2 := 7) (ls2 := [(0, .ref 0), (1, .int (nI x2)), (2, .int a2)]) (st2 := []) (w3 := w) rfl rfl ?_
    refine sx_RP.step (pc2 := 8) (ls2 := [(0, .ref 0), (1, .int (nI x2)), (2, .int a2)]) (st2 := [.int a2]) (w3 := w) rfl rfl ?_
    refine sx_RP.step (pc2 := 9) (ls2 := [(0, .ref 0), (1, .int (nI x2)), (2, .int a2)]) (st2 := [.int 1, .int a2]) (w3 := w) rfl rfl ?_
    refine sx_RP.step (pc2 := 11) (ls2 := [(0, .ref 0), (1, .int (nI x2)), (2, .int a2)]) (st2 := [.int 30, .int 1, .int a2]) (w3 := w) rfl rfl ?_
    rcases in_cases a2 1 30 (m := 1) (n := 30) rfl rfl (by decide) (by decide) with q11 | ⟨x12, hx13, hx14, rfl⟩
    · refine sx_RP.cu (as := [.int a2, .int 1, .int 30]) (rest2 := []) (st3 := [.int 0]) rfl rfl rfl rfl rfl (cx_8n q11) rfl ?_
      refine sx_RP.step (pc2 := 17) (ls2 := [(0, .ref 0), (1, .int (nI x2)), (2, .int a2)]) (st2 := []) (w3 := w) rfl rfl ?_
      refine sx_RP.step (pc2 := 18) (ls2 := [(0, .ref 0), (1, .int (nI x2)), (2, .int a2)]) (st2 := [.ref 0]) (w3 := w) rfl rfl ?_
      refine sx_RP.step (pc2 := 20) (ls2 := [(0, .ref 0), (1, .int (nI x2)), (2, .int a2)]) (st2 := [.int (-1000000001), .ref 0]) (w3 := w) rfl rfl ?_
      refine sx_RP.callp (as2 := [.ref 0, .int (-1000000001)]) (rest2 := []) rfl rfl (sx_inv_v2 (mi := 76) (k := 78) (st := [.int (-1000000001), .ref 0]) (w := w) rfl rfl hI.1.o0 rfl rfl rfl) rfl rfl rfl (s9_0 hI) (show _ = 23 from rfl) ?_
      rintro r4 w17 ⟨⟨v16, rfl⟩, hI18, hE20⟩
      have hE19 := hE.tr hE20
      show sx_RP _ _ _ _ _ [.int v16] _ _
      refine sx_RP.ret (r := (some (.int v16))) rfl rfl ?_
      exact ⟨⟨_, rfl⟩, hI18, hE19⟩
    · refine sx_RP.cu (as := [.int (nI x12), .int 1, .int 30]) (rest2 := []) (st3 := [.int 1]) rfl rfl rfl rfl rfl (cx_8p ⟨nI_le (a := 1) hx13 (by omega), nI_le (b := 30) hx14 (by decide)⟩) rfl ?_
      refine sx_RP.step (pc2 := 24) (ls2 := [(0, .ref 0), (1, .int (nI x2)), (2, .int (nI x12))]) (st2 := []) (w3 := w) rfl rfl ?_
      refine sx_RP.step (pc2 := 25) (ls2 := [(0, .ref 0), (1, .int (nI x2)), (2, .int (nI x12))]) (st2 := [.ref 0]) (w3 := w) rfl rfl ?_
      refine sx_RP.gf (v := .ref 1) rfl rfl hI.1.o0 rfl rfl (show _ = 28 from rfl) ?_
      refine sx_RP.step (pc2 := 29) (ls2 := [(0, .ref 0), (1, .int (nI x2)), (2, .int (nI x12))]) (st2 := [.int (nI x2), .ref 1]) (w3 := w) rfl rfl ?_
      refine sx_RP.step (pc2 := 30) (ls2 := [(0, .ref 0), (1, .int (nI x2)), (2, .int (nI x12))]) (st2 := [.int (nI x12), .int (nI x2), .ref 1]) (w3 := w) rfl rfl ?_
      obtain ⟨v21, c22⟩ := p77 hI (Or.inl rfl) (nI x2) (nI x12)
      refine sx_RP.cu (as := [.ref 1, .int (nI x2), .int (nI x12)]) (rest2 := []) (st3 := [.long v21]) rfl rfl (sx_inv_v2 (mi := 76) (k := 253) (st := [.int (nI x12), .int (nI x2), .ref 1]) (w := w) rfl rfl (hI.1.oC (Or.inl rfl)) rfl rfl rfl) rfl rfl (c22) rfl ?_
      refine sx_RP.step (pc2 := 34) (ls2 := [(0, .ref 0), (1, .int (nI x2)), (2, .int (nI x12))]) (st2 := [.ref 0, .long v21]) (w3 := w) rfl rfl ?_
      refine sx_RP.gf (v := .ref 1) rfl rfl hI.1.o0 rfl rfl (show _ = 37 from rfl) ?_
      refine sx_RP.gw hI (Or.inl rfl) rfl rfl (show _ = 40 from rfl) ?_
      refine sx_RP.step (pc2 := 41) (ls2 := [(0, .ref 0), (1, .int (nI x2)), (2, .int (nI x12))]) (st2 := [.long (v21 &&& (fj w 1 1))]) (w3 := w) rfl rfl ?_
      obtain ⟨v23, c24⟩ := p78 hI (v21 &&& (fj w 1 1))
      refine sx_RP.cu (as := [.long (v21 &&& (fj w 1 1))]) (rest2 := []) (st3 := [.int v23]) rfl rfl rfl rfl rfl (c24) rfl ?_
      refine sx_RP.ret (r := (some (.int v23))) rfl rfl ?_
      exact ⟨⟨_, rfl⟩, hI, hE⟩
set_option maxRecDepth 20000 in
set_option maxHeartbeats 4000000 in
theorem s79 {xs : Option (List Int32)} {d : Nat} {w : List sx_C} (hI : WI w) (a1 a2 : Int32) : sx_RP xs (d + 7) 79 0 (lv_args 0 [.ref 0, .int a1, .int a2]) [] w (fun r w2 => (∃ v : Int32, r = some (.int v)) ∧ WI w2 ∧ EC w w2) := by
  have hE : EC w w := EC.rf
  refine sx_RP.step (pc2 := 1) (ls2 := [(0, .ref 0), (1, .int a1), (2, .int a2)]) (st2 := [.int a1]) (w3 := w) rfl rfl ?_
  rcases in_cases a1 0 47 (m := 0) (n := 47) rfl rfl (by decide) (by decide) with q1 | ⟨x2, hx3, hx4, rfl⟩
  · refine sx_RP.cu (as := [.int a1]) (rest2 := []) (st3 := [.int 0]) rfl rfl rfl rfl rfl (cx_7n q1) rfl ?_
    refine sx_RP.step (pc2 := 17) (ls2 := [(0, .ref 0), (1, .int a1), (2, .int a2)]) (st2 := []) (w3 := w) rfl rfl ?_
    refine sx_RP.step (pc2 := 18) (ls2 := [(0, .ref 0), (1, .int a1), (2, .int a2)]) (st2 := [.ref 0]) (w3 := w) rfl rfl ?_
    refine sx_RP.step (pc2 := 20) (ls2 := [(0, .ref 0), (1, .int a1), (2, .int a2)]) (st2 := [.int (-1000000001), .ref 0]) (w3 := w) rfl rfl ?_
    refine sx_RP.callp (as2 := [.ref 0, .int (-1000000001)]) (rest2 := []) rfl rfl (sx_inv_v2 (mi := 79) (k := 78) (st := [.int (-1000000001), .ref 0]) (w := w) rfl rfl hI.1.o0 rfl rfl rfl) rfl rfl rfl (s9_0 hI) (show _ = 23 from rfl) ?_
    rintro r4 w7 ⟨⟨v6, rfl⟩, hI8, hE10⟩
    have hE9 := hE.tr hE10
    show sx_RP _ _ _ _ _ [.int v6] _ _
    refine sx_RP.ret (r := (some (.int v6))) rfl rfl ?_
    exact ⟨⟨_, rfl⟩, hI8, hE9⟩
  · refine sx_RP.cu (as := [.int (nI x2)]) (rest2 := []) (st3 := [.int 1]) rfl rfl rfl rfl rfl (cx_7p ⟨nI_le (a := 0) hx3 (by omega), nI_le (b := 47) hx4 (by decide)⟩) rfl ?_
    refine sx_RP.step (pc2 := 7) (ls2 := [(0, .ref 0), (1, .int (nI x2)), (2, .int a2)]) (st2 := []) (w3 := w) rfl rfl ?_
    refine sx_RP.step (pc2 := 8) (ls2 := [(0, .ref 0), (1, .int (nI x2)), (2, .int a2)]) (st2 := [.int a2]) (w3 := w) rfl rfl ?_
    refine sx_RP.step (pc2 := 9) (ls2 := [(0, .ref 0), (1, .int (nI x2)), (2, .int a2)]) (st2 := [.int 1, .int a2]) (w3 := w) rfl rfl ?_
    refine sx_RP.step (pc2 := 11) (ls2 := [(0, .ref 0), (1, .int (nI x2)), (2, .int a2)]) (st2 := [.int 30, .int 1, .int a2]) (w3 := w) rfl rfl ?_
    rcases in_cases a2 1 30 (m := 1) (n := 30) rfl rfl (by decide) (by decide) with q11 | ⟨x12, hx13, hx14, rfl⟩
    · refine sx_RP.cu (as := [.int a2, .int 1, .int 30]) (rest2 := []) (st3 := [.int 0]) rfl rfl rfl rfl rfl (cx_8n q11) rfl ?_
      refine sx_RP.step (pc2 := 17) (ls2 := [(0, .ref 0), (1, .int (nI x2)), (2, .int a2)]) (st2 := []) (w3 := w) rfl rfl ?_
      refine sx_RP.step (pc2 := 18) (ls2 := [(0, .ref 0), (1, .int (nI x2)), (2, .int a2)]) (st2 := [.ref 0]) (w3 := w) rfl rfl ?_
      refine sx_RP.step (pc2 := 20) (ls2 := [(0, .ref 0), (1, .int (nI x2)), (2, .int a2)]) (st2 := [.int (-1000000001), .ref 0]) (w3 := w) rfl rfl ?_
      refine sx_RP.callp (as2 := [.ref 0, .int (-1000000001)]) (rest2 := []) rfl rfl (sx_inv_v2 (mi := 79) (k := 78) (st := [.int (-1000000001), .ref 0]) (w := w) rfl rfl hI.1.o0 rfl rfl rfl) rfl rfl rfl (s9_0 hI) (show _ = 23 from rfl) ?_
      rintro r4 w17 ⟨⟨v16, rfl⟩, hI18, hE20⟩
      have hE19 := hE.tr hE20
      show sx_RP _ _ _ _ _ [.int v16] _ _
      refine sx_RP.ret (r := (some (.int v16))) rfl rfl ?_
      exact ⟨⟨_, rfl⟩, hI18, hE19⟩
    · refine sx_RP.cu (as := [.int (nI x12), .int 1, .int 30]) (rest2 := []) (st3 := [.int 1]) rfl rfl rfl rfl rfl (cx_8p ⟨nI_le (a := 1) hx13 (by omega), nI_le (b := 30) hx14 (by decide)⟩) rfl ?_
      refine sx_RP.step (pc2 := 24) (ls2 := [(0, .ref 0), (1, .int (nI x2)), (2, .int (nI x12))]) (st2 := []) (w3 := w) rfl rfl ?_
      refine sx_RP.step (pc2 := 25) (ls2 := [(0, .ref 0), (1, .int (nI x2)), (2, .int (nI x12))]) (st2 := [.ref 0]) (w3 := w) rfl rfl ?_
      refine sx_RP.gf (v := .ref 1) rfl rfl hI.1.o0 rfl rfl (show _ = 28 from rfl) ?_
      refine sx_RP.step (pc2 := 29) (ls2 := [(0, .ref 0), (1, .int (nI x2)), (2, .int (nI x12))]) (st2 := [.ref 0, .ref 1]) (w3 := w) rfl rfl ?_
      refine sx_RP.gf (v := .ref 1) rfl rfl hI.1.o0 rfl rfl (show _ = 32 from rfl) ?_
      refine sx_RP.step (pc2 := 33) (ls2 := [(0, .ref 0), (1, .int (nI x2)), (2, .int (nI x12))]) (st2 := [.int (nI x2), .ref 1, .ref 1]) (w3 := w) rfl rfl ?_
      refine sx_RP.step (pc2 := 34) (ls2 := [(0, .ref 0), (1, .int (nI x2)), (2, .int (nI x12))]) (st2 := [.int (nI x12), .int (nI x2), .ref 1, .ref 1]) (w3 := w) rfl rfl ?_
      obtain ⟨v21, c22⟩ := p77 hI (Or.inl rfl) (nI x2) (nI x12)
      refine sx_RP.cu (as := [.ref 1, .int (nI x2), .int (nI x12)]) (rest2 := [.ref 1]) (st3 := [.long v21, .ref 1]) rfl rfl (sx_inv_v2 (mi := 79) (k := 253) (st := [.int (nI x12), .int (nI x2), .ref 1, .ref 1]) (w := w) rfl rfl (hI.1.oC (Or.inl rfl)) rfl rfl rfl) rfl rfl (c22) rfl ?_
      refine sx_RP.callp (as2 := [.ref 1, .long v21]) (rest2 := []) rfl rfl (sx_inv_v2 (mi := 79) (k := 263) (st := [.long v21, .ref 1]) (w := w) rfl rfl (hI.1.oC (Or.inl rfl)) rfl rfl rfl) rfl rfl rfl (s80 hI (Or.inl rfl) v21) (show _ = 40 from rfl) ?_
      rintro r4 w24 ⟨⟨v23, rfl⟩, hI25, hE27⟩
      have hE26 := hE.tr hE27
      show sx_RP _ _ _ _ _ [.int v23] _ _
      refine sx_RP.ret (r := (some (.int v23))) rfl rfl ?_
      exact ⟨⟨_, rfl⟩, hI25, hE26⟩
set_option maxRecDepth 20000 in
set_option maxHeartbeats 4000000 in
theorem s82 {xs : Option (List Int32)} {d : Nat} {w : List sx_C} (hI : WI w) (a1 a2 : Int32) : sx_RP xs (d + 7) 82 0 (lv_args 0 [.ref 0, .int a1, .int a2]) [] w (fun r w2 => (∃ v : Int32, r = some (.int v)) ∧ WI w2 ∧ EC w w2) := by
  have hE : EC w w := EC.rf
  refine sx_RP.step (pc2 := 1) (ls2 := [(0, .ref 0), (1, .int a1), (2, .int a2)]) (st2 := [.int a1]) (w3 := w) rfl rfl ?_
  refine sx_RP.br (p1 := 34) (l1 := [(0, .ref 0), (1, .int a1), (2, .int a2)]) (s1 := []) (v1 := w) (p2 := 4) (l2 := [(0, .ref 0), (1, .int a1), (2, .int a2)]) (s2 := []) (v2 := w) rfl rfl (fun q1 => ?_) (fun q1 => ?_)
  · replace q1 := of_decide_eq_true q1
    refine sx_RP.step (pc2 := 35) (ls2 := [(0, .ref 0), (1, .int a1), (2, .int a2)]) (st2 := [.int a1]) (w3 := w) rfl rfl ?_
    refine sx_RP.step (pc2 := 36) (ls2 := [(0, .ref 0), (1, .int a1), (2, .int a2)]) (st2 := [.int 1, .int a1]) (w3 := w) rfl rfl ?_
    refine sx_RP.br (p1 := 69) (l1 := [(0, .ref 0), (1, .int a1), (2, .int a2)]) (s1 := []) (v1 := w) (p2 := 39) (l2 := [(0, .ref 0), (1, .int a1), (2, .int a2)]) (s2 := []) (v2 := w) rfl rfl (fun q2 => ?_) (fun q2 => ?_)
    · replace q2 := of_decide_eq_true q2
      refine sx_RP.step (pc2 := 70) (ls2 := [(0, .ref 0), (1, .int a1), (2, .int a2)]) (st2 := [.int a1]) (w3 := w) rfl rfl ?_
      refine sx_RP.step (pc2 := 71) (ls2 := [(0, .ref 0), (1, .int a1), (2, .int a2)]) (st2 := [.int 2, .int a1]) (w3 := w) rfl rfl ?_
      refine sx_RP.br (p1 := 103) (l1 := [(0, .ref 0), (1, .int a1), (2, .int a2)]) (s1 := []) (v1 := w) (p2 := 74) (l2 := [(0, .ref 0), (1, .int a1), (2, .int a2)]) (s2 := []) (v2 := w) rfl rfl (fun q3 => ?_) (fun q3 => ?_)
      · replace q3 := of_decide_eq_true q3
        refine sx_RP.step (pc2 := 104) (ls2 := [(0, .ref 0), (1, .int a1), (2, .int a2)]) (st2 := [.ref 0]) (w3 := w) rfl rfl ?_
        refine sx_RP.step (pc2 := 106) (ls2 := [(0, .ref 0), (1, .int a1), (2, .int a2)]) (st2 := [.int (-1000000001), .ref 0]) (w3 := w) rfl rfl ?_
        refine sx_RP.callp (as2 := [.ref 0, .int (-1000000001)]) (rest2 := []) rfl rfl (sx_inv_v2 (mi := 82) (k := 78) (st := [.int (-1000000001), .ref 0]) (w := w) rfl rfl hI.1.o0 rfl rfl rfl) rfl rfl rfl (s9_0 hI) (show _ = 109 from rfl) ?_
        rintro r4 w5 ⟨⟨v4, rfl⟩, hI6, hE8⟩
        have hE7 := hE.tr hE8
        show sx_RP _ _ _ _ _ [.int v4] _ _
        refine sx_RP.step (pc2 := 110) (ls2 := [(3, .int v4), (0, .ref 0), (1, .int a1), (2, .int a2)]) (st2 := []) (w3 := w5) rfl rfl ?_
        refine sx_RP.step (pc2 := 111) (ls2 := [(3, .int v4), (0, .ref 0), (1, .int a1), (2, .int a2)]) (st2 := [.int v4]) (w3 := w5) rfl rfl ?_
        refine sx_RP.ret (r := (some (.int v4))) rfl rfl ?_
        exact ⟨⟨_, rfl⟩, hI6, hE7⟩
      · replace q3 := Decidable.not_not.mp (of_decide_eq_false q3)
        refine sx_RP.step (pc2 := 75) (ls2 := [(0, .ref 0), (1, .int a1), (2, .int a2)]) (st2 := [.int a2]) (w3 := w) rfl rfl ?_
        refine sx_RP.step (pc2 := 76) (ls2 := [(0, .ref 0), (1, .int a1), (2, .int a2)]) (st2 := [.int 1, .int a2]) (w3 := w) rfl rfl ?_
        refine sx_RP.step (pc2 := 78) (ls2 := [(0, .ref 0), (1, .int a1), (2, .int a2)]) (st2 := [.int 99, .int 1, .int a2]) (w3 := w) rfl rfl ?_
        rcases in_cases a2 1 99 (m := 1) (n := 99) rfl rfl (by decide) (by decide) with q9 | ⟨x10, hx11, hx12, rfl⟩
        · refine sx_RP.cu (as := [.int a2, .int 1, .int 99]) (rest2 := []) (st3 := [.int 0]) rfl rfl rfl rfl rfl (cx_8n q9) rfl ?_
          refine sx_RP.step (pc2 := 103) (ls2 := [(0, .ref 0), (1, .int a1), (2, .int a2)]) (st2 := []) (w3 := w) rfl rfl ?_
          refine sx_RP.step (pc2 := 104) (ls2 := [(0, .ref 0), (1, .int a1), (2, .int a2)]) (st2 := [.ref 0]) (w3 := w) rfl rfl ?_
          refine sx_RP.step (pc2 := 106) (ls2 := [(0, .ref 0), (1, .int a1), (2, .int a2)]) (st2 := [.int (-1000000001), .ref 0]) (w3 := w) rfl rfl ?_
          refine sx_RP.callp (as2 := [.ref 0, .int (-1000000001)]) (rest2 := []) rfl rfl (sx_inv_v2 (mi := 82) (k := 78) (st := [.int (-1000000001), .ref 0]) (w := w) rfl rfl hI.1.o0 rfl rfl rfl) rfl rfl rfl (s9_0 hI) (show _ = 109 from rfl) ?_
          rintro r4 w15 ⟨⟨v14, rfl⟩, hI16, hE18⟩
          have hE17 := hE.tr hE18
          show sx_RP _ _ _ _ _ [.int v14] _ _
          refine sx_RP.step (pc2 := 110) (ls2 := [(3, .int v14), (0, .ref 0), (1, .int a1), (2, .int a2)]) (st2 := []) (w3 := w15) rfl rfl ?_
          refine sx_RP.step (pc2 := 111) (ls2 := [(3, .int v14), (0, .ref 0), (1, .int a1), (2, .int a2)]) (st2 := [.int v14]) (w3 := w15) rfl rfl ?_
          refine sx_RP.ret (r := (some (.int v14))) rfl rfl ?_
          exact ⟨⟨_, rfl⟩, hI16, hE17⟩
        · refine sx_RP.cu (as := [.int (nI x10), .int 1, .int 99]) (rest2 := []) (st3 := [.int 1]) rfl rfl rfl rfl rfl (cx_8p ⟨nI_le (a := 1) hx11 (by omega), nI_le (b := 99) hx12 (by decide)⟩) rfl ?_
          refine sx_RP.step (pc2 := 84) (ls2 := [(0, .ref 0), (1, .int a1), (2, .int (nI x10))]) (st2 := []) (w3 := w) rfl rfl ?_
          refine sx_RP.step (pc2 := 85) (ls2 := [(0, .ref 0), (1, .int a1), (2, .int (nI x10))]) (st2 := [.ref 0]) (w3 := w) rfl rfl ?_
          refine sx_RP.gf (v := .ref 1) rfl rfl hI.1.o0 rfl rfl (show _ = 88 from rfl) ?_
          refine sx_RP.gc (k := 10) hI (Or.inl rfl) rfl rfl (by omega) (show _ = 91 from rfl) ?_
          refine sx_RP.step (pc2 := 92) (ls2 := [(3, .int (fi w 1 10)), (0, .ref 0), (1, .int a1), (2, .int (nI x10))]) (st2 := []) (w3 := w) rfl rfl ?_
          refine sx_RP.step (pc2 := 93) (ls2 := [(3, .int (fi w 1 10)), (0, .ref 0), (1, .int a1), (2, .int (nI x10))]) (st2 := [.ref 0]) (w3 := w) rfl rfl ?_
          refine sx_RP.gf (v := .ref 1) rfl rfl hI.1.o0 rfl rfl (show _ = 96 from rfl) ?_
          refine sx_RP.step (pc2 := 97) (ls2 := [(3, .int (fi w 1 10)), (0, .ref 0), (1, .int a1), (2, .int (nI x10))]) (st2 := [.int (nI x10), .ref 1]) (w3 := w) rfl rfl ?_
          refine sx_RP.putc (k := 10) hI hE (Or.inl rfl) rfl rfl (by omega) rfl trivial (show _ = 100 from rfl) (fun w19 hI20 hE21 => ?_)
          refine sx_RP.step (pc2 := 110) (ls2 := [(3, .int (fi w 1 10)), (0, .ref 0), (1, .int a1), (2, .int (nI x10))]) (st2 := []) (w3 := w19) rfl rfl ?_
          refine sx_RP.step (pc2 := 111) (ls2 := [(3, .int (fi w 1 10)), (0, .ref 0), (1, .int a1), (2, .int (nI x10))]) (st2 := [.int (fi w 1 10)]) (w3 := w19) rfl rfl ?_
          refine sx_RP.ret (r := (some (.int (fi w 1 10)))) rfl rfl ?_
          exact ⟨⟨_, rfl⟩, hI20, hE21⟩
    · replace q2 := Decidable.not_not.mp (of_decide_eq_false q2)
      refine sx_RP.step (pc2 := 40) (ls2 := [(0, .ref 0), (1, .int a1), (2, .int a2)]) (st2 := [.int a2]) (w3 := w) rfl rfl ?_
      refine sx_RP.step (pc2 := 41) (ls2 := [(0, .ref 0), (1, .int a1), (2, .int a2)]) (st2 := [.int 1, .int a2]) (w3 := w) rfl rfl ?_
      refine sx_RP.step (pc2 := 44) (ls2 := [(0, .ref 0), (1, .int a1), (2, .int a2)]) (st2 := [.int 999, .int 1, .int a2]) (w3 := w) rfl rfl ?_
      rcases in_cases a2 1 999 (m := 1) (n := 999) rfl rfl (by decide) (by decide) with q22 | ⟨x23, hx24, hx25, rfl⟩
      · refine sx_RP.cu (as := [.int a2, .int 1, .int 999]) (rest2 := []) (st3 := [.int 0]) rfl rfl rfl rfl rfl (cx_8n q22) rfl ?_
        refine sx_RP.step (pc2 := 69) (ls2 := [(0, .ref 0), (1, .int a1), (2, .int a2)]) (st2 := []) (w3 := w) rfl rfl ?_
        refine sx_RP.step (pc2 := 70) (ls2 := [(0, .ref 0), (1, .int a1), (2, .int a2)]) (st2 := [.int a1]) (w3 := w) rfl rfl ?_
        refine sx_RP.step (pc2 := 71) (ls2 := [(0, .ref 0), (1, .int a1), (2, .int a2)]) (st2 := [.int 2, .int a1]) (w3 := w) rfl rfl ?_
        refine sx_RP.br (p1 := 103) (l1 := [(0, .ref 0), (1, .int a1), (2, .int a2)]) (s1 := []) (v1 := w) (p2 := 74) (l2 := [(0, .ref 0), (1, .int a1), (2, .int a2)]) (s2 := []) (v2 := w) rfl rfl (fun q27 => ?_) (fun q27 => ?_)
        · replace q27 := of_decide_eq_true q27
          refine sx_RP.step (pc2 := 104) (ls2 := [(0, .ref 0), (1, .int a1), (2, .int a2)]) (st2 := [.ref 0]) (w3 := w) rfl rfl ?_
          refine sx_RP.step (pc2 := 106) (ls2 := [(0, .ref 0), (1, .int a1), (2, .int a2)]) (st2 := [.int (-1000000001), .ref 0]) (w3 := w) rfl rfl ?_
          refine sx_RP.callp (as2 := [.ref 0, .int (-1000000001)]) (rest2 := []) rfl rfl (sx_inv_v2 (mi := 82) (k := 78) (st := [.int (-1000000001), .ref 0]) (w := w) rfl rfl hI.1.o0 rfl rfl rfl) rfl rfl rfl (s9_0 hI) (show _ = 109 from rfl) ?_
          rintro r4 w29 ⟨⟨v28, rfl⟩, hI30, hE32⟩
          have hE31 := hE.tr hE32
          show sx_RP _ _ _ _ _ [.int v28] _ _
          refine sx_RP.step (pc2 := 110) (ls2 := [(3, .int v28), (0, .ref 0), (1, .int a1), (2, .int a2)]) (st2 := []) (w3 := w29) rfl rfl ?_
          refine sx_RP.step (pc2 := 111) (ls2 := [(3, .int v28), (0, .ref 0), (1, .int a1), (2, .int a2)]) (st2 := [.int v28]) (w3 := w29) rfl rfl ?_
          refine sx_RP.ret (r := (some (.int v28))) rfl rfl ?_
          exact ⟨⟨_, rfl⟩, hI30, hE31⟩
        · replace q27 := Decidable.not_not.mp (of_decide_eq_false q27)
          refine sx_RP.step (pc2 := 75) (ls2 := [(0, .ref 0), (1, .int a1), (2, .int a2)]) (st2 := [.int a2]) (w3 := w) rfl rfl ?_
          refine sx_RP.step (pc2 := 76) (ls2 := [(0, .ref 0), (1, .int a1), (2, .int a2)]) (st2 := [.int 1, .int a2]) (w3 := w) rfl rfl ?_
          refine sx_RP.step (pc2 := 78) (ls2 := [(0, .ref 0), (1, .int a1), (2, .int a2)]) (st2 := [.int 99, .int 1, .int a2]) (w3 := w) rfl rfl ?_
          rcases in_cases a2 1 99 (m := 1) (n := 99) rfl rfl (by decide) (by decide) with q33 | ⟨x34, hx35, hx36, rfl⟩
          · refine sx_RP.cu (as := [.int a2, .int 1, .int 99]) (rest2 := []) (st3 := [.int 0]) rfl rfl rfl rfl rfl (cx_8n q33) rfl ?_
            refine sx_RP.step (pc2 := 103) (ls2 := [(0, .ref 0), (1, .int a1), (2, .int a2)]) (st2 := []) (w3 := w) rfl rfl ?_
            refine sx_RP.step (pc2 := 104) (ls2 := [(0, .ref 0), (1, .int a1), (2, .int a2)]) (st2 := [.ref 0]) (w3 := w) rfl rfl ?_
            refine sx_RP.step (pc2 := 106) (ls2 := [(0, .ref 0), (1, .int a1), (2, .int a2)]) (st2 := [.int (-1000000001), .ref 0]) (w3 := w) rfl rfl ?_
            refine sx_RP.callp (as2 := [.ref 0, .int (-1000000001)]) (rest2 := []) rfl rfl (sx_inv_v2 (mi := 82) (k := 78) (st := [.int (-1000000001), .ref 0]) (w := w) rfl rfl hI.1.o0 rfl rfl rfl) rfl rfl rfl (s9_0 hI) (show _ = 109 from rfl) ?_
            rintro r4 w39 ⟨⟨v38, rfl⟩, hI40, hE42⟩
            have hE41 := hE.tr hE42
            show sx_RP _ _ _ _ _ [.int v38] _ _
            refine sx_RP.step (pc2 := 110) (ls2 := [(3, .int v38), (0, .ref 0), (1, .int a1), (2, .int a2)]) (st2 := []) (w3 := w39) rfl rfl ?_
            refine sx_RP.step (pc2 := 111) (ls2 := [(3, .int v38), (0, .ref 0), (1, .int a1), (2, .int a2)]) (st2 := [.int v38]) (w3 := w39) rfl rfl ?_
            refine sx_RP.ret (r := (some (.int v38))) rfl rfl ?_
            exact ⟨⟨_, rfl⟩, hI40, hE41⟩
          · refine sx_RP.cu (as := [.int (nI x34), .int 1, .int 99]) (rest2 := []) (st3 := [.int 1]) rfl rfl rfl rfl rfl (cx_8p ⟨nI_le (a := 1) hx35 (by omega), nI_le (b := 99) hx36 (by decide)⟩) rfl ?_
            refine sx_RP.step (pc2 := 84) (ls2 := [(0, .ref 0), (1, .int a1), (2, .int (nI x34))]) (st2 := []) (w3 := w) rfl rfl ?_
            refine sx_RP.step (pc2 := 85) (ls2 := [(0, .ref 0), (1, .int a1), (2, .int (nI x34))]) (st2 := [.ref 0]) (w3 := w) rfl rfl ?_
            refine sx_RP.gf (v := .ref 1) rfl rfl hI.1.o0 rfl rfl (show _ = 88 from rfl) ?_
            refine sx_RP.gc (k := 10) hI (Or.inl rfl) rfl rfl (by omega) (show _ = 91 from rfl) ?_
            refine sx_RP.step (pc2 := 92) (ls2 := [(3, .int (fi w 1 10)), (0, .ref 0), (1, .int a1), (2, .int (nI x34))]) (st2 := []) (w3 := w) rfl rfl ?_
            refine sx_RP.step (pc2 := 93) (ls2 := [(3, .int (fi w 1 10)), (0, .ref 0), (1, .int a1), (2, .int (nI x34))]) (st2 := [.ref 0]) (w3 := w) rfl rfl ?_
            refine sx_RP.gf (v := .ref 1) rfl rfl hI.1.o0 rfl rfl (show _ = 96 from rfl) ?_
            refine sx_RP.step (pc2 := 97) (ls2 := [(3, .int (fi w 1 10)), (0, .ref 0), (1, .int a1), (2, .int (nI x34))]) (st2 := [.int (nI x34), .ref 1]) (w3 := w) rfl rfl ?_
            refine sx_RP.putc (k := 10) hI hE (Or.inl rfl) rfl rfl (by omega) rfl trivial (show _ = 100 from rfl) (fun w43 hI44 hE45 => ?_)
            refine sx_RP.step (pc2 := 110) (ls2 := [(3, .int (fi w 1 10)), (0, .ref 0), (1, .int a1), (2, .int (nI x34))]) (st2 := []) (w3 := w43) rfl rfl ?_
            refine sx_RP.step (pc2 := 111) (ls2 := [(3, .int (fi w 1 10)), (0, .ref 0), (1, .int a1), (2, .int (nI x34))]) (st2 := [.int (fi w 1 10)]) (w3 := w43) rfl rfl ?_
            refine sx_RP.ret (r := (some (.int (fi w 1 10)))) rfl rfl ?_
            exact ⟨⟨_, rfl⟩, hI44, hE45⟩
      · refine sx_RP.cu (as := [.int (nI x23), .int 1, .int 999]) (rest2 := []) (st3 := [.int 1]) rfl rfl rfl rfl rfl (cx_8p ⟨nI_le (a := 1) hx24 (by omega), nI_le (b := 999) hx25 (by decide)⟩) rfl ?_
        refine sx_RP.step (pc2 := 50) (ls2 := [(0, .ref 0), (1, .int a1), (2, .int (nI x23))]) (st2 := []) (w3 := w) rfl rfl ?_
        refine sx_RP.step (pc2 := 51) (ls2 := [(0, .ref 0), (1, .int a1), (2, .int (nI x23))]) (st2 := [.ref 0]) (w3 := w) rfl rfl ?_
        refine sx_RP.gf (v := .ref 1) rfl rfl hI.1.o0 rfl rfl (show _ = 54 from rfl) ?_
        refine sx_RP.gc (k := 9) hI (Or.inl rfl) rfl rfl (by omega) (show _ = 57 from rfl) ?_
        refine sx_RP.step (pc2 := 58) (ls2 := [(3, .int (fi w 1 9)), (0, .ref 0), (1, .int a1), (2, .int (nI x23))]) (st2 := []) (w3 := w) rfl rfl ?_
        refine sx_RP.step (pc2 := 59) (ls2 := [(3, .int (fi w 1 9)), (0, .ref 0), (1, .int a1), (2, .int (nI x23))]) (st2 := [.ref 0]) (w3 := w) rfl rfl ?_
        refine sx_RP.gf (v := .ref 1) rfl rfl hI.1.o0 rfl rfl (show _ = 62 from rfl) ?_
        refine sx_RP.step (pc2 := 63) (ls2 := [(3, .int (fi w 1 9)), (0, .ref 0), (1, .int a1), (2, .int (nI x23))]) (st2 := [.int (nI x23), .ref 1]) (w3 := w) rfl rfl ?_
        refine sx_RP.putc (k := 9) hI hE (Or.inl rfl) rfl rfl (by omega) rfl trivial (show _ = 66 from rfl) (fun w46 hI47 hE48 => ?_)
        refine sx_RP.step (pc2 := 110) (ls2 := [(3, .int (fi w 1 9)), (0, .ref 0), (1, .int a1), (2, .int (nI x23))]) (st2 := []) (w3 := w46) rfl rfl ?_
        refine sx_RP.step (pc2 := 111) (ls2 := [(3, .int (fi w 1 9)), (0, .ref 0), (1, .int a1), (2, .int (nI x23))]) (st2 := [.int (fi w 1 9)]) (w3 := w46) rfl rfl ?_
        refine sx_RP.ret (r := (some (.int (fi w 1 9)))) rfl rfl ?_
        exact ⟨⟨_, rfl⟩, hI47, hE48⟩
  · replace q1 := Decidable.not_not.mp (of_decide_eq_false q1)
    refine sx_RP.step (pc2 := 5) (ls2 := [(0, .ref 0), (1, .int a1), (2, .int a2)]) (st2 := [.int a2]) (w3 := w) rfl rfl ?_
    refine sx_RP.step (pc2 := 6) (ls2 := [(0, .ref 0), (1, .int a1), (2, .int a2)]) (st2 := [.int 0, .int a2]) (w3 := w) rfl rfl ?_
    refine sx_RP.step (pc2 := 9) (ls2 := [(0, .ref 0), (1, .int a1), (2, .int a2)]) (st2 := [.int 999999, .int 0, .int a2]) (w3 := w) rfl rfl ?_
    rcases in_cases a2 0 999999 (m := 0) (n := 999999) rfl rfl (by decide) (by decide) with q49 | ⟨x50, hx51, hx52, rfl⟩
    · refine sx_RP.cu (as := [.int a2, .int 0, .int 999999]) (rest2 := []) (st3 := [.int 0]) rfl rfl rfl rfl rfl (cx_8n q49) rfl ?_
      refine sx_RP.step (pc2 := 34) (ls2 := [(0, .ref 0), (1, .int a1), (2, .int a2)]) (st2 := []) (w3 := w) rfl rfl ?_
      refine sx_RP.step (pc2 := 35) (ls2 := [(0, .ref 0), (1, .int a1), (2, .int a2)]) (st2 := [.int a1]) (w3 := w) rfl rfl ?_
      refine sx_RP.step (pc2 := 36) (ls2 := [(0, .ref 0), (1, .int a1), (2, .int a2)]) (st2 := [.int 1, .int a1]) (w3 := w) rfl rfl ?_
      refine sx_RP.br (p1 := 69) (l1 := [(0, .ref 0), (1, .int a1), (2, .int a2)]) (s1 := []) (v1 := w) (p2 := 39) (l2 := [(0, .ref 0), (1, .int a1), (2, .int a2)]) (s2 := []) (v2 := w) rfl rfl (fun q54 => ?_) (fun q54 => ?_)
      · replace q54 := of_decide_eq_true q54
        refine sx_RP.step (pc2 := 70) (ls2 := [(0, .ref 0), (1, .int a1), (2, .int a2)]) (st2 := [.int a1]) (w3 := w) rfl rfl ?_
        refine sx_RP.step (pc2 := 71) (ls2 := [(0, .ref 0), (1, .int a1), (2, .int a2)]) (st2 := [.int 2, .int a1]) (w3 := w) rfl rfl ?_
        refine sx_RP.br (p1 := 103) (l1 := [(0, .ref 0), (1, .int a1), (2, .int a2)]) (s1 := []) (v1 := w) (p2 := 74) (l2 := [(0, .ref 0), (1, .int a1), (2, .int a2)]) (s2 := []) (v2 := w) rfl rfl (fun q55 => ?_) (fun q55 => ?_)
        · replace q55 := of_decide_eq_true q55
          refine sx_RP.step (pc2 := 104) (ls2 := [(0, .ref 0), (1, .int a1), (2, .int a2)]) (st2 := [.ref 0]) (w3 := w) rfl rfl ?_
          refine sx_RP.step (pc2 := 106) (ls2 := [(0, .ref 0), (1, .int a1), (2, .int a2)]) (st2 := [.int (-1000000001), .ref 0]) (w3 := w) rfl rfl ?_
          refine sx_RP.callp (as2 := [.ref 0, .int (-1000000001)]) (rest2 := []) rfl rfl (sx_inv_v2 (mi := 82) (k := 78) (st := [.int (-1000000001), .ref 0]) (w := w) rfl rfl hI.1.o0 rfl rfl rfl) rfl rfl rfl (s9_0 hI) (show _ = 109 from rfl) ?_
          rintro r4 w57 ⟨⟨v56, rfl⟩, hI58, hE60⟩
          have hE59 := hE.tr hE60
          show sx_RP _ _ _ _ _ [.int v56] _ _
          refine sx_RP.step (pc2 := 110) (ls2 := [(3, .int v56), (0, .ref 0), (1, .int a1), (2, .int a2)]) (st2 := []) (w3 := w57) rfl rfl ?_
          refine sx_RP.step (pc2 := 111) (ls2 := [(3, .int v56), (0, .ref 0), (1, .int a1), (2, .int a2)]) (st2 := [.int v56]) (w3 := w57) rfl rfl ?_
          refine sx_RP.ret (r := (some (.int v56))) rfl rfl ?_
          exact ⟨⟨_, rfl⟩, hI58, hE59⟩
        · replace q55 := Decidable.not_not.mp (of_decide_eq_false q55)
          refine sx_RP.step (pc2 := 75) (ls2 := [(0, .ref 0), (1, .int a1), (2, .int a2)]) (st2 := [.int a2]) (w3 := w) rfl rfl ?_
          refine sx_RP.step (pc2 := 76) (ls2 := [(0, .ref 0), (1, .int a1), (2, .int a2)]) (st2 := [.int 1, .int a2]) (w3 := w) rfl rfl ?_
          refine sx_RP.step (pc2 := 78) (ls2 := [(0, .ref 0), (1, .int a1), (2, .int a2)]) (st2 := [.int 99, .int 1, .int a2]) (w3 := w) rfl rfl ?_
          rcases in_cases a2 1 99 (m := 1) (n := 99) rfl rfl (by decide) (by decide) with q61 | ⟨x62, hx63, hx64, rfl⟩
          · refine sx_RP.cu (as := [.int a2, .int 1, .int 99]) (rest2 := []) (st3 := [.int 0]) rfl rfl rfl rfl rfl (cx_8n q61) rfl ?_
            refine sx_RP.step (pc2 := 103) (ls2 := [(0, .ref 0), (1, .int a1), (2, .int a2)]) (st2 := []) (w3 := w) rfl rfl ?_
            refine sx_RP.step (pc2 := 104) (ls2 := [(0, .ref 0), (1, .int a1), (2, .int a2)]) (st2 := [.ref 0]) (w3 := w) rfl rfl ?_
            refine sx_RP.step (pc2 := 106) (ls2 := [(0, .ref 0), (1, .int a1), (2, .int a2)]) (st2 := [.int (-1000000001), .ref 0]) (w3 := w) rfl rfl ?_
            refine sx_RP.callp (as2 := [.ref 0, .int (-1000000001)]) (rest2 := []) rfl rfl (sx_inv_v2 (mi := 82) (k := 78) (st := [.int (-1000000001), .ref 0]) (w := w) rfl rfl hI.1.o0 rfl rfl rfl) rfl rfl rfl (s9_0 hI) (show _ = 109 from rfl) ?_
            rintro r4 w67 ⟨⟨v66, rfl⟩, hI68, hE70⟩
            have hE69 := hE.tr hE70
            show sx_RP _ _ _ _ _ [.int v66] _ _
            refine sx_RP.step (pc2 := 110) (ls2 := [(3, .int v66), (0, .ref 0), (1, .int a1), (2, .int a2)]) (st2 := []) (w3 := w67) rfl rfl ?_
            refine sx_RP.step (pc2 := 111) (ls2 := [(3, .int v66), (0, .ref 0), (1, .int a1), (2, .int a2)]) (st2 := [.int v66]) (w3 := w67) rfl rfl ?_
            refine sx_RP.ret (r := (some (.int v66))) rfl rfl ?_
            exact ⟨⟨_, rfl⟩, hI68, hE69⟩
          · refine sx_RP.cu (as := [.int (nI x62), .int 1, .int 99]) (rest2 := []) (st3 := [.int 1]) rfl rfl rfl rfl rfl (cx_8p ⟨nI_le (a := 1) hx63 (by omega), nI_le (b := 99) hx64 (by decide)⟩) rfl ?_
            refine sx_RP.step (pc2 := 84) (ls2 := [(0, .ref 0), (1, .int a1), (2, .int (nI x62))]) (st2 := []) (w3 := w) rfl rfl ?_
            refine sx_RP.step (pc2 := 85) (ls2 := [(0, .ref 0), (1, .int a1), (2, .int (nI x62))]) (st2 := [.ref 0]) (w3 := w) rfl rfl ?_
            refine sx_RP.gf (v := .ref 1) rfl rfl hI.1.o0 rfl rfl (show _ = 88 from rfl) ?_
            refine sx_RP.gc (k := 10) hI (Or.inl rfl) rfl rfl (by omega) (show _ = 91 from rfl) ?_
            refine sx_RP.step (pc2 := 92) (ls2 := [(3, .int (fi w 1 10)), (0, .ref 0), (1, .int a1), (2, .int (nI x62))]) (st2 := []) (w3 := w) rfl rfl ?_
            refine sx_RP.step (pc2 := 93) (ls2 := [(3, .int (fi w 1 10)), (0, .ref 0), (1, .int a1), (2, .int (nI x62))]) (st2 := [.ref 0]) (w3 := w) rfl rfl ?_
            refine sx_RP.gf (v := .ref 1) rfl rfl hI.1.o0 rfl rfl (show _ = 96 from rfl) ?_
            refine sx_RP.step (pc2 := 97) (ls2 := [(3, .int (fi w 1 10)), (0, .ref 0), (1, .int a1), (2, .int (nI x62))]) (st2 := [.int (nI x62), .ref 1]) (w3 := w) rfl rfl ?_
            refine sx_RP.putc (k := 10) hI hE (Or.inl rfl) rfl rfl (by omega) rfl trivial (show _ = 100 from rfl) (fun w71 hI72 hE73 => ?_)
            refine sx_RP.step (pc2 := 110) (ls2 := [(3, .int (fi w 1 10)), (0, .ref 0), (1, .int a1), (2, .int (nI x62))]) (st2 := []) (w3 := w71) rfl rfl ?_
            refine sx_RP.step (pc2 := 111) (ls2 := [(3, .int (fi w 1 10)), (0, .ref 0), (1, .int a1), (2, .int (nI x62))]) (st2 := [.int (fi w 1 10)]) (w3 := w71) rfl rfl ?_
            refine sx_RP.ret (r := (some (.int (fi w 1 10)))) rfl rfl ?_
            exact ⟨⟨_, rfl⟩, hI72, hE73⟩
      · replace q54 := Decidable.not_not.mp (of_decide_eq_false q54)
        refine sx_RP.step (pc2 := 40) (ls2 := [(0, .ref 0), (1, .int a1), (2, .int a2)]) (st2 := [.int a2]) (w3 := w) rfl rfl ?_
        refine sx_RP.step (pc2 := 41) (ls2 := [(0, .ref 0), (1, .int a1), (2, .int a2)]) (st2 := [.int 1, .int a2]) (w3 := w) rfl rfl ?_
        refine sx_RP.step (pc2 := 44) (ls2 := [(0, .ref 0), (1, .int a1), (2, .int a2)]) (st2 := [.int 999, .int 1, .int a2]) (w3 := w) rfl rfl ?_
        rcases in_cases a2 1 999 (m := 1) (n := 999) rfl rfl (by decide) (by decide) with q74 | ⟨x75, hx76, hx77, rfl⟩
        · refine sx_RP.cu (as := [.int a2, .int 1, .int 999]) (rest2 := []) (st3 := [.int 0]) rfl rfl rfl rfl rfl (cx_8n q74) rfl ?_
          refine sx_RP.step (pc2 := 69) (ls2 := [(0, .ref 0), (1, .int a1), (2, .int a2)]) (st2 := []) (w3 := w) rfl rfl ?_
          refine sx_RP.step (pc2 := 70) (ls2 := [(0, .ref 0), (1, .int a1), (2, .int a2)]) (st2 := [.int a1]) (w3 := w) rfl rfl ?_
          refine sx_RP.step (pc2 := 71) (ls2 := [(0, .ref 0), (1, .int a1), (2, .int a2)]) (st2 := [.int 2, .int a1]) (w3 := w) rfl rfl ?_
          refine sx_RP.br (p1 := 103) (l1 := [(0, .ref 0), (1, .int a1), (2, .int a2)]) (s1 := []) (v1 := w) (p2 := 74) (l2 := [(0, .ref 0), (1, .int a1), (2, .int a2)]) (s2 := []) (v2 := w) rfl rfl (fun q79 => ?_) (fun q79 => ?_)
          · replace q79 := of_decide_eq_true q79
            refine sx_RP.step (pc2 := 104) (ls2 := [(0, .ref 0), (1, .int a1), (2, .int a2)]) (st2 := [.ref 0]) (w3 := w) rfl rfl ?_
            refine sx_RP.step (pc2 := 106) (ls2 := [(0, .ref 0), (1, .int a1), (2, .int a2)]) (st2 := [.int (-1000000001), .ref 0]) (w3 := w) rfl rfl ?_
            refine sx_RP.callp (as2 := [.ref 0, .int (-1000000001)]) (rest2 := []) rfl rfl (sx_inv_v2 (mi := 82) (k := 78) (st := [.int (-1000000001), .ref 0]) (w := w) rfl rfl hI.1.o0 rfl rfl rfl) rfl rfl rfl (s9_0 hI) (show _ = 109 from rfl) ?_
            rintro r4 w81 ⟨⟨v80, rfl⟩, hI82, hE84⟩
            have hE83 := hE.tr hE84
            show sx_RP _ _ _ _ _ [.int v80] _ _
            refine sx_RP.step (pc2 := 110) (ls2 := [(3, .int v80), (0, .ref 0), (1, .int a1), (2, .int a2)]) (st2 := []) (w3 := w81) rfl rfl ?_
            refine sx_RP.step (pc2 := 111) (ls2 := [(3, .int v80), (0, .ref 0), (1, .int a1), (2, .int a2)]) (st2 := [.int v80]) (w3 := w81) rfl rfl ?_
            refine sx_RP.ret (r := (some (.int v80))) rfl rfl ?_
            exact ⟨⟨_, rfl⟩, hI82, hE83⟩
          · replace q79 := Decidable.not_not.mp (of_decide_eq_false q79)
            refine sx_RP.step (pc2 := 75) (ls2 := [(0, .ref 0), (1, .int a1), (2, .int a2)]) (st2 := [.int a2]) (w3 := w) rfl rfl ?_
            refine sx_RP.step (pc2 := 76) (ls2 := [(0, .ref 0), (1, .int a1), (2, .int a2)]) (st2 := [.int 1, .int a2]) (w3 := w) rfl rfl ?_
            refine sx_RP.step (pc2 := 78) (ls2 := [(0, .ref 0), (1, .int a1), (2, .int a2)]) (st2 := [.int 99, .int 1, .int a2]) (w3 := w) rfl rfl ?_
            rcases in_cases a2 1 99 (m := 1) (n := 99) rfl rfl (by decide) (by decide) with q85 | ⟨x86, hx87, hx88, rfl⟩
            · refine sx_RP.cu (as := [.int a2, .int 1, .int 99]) (rest2 := []) (st3 := [.int 0]) rfl rfl rfl rfl rfl (cx_8n q85) rfl ?_
              refine sx_RP.step (pc2 := 103) (ls2 := [(0, .ref 0), (1, .int a1), (2, .int a2)]) (st2 := []) (w3 := w) rfl rfl ?_
              refine sx_RP.step (pc2 := 104) (ls2 := [(0, .ref 0), (1, .int a1), (2, .int a2)]) (st2 := [.ref 0]) (w3 := w) rfl rfl ?_
              refine sx_RP.step (pc2 := 106) (ls2 := [(0, .ref 0), (1, .int a1), (2, .int a2)]) (st2 := [.int (-1000000001), .ref 0]) (w3 := w) rfl rfl ?_
              refine sx_RP.callp (as2 := [.ref 0, .int (-1000000001)]) (rest2 := []) rfl rfl (sx_inv_v2 (mi := 82) (k := 78) (st := [.int (-1000000001), .ref 0]) (w := w) rfl rfl hI.1.o0 rfl rfl rfl) rfl rfl rfl (s9_0 hI) (show _ = 109 from rfl) ?_
              rintro r4 w91 ⟨⟨v90, rfl⟩, hI92, hE94⟩
              have hE93 := hE.tr hE94
              show sx_RP _ _ _ _ _ [.int v90] _ _
              refine sx_RP.step (pc2 := 110) (ls2 := [(3, .int v90), (0, .ref 0), (1, .int a1), (2, .int a2)]) (st2 := []) (w3 := w91) rfl rfl ?_
              refine sx_RP.step (pc2 := 111) (ls2 := [(3, .int v90), (0, .ref 0), (1, .int a1), (2, .int a2)]) (st2 := [.int v90]) (w3 := w91) rfl rfl ?_
              refine sx_RP.ret (r := (some (.int v90))) rfl rfl ?_
              exact ⟨⟨_, rfl⟩, hI92, hE93⟩
            · refine sx_RP.cu (as := [.int (nI x86), .int 1, .int 99]) (rest2 := []) (st3 := [.int 1]) rfl rfl rfl rfl rfl (cx_8p ⟨nI_le (a := 1) hx87 (by omega), nI_le (b := 99) hx88 (by decide)⟩) rfl ?_
              refine sx_RP.step (pc2 := 84) (ls2 := [(0, .ref 0), (1, .int a1), (2, .int (nI x86))]) (st2 := []) (w3 := w) rfl rfl ?_
              refine sx_RP.step (pc2 := 85) (ls2 := [(0, .ref 0), (1, .int a1), (2, .int (nI x86))]) (st2 := [.ref 0]) (w3 := w) rfl rfl ?_
              refine sx_RP.gf (v := .ref 1) rfl rfl hI.1.o0 rfl rfl (show _ = 88 from rfl) ?_
              refine sx_RP.gc (k := 10) hI (Or.inl rfl) rfl rfl (by omega) (show _ = 91 from rfl) ?_
              refine sx_RP.step (pc2 := 92) (ls2 := [(3, .int (fi w 1 10)), (0, .ref 0), (1, .int a1), (2, .int (nI x86))]) (st2 := []) (w3 := w) rfl rfl ?_
              refine sx_RP.step (pc2 := 93) (ls2 := [(3, .int (fi w 1 10)), (0, .ref 0), (1, .int a1), (2, .int (nI x86))]) (st2 := [.ref 0]) (w3 := w) rfl rfl ?_
              refine sx_RP.gf (v := .ref 1) rfl rfl hI.1.o0 rfl rfl (show _ = 96 from rfl) ?_
              refine sx_RP.step (pc2 := 97) (ls2 := [(3, .int (fi w 1 10)), (0, .ref 0), (1, .int a1), (2, .int (nI x86))]) (st2 := [.int (nI x86), .ref 1]) (w3 := w) rfl rfl ?_
              refine sx_RP.putc (k := 10) hI hE (Or.inl rfl) rfl rfl (by omega) rfl trivial (show _ = 100 from rfl) (fun w95 hI96 hE97 => ?_)
              refine sx_RP.step (pc2 := 110) (ls2 := [(3, .int (fi w 1 10)), (0, .ref 0), (1, .int a1), (2, .int (nI x86))]) (st2 := []) (w3 := w95) rfl rfl ?_
              refine sx_RP.step (pc2 := 111) (ls2 := [(3, .int (fi w 1 10)), (0, .ref 0), (1, .int a1), (2, .int (nI x86))]) (st2 := [.int (fi w 1 10)]) (w3 := w95) rfl rfl ?_
              refine sx_RP.ret (r := (some (.int (fi w 1 10)))) rfl rfl ?_
              exact ⟨⟨_, rfl⟩, hI96, hE97⟩
        · refine sx_RP.cu (as := [.int (nI x75), .int 1, .int 999]) (rest2 := []) (st3 := [.int 1]) rfl rfl rfl rfl rfl (cx_8p ⟨nI_le (a := 1) hx76 (by omega), nI_le (b := 999) hx77 (by decide)⟩) rfl ?_
          refine sx_RP.step (pc2 := 50) (ls2 := [(0, .ref 0), (1, .int a1), (2, .int (nI x75))]) (st2 := []) (w3 := w) rfl rfl ?_
          refine sx_RP.step (pc2 := 51) (ls2 := [(0, .ref 0), (1, .int a1), (2, .int (nI x75))]) (st2 := [.ref 0]) (w3 := w) rfl rfl ?_
          refine sx_RP.gf (v := .ref 1) rfl rfl hI.1.o0 rfl rfl (show _ = 54 from rfl) ?_
          refine sx_RP.gc (k := 9) hI (Or.inl rfl) rfl rfl (by omega) (show _ = 57 from rfl) ?_
          refine sx_RP.step (pc2 := 58) (ls2 := [(3, .int (fi w 1 9)), (0, .ref 0), (1, .int a1), (2, .int (nI x75))]) (st2 := []) (w3 := w) rfl rfl ?_
          refine sx_RP.step (pc2 := 59) (ls2 := [(3, .int (fi w 1 9)), (0, .ref 0), (1, .int a1), (2, .int (nI x75))]) (st2 := [.ref 0]) (w3 := w) rfl rfl ?_
          refine sx_RP.gf (v := .ref 1) rfl rfl hI.1.o0 rfl rfl (show _ = 62 from rfl) ?_
          refine sx_RP.step (pc2 := 63) (ls2 := [(3, .int (fi w 1 9)), (0, .ref 0), (1, .int a1), (2, .int (nI x75))]) (st2 := [.int (nI x75), .ref 1]) (w3 := w) rfl rfl ?_
          refine sx_RP.putc (k := 9) hI hE (Or.inl rfl) rfl rfl (by omega) rfl trivial (show _ = 66 from rfl) (fun w98 hI99 hE100 => ?_)
          refine sx_RP.step (pc2 := 110) (ls2 := [(3, .int (fi w 1 9)), (0, .ref 0), (1, .int a1), (2, .int (nI x75))]) (st2 := []) (w3 := w98) rfl rfl ?_
          refine sx_RP.step (pc2 := 111) (ls2 := [(3, .int (fi w 1 9)), (0, .ref 0), (1, .int a1), (2, .int (nI x75))]) (st2 := [.int (fi w 1 9)]) (w3 := w98) rfl rfl ?_
          refine sx_RP.ret (r := (some (.int (fi w 1 9)))) rfl rfl ?_
          exact ⟨⟨_, rfl⟩, hI99, hE100⟩
    · refine sx_RP.cu (as := [.int (nI x50), .int 0, .int 999999]) (rest2 := []) (st3 := [.int 1]) rfl rfl rfl rfl rfl (cx_8p ⟨nI_le (a := 0) hx51 (by omega), nI_le (b := 999999) hx52 (by decide)⟩) rfl ?_
      refine sx_RP.step (pc2 := 15) (ls2 := [(0, .ref 0), (1, .int a1), (2, .int (nI x50))]) (st2 := []) (w3 := w) rfl rfl ?_
      refine sx_RP.step (pc2 := 16) (ls2 := [(0, .ref 0), (1, .int a1), (2, .int (nI x50))]) (st2 := [.ref 0]) (w3 := w) rfl rfl ?_
      refine sx_RP.gf (v := .ref 1) rfl rfl hI.1.o0 rfl rfl (show _ = 19 from rfl) ?_
      refine sx_RP.gc (k := 8) hI (Or.inl rfl) rfl rfl (by omega) (show _ = 22 from rfl) ?_
      refine sx_RP.step (pc2 := 23) (ls2 := [(3, .int (fi w 1 8)), (0, .ref 0), (1, .int a1), (2, .int (nI x50))]) (st2 := []) (w3 := w) rfl rfl ?_
      refine sx_RP.step (pc2 := 24) (ls2 := [(3, .int (fi w 1 8)), (0, .ref 0), (1, .int a1), (2, .int (nI x50))]) (st2 := [.ref 0]) (w3 := w) rfl rfl ?_
      refine sx_RP.gf (v := .ref 1) rfl rfl hI.1.o0 rfl rfl (show _ = 27 from rfl) ?_
      refine sx_RP.step (pc2 := 28) (ls2 := [(3, .int (fi w 1 8)), (0, .ref 0), (1, .int a1), (2, .int (nI x50))]) (st2 := [.int (nI x50), .ref 1]) (w3 := w) rfl rfl ?_
      refine sx_RP.putc (k := 8) hI hE (Or.inl rfl) rfl rfl (by omega) rfl trivial (show _ = 31 from rfl) (fun w101 hI102 hE103 => ?_)
      refine sx_RP.step (pc2 := 110) (ls2 := [(3, .int (fi w 1 8)), (0, .ref 0), (1, .int a1), (2, .int (nI x50))]) (st2 := []) (w3 := w101) rfl rfl ?_
      refine sx_RP.step (pc2 := 111) (ls2 := [(3, .int (fi w 1 8)), (0, .ref 0), (1, .int a1), (2, .int (nI x50))]) (st2 := [.int (fi w 1 8)]) (w3 := w101) rfl rfl ?_
      refine sx_RP.ret (r := (some (.int (fi w 1 8)))) rfl rfl ?_
      exact ⟨⟨_, rfl⟩, hI102, hE103⟩
set_option maxRecDepth 20000 in
set_option maxHeartbeats 4000000 in
theorem s83 {xs : Option (List Int32)} {d : Nat} {w : List sx_C} (hI : WI w) : sx_RP xs (d + 7) 83 0 (lv_args 0 [.ref 0]) [] w (fun r w2 => (∃ v : Int32, r = some (.int v)) ∧ WI w2 ∧ EC w w2) := by
  have hE : EC w w := EC.rf
  refine sx_RP.step (pc2 := 1) (ls2 := [(0, .ref 0)]) (st2 := [.ref 0]) (w3 := w) rfl rfl ?_
  refine sx_RP.gf (v := .ref 1) rfl rfl hI.1.o0 rfl rfl (show _ = 4 from rfl) ?_
  refine sx_RP.step (pc2 := 5) (ls2 := [(0, .ref 0)]) (st2 := [.ref 0, .ref 1]) (w3 := w) rfl rfl ?_
  refine sx_RP.gf (v := .ref 1) rfl rfl hI.1.o0 rfl rfl (show _ = 8 from rfl) ?_
  refine sx_RP.gc (k := 10) hI (Or.inl rfl) rfl rfl (by omega) (show _ = 11 from rfl) ?_
  obtain ⟨v1, c2⟩ := p84 hI (Or.inl rfl) (fi w 1 10)
  refine sx_RP.cu (as := [.ref 1, .int (fi w 1 10)]) (rest2 := []) (st3 := [.int v1]) rfl rfl (sx_inv_v2 (mi := 83) (k := 276) (st := [.int (fi w 1 10), .ref 1]) (w := w) rfl rfl (hI.1.oC (Or.inl rfl)) rfl rfl rfl) rfl rfl (c2) rfl ?_
  refine sx_RP.ret (r := (some (.int v1))) rfl rfl ?_
  exact ⟨⟨_, rfl⟩, hI, hE⟩
set_option maxRecDepth 20000 in
set_option maxHeartbeats 4000000 in
theorem s127 {xs : Option (List Int32)} {d : Nat} {w : List sx_C} (hI : WI w) (a1 : Int32) : sx_RP xs (d + 7) 127 0 (lv_args 0 [.ref 0, .int a1]) [] w (fun r w2 => (∃ v : Int32, r = some (.int v)) ∧ WI w2 ∧ EC w w2) := by
  have hE : EC w w := EC.rf
  refine sx_RP.step (pc2 := 1) (ls2 := [(0, .ref 0), (1, .int a1)]) (st2 := [.int a1]) (w3 := w) rfl rfl ?_
  rcases sw_cases (n := 6) (a1) with q1 | ⟨x2, hx3, ex4⟩
  · refine sx_RP.swo (t := 103) rfl q1 rfl ?_
    refine sx_RP.step (pc2 := 104) (ls2 := [(0, .ref 0), (1, .int a1)]) (st2 := [.ref 0]) (w3 := w) rfl rfl ?_
    refine sx_RP.step (pc2 := 106) (ls2 := [(0, .ref 0), (1, .int a1)]) (st2 := [.int (-1000000001), .ref 0]) (w3 := w) rfl rfl ?_
    refine sx_RP.callp (as2 := [.ref 0, .int (-1000000001)]) (rest2 := []) rfl rfl (sx_inv_v2 (mi := 127) (k := 78) (st := [.int (-1000000001), .ref 0]) (w := w) rfl rfl hI.1.o0 rfl rfl rfl) rfl rfl rfl (s9_0 hI) (show _ = 109 from rfl) ?_
    rintro r4 w6 ⟨⟨v5, rfl⟩, hI7, hE9⟩
    have hE8 := hE.tr hE9
    show sx_RP _ _ _ _ _ [.int v5] _ _
    refine sx_RP.ret (r := (some (.int v5))) rfl rfl ?_
    exact ⟨⟨_, rfl⟩, hI7, hE8⟩
  · rw [ex4]
    rcases (show x2 = 0 ∨ x2 = 1 ∨ x2 = 2 ∨ x2 = 3 ∨ x2 = 4 ∨ x2 = 5 ∨ x2 = 6 by omega) with rfl | rfl | rfl | rfl | rfl | rfl | rfl
    · refine sx_RP.step (pc2 := 44) (ls2 := [(0, .ref 0), (1, .int (nI 0))]) (st2 := []) (w3 := w) rfl rfl ?_
      refine sx_RP.step (pc2 := 45) (ls2 := [(0, .ref 0), (1, .int (nI 0))]) (st2 := [.ref 0]) (w3 := w) rfl rfl ?_
      refine sx_RP.gf (v := .ref 1) rfl rfl hI.1.o0 rfl rfl (show _ = 48 from rfl) ?_
      refine sx_RP.gc (k := 3) hI (Or.inl rfl) rfl rfl (by omega) (show _ = 51 from rfl) ?_
      obtain ⟨x10, hx11, ex12⟩ : inR (fi w 1 3) 10 := (hI.c (Or.inl rfl)).1
      rw [ex12]
      refine sx_RP.ret (r := (some (.int (nI x10)))) rfl rfl ?_
      exact ⟨⟨_, rfl⟩, hI, hE⟩
    · refine sx_RP.step (pc2 := 52) (ls2 := [(0, .ref 0), (1, .int (nI 1))]) (st2 := []) (w3 := w) rfl rfl ?_
      refine sx_RP.step (pc2 := 53) (ls2 := [(0, .ref 0), (1, .int (nI 1))]) (st2 := [.ref 0]) (w3 := w) rfl rfl ?_
      refine sx_RP.gf (v := .ref 1) rfl rfl hI.1.o0 rfl rfl (show _ = 56 from rfl) ?_
      refine sx_RP.gc (k := 5) hI (Or.inl rfl) rfl rfl (by omega) (show _ = 59 from rfl) ?_
      obtain ⟨x13, hx14, ex15⟩ : inR (fi w 1 5) 9 := (hI.c (Or.inl rfl)).2
      rw [ex15]
      refine sx_RP.ret (r := (some (.int (nI x13)))) rfl rfl ?_
      exact ⟨⟨_, rfl⟩, hI, hE⟩
    · refine sx_RP.step (pc2 := 60) (ls2 := [(0, .ref 0), (1, .int (nI 2))]) (st2 := []) (w3 := w) rfl rfl ?_
      refine sx_RP.step (pc2 := 61) (ls2 := [(0, .ref 0), (1, .int (nI 2))]) (st2 := [.ref 0]) (w3 := w) rfl rfl ?_
      refine sx_RP.gf (v := .ref 1) rfl rfl hI.1.o0 rfl rfl (show _ = 64 from rfl) ?_
      refine sx_RP.gw hI (Or.inl rfl) rfl rfl (show _ = 67 from rfl) ?_
      obtain ⟨v16, c17⟩ := p78 hI (fj w 1 1)
      refine sx_RP.cu (as := [.long (fj w 1 1)]) (rest2 := []) (st3 := [.int v16]) rfl rfl rfl rfl rfl (c17) rfl ?_
      refine sx_RP.ret (r := (some (.int v16))) rfl rfl ?_
      exact ⟨⟨_, rfl⟩, hI, hE⟩
    · refine sx_RP.step (pc2 := 71) (ls2 := [(0, .ref 0), (1, .int (nI 3))]) (st2 := []) (w3 := w) rfl rfl ?_
      refine sx_RP.step (pc2 := 72) (ls2 := [(0, .ref 0), (1, .int (nI 3))]) (st2 := [.ref 0]) (w3 := w) rfl rfl ?_
      refine sx_RP.gf (v := .ref 96) rfl rfl hI.1.o0 rfl rfl (show _ = 75 from rfl) ?_
      refine sx_RP.gt (k := 1) hI rfl rfl (by decide) (show _ = 78 from rfl) ?_
      obtain ⟨x18, hx19, ex20⟩ : inR (fi w 96 1) 120 := hI.t.1
      rw [ex20]
      refine sx_RP.ret (r := (some (.int (nI x18)))) rfl rfl ?_
      exact ⟨⟨_, rfl⟩, hI, hE⟩
    · refine sx_RP.step (pc2 := 79) (ls2 := [(0, .ref 0), (1, .int (nI 4))]) (st2 := []) (w3 := w) rfl rfl ?_
      refine sx_RP.step (pc2 := 80) (ls2 := [(0, .ref 0), (1, .int (nI 4))]) (st2 := [.ref 0]) (w3 := w) rfl rfl ?_
      refine sx_RP.gf (v := .ref 1) rfl rfl hI.1.o0 rfl rfl (show _ = 83 from rfl) ?_
      refine sx_RP.gc (k := 8) hI (Or.inl rfl) rfl rfl (by omega) (show _ = 86 from rfl) ?_
      refine sx_RP.ret (r := (some (.int (fi w 1 8)))) rfl rfl ?_
      exact ⟨⟨_, rfl⟩, hI, hE⟩
    · refine sx_RP.step (pc2 := 87) (ls2 := [(0, .ref 0), (1, .int (nI 5))]) (st2 := []) (w3 := w) rfl rfl ?_
      refine sx_RP.step (pc2 := 88) (ls2 := [(0, .ref 0), (1, .int (nI 5))]) (st2 := [.ref 0]) (w3 := w) rfl rfl ?_
      refine sx_RP.gf (v := .ref 1) rfl rfl hI.1.o0 rfl rfl (show _ = 91 from rfl) ?_
      refine sx_RP.gc (k := 9) hI (Or.inl rfl) rfl rfl (by omega) (show _ = 94 from rfl) ?_
      refine sx_RP.ret (r := (some (.int (fi w 1 9)))) rfl rfl ?_
      exact ⟨⟨_, rfl⟩, hI, hE⟩
    · refine sx_RP.step (pc2 := 95) (ls2 := [(0, .ref 0), (1, .int (nI 6))]) (st2 := []) (w3 := w) rfl rfl ?_
      refine sx_RP.step (pc2 := 96) (ls2 := [(0, .ref 0), (1, .int (nI 6))]) (st2 := [.ref 0]) (w3 := w) rfl rfl ?_
      refine sx_RP.gf (v := .ref 1) rfl rfl hI.1.o0 rfl rfl (show _ = 99 from rfl) ?_
      refine sx_RP.gc (k := 10) hI (Or.inl rfl) rfl rfl (by omega) (show _ = 102 from rfl) ?_
      refine sx_RP.ret (r := (some (.int (fi w 1 10)))) rfl rfl ?_
      exact ⟨⟨_, rfl⟩, hI, hE⟩
set_option maxRecDepth 20000 in
set_option maxHeartbeats 4000000 in
theorem s115 {xs : Option (List Int32)} {d : Nat} {w : List sx_C} (hI : WI w) (a1 a2 : Int32) (v : Int64) : sx_RP xs (d + 7) 115 0 (lv_args 0 [.ref 0, .int a1, .int a2, .long v]) [] w (fun r w2 => (∃ v : Int64, r = some (.long v)) ∧ WI w2 ∧ EC w w2) := by
  have hE : EC w w := EC.rf
  refine sx_RP.step (pc2 := 1) (ls2 := [(0, .ref 0), (1, .int a1), (2, .int a2), (3, .long v)]) (st2 := [.int a1]) (w3 := w) rfl rfl ?_
  rcases in_cases a1 0 3 (m := 0) (n := 3) rfl rfl (by decide) (by decide) with q1 | ⟨x2, hx3, hx4, rfl⟩
  · refine sx_RP.cu (as := [.int a1]) (rest2 := []) (st3 := [.int 0]) rfl rfl rfl rfl rfl (cx_112n q1) rfl ?_
    refine sx_RP.step (pc2 := 7) (ls2 := [(0, .ref 0), (1, .int a1), (2, .int a2), (3, .long v)]) (st2 := []) (w3 := w) rfl rfl ?_
    refine sx_RP.step (pc2 := 8) (ls2 := [(0, .ref 0), (1, .int a1), (2, .int a2), (3, .long v)]) (st2 := [.ref 0]) (w3 := w) rfl rfl ?_
    refine sx_RP.step (pc2 := 10) (ls2 := [(0, .ref 0), (1, .int a1), (2, .int a2), (3, .long v)]) (st2 := [.int (-1000000001), .ref 0]) (w3 := w) rfl rfl ?_
    refine sx_RP.callp (as2 := [.ref 0, .int (-1000000001)]) (rest2 := []) rfl rfl (sx_inv_v2 (mi := 115) (k := 78) (st := [.int (-1000000001), .ref 0]) (w := w) rfl rfl hI.1.o0 rfl rfl rfl) rfl rfl rfl (s9_0 hI) (show _ = 13 from rfl) ?_
    rintro r4 w7 ⟨⟨v6, rfl⟩, hI8, hE10⟩
    have hE9 := hE.tr hE10
    show sx_RP _ _ _ _ _ [.int v6] _ _
    refine sx_RP.step (pc2 := 14) (ls2 := [(0, .ref 0), (1, .int a1), (2, .int a2), (3, .long v)]) (st2 := [.long v6.toInt64]) (w3 := w7) rfl rfl ?_
    refine sx_RP.ret (r := (some (.long v6.toInt64))) rfl rfl ?_
    exact ⟨⟨_, rfl⟩, hI8, hE9⟩
  · refine sx_RP.cu (as := [.int (nI x2)]) (rest2 := []) (st3 := [.int 1]) rfl rfl rfl rfl rfl (cx_112p ⟨nI_le (a := 0) hx3 (by omega), nI_le (b := 3) hx4 (by decide)⟩) rfl ?_
    refine sx_RP.step (pc2 := 15) (ls2 := [(0, .ref 0), (1, .int (nI x2)), (2, .int a2), (3, .long v)]) (st2 := []) (w3 := w) rfl rfl ?_
    refine sx_RP.step (pc2 := 16) (ls2 := [(0, .ref 0), (1, .int (nI x2)), (2, .int a2), (3, .long v)]) (st2 := [.ref 0]) (w3 := w) rfl rfl ?_
    refine sx_RP.gf (v := .ref 98) rfl rfl hI.1.o0 rfl rfl (show _ = 19 from rfl) ?_
    refine sx_RP.step (pc2 := 20) (ls2 := [(0, .ref 0), (1, .int (nI x2)), (2, .int a2), (3, .long v)]) (st2 := [.int (nI x2), .ref 98]) (w3 := w) rfl rfl ?_
    refine sx_RP.ald (v := .ref (103 + 2 * x2)) rfl hI.1.a98 rfl (shA_at (show x2 < 4 by omega)) (show _ = 21 from rfl) ?_
    refine sx_RP.step (pc2 := 23) (ls2 := [(5, .ref (103 + 2 * x2)), (0, .ref 0), (1, .int (nI x2)), (2, .int a2), (3, .long v)]) (st2 := []) (w3 := w) rfl rfl ?_
    refine sx_RP.step (pc2 := 25) (ls2 := [(5, .ref (103 + 2 * x2)), (0, .ref 0), (1, .int (nI x2)), (2, .int a2), (3, .long v)]) (st2 := [.ref (103 + 2 * x2)]) (w3 := w) rfl rfl ?_
    obtain ⟨x11, hx12, c13⟩ := p116 hI (show x2 < 4 by omega)
    refine sx_RP.cu (as := [.ref (103 + 2 * x2)]) (rest2 := []) (st3 := [.int (nI x11)]) rfl rfl (sx_inv_v2 (mi := 115) (k := 310) (st := [.ref (103 + 2 * x2)]) (w := w) rfl rfl (hI.1.oS (show x2 < 4 by omega)) rfl rfl rfl) rfl rfl (c13) rfl ?_
    refine sx_RP.br (p1 := 40) (l1 := [(5, .ref (103 + 2 * x2)), (0, .ref 0), (1, .int (nI x2)), (2, .int a2), (3, .long v)]) (s1 := []) (v1 := w) (p2 := 31) (l2 := [(5, .ref (103 + 2 * x2)), (0, .ref 0), (1, .int (nI x2)), (2, .int a2), (3, .long v)]) (s2 := []) (v2 := w) rfl rfl (fun q14 => ?_) (fun q14 => ?_)
    · replace q14 := of_decide_eq_true q14
      replace q14 := (nI_eq (a := x11) (b := 0) (by omega) (by omega)).mp q14
      refine sx_RP.step (pc2 := 41) (ls2 := [(5, .ref (103 + 2 * x2)), (0, .ref 0), (1, .int (nI x2)), (2, .int a2), (3, .long v)]) (st2 := [.int a2]) (w3 := w) rfl rfl ?_
      refine sx_RP.step (pc2 := 42) (ls2 := [(5, .ref (103 + 2 * x2)), (0, .ref 0), (1, .int (nI x2)), (2, .int a2), (3, .long v)]) (st2 := [.int 0, .int a2]) (w3 := w) rfl rfl ?_
      refine sx_RP.step (pc2 := 44) (ls2 := [(5, .ref (103 + 2 * x2)), (0, .ref 0), (1, .int (nI x2)), (2, .int a2), (3, .long v)]) (st2 := [.ref (103 + 2 * x2), .int 0, .int a2]) (w3 := w) rfl rfl ?_
      refine sx_RP.gf (v := .int (fi w (103 + 2 * x2) 2)) rfl rfl (hI.1.oS (show x2 < 4 by omega)) rfl rfl (show _ = 47 from rfl) ?_
      obtain ⟨x15, hx16, ex17⟩ : inR (fi w (103 + 2 * x2) 2) 40 := hI.sh (show x2 < 4 by omega)
      rw [ex17]
      refine sx_RP.step (pc2 := 48) (ls2 := [(5, .ref (103 + 2 * x2)), (0, .ref 0), (1, .int (nI x2)), (2, .int a2), (3, .long v)]) (st2 := [.int 1, .int (nI x15), .int 0, .int a2]) (w3 := w) rfl rfl ?_
      refine sx_RP.step (pc2 := 49) (ls2 := [(5, .ref (103 + 2 * x2)), (0, .ref 0), (1, .int (nI x2)), (2, .int a2), (3, .long v)]) (st2 := [.int ((nI x15) - 1), .int 0, .int a2]) (w3 := w) rfl rfl ?_
      rcases in_casesS a2 (n := x15) (by omega) with q18 | ⟨q18, x19, hx20, rfl⟩
      · refine sx_RP.cu (as := [.int a2, .int 0, .int ((nI x15) - 1)]) (rest2 := []) (st3 := [.int 0]) rfl rfl rfl rfl rfl (cx_8n q18) rfl ?_
        refine sx_RP.step (pc2 := 55) (ls2 := [(5, .ref (103 + 2 * x2)), (0, .ref 0), (1, .int (nI x2)), (2, .int a2), (3, .long v)]) (st2 := []) (w3 := w) rfl rfl ?_
        refine sx_RP.step (pc2 := 56) (ls2 := [(5, .ref (103 + 2 * x2)), (0, .ref 0), (1, .int (nI x2)), (2, .int a2), (3, .long v)]) (st2 := [.ref 0]) (w3 := w) rfl rfl ?_
        refine sx_RP.step (pc2 := 58) (ls2 := [(5, .ref (103 + 2 * x2)), (0, .ref 0), (1, .int (nI x2)), (2, .int a2), (3, .long v)]) (st2 := [.int (-1000000001), .ref 0]) (w3 := w) rfl rfl ?_
        refine sx_RP.callp (as2 := [.ref 0, .int (-1000000001)]) (rest2 := []) rfl rfl (sx_inv_v2 (mi := 115) (k := 78) (st := [.int (-1000000001), .ref 0]) (w := w) rfl rfl hI.1.o0 rfl rfl rfl) rfl rfl rfl (s9_0 hI) (show _ = 61 from rfl) ?_
        rintro r4 w23 ⟨⟨v22, rfl⟩, hI24, hE26⟩
        have hE25 := hE.tr hE26
        show sx_RP _ _ _ _ _ [.int v22] _ _
        refine sx_RP.step (pc2 := 62) (ls2 := [(5, .ref (103 + 2 * x2)), (0, .ref 0), (1, .int (nI x2)), (2, .int a2), (3, .long v)]) (st2 := [.long v22.toInt64]) (w3 := w23) rfl rfl ?_
        refine sx_RP.ret (r := (some (.long v22.toInt64))) rfl rfl ?_
        exact ⟨⟨_, rfl⟩, hI24, hE25⟩
      · refine sx_RP.cu (as := [.int (nI x19), .int 0, .int ((nI x15) - 1)]) (rest2 := []) (st3 := [.int 1]) rfl rfl rfl rfl rfl (cx_8p q18) rfl ?_
        refine sx_RP.step (pc2 := 63) (ls2 := [(5, .ref (103 + 2 * x2)), (0, .ref 0), (1, .int (nI x2)), (2, .int (nI x19)), (3, .long v)]) (st2 := []) (w3 := w) rfl rfl ?_
        refine sx_RP.step (pc2 := 65) (ls2 := [(5, .ref (103 + 2 * x2)), (0, .ref 0), (1, .int (nI x2)), (2, .int (nI x19)), (3, .long v)]) (st2 := [.ref (103 + 2 * x2)]) (w3 := w) rfl rfl ?_
        refine sx_RP.gf (v := .ref (104 + 2 * x2)) rfl rfl (hI.1.oS (show x2 < 4 by omega)) rfl rfl (show _ = 68 from rfl) ?_
        refine sx_RP.step (pc2 := 69) (ls2 := [(5, .ref (103 + 2 * x2)), (0, .ref 0), (1, .int (nI x2)), (2, .int (nI x19)), (3, .long v)]) (st2 := [.int (nI x19), .ref (104 + 2 * x2)]) (w3 := w) rfl rfl ?_
        refine sx_RP.lld (c := x19) rfl (hI.1.aN (show x2 < 4 by omega)).1 (hI.1.aN (show x2 < 4 by omega)).2 (sx_in_nI (show x19 < 40 by omega) (by decide)) (show (nI x19).toNatClampNeg = x19 from nI_clamp (by omega)) (show _ = 70 from rfl) ?_
        refine sx_RP.step (pc2 := 72) (ls2 := [(6, .long ((ja w (104 + 2 * x2)).getD x19 0)), (5, .ref (103 + 2 * x2)), (0, .ref 0), (1, .int (nI x2)), (2, .int (nI x19)), (3, .long v)]) (st2 := []) (w3 := w) rfl rfl ?_
        refine sx_RP.step (pc2 := 74) (ls2 := [(6, .long ((ja w (104 + 2 * x2)).getD x19 0)), (5, .ref (103 + 2 * x2)), (0, .ref 0), (1, .int (nI x2)), (2, .int (nI x19)), (3, .long v)]) (st2 := [.ref (103 + 2 * x2)]) (w3 := w) rfl rfl ?_
        refine sx_RP.step (pc2 := 75) (ls2 := [(6, .long ((ja w (104 + 2 * x2)).getD x19 0)), (5, .ref (103 + 2 * x2)), (0, .ref 0), (1, .int (nI x2)), (2, .int (nI x19)), (3, .long v)]) (st2 := [.int (nI x19), .ref (103 + 2 * x2)]) (w3 := w) rfl rfl ?_
        refine sx_RP.step (pc2 := 76) (ls2 := [(6, .long ((ja w (104 + 2 * x2)).getD x19 0)), (5, .ref (103 + 2 * x2)), (0, .ref 0), (1, .int (nI x2)), (2, .int (nI x19)), (3, .long v)]) (st2 := [.long v, .int (nI x19), .ref (103 + 2 * x2)]) (w3 := w) rfl rfl ?_
        refine sx_RP.callp (as2 := [.ref (103 + 2 * x2), .int (nI x19), .long v]) (rest2 := []) rfl rfl (sx_inv_v2 (mi := 115) (k := 318) (st := [.long v, .int (nI x19), .ref (103 + 2 * x2)]) (w := w) rfl rfl (hI.1.oS (show x2 < 4 by omega)) rfl rfl rfl) rfl rfl rfl (s117 hI (show x2 < 4 by omega) (show x19 < 40 by omega) v) (show _ = 79 from rfl) ?_
        rintro r4 w27 ⟨rfl, hI28, hE30⟩
        have hE29 := hE.tr hE30
        show sx_RP _ _ _ _ _ [] _ _
        refine sx_RP.step (pc2 := 81) (ls2 := [(6, .long ((ja w (104 + 2 * x2)).getD x19 0)), (5, .ref (103 + 2 * x2)), (0, .ref 0), (1, .int (nI x2)), (2, .int (nI x19)), (3, .long v)]) (st2 := [.long ((ja w (104 + 2 * x2)).getD x19 0)]) (w3 := w27) rfl rfl ?_
        refine sx_RP.ret (r := (some (.long ((ja w (104 + 2 * x2)).getD x19 0)))) rfl rfl ?_
        exact ⟨⟨_, rfl⟩, hI28, hE29⟩
    · replace q14 := of_decide_eq_false q14
      replace q14 := mt (nI_eq (a := x11) (b := 0) (by omega) (by omega)).mpr q14
      refine sx_RP.step (pc2 := 32) (ls2 := [(5, .ref (103 + 2 * x2)), (0, .ref 0), (1, .int (nI x2)), (2, .int a2), (3, .long v)]) (st2 := [.ref 0]) (w3 := w) rfl rfl ?_
      refine sx_RP.step (pc2 := 35) (ls2 := [(5, .ref (103 + 2 * x2)), (0, .ref 0), (1, .int (nI x2)), (2, .int a2), (3, .long v)]) (st2 := [.int (-1000000006), .ref 0]) (w3 := w) rfl rfl ?_
      refine sx_RP.callp (as2 := [.ref 0, .int (-1000000006)]) (rest2 := []) rfl rfl (sx_inv_v2 (mi := 115) (k := 78) (st := [.int (-1000000006), .ref 0]) (w := w) rfl rfl hI.1.o0 rfl rfl rfl) rfl rfl rfl (s9_5 hI) (show _ = 38 from rfl) ?_
      rintro r4 w32 ⟨⟨v31, rfl⟩, hI33, hE35⟩
      have hE34 := hE.tr hE35
      show sx_RP _ _ _ _ _ [.int v31] _ _
      refine sx_RP.step (pc2 := 39) (ls2 := [(5, .ref (103 + 2 * x2)), (0, .ref 0), (1, .int (nI x2)), (2, .int a2), (3, .long v)]) (st2 := [.long v31.toInt64]) (w3 := w32) rfl rfl ?_
      refine sx_RP.ret (r := (some (.long v31.toInt64))) rfl rfl ?_
      exact ⟨⟨_, rfl⟩, hI33, hE34⟩
