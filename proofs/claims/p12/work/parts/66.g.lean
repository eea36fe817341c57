-- 66.farM.lean.txt
section
-- safety: far, comes, peas, meets of the reference
/-- behind walks by sound -/
def wOK (w : List sx_C) (src : Nat) (w2 : List sx_C) : Prop := ia w2 112 = ia w 112 ∧ wA (ia w 112) src 1000 (ia w2 117) ∧ ∀ c, c < 48 → (ia w2 117).getD c 0 ≠ -1
theorem wOK.at {w w2 : List sx_C} {src c : Nat} (h : wOK w src w2) (hc : c < 48) : inR ((ia w2 117).getD c 0) 1000 := by
  rcases h.2.1 c hc with e | ⟨v, h1, h2, _⟩
  · exact absurd e (h.2.2 c hc)
  · exact ⟨v, h1, h2⟩
theorem s141t {xs : Option (List Int32)} {d : Nat} {w : List sx_C} (hI : WI w) {src : Nat} (hs : src < 48) : sx_RP xs (d + 1) 141 0 (lv_args 0 [.ref 111, .int (nI src), .int (-1)]) [] w (fun r w2 => (r = none ∧ wOK w src w2) ∧ WI w2 ∧ EM w w2) := by
  obtain ⟨r, w2, h, h1, h2, h3, h4⟩ := s141s (xs := xs) (d := d) hI hs
  exact ⟨r, w2, h, ⟨h1, h4⟩, h2, h3⟩
theorem nI_n0 {c : Nat} (h : c < 2 ^ 31) (h0 : 0 < c) : ¬ nI c = 0 := fun e => by
  have := (nI_eq (a := c) (b := 0) h (by omega)).mp e
  omega
set_option maxRecDepth 20000 in
set_option maxHeartbeats 4000000 in
theorem s140 {xs : Option (List Int32)} {d : Nat} {w : List sx_C} (hI : WI w) (a1 a2 : Int32) : sx_RP xs (d + 7) 140 0 (lv_args 0 [.ref 111, .int a1, .int a2]) [] w (fun r w2 => (∃ v : Int32, r = some (.int v)) ∧ WI w2 ∧ EM w w2) := by
  have hE : EM w w := EM.rf
  refine sx_RP.step (pc2 := 1) (ls2 := [(0, .ref 111), (1, .int a1), (2, .int a2)]) (st2 := [.int a1]) (w3 := w) rfl rfl ?_
  rcases in_cases a1 0 47 (m := 0) (n := 47) rfl rfl (by decide) (by decide) with q1 | ⟨x2, hx3, hx4, rfl⟩
  · refine sx_RP.cu (as := [.int a1]) (rest2 := []) (st3 := [.int 0]) rfl rfl rfl rfl rfl (cx_131n q1) rfl ?_
    refine sx_RP.step (pc2 := 14) (ls2 := [(0, .ref 111), (1, .int a1), (2, .int a2)]) (st2 := []) (w3 := w) rfl rfl ?_
    refine sx_RP.step (pc2 := 15) (ls2 := [(0, .ref 111), (1, .int a1), (2, .int a2)]) (st2 := [.ref 111]) (w3 := w) rfl rfl ?_
    refine sx_RP.step (pc2 := 16) (ls2 := [(0, .ref 111), (1, .int a1), (2, .int a2)]) (st2 := [.int 0, .ref 111]) (w3 := w) rfl rfl ?_
    refine sx_RP.callp (as2 := [.ref 111, .int 0]) (rest2 := []) rfl rfl (sx_inv_v2 (mi := 140) (k := 70) (st := [.int 0, .ref 111]) (w := w) rfl rfl hI.1.o111 rfl rfl rfl) rfl rfl rfl (s133_0 hI) (show _ = 19 from rfl) ?_
    rintro r4 w6 ⟨rfl, hI7, hE9⟩
    have hE8 := hE.tr (hE9)
    show sx_RP _ _ _ _ _ [.int (-1000000001)] _ _
    refine sx_RP.ret (r := (some (.int (-1000000001)))) rfl rfl ?_
    exact ⟨⟨_, rfl⟩, hI7, hE8⟩
  · refine sx_RP.cu (as := [.int (nI x2)]) (rest2 := []) (st3 := [.int 1]) rfl rfl rfl rfl rfl (cx_131p ⟨nI_le (a := 0) hx3 (by omega), nI_le (b := 47) hx4 (by decide)⟩) rfl ?_
    refine sx_RP.step (pc2 := 7) (ls2 := [(0, .ref 111), (1, .int (nI x2)), (2, .int a2)]) (st2 := []) (w3 := w) rfl rfl ?_
    refine sx_RP.step (pc2 := 8) (ls2 := [(0, .ref 111), (1, .int (nI x2)), (2, .int a2)]) (st2 := [.int a2]) (w3 := w) rfl rfl ?_
    rcases in_cases a2 0 47 (m := 0) (n := 47) rfl rfl (by decide) (by decide) with q10 | ⟨x11, hx12, hx13, rfl⟩
    · refine sx_RP.cu (as := [.int a2]) (rest2 := []) (st3 := [.int 0]) rfl rfl rfl rfl rfl (cx_131n q10) rfl ?_
      refine sx_RP.step (pc2 := 14) (ls2 := [(0, .ref 111), (1, .int (nI x2)), (2, .int a2)]) (st2 := []) (w3 := w) rfl rfl ?_
      refine sx_RP.step (pc2 := 15) (ls2 := [(0, .ref 111), (1, .int (nI x2)), (2, .int a2)]) (st2 := [.ref 111]) (w3 := w) rfl rfl ?_
      refine sx_RP.step (pc2 := 16) (ls2 := [(0, .ref 111), (1, .int (nI x2)), (2, .int a2)]) (st2 := [.int 0, .ref 111]) (w3 := w) rfl rfl ?_
      refine sx_RP.callp (as2 := [.ref 111, .int 0]) (rest2 := []) rfl rfl (sx_inv_v2 (mi := 140) (k := 70) (st := [.int 0, .ref 111]) (w := w) rfl rfl hI.1.o111 rfl rfl rfl) rfl rfl rfl (s133_0 hI) (show _ = 19 from rfl) ?_
      rintro r4 w15 ⟨rfl, hI16, hE18⟩
      have hE17 := hE.tr (hE18)
      show sx_RP _ _ _ _ _ [.int (-1000000001)] _ _
      refine sx_RP.ret (r := (some (.int (-1000000001)))) rfl rfl ?_
      exact ⟨⟨_, rfl⟩, hI16, hE17⟩
    · refine sx_RP.cu (as := [.int (nI x11)]) (rest2 := []) (st3 := [.int 1]) rfl rfl rfl rfl rfl (cx_131p ⟨nI_le (a := 0) hx12 (by omega), nI_le (b := 47) hx13 (by decide)⟩) rfl ?_
      refine sx_RP.step (pc2 := 20) (ls2 := [(0, .ref 111), (1, .int (nI x2)), (2, .int (nI x11))]) (st2 := []) (w3 := w) rfl rfl ?_
      refine sx_RP.step (pc2 := 21) (ls2 := [(0, .ref 111), (1, .int (nI x2)), (2, .int (nI x11))]) (st2 := [.ref 111]) (w3 := w) rfl rfl ?_
      refine sx_RP.step (pc2 := 22) (ls2 := [(0, .ref 111), (1, .int (nI x2)), (2, .int (nI x11))]) (st2 := [.int (nI x2), .ref 111]) (w3 := w) rfl rfl ?_
      refine sx_RP.step (pc2 := 23) (ls2 := [(0, .ref 111), (1, .int (nI x2)), (2, .int (nI x11))]) (st2 := [.int (-1), .int (nI x2), .ref 111]) (w3 := w) rfl rfl ?_
      refine sx_RP.callp (as2 := [.ref 111, .int (nI x2), .int (-1)]) (rest2 := []) rfl rfl (sx_inv_v2 (mi := 140) (k := 94) (st := [.int (-1), .int (nI x2), .ref 111]) (w := w) rfl rfl hI.1.o111 rfl rfl rfl) rfl rfl rfl (s141t hI (show x2 < 48 by omega)) (show _ = 26 from rfl) ?_
      rintro r4 w20 ⟨⟨rfl, hw19⟩, hI21, hE23⟩
      have hE22 := hE.tr (hE23)
      show sx_RP _ _ _ _ _ [] _ _
      refine sx_RP.step (pc2 := 27) (ls2 := [(0, .ref 111), (1, .int (nI x2)), (2, .int (nI x11))]) (st2 := [.ref 111]) (w3 := w20) rfl rfl ?_
      refine sx_RP.gf (v := .ref 117) rfl rfl hI21.1.o111 rfl rfl (show _ = 30 from rfl) ?_
      refine sx_RP.step (pc2 := 31) (ls2 := [(0, .ref 111), (1, .int (nI x2)), (2, .int (nI x11))]) (st2 := [.int (nI x11), .ref 117]) (w3 := w20) rfl rfl ?_
      refine sx_RP.ild (c := x11) rfl hI21.1.a117.1 hI21.1.a117.2 (sx_in_nI (show x11 < 48 by omega) (by decide)) (show (nI x11).toNatClampNeg = x11 from nI_clamp (by omega)) (show _ = 32 from rfl) ?_
      obtain ⟨x24, hx25, ex26⟩ : inR ((ia w20 117).getD x11 0) 1000 := hw19.at (show x11 < 48 by omega)
      rw [ex26]
      refine sx_RP.ret (r := (some (.int (nI x24)))) rfl rfl ?_
      exact ⟨⟨_, rfl⟩, hI21, hE22⟩
set_option maxRecDepth 20000 in
set_option maxHeartbeats 4000000 in
theorem s179 {xs : Option (List Int32)} {d : Nat} {w : List sx_C} (hI : WI w) (a1 a2 : Int32) : sx_RP xs (d + 7) 179 0 (lv_args 0 [.ref 111, .int a1, .int a2]) [] w (fun r w2 => (∃ v : Int32, r = some (.int v)) ∧ WI w2 ∧ EM w w2) := by
  have hE : EM w w := EM.rf
  refine sx_RP.step (pc2 := 1) (ls2 := [(0, .ref 111), (1, .int a1), (2, .int a2)]) (st2 := [.ref 111]) (w3 := w) rfl rfl ?_
  refine sx_RP.step (pc2 := 2) (ls2 := [(0, .ref 111), (1, .int a1), (2, .int a2)]) (st2 := [.int a1, .ref 111]) (w3 := w) rfl rfl ?_
  rcases p156 (xs := xs) hI a1 with c2 | ⟨⟨x3, hx4, rfl⟩, c2⟩
  · refine sx_RP.cu (as := [.ref 111, .int a1]) (rest2 := []) (st3 := [.int 0]) rfl rfl (sx_inv_v2 (mi := 179) (k := 124) (st := [.int a1, .ref 111]) (w := w) rfl rfl hI.1.o111 rfl rfl rfl) rfl rfl (c2) rfl ?_
    refine sx_RP.step (pc2 := 15) (ls2 := [(0, .ref 111), (1, .int a1), (2, .int a2)]) (st2 := []) (w3 := w) rfl rfl ?_
    refine sx_RP.step (pc2 := 16) (ls2 := [(0, .ref 111), (1, .int a1), (2, .int a2)]) (st2 := [.ref 111]) (w3 := w) rfl rfl ?_
    refine sx_RP.step (pc2 := 17) (ls2 := [(0, .ref 111), (1, .int a1), (2, .int a2)]) (st2 := [.int 0, .ref 111]) (w3 := w) rfl rfl ?_
    refine sx_RP.callp (as2 := [.ref 111, .int 0]) (rest2 := []) rfl rfl (sx_inv_v2 (mi := 179) (k := 70) (st := [.int 0, .ref 111]) (w := w) rfl rfl hI.1.o111 rfl rfl rfl) rfl rfl rfl (s133_0 hI) (show _ = 20 from rfl) ?_
    rintro r4 w6 ⟨rfl, hI7, hE9⟩
    have hE8 := hE.tr (hE9)
    show sx_RP _ _ _ _ _ [.int (-1000000001)] _ _
    refine sx_RP.ret (r := (some (.int (-1000000001)))) rfl rfl ?_
    exact ⟨⟨_, rfl⟩, hI7, hE8⟩
  · refine sx_RP.cu (as := [.ref 111, .int (nI x3)]) (rest2 := []) (st3 := [.int 1]) rfl rfl (sx_inv_v2 (mi := 179) (k := 124) (st := [.int (nI x3), .ref 111]) (w := w) rfl rfl hI.1.o111 rfl rfl rfl) rfl rfl (c2) rfl ?_
    refine sx_RP.step (pc2 := 8) (ls2 := [(0, .ref 111), (1, .int (nI x3)), (2, .int a2)]) (st2 := []) (w3 := w) rfl rfl ?_
    refine sx_RP.step (pc2 := 9) (ls2 := [(0, .ref 111), (1, .int (nI x3)), (2, .int a2)]) (st2 := [.int a2]) (w3 := w) rfl rfl ?_
    rcases in_cases a2 0 47 (m := 0) (n := 47) rfl rfl (by decide) (by decide) with q10 | ⟨x11, hx12, hx13, rfl⟩
    · refine sx_RP.cu (as := [.int a2]) (rest2 := []) (st3 := [.int 0]) rfl rfl rfl rfl rfl (cx_131n q10) rfl ?_
      refine sx_RP.step (pc2 := 15) (ls2 := [(0, .ref 111), (1, .int (nI x3)), (2, .int a2)]) (st2 := []) (w3 := w) rfl rfl ?_
      refine sx_RP.step (pc2 := 16) (ls2 := [(0, .ref 111), (1, .int (nI x3)), (2, .int a2)]) (st2 := [.ref 111]) (w3 := w) rfl rfl ?_
      refine sx_RP.step (pc2 := 17) (ls2 := [(0, .ref 111), (1, .int (nI x3)), (2, .int a2)]) (st2 := [.int 0, .ref 111]) (w3 := w) rfl rfl ?_
      refine sx_RP.callp (as2 := [.ref 111, .int 0]) (rest2 := []) rfl rfl (sx_inv_v2 (mi := 179) (k := 70) (st := [.int 0, .ref 111]) (w := w) rfl rfl hI.1.o111 rfl rfl rfl) rfl rfl rfl (s133_0 hI) (show _ = 20 from rfl) ?_
      rintro r4 w15 ⟨rfl, hI16, hE18⟩
      have hE17 := hE.tr (hE18)
      show sx_RP _ _ _ _ _ [.int (-1000000001)] _ _
      refine sx_RP.ret (r := (some (.int (-1000000001)))) rfl rfl ?_
      exact ⟨⟨_, rfl⟩, hI16, hE17⟩
    · refine sx_RP.cu (as := [.int (nI x11)]) (rest2 := []) (st3 := [.int 1]) rfl rfl rfl rfl rfl (cx_131p ⟨nI_le (a := 0) hx12 (by omega), nI_le (b := 47) hx13 (by decide)⟩) rfl ?_
      refine sx_RP.step (pc2 := 21) (ls2 := [(0, .ref 111), (1, .int (nI x3)), (2, .int (nI x11))]) (st2 := []) (w3 := w) rfl rfl ?_
      refine sx_RP.step (pc2 := 22) (ls2 := [(0, .ref 111), (1, .int (nI x3)), (2, .int (nI x11))]) (st2 := [.ref 111]) (w3 := w) rfl rfl ?_
      refine sx_RP.step (pc2 := 23) (ls2 := [(0, .ref 111), (1, .int (nI x3)), (2, .int (nI x11))]) (st2 := [.int (nI x3), .ref 111]) (w3 := w) rfl rfl ?_
      obtain ⟨x19, hx20, c21⟩ := p137 hI (show x3 < 10 by omega)
      refine sx_RP.cu (as := [.ref 111, .int (nI x3)]) (rest2 := []) (st3 := [.int (nI x19)]) rfl rfl (sx_inv_v2 (mi := 179) (k := 74) (st := [.int (nI x3), .ref 111]) (w := w) rfl rfl hI.1.o111 rfl rfl rfl) rfl rfl (c21) rfl ?_
      refine sx_RP.br (p1 := 38) (l1 := [(0, .ref 111), (1, .int (nI x3)), (2, .int (nI x11))]) (s1 := []) (v1 := w) (p2 := 29) (l2 := [(0, .ref 111), (1, .int (nI x3)), (2, .int (nI x11))]) (s2 := []) (v2 := w) rfl rfl (fun q22 => ?_) (fun q22 => ?_)
      · replace q22 := of_decide_eq_true q22
        replace q22 := (nI_eq (a := x19) (b := 0) (by omega) (by omega)).mp q22
        refine sx_RP.step (pc2 := 39) (ls2 := [(0, .ref 111), (1, .int (nI x3)), (2, .int (nI x11))]) (st2 := [.ref 111]) (w3 := w) rfl rfl ?_
        refine sx_RP.step (pc2 := 40) (ls2 := [(0, .ref 111), (1, .int (nI x3)), (2, .int (nI x11))]) (st2 := [.int 4, .ref 111]) (w3 := w) rfl rfl ?_
        refine sx_RP.callp (as2 := [.ref 111, .int 4]) (rest2 := []) rfl rfl (sx_inv_v2 (mi := 179) (k := 70) (st := [.int 4, .ref 111]) (w := w) rfl rfl hI.1.o111 rfl rfl rfl) rfl rfl rfl (s133_4 hI) (show _ = 43 from rfl) ?_
        rintro r4 w23 ⟨rfl, hI24, hE26⟩
        have hE25 := hE.tr (hE26)
        show sx_RP _ _ _ _ _ [.int (-1000000005)] _ _
        refine sx_RP.ret (r := (some (.int (-1000000005)))) rfl rfl ?_
        exact ⟨⟨_, rfl⟩, hI24, hE25⟩
      · replace q22 := of_decide_eq_false q22
        replace q22 := mt (nI_eq (a := x19) (b := 0) (by omega) (by omega)).mpr q22
        refine sx_RP.step (pc2 := 30) (ls2 := [(0, .ref 111), (1, .int (nI x3)), (2, .int (nI x11))]) (st2 := [.ref 111]) (w3 := w) rfl rfl ?_
        refine sx_RP.step (pc2 := 31) (ls2 := [(0, .ref 111), (1, .int (nI x3)), (2, .int (nI x11))]) (st2 := [.int (nI x3), .ref 111]) (w3 := w) rfl rfl ?_
        refine sx_RP.step (pc2 := 32) (ls2 := [(0, .ref 111), (1, .int (nI x3)), (2, .int (nI x11))]) (st2 := [.int 1, .int (nI x3), .ref 111]) (w3 := w) rfl rfl ?_
        obtain ⟨x27, hx28, c29⟩ := p138_1 hI (show x3 < 10 by omega)
        refine sx_RP.cu (as := [.ref 111, .int (nI x3), .int 1]) (rest2 := []) (st3 := [.int (nI x27)]) rfl rfl (sx_inv_v2 (mi := 179) (k := 59) (st := [.int 1, .int (nI x3), .ref 111]) (w := w) rfl rfl hI.1.o111 rfl rfl rfl) rfl rfl (c29) rfl ?_
        refine sx_RP.br (p1 := 44) (l1 := [(0, .ref 111), (1, .int (nI x3)), (2, .int (nI x11))]) (s1 := []) (v1 := w) (p2 := 38) (l2 := [(0, .ref 111), (1, .int (nI x3)), (2, .int (nI x11))]) (s2 := []) (v2 := w) rfl rfl (fun q30 => ?_) (fun q30 => ?_)
        · replace q30 := of_decide_eq_true q30
          replace q30 := mt (nI_eq (a := x27) (b := 0) (by omega) (by omega)).mpr q30
          refine sx_RP.step (pc2 := 45) (ls2 := [(0, .ref 111), (1, .int (nI x3)), (2, .int (nI x11))]) (st2 := [.ref 111]) (w3 := w) rfl rfl ?_
          refine sx_RP.step (pc2 := 46) (ls2 := [(0, .ref 111), (1, .int (nI x3)), (2, .int (nI x11))]) (st2 := [.ref 111, .ref 111]) (w3 := w) rfl rfl ?_
          refine sx_RP.step (pc2 := 47) (ls2 := [(0, .ref 111), (1, .int (nI x3)), (2, .int (nI x11))]) (st2 := [.int (nI x3), .ref 111, .ref 111]) (w3 := w) rfl rfl ?_
          refine sx_RP.step (pc2 := 48) (ls2 := [(0, .ref 111), (1, .int (nI x3)), (2, .int (nI x11))]) (st2 := [.int 2, .int (nI x3), .ref 111, .ref 111]) (w3 := w) rfl rfl ?_
          obtain ⟨x31, hx32, c33⟩ := p138_2 hI (show x3 < 10 by omega)
          refine sx_RP.cu (as := [.ref 111, .int (nI x3), .int 2]) (rest2 := [.ref 111]) (st3 := [.int (nI x31), .ref 111]) rfl rfl (sx_inv_v2 (mi := 179) (k := 59) (st := [.int 2, .int (nI x3), .ref 111, .ref 111]) (w := w) rfl rfl hI.1.o111 rfl rfl rfl) rfl rfl (c33) rfl ?_
          refine sx_RP.step (pc2 := 52) (ls2 := [(0, .ref 111), (1, .int (nI x3)), (2, .int (nI x11))]) (st2 := [.int (nI x3), .int (nI x31), .ref 111]) (w3 := w) rfl rfl ?_
          refine sx_RP.callp (as2 := [.ref 111, .int (nI x31), .int (nI x3)]) (rest2 := []) rfl rfl (sx_inv_v2 (mi := 179) (k := 94) (st := [.int (nI x3), .int (nI x31), .ref 111]) (w := w) rfl rfl hI.1.o111 rfl rfl rfl) rfl rfl rfl (s141d hI (show x31 < 48 by omega) (show x3 < 10 by omega)) (show _ = 55 from rfl) ?_
          rintro r4 w34 ⟨rfl, hI35, hE37⟩
          have hE36 := hE.tr (hE37)
          show sx_RP _ _ _ _ _ [] _ _
          refine sx_RP.step (pc2 := 56) (ls2 := [(0, .ref 111), (1, .int (nI x3)), (2, .int (nI x11))]) (st2 := [.ref 111]) (w3 := w34) rfl rfl ?_
          refine sx_RP.gf (v := .ref 117) rfl rfl hI35.1.o111 rfl rfl (show _ = 59 from rfl) ?_
          refine sx_RP.step (pc2 := 60) (ls2 := [(0, .ref 111), (1, .int (nI x3)), (2, .int (nI x11))]) (st2 := [.int (nI x11), .ref 117]) (w3 := w34) rfl rfl ?_
          refine sx_RP.ild (c := x11) rfl hI35.1.a117.1 hI35.1.a117.2 (sx_in_nI (show x11 < 48 by omega) (by decide)) (show (nI x11).toNatClampNeg = x11 from nI_clamp (by omega)) (show _ = 61 from rfl) ?_
          refine sx_RP.br (p1 := 72) (l1 := [(0, .ref 111), (1, .int (nI x3)), (2, .int (nI x11))]) (s1 := []) (v1 := w34) (p2 := 64) (l2 := [(0, .ref 111), (1, .int (nI x3)), (2, .int (nI x11))]) (s2 := []) (v2 := w34) rfl rfl (fun q38 => ?_) (fun q38 => ?_)
          · replace q38 := of_decide_eq_true q38
            refine sx_RP.step (pc2 := 73) (ls2 := [(0, .ref 111), (1, .int (nI x3)), (2, .int (nI x11))]) (st2 := [.ref 111]) (w3 := w34) rfl rfl ?_
            refine sx_RP.gf (v := .ref 117) rfl rfl hI35.1.o111 rfl rfl (show _ = 76 from rfl) ?_
            refine sx_RP.step (pc2 := 77) (ls2 := [(0, .ref 111), (1, .int (nI x3)), (2, .int (nI x11))]) (st2 := [.int (nI x11), .ref 117]) (w3 := w34) rfl rfl ?_
            refine sx_RP.ild (c := x11) rfl hI35.1.a117.1 hI35.1.a117.2 (sx_in_nI (show x11 < 48 by omega) (by decide)) (show (nI x11).toNatClampNeg = x11 from nI_clamp (by omega)) (show _ = 78 from rfl) ?_
            refine sx_RP.ret (r := (some (.int ((ia w34 117).getD x11 0)))) rfl rfl ?_
            exact ⟨⟨_, rfl⟩, hI35, hE36⟩
          · replace q38 := of_decide_eq_false q38
            refine sx_RP.step (pc2 := 65) (ls2 := [(0, .ref 111), (1, .int (nI x3)), (2, .int (nI x11))]) (st2 := [.ref 111]) (w3 := w34) rfl rfl ?_
            refine sx_RP.step (pc2 := 66) (ls2 := [(0, .ref 111), (1, .int (nI x3)), (2, .int (nI x11))]) (st2 := [.int 3, .ref 111]) (w3 := w34) rfl rfl ?_
            refine sx_RP.callp (as2 := [.ref 111, .int 3]) (rest2 := []) rfl rfl (sx_inv_v2 (mi := 179) (k := 70) (st := [.int 3, .ref 111]) (w := w34) rfl rfl hI35.1.o111 rfl rfl rfl) rfl rfl rfl (s133_3 hI35) (show _ = 69 from rfl) ?_
            rintro r4 w39 ⟨rfl, hI40, hE42⟩
            have hE41 := hE36.tr (hE42)
            show sx_RP _ _ _ _ _ [.int (-1000000004)] _ _
            refine sx_RP.step (pc2 := 78) (ls2 := [(0, .ref 111), (1, .int (nI x3)), (2, .int (nI x11))]) (st2 := [.int (-1000000004)]) (w3 := w39) rfl rfl ?_
            refine sx_RP.ret (r := (some (.int (-1000000004)))) rfl rfl ?_
            exact ⟨⟨_, rfl⟩, hI40, hE41⟩
        · replace q30 := Decidable.not_not.mp (of_decide_eq_false q30)
          replace q30 := (nI_eq (a := x27) (b := 0) (by omega) (by omega)).mp q30
          refine sx_RP.step (pc2 := 39) (ls2 := [(0, .ref 111), (1, .int (nI x3)), (2, .int (nI x11))]) (st2 := [.ref 111]) (w3 := w) rfl rfl ?_
          refine sx_RP.step (pc2 := 40) (ls2 := [(0, .ref 111), (1, .int (nI x3)), (2, .int (nI x11))]) (st2 := [.int 4, .ref 111]) (w3 := w) rfl rfl ?_
          refine sx_RP.callp (as2 := [.ref 111, .int 4]) (rest2 := []) rfl rfl (sx_inv_v2 (mi := 179) (k := 70) (st := [.int 4, .ref 111]) (w := w) rfl rfl hI.1.o111 rfl rfl rfl) rfl rfl rfl (s133_4 hI) (show _ = 43 from rfl) ?_
          rintro r4 w43 ⟨rfl, hI44, hE46⟩
          have hE45 := hE.tr (hE46)
          show sx_RP _ _ _ _ _ [.int (-1000000005)] _ _
          refine sx_RP.ret (r := (some (.int (-1000000005)))) rfl rfl ?_
          exact ⟨⟨_, rfl⟩, hI44, hE45⟩
set_option maxRecDepth 20000 in
set_option maxHeartbeats 4000000 in
theorem s190 {xs : Option (List Int32)} {d : Nat} {w : List sx_C} (hI : WI w) {c g : Nat} (hc : c < 48) (hg : g < 10) : sx_RP xs (d + 3) 190 0 (lv_args 0 [.ref 111, .int (nI c), .int (nI g)]) [] w (fun r w2 => (∃ v : Int32, r = some (.int v)) ∧ WI w2 ∧ EM w w2) := by
  have hE : EM w w := EM.rf
  refine sx_RP.step (pc2 := 1) (ls2 := [(0, .ref 111), (1, .int (nI c)), (2, .int (nI g))]) (st2 := [.ref 111]) (w3 := w) rfl rfl ?_
  refine sx_RP.step (pc2 := 2) (ls2 := [(0, .ref 111), (1, .int (nI c)), (2, .int (nI g))]) (st2 := [.int (nI g), .ref 111]) (w3 := w) rfl rfl ?_
  refine sx_RP.step (pc2 := 3) (ls2 := [(0, .ref 111), (1, .int (nI c)), (2, .int (nI g))]) (st2 := [.int 0, .int (nI g), .ref 111]) (w3 := w) rfl rfl ?_
  obtain ⟨x1, hx2, c3⟩ := p181 hI (show g < 10 by omega) 0
  refine sx_RP.cu (as := [.ref 111, .int (nI g), .int 0]) (rest2 := []) (st3 := [.int (nI x1)]) rfl rfl (sx_inv_v2 (mi := 190) (k := 165) (st := [.int 0, .int (nI g), .ref 111]) (w := w) rfl rfl hI.1.o111 rfl rfl rfl) rfl rfl (c3) rfl ?_
  refine sx_RP.br (p1 := 11) (l1 := [(0, .ref 111), (1, .int (nI c)), (2, .int (nI g))]) (s1 := []) (v1 := w) (p2 := 9) (l2 := [(0, .ref 111), (1, .int (nI c)), (2, .int (nI g))]) (s2 := []) (v2 := w) rfl rfl (fun q4 => ?_) (fun q4 => ?_)
  · replace q4 := of_decide_eq_true q4
    replace q4 := mt (nI_eq (a := x1) (b := 0) (by omega) (by omega)).mpr q4
    refine sx_RP.step (pc2 := 12) (ls2 := [(0, .ref 111), (1, .int (nI c)), (2, .int (nI g))]) (st2 := [.ref 111]) (w3 := w) rfl rfl ?_
    refine sx_RP.step (pc2 := 13) (ls2 := [(0, .ref 111), (1, .int (nI c)), (2, .int (nI g))]) (st2 := [.int (nI g), .ref 111]) (w3 := w) rfl rfl ?_
    refine sx_RP.step (pc2 := 14) (ls2 := [(0, .ref 111), (1, .int (nI c)), (2, .int (nI g))]) (st2 := [.int 2, .int (nI g), .ref 111]) (w3 := w) rfl rfl ?_
    obtain ⟨x5, hx6, c7⟩ := p138_2 hI (show g < 10 by omega)
    refine sx_RP.cu (as := [.ref 111, .int (nI g), .int 2]) (rest2 := []) (st3 := [.int (nI x5)]) rfl rfl (sx_inv_v2 (mi := 190) (k := 59) (st := [.int 2, .int (nI g), .ref 111]) (w := w) rfl rfl hI.1.o111 rfl rfl rfl) rfl rfl (c7) rfl ?_
    refine sx_RP.step (pc2 := 18) (ls2 := [(3, .int (nI x5)), (0, .ref 111), (1, .int (nI c)), (2, .int (nI g))]) (st2 := []) (w3 := w) rfl rfl ?_
    refine sx_RP.step (pc2 := 19) (ls2 := [(3, .int (nI x5)), (0, .ref 111), (1, .int (nI c)), (2, .int (nI g))]) (st2 := [.ref 111]) (w3 := w) rfl rfl ?_
    refine sx_RP.step (pc2 := 20) (ls2 := [(3, .int (nI x5)), (0, .ref 111), (1, .int (nI c)), (2, .int (nI g))]) (st2 := [.int (nI x5), .ref 111]) (w3 := w) rfl rfl ?_
    refine sx_RP.step (pc2 := 21) (ls2 := [(3, .int (nI x5)), (0, .ref 111), (1, .int (nI c)), (2, .int (nI g))]) (st2 := [.int (-1), .int (nI x5), .ref 111]) (w3 := w) rfl rfl ?_
    refine sx_RP.callp (as2 := [.ref 111, .int (nI x5), .int (-1)]) (rest2 := []) rfl rfl (sx_inv_v2 (mi := 190) (k := 94) (st := [.int (-1), .int (nI x5), .ref 111]) (w := w) rfl rfl hI.1.o111 rfl rfl rfl) rfl rfl rfl (s141t hI (show x5 < 48 by omega)) (show _ = 24 from rfl) ?_
    rintro r4 w9 ⟨⟨rfl, hw8⟩, hI10, hE12⟩
    have hE11 := hE.tr (hE12)
    show sx_RP _ _ _ _ _ [] _ _
    refine sx_RP.step (pc2 := 25) (ls2 := [(3, .int (nI x5)), (0, .ref 111), (1, .int (nI c)), (2, .int (nI g))]) (st2 := [.ref 111]) (w3 := w9) rfl rfl ?_
    refine sx_RP.step (pc2 := 26) (ls2 := [(3, .int (nI x5)), (0, .ref 111), (1, .int (nI c)), (2, .int (nI g))]) (st2 := [.ref 111, .ref 111]) (w3 := w9) rfl rfl ?_
    refine sx_RP.step (pc2 := 27) (ls2 := [(3, .int (nI x5)), (0, .ref 111), (1, .int (nI c)), (2, .int (nI g))]) (st2 := [.int (nI g), .ref 111, .ref 111]) (w3 := w9) rfl rfl ?_
    refine sx_RP.step (pc2 := 28) (ls2 := [(3, .int (nI x5)), (0, .ref 111), (1, .int (nI c)), (2, .int (nI g))]) (st2 := [.int 0, .int (nI g), .ref 111, .ref 111]) (w3 := w9) rfl rfl ?_
    obtain ⟨x13, hx14, c15⟩ := p138_0 hI10 (show g < 10 by omega)
    refine sx_RP.cu (as := [.ref 111, .int (nI g), .int 0]) (rest2 := [.ref 111]) (st3 := [.int (nI x13), .ref 111]) rfl rfl (sx_inv_v2 (mi := 190) (k := 59) (st := [.int 0, .int (nI g), .ref 111, .ref 111]) (w := w9) rfl rfl hI10.1.o111 rfl rfl rfl) rfl rfl (c15) rfl ?_
    refine sx_RP.step (pc2 := 32) (ls2 := [(3, .int (nI x5)), (0, .ref 111), (1, .int (nI c)), (2, .int (nI g))]) (st2 := [.int (nI x5), .int (nI x13), .ref 111]) (w3 := w9) rfl rfl ?_
    obtain ⟨v16, c17⟩ := p162 hI10 (nI x13) (show x5 < 48 by omega)
    refine sx_RP.cu (as := [.ref 111, .int (nI x13), .int (nI x5)]) (rest2 := []) (st3 := [.int v16]) rfl rfl (sx_inv_v2 (mi := 190) (k := 130) (st := [.int (nI x5), .int (nI x13), .ref 111]) (w := w9) rfl rfl hI10.1.o111 rfl rfl rfl) rfl rfl (c17) rfl ?_
    refine sx_RP.step (pc2 := 36) (ls2 := [(3, .int (nI x5)), (0, .ref 111), (1, .int (nI c)), (2, .int (nI g))]) (st2 := [.int 1, .int v16]) (w3 := w9) rfl rfl ?_
    refine sx_RP.step (pc2 := 37) (ls2 := [(3, .int (nI x5)), (0, .ref 111), (1, .int (nI c)), (2, .int (nI g))]) (st2 := [.ref 111, .int 1, .int v16]) (w3 := w9) rfl rfl ?_
    refine sx_RP.gf (v := .ref 117) rfl rfl hI10.1.o111 rfl rfl (show _ = 40 from rfl) ?_
    refine sx_RP.step (pc2 := 41) (ls2 := [(3, .int (nI x5)), (0, .ref 111), (1, .int (nI c)), (2, .int (nI g))]) (st2 := [.int (nI c), .ref 117, .int 1, .int v16]) (w3 := w9) rfl rfl ?_
    refine sx_RP.ild (c := c) rfl hI10.1.a117.1 hI10.1.a117.2 (sx_in_nI (show c < 48 by omega) (by decide)) (show (nI c).toNatClampNeg = c from nI_clamp (by omega)) (show _ = 42 from rfl) ?_
    obtain ⟨x18, hx19, ex20⟩ : inR ((ia w9 117).getD c 0) 1000 := hw8.at (show c < 48 by omega)
    rw [ex20]
    refine sx_RP.step (pc2 := 43) (ls2 := [(3, .int (nI x5)), (0, .ref 111), (1, .int (nI c)), (2, .int (nI g))]) (st2 := [.int (1 + (nI x18)), .int v16]) (w3 := w9) rfl rfl ?_
    rw [show (1 + (nI x18) : Int32) = nI (1 + x18) from nI_add 1 x18]
    refine sx_RP.idiv (pc2 := 44) rfl (nI_n0 (by omega) (by omega)) rfl ?_
    refine sx_RP.ret (r := (some (.int (v16 / (nI (1 + x18)))))) rfl rfl ?_
    exact ⟨⟨_, rfl⟩, hI10, hE11⟩
  · replace q4 := Decidable.not_not.mp (of_decide_eq_false q4)
    replace q4 := (nI_eq (a := x1) (b := 0) (by omega) (by omega)).mp q4
    refine sx_RP.step (pc2 := 10) (ls2 := [(0, .ref 111), (1, .int (nI c)), (2, .int (nI g))]) (st2 := [.int 0]) (w3 := w) rfl rfl ?_
    refine sx_RP.ret (r := (some (.int 0))) rfl rfl ?_
    exact ⟨⟨_, rfl⟩, hI, hE⟩
set_option maxRecDepth 20000 in
set_option maxHeartbeats 4000000 in
theorem s189B {xs : Option (List Int32)} {d : Nat} {w w0 : List sx_C} {c : Nat} (hc : c < 48) (hI : WI w) (hE : EM w0 w) {j : Nat} (hj : j ≤ 10) (n : Int32) (kk : ∀ (w4 : List sx_C) (un : Int32), WI w4 → EM w0 w4 → j + 1 ≤ 10 → sx_RP xs (d + 4) 189 4 [(0, .ref 111), (1, .int (nI c)), (2, .int un), (3, .int (nI (j + 1)))] [] w4 (fun r w2 => (∃ v : Int32, r = some (.int v)) ∧ WI w2 ∧ EM w0 w2)) : sx_RP xs (d + 4) 189 4 [(0, .ref 111), (1, .int (nI c)), (2, .int n), (3, .int (nI j))] [] w (fun r w2 => (∃ v : Int32, r = some (.int v)) ∧ WI w2 ∧ EM w0 w2) := by
  refine sx_RP.step (pc2 := 5) (ls2 := [(0, .ref 111), (1, .int (nI c)), (2, .int n), (3, .int (nI j))]) (st2 := [.int (nI j)]) (w3 := w) rfl rfl ?_
  refine sx_RP.step (pc2 := 6) (ls2 := [(0, .ref 111), (1, .int (nI c)), (2, .int n), (3, .int (nI j))]) (st2 := [.ref 111, .int (nI j)]) (w3 := w) rfl rfl ?_
  refine sx_RP.gf (v := .ref 112) rfl rfl hI.1.o111 rfl rfl (show _ = 9 from rfl) ?_
  refine sx_RP.step (pc2 := 10) (ls2 := [(0, .ref 111), (1, .int (nI c)), (2, .int n), (3, .int (nI j))]) (st2 := [.int 1, .ref 112, .int (nI j)]) (w3 := w) rfl rfl ?_
  refine sx_RP.ild (c := 1) rfl hI.1.a112.1 hI.1.a112.2 (sx_in_nI (show 1 < 172 by omega) (by decide)) (show (nI 1).toNatClampNeg = 1 from nI_clamp (by omega)) (show _ = 11 from rfl) ?_
  obtain ⟨x1, hx2, ex3⟩ : inR ((ia w 112).getD 1 0) 10 := (hI.s (1) (by omega)).1 rfl
  rw [ex3]
  refine sx_RP.br (p1 := 29) (l1 := [(0, .ref 111), (1, .int (nI c)), (2, .int n), (3, .int (nI j))]) (s1 := []) (v1 := w) (p2 := 14) (l2 := [(0, .ref 111), (1, .int (nI c)), (2, .int n), (3, .int (nI j))]) (s2 := []) (v2 := w) rfl rfl (fun q4 => ?_) (fun q4 => ?_)
  · replace q4 := of_decide_eq_true q4
    replace q4 := (nI_leI (a := x1) (b := j) (by omega) (by omega)).mp q4
    refine sx_RP.step (pc2 := 30) (ls2 := [(0, .ref 111), (1, .int (nI c)), (2, .int n), (3, .int (nI j))]) (st2 := [.int n]) (w3 := w) rfl rfl ?_
    refine sx_RP.ret (r := (some (.int n))) rfl rfl ?_
    exact ⟨⟨_, rfl⟩, hI, hE⟩
  · replace q4 := of_decide_eq_false q4
    replace q4 := mt (nI_leI (a := x1) (b := j) (by omega) (by omega)).mpr q4
    refine sx_RP.step (pc2 := 15) (ls2 := [(0, .ref 111), (1, .int (nI c)), (2, .int n), (3, .int (nI j))]) (st2 := [.int n]) (w3 := w) rfl rfl ?_
    refine sx_RP.step (pc2 := 16) (ls2 := [(0, .ref 111), (1, .int (nI c)), (2, .int n), (3, .int (nI j))]) (st2 := [.ref 111, .int n]) (w3 := w) rfl rfl ?_
    refine sx_RP.step (pc2 := 17) (ls2 := [(0, .ref 111), (1, .int (nI c)), (2, .int n), (3, .int (nI j))]) (st2 := [.int (nI c), .ref 111, .int n]) (w3 := w) rfl rfl ?_
    refine sx_RP.step (pc2 := 18) (ls2 := [(0, .ref 111), (1, .int (nI c)), (2, .int n), (3, .int (nI j))]) (st2 := [.int (nI j), .int (nI c), .ref 111, .int n]) (w3 := w) rfl rfl ?_
    refine sx_RP.callp (as2 := [.ref 111, .int (nI c), .int (nI j)]) (rest2 := [.int n]) rfl rfl (sx_inv_v2 (mi := 189) (k := 174) (st := [.int (nI j), .int (nI c), .ref 111, .int n]) (w := w) rfl rfl hI.1.o111 rfl rfl rfl) rfl rfl rfl (s190 hI (show c < 48 by omega) (show j < 10 by omega)) (show _ = 21 from rfl) ?_
    rintro r4 w6 ⟨⟨v5, rfl⟩, hI7, hE9⟩
    have hE8 := hE.tr (hE9)
    show sx_RP _ _ _ _ _ [.int v5, .int n] _ _
    refine sx_RP.step (pc2 := 22) (ls2 := [(0, .ref 111), (1, .int (nI c)), (2, .int n), (3, .int (nI j))]) (st2 := [.int (n + v5)]) (w3 := w6) rfl rfl ?_
    refine sx_RP.step (pc2 := 23) (ls2 := [(2, .int (n + v5)), (0, .ref 111), (1, .int (nI c)), (3, .int (nI j))]) (st2 := []) (w3 := w6) rfl rfl ?_
    refine sx_RP.step (pc2 := 26) (ls2 := [(3, .int ((nI j) + 1)), (2, .int (n + v5)), (0, .ref 111), (1, .int (nI c))]) (st2 := []) (w3 := w6) rfl rfl ?_
    rw [nI_1 j]
    refine sx_RP.step (pc2 := 4) (ls2 := [(3, .int (nI (j + 1))), (2, .int (n + v5)), (0, .ref 111), (1, .int (nI c))]) (st2 := []) (w3 := w6) rfl rfl ?_
    exact sx_RP.ls (sx_lr.cons rfl (sx_lr.cons rfl (sx_lr.cons rfl (sx_lr.cons rfl sx_lr.nil)))) (kk w6 (n + v5) hI7 hE8 (by omega))
set_option maxRecDepth 20000 in
set_option maxHeartbeats 4000000 in
theorem s189L {xs : Option (List Int32)} {d : Nat} {w0 : List sx_C} {c : Nat} (hc : c < 48) : ∀ (fz j : Nat) (w : List sx_C) (n : Int32) , 10 ≤ j + fz * 1 → j ≤ 10 → WI w → EM w0 w → sx_RP xs (d + 4) 189 4 [(0, .ref 111), (1, .int (nI c)), (2, .int n), (3, .int (nI j))] [] w (fun r w2 => (∃ v : Int32, r = some (.int v)) ∧ WI w2 ∧ EM w0 w2)
  | 0, j, w, n, h, hj, hI, hE => s189B hc hI hE hj n  (fun w4 un hI4 hE4 hlt  => absurd hlt (by omega)) 
  | fz + 1, j, w, n, h, hj, hI, hE => s189B hc hI hE hj n  (fun w4 un hI4 hE4 hlt  => s189L hc  fz (j + 1) w4 un (by omega) hlt hI4 hE4 ) 
set_option maxRecDepth 20000 in
set_option maxHeartbeats 4000000 in
theorem s189 {xs : Option (List Int32)} {d : Nat} {w : List sx_C} (hI : WI w) {c : Nat} (hc : c < 48) : sx_RP xs (d + 4) 189 0 (lv_args 0 [.ref 111, .int (nI c)]) [] w (fun r w2 => (∃ v : Int32, r = some (.int v)) ∧ WI w2 ∧ EM w w2) := by
  have hE : EM w w := EM.rf
  refine sx_RP.step (pc2 := 1) (ls2 := [(0, .ref 111), (1, .int (nI c))]) (st2 := [.int 0]) (w3 := w) rfl rfl ?_
  refine sx_RP.step (pc2 := 2) (ls2 := [(2, .int 0), (0, .ref 111), (1, .int (nI c))]) (st2 := []) (w3 := w) rfl rfl ?_
  refine sx_RP.step (pc2 := 3) (ls2 := [(2, .int 0), (0, .ref 111), (1, .int (nI c))]) (st2 := [.int 0]) (w3 := w) rfl rfl ?_
  refine sx_RP.step (pc2 := 4) (ls2 := [(3, .int 0), (2, .int 0), (0, .ref 111), (1, .int (nI c))]) (st2 := []) (w3 := w) rfl rfl ?_
  exact sx_RP.ls (sx_lr.cons rfl (sx_lr.cons rfl (sx_lr.cons rfl (sx_lr.cons rfl sx_lr.nil)))) (s189L hc 10 0 w 0 (by omega) (by omega) hI hE )
set_option maxRecDepth 20000 in
set_option maxHeartbeats 4000000 in
theorem s188 {xs : Option (List Int32)} {d : Nat} {w : List sx_C} (hI : WI w) {j : Nat} (hj : j < 9) : sx_RP xs (d + 5) 188 0 (lv_args 0 [.ref 111, .int (nI j)]) [] w (fun r w2 => (∃ v : Int32, r = some (.int v)) ∧ WI w2 ∧ EM w w2) := by
  have hE : EM w w := EM.rf
  refine sx_RP.step (pc2 := 1) (ls2 := [(0, .ref 111), (1, .int (nI j))]) (st2 := [.ref 111]) (w3 := w) rfl rfl ?_
  refine sx_RP.step (pc2 := 2) (ls2 := [(0, .ref 111), (1, .int (nI j))]) (st2 := [.ref 111, .ref 111]) (w3 := w) rfl rfl ?_
  refine sx_RP.gf (v := .ref 112) rfl rfl hI.1.o111 rfl rfl (show _ = 5 from rfl) ?_
  refine sx_RP.step (pc2 := 8) (ls2 := [(0, .ref 111), (1, .int (nI j))]) (st2 := [.int 163, .ref 112, .ref 111]) (w3 := w) rfl rfl ?_
  refine sx_RP.step (pc2 := 9) (ls2 := [(0, .ref 111), (1, .int (nI j))]) (st2 := [.int (nI j), .int 163, .ref 112, .ref 111]) (w3 := w) rfl rfl ?_
  refine sx_RP.step (pc2 := 10) (ls2 := [(0, .ref 111), (1, .int (nI j))]) (st2 := [.int (163 + (nI j)), .ref 112, .ref 111]) (w3 := w) rfl rfl ?_
  rw [show (163 + (nI j) : Int32) = nI (163 + j) from nI_add 163 j]
  refine sx_RP.ild (c := (163 + j)) rfl hI.1.a112.1 hI.1.a112.2 (sx_in_nI (show (163 + j) < 172 by omega) (by decide)) (show (nI (163 + j)).toNatClampNeg = (163 + j) from nI_clamp (by omega)) (show _ = 11 from rfl) ?_
  obtain ⟨x1, hx2, ex3⟩ : inR ((ia w 112).getD (163 + j) 0) 47 := (hI.s ((163 + j)) (by omega)).2.2.2.2.2.2.2.2 (by omega)
  rw [ex3]
  refine sx_RP.callp (as2 := [.ref 111, .int (nI x1)]) (rest2 := []) rfl rfl (sx_inv_v2 (mi := 188) (k := 177) (st := [.int (nI x1), .ref 111]) (w := w) rfl rfl hI.1.o111 rfl rfl rfl) rfl rfl rfl (s189 hI (show x1 < 48 by omega)) (show _ = 14 from rfl) ?_
  rintro r4 w5 ⟨⟨v4, rfl⟩, hI6, hE8⟩
  have hE7 := hE.tr (hE8)
  show sx_RP _ _ _ _ _ [.int v4] _ _
  refine sx_RP.ret (r := (some (.int v4))) rfl rfl ?_
  exact ⟨⟨_, rfl⟩, hI6, hE7⟩
set_option maxRecDepth 20000 in
set_option maxHeartbeats 4000000 in
theorem s187 {xs : Option (List Int32)} {d : Nat} {w : List sx_C} (hI : WI w) (a1 : Int32) : sx_RP xs (d + 7) 187 0 (lv_args 0 [.ref 111, .int a1]) [] w (fun r w2 => (∃ v : Int32, r = some (.int v)) ∧ WI w2 ∧ EM w w2) := by
  have hE : EM w w := EM.rf
  refine sx_RP.step (pc2 := 1) (ls2 := [(0, .ref 111), (1, .int a1)]) (st2 := [.ref 111]) (w3 := w) rfl rfl ?_
  refine sx_RP.step (pc2 := 2) (ls2 := [(0, .ref 111), (1, .int a1)]) (st2 := [.int a1, .ref 111]) (w3 := w) rfl rfl ?_
  rcases p186 (xs := xs) hI a1 with c2 | ⟨⟨x3, hx4, rfl⟩, c2⟩
  · refine sx_RP.cu (as := [.ref 111, .int a1]) (rest2 := []) (st3 := [.int 0]) rfl rfl (sx_inv_v2 (mi := 187) (k := 171) (st := [.int a1, .ref 111]) (w := w) rfl rfl hI.1.o111 rfl rfl rfl) rfl rfl (c2) rfl ?_
    refine sx_RP.step (pc2 := 16) (ls2 := [(0, .ref 111), (1, .int a1)]) (st2 := []) (w3 := w) rfl rfl ?_
    refine sx_RP.step (pc2 := 17) (ls2 := [(0, .ref 111), (1, .int a1)]) (st2 := [.ref 111]) (w3 := w) rfl rfl ?_
    refine sx_RP.step (pc2 := 18) (ls2 := [(0, .ref 111), (1, .int a1)]) (st2 := [.int 0, .ref 111]) (w3 := w) rfl rfl ?_
    refine sx_RP.callp (as2 := [.ref 111, .int 0]) (rest2 := []) rfl rfl (sx_inv_v2 (mi := 187) (k := 70) (st := [.int 0, .ref 111]) (w := w) rfl rfl hI.1.o111 rfl rfl rfl) rfl rfl rfl (s133_0 hI) (show _ = 21 from rfl) ?_
    rintro r4 w6 ⟨rfl, hI7, hE9⟩
    have hE8 := hE.tr (hE9)
    show sx_RP _ _ _ _ _ [.int (-1000000001)] _ _
    refine sx_RP.ret (r := (some (.int (-1000000001)))) rfl rfl ?_
    exact ⟨⟨_, rfl⟩, hI7, hE8⟩
  · refine sx_RP.cu (as := [.ref 111, .int (nI x3)]) (rest2 := []) (st3 := [.int 1]) rfl rfl (sx_inv_v2 (mi := 187) (k := 171) (st := [.int (nI x3), .ref 111]) (w := w) rfl rfl hI.1.o111 rfl rfl rfl) rfl rfl (c2) rfl ?_
    refine sx_RP.step (pc2 := 8) (ls2 := [(0, .ref 111), (1, .int (nI x3))]) (st2 := []) (w3 := w) rfl rfl ?_
    refine sx_RP.step (pc2 := 9) (ls2 := [(0, .ref 111), (1, .int (nI x3))]) (st2 := [.ref 111]) (w3 := w) rfl rfl ?_
    refine sx_RP.step (pc2 := 10) (ls2 := [(0, .ref 111), (1, .int (nI x3))]) (st2 := [.int (nI x3), .ref 111]) (w3 := w) rfl rfl ?_
    refine sx_RP.callp (as2 := [.ref 111, .int (nI x3)]) (rest2 := []) rfl rfl (sx_inv_v2 (mi := 187) (k := 180) (st := [.int (nI x3), .ref 111]) (w := w) rfl rfl hI.1.o111 rfl rfl rfl) rfl rfl rfl (s188 hI (show x3 < 9 by omega)) (show _ = 13 from rfl) ?_
    rintro r4 w11 ⟨⟨v10, rfl⟩, hI12, hE14⟩
    have hE13 := hE.tr (hE14)
    show sx_RP _ _ _ _ _ [.int v10] _ _
    refine sx_RP.step (pc2 := 21) (ls2 := [(0, .ref 111), (1, .int (nI x3))]) (st2 := [.int v10]) (w3 := w11) rfl rfl ?_
    refine sx_RP.ret (r := (some (.int v10))) rfl rfl ?_
    exact ⟨⟨_, rfl⟩, hI12, hE13⟩
set_option maxRecDepth 20000 in
set_option maxHeartbeats 4000000 in
theorem s191 {xs : Option (List Int32)} {d : Nat} {w : List sx_C} (hI : WI w) (a1 a2 : Int32) : sx_RP xs (d + 7) 191 0 (lv_args 0 [.ref 111, .int a1, .int a2]) [] w (fun r w2 => (∃ v : Int32, r = some (.int v)) ∧ WI w2 ∧ EM w w2) := by
  have hE : EM w w := EM.rf
  refine sx_RP.step (pc2 := 1) (ls2 := [(0, .ref 111), (1, .int a1), (2, .int a2)]) (st2 := [.ref 111]) (w3 := w) rfl rfl ?_
  refine sx_RP.step (pc2 := 2) (ls2 := [(0, .ref 111), (1, .int a1), (2, .int a2)]) (st2 := [.int a1, .ref 111]) (w3 := w) rfl rfl ?_
  rcases p186 (xs := xs) hI a1 with c2 | ⟨⟨x3, hx4, rfl⟩, c2⟩
  · refine sx_RP.cu (as := [.ref 111, .int a1]) (rest2 := []) (st3 := [.int 0]) rfl rfl (sx_inv_v2 (mi := 191) (k := 171) (st := [.int a1, .ref 111]) (w := w) rfl rfl hI.1.o111 rfl rfl rfl) rfl rfl (c2) rfl ?_
    refine sx_RP.step (pc2 := 34) (ls2 := [(0, .ref 111), (1, .int a1), (2, .int a2)]) (st2 := []) (w3 := w) rfl rfl ?_
    refine sx_RP.step (pc2 := 35) (ls2 := [(0, .ref 111), (1, .int a1), (2, .int a2)]) (st2 := [.ref 111]) (w3 := w) rfl rfl ?_
    refine sx_RP.step (pc2 := 36) (ls2 := [(0, .ref 111), (1, .int a1), (2, .int a2)]) (st2 := [.int 0, .ref 111]) (w3 := w) rfl rfl ?_
    refine sx_RP.callp (as2 := [.ref 111, .int 0]) (rest2 := []) rfl rfl (sx_inv_v2 (mi := 191) (k := 70) (st := [.int 0, .ref 111]) (w := w) rfl rfl hI.1.o111 rfl rfl rfl) rfl rfl rfl (s133_0 hI) (show _ = 39 from rfl) ?_
    rintro r4 w6 ⟨rfl, hI7, hE9⟩
    have hE8 := hE.tr (hE9)
    show sx_RP _ _ _ _ _ [.int (-1000000001)] _ _
    refine sx_RP.ret (r := (some (.int (-1000000001)))) rfl rfl ?_
    exact ⟨⟨_, rfl⟩, hI7, hE8⟩
  · refine sx_RP.cu (as := [.ref 111, .int (nI x3)]) (rest2 := []) (st3 := [.int 1]) rfl rfl (sx_inv_v2 (mi := 191) (k := 171) (st := [.int (nI x3), .ref 111]) (w := w) rfl rfl hI.1.o111 rfl rfl rfl) rfl rfl (c2) rfl ?_
    refine sx_RP.step (pc2 := 8) (ls2 := [(0, .ref 111), (1, .int (nI x3)), (2, .int a2)]) (st2 := []) (w3 := w) rfl rfl ?_
    refine sx_RP.step (pc2 := 9) (ls2 := [(0, .ref 111), (1, .int (nI x3)), (2, .int a2)]) (st2 := [.ref 111]) (w3 := w) rfl rfl ?_
    refine sx_RP.step (pc2 := 10) (ls2 := [(0, .ref 111), (1, .int (nI x3)), (2, .int a2)]) (st2 := [.int a2, .ref 111]) (w3 := w) rfl rfl ?_
    rcases p156 (xs := xs) hI a2 with c11 | ⟨⟨x12, hx13, rfl⟩, c11⟩
    · refine sx_RP.cu (as := [.ref 111, .int a2]) (rest2 := []) (st3 := [.int 0]) rfl rfl (sx_inv_v2 (mi := 191) (k := 124) (st := [.int a2, .ref 111]) (w := w) rfl rfl hI.1.o111 rfl rfl rfl) rfl rfl (c11) rfl ?_
      refine sx_RP.step (pc2 := 34) (ls2 := [(0, .ref 111), (1, .int (nI x3)), (2, .int a2)]) (st2 := []) (w3 := w) rfl rfl ?_
      refine sx_RP.step (pc2 := 35) (ls2 := [(0, .ref 111), (1, .int (nI x3)), (2, .int a2)]) (st2 := [.ref 111]) (w3 := w) rfl rfl ?_
      refine sx_RP.step (pc2 := 36) (ls2 := [(0, .ref 111), (1, .int (nI x3)), (2, .int a2)]) (st2 := [.int 0, .ref 111]) (w3 := w) rfl rfl ?_
      refine sx_RP.callp (as2 := [.ref 111, .int 0]) (rest2 := []) rfl rfl (sx_inv_v2 (mi := 191) (k := 70) (st := [.int 0, .ref 111]) (w := w) rfl rfl hI.1.o111 rfl rfl rfl) rfl rfl rfl (s133_0 hI) (show _ = 39 from rfl) ?_
      rintro r4 w15 ⟨rfl, hI16, hE18⟩
      have hE17 := hE.tr (hE18)
      show sx_RP _ _ _ _ _ [.int (-1000000001)] _ _
      refine sx_RP.ret (r := (some (.int (-1000000001)))) rfl rfl ?_
      exact ⟨⟨_, rfl⟩, hI16, hE17⟩
    · refine sx_RP.cu (as := [.ref 111, .int (nI x12)]) (rest2 := []) (st3 := [.int 1]) rfl rfl (sx_inv_v2 (mi := 191) (k := 124) (st := [.int (nI x12), .ref 111]) (w := w) rfl rfl hI.1.o111 rfl rfl rfl) rfl rfl (c11) rfl ?_
      refine sx_RP.step (pc2 := 16) (ls2 := [(0, .ref 111), (1, .int (nI x3)), (2, .int (nI x12))]) (st2 := []) (w3 := w) rfl rfl ?_
      refine sx_RP.step (pc2 := 17) (ls2 := [(0, .ref 111), (1, .int (nI x3)), (2, .int (nI x12))]) (st2 := [.ref 111]) (w3 := w) rfl rfl ?_
      refine sx_RP.step (pc2 := 18) (ls2 := [(0, .ref 111), (1, .int (nI x3)), (2, .int (nI x12))]) (st2 := [.ref 111, .ref 111]) (w3 := w) rfl rfl ?_
      refine sx_RP.gf (v := .ref 112) rfl rfl hI.1.o111 rfl rfl (show _ = 21 from rfl) ?_
      refine sx_RP.step (pc2 := 24) (ls2 := [(0, .ref 111), (1, .int (nI x3)), (2, .int (nI x12))]) (st2 := [.int 163, .ref 112, .ref 111]) (w3 := w) rfl rfl ?_
      refine sx_RP.step (pc2 := 25) (ls2 := [(0, .ref 111), (1, .int (nI x3)), (2, .int (nI x12))]) (st2 := [.int (nI x3), .int 163, .ref 112, .ref 111]) (w3 := w) rfl rfl ?_
      refine sx_RP.step (pc2 := 26) (ls2 := [(0, .ref 111), (1, .int (nI x3)), (2, .int (nI x12))]) (st2 := [.int (163 + (nI x3)), .ref 112, .ref 111]) (w3 := w) rfl rfl ?_
      rw [show (163 + (nI x3) : Int32) = nI (163 + x3) from nI_add 163 x3]
      refine sx_RP.ild (c := (163 + x3)) rfl hI.1.a112.1 hI.1.a112.2 (sx_in_nI (show (163 + x3) < 172 by omega) (by decide)) (show (nI (163 + x3)).toNatClampNeg = (163 + x3) from nI_clamp (by omega)) (show _ = 27 from rfl) ?_
      obtain ⟨x19, hx20, ex21⟩ : inR ((ia w 112).getD (163 + x3) 0) 47 := (hI.s ((163 + x3)) (by omega)).2.2.2.2.2.2.2.2 (by omega)
      rw [ex21]
      refine sx_RP.step (pc2 := 28) (ls2 := [(0, .ref 111), (1, .int (nI x3)), (2, .int (nI x12))]) (st2 := [.int (nI x12), .int (nI x19), .ref 111]) (w3 := w) rfl rfl ?_
      refine sx_RP.callp (as2 := [.ref 111, .int (nI x19), .int (nI x12)]) (rest2 := []) rfl rfl (sx_inv_v2 (mi := 191) (k := 174) (st := [.int (nI x12), .int (nI x19), .ref 111]) (w := w) rfl rfl hI.1.o111 rfl rfl rfl) rfl rfl rfl (s190 hI (show x19 < 48 by omega) (show x12 < 10 by omega)) (show _ = 31 from rfl) ?_
      rintro r4 w23 ⟨⟨v22, rfl⟩, hI24, hE26⟩
      have hE25 := hE.tr (hE26)
      show sx_RP _ _ _ _ _ [.int v22] _ _
      refine sx_RP.step (pc2 := 39) (ls2 := [(0, .ref 111), (1, .int (nI x3)), (2, .int (nI x12))]) (st2 := [.int v22]) (w3 := w23) rfl rfl ?_
      refine sx_RP.ret (r := (some (.int v22))) rfl rfl ?_
      exact ⟨⟨_, rfl⟩, hI24, hE25⟩
set_option maxRecDepth 20000 in
set_option maxHeartbeats 4000000 in
theorem s182aB {xs : Option (List Int32)} {d : Nat} {w w0 : List sx_C} {P : Option Value → List sx_C → Prop} {g t : Nat} (hg : g < 10) (ht : t < 10) (hI : WI w) (hE : EM w0 w) {j : Nat} (hj : j ≤ 10) (kk : ∀ (w4 : List sx_C), WI w4 → EM w0 w4 → j + 1 ≤ 10 → sx_RP xs (d + 4) 182 24 [(0, .ref 111), (1, .int (nI g)), (2, .int (nI t)), (3, .int (nI (j + 1)))] [] w4 P) (kx58 : ∀ (w4 : List sx_C), WI w4 → EM w0 w4 → sx_RP xs (d + 4) 182 58 [(0, .ref 111), (1, .int (nI g)), (2, .int (nI t))] [] w4 P) : sx_RP xs (d + 4) 182 24 [(0, .ref 111), (1, .int (nI g)), (2, .int (nI t)), (3, .int (nI j))] [] w P := by
  refine sx_RP.step (pc2 := 25) (ls2 := [(0, .ref 111), (1, .int (nI g)), (2, .int (nI t)), (3, .int (nI j))]) (st2 := [.int (nI j)]) (w3 := w) rfl rfl ?_
  refine sx_RP.step (pc2 := 26) (ls2 := [(0, .ref 111), (1, .int (nI g)), (2, .int (nI t)), (3, .int (nI j))]) (st2 := [.ref 111, .int (nI j)]) (w3 := w) rfl rfl ?_
  refine sx_RP.gf (v := .ref 112) rfl rfl hI.1.o111 rfl rfl (show _ = 29 from rfl) ?_
  refine sx_RP.step (pc2 := 30) (ls2 := [(0, .ref 111), (1, .int (nI g)), (2, .int (nI t)), (3, .int (nI j))]) (st2 := [.int 1, .ref 112, .int (nI j)]) (w3 := w) rfl rfl ?_
  refine sx_RP.ild (c := 1) rfl hI.1.a112.1 hI.1.a112.2 (sx_in_nI (show 1 < 172 by omega) (by decide)) (show (nI 1).toNatClampNeg = 1 from nI_clamp (by omega)) (show _ = 31 from rfl) ?_
  obtain ⟨x1, hx2, ex3⟩ : inR ((ia w 112).getD 1 0) 10 := (hI.s (1) (by omega)).1 rfl
  rw [ex3]
  refine sx_RP.br (p1 := 58) (l1 := [(0, .ref 111), (1, .int (nI g)), (2, .int (nI t)), (3, .int (nI j))]) (s1 := []) (v1 := w) (p2 := 34) (l2 := [(0, .ref 111), (1, .int (nI g)), (2, .int (nI t)), (3, .int (nI j))]) (s2 := []) (v2 := w) rfl rfl (fun q4 => ?_) (fun q4 => ?_)
  · replace q4 := of_decide_eq_true q4
    replace q4 := (nI_leI (a := x1) (b := j) (by omega) (by omega)).mp q4
    exact sx_RP.ls (sx_lr.cons rfl (sx_lr.cons rfl (sx_lr.cons rfl sx_lr.nil))) (kx58 w hI hE)
  · replace q4 := of_decide_eq_false q4
    replace q4 := mt (nI_leI (a := x1) (b := j) (by omega) (by omega)).mpr q4
    refine sx_RP.step (pc2 := 35) (ls2 := [(0, .ref 111), (1, .int (nI g)), (2, .int (nI t)), (3, .int (nI j))]) (st2 := [.ref 111]) (w3 := w) rfl rfl ?_
    refine sx_RP.step (pc2 := 36) (ls2 := [(0, .ref 111), (1, .int (nI g)), (2, .int (nI t)), (3, .int (nI j))]) (st2 := [.int (nI j), .ref 111]) (w3 := w) rfl rfl ?_
    refine sx_RP.step (pc2 := 37) (ls2 := [(0, .ref 111), (1, .int (nI g)), (2, .int (nI t)), (3, .int (nI j))]) (st2 := [.int 1, .int (nI j), .ref 111]) (w3 := w) rfl rfl ?_
    obtain ⟨x5, hx6, c7⟩ := p138_1 hI (show j < 10 by omega)
    refine sx_RP.cu (as := [.ref 111, .int (nI j), .int 1]) (rest2 := []) (st3 := [.int (nI x5)]) rfl rfl (sx_inv_v2 (mi := 182) (k := 59) (st := [.int 1, .int (nI j), .ref 111]) (w := w) rfl rfl hI.1.o111 rfl rfl rfl) rfl rfl (c7) rfl ?_
    refine sx_RP.step (pc2 := 41) (ls2 := [(0, .ref 111), (1, .int (nI g)), (2, .int (nI t)), (3, .int (nI j))]) (st2 := [.int 1, .int (nI x5)]) (w3 := w) rfl rfl ?_
    refine sx_RP.br (p1 := 52) (l1 := [(0, .ref 111), (1, .int (nI g)), (2, .int (nI t)), (3, .int (nI j))]) (s1 := []) (v1 := w) (p2 := 44) (l2 := [(0, .ref 111), (1, .int (nI g)), (2, .int (nI t)), (3, .int (nI j))]) (s2 := []) (v2 := w) rfl rfl (fun q8 => ?_) (fun q8 => ?_)
    · replace q8 := of_decide_eq_true q8
      replace q8 := mt (nI_eq (a := x5) (b := 1) (by omega) (by omega)).mpr q8
      refine sx_RP.step (pc2 := 55) (ls2 := [(3, .int ((nI j) + 1)), (0, .ref 111), (1, .int (nI g)), (2, .int (nI t))]) (st2 := []) (w3 := w) rfl rfl ?_
      rw [nI_1 j]
      refine sx_RP.step (pc2 := 24) (ls2 := [(3, .int (nI (j + 1))), (0, .ref 111), (1, .int (nI g)), (2, .int (nI t))]) (st2 := []) (w3 := w) rfl rfl ?_
      exact sx_RP.ls (sx_lr.cons rfl (sx_lr.cons rfl (sx_lr.cons rfl (sx_lr.cons rfl sx_lr.nil)))) (kk w hI hE (by omega))
    · replace q8 := Decidable.not_not.mp (of_decide_eq_false q8)
      replace q8 := (nI_eq (a := x5) (b := 1) (by omega) (by omega)).mp q8
      refine sx_RP.step (pc2 := 45) (ls2 := [(0, .ref 111), (1, .int (nI g)), (2, .int (nI t)), (3, .int (nI j))]) (st2 := [.ref 111]) (w3 := w) rfl rfl ?_
      refine sx_RP.step (pc2 := 46) (ls2 := [(0, .ref 111), (1, .int (nI g)), (2, .int (nI t)), (3, .int (nI j))]) (st2 := [.int (nI j), .ref 111]) (w3 := w) rfl rfl ?_
      refine sx_RP.step (pc2 := 47) (ls2 := [(0, .ref 111), (1, .int (nI g)), (2, .int (nI t)), (3, .int (nI j))]) (st2 := [.int 5, .int (nI j), .ref 111]) (w3 := w) rfl rfl ?_
      refine sx_RP.step (pc2 := 48) (ls2 := [(0, .ref 111), (1, .int (nI g)), (2, .int (nI t)), (3, .int (nI j))]) (st2 := [.int 1, .int 5, .int (nI j), .ref 111]) (w3 := w) rfl rfl ?_
      refine sx_RP.callp (as2 := [.ref 111, .int (nI j), .int 5, .int 1]) (rest2 := []) rfl rfl (sx_inv_v2 (mi := 182) (k := 110) (st := [.int 1, .int 5, .int (nI j), .ref 111]) (w := w) rfl rfl hI.1.o111 rfl rfl rfl) rfl rfl rfl (s154_5 hI (show j < 10 by omega) (show 1 ≤ 1 by omega)) (show _ = 51 from rfl) ?_
      rintro r4 w10 ⟨⟨v9, rfl⟩, hI11, hE13⟩
      have hE12 := hE.tr (hE13)
      show sx_RP _ _ _ _ _ [.int v9] _ _
      refine sx_RP.step (pc2 := 52) (ls2 := [(0, .ref 111), (1, .int (nI g)), (2, .int (nI t)), (3, .int (nI j))]) (st2 := []) (w3 := w10) rfl rfl ?_
      refine sx_RP.step (pc2 := 55) (ls2 := [(3, .int ((nI j) + 1)), (0, .ref 111), (1, .int (nI g)), (2, .int (nI t))]) (st2 := []) (w3 := w10) rfl rfl ?_
      rw [nI_1 j]
      refine sx_RP.step (pc2 := 24) (ls2 := [(3, .int (nI (j + 1))), (0, .ref 111), (1, .int (nI g)), (2, .int (nI t))]) (st2 := []) (w3 := w10) rfl rfl ?_
      exact sx_RP.ls (sx_lr.cons rfl (sx_lr.cons rfl (sx_lr.cons rfl (sx_lr.cons rfl sx_lr.nil)))) (kk w10 hI11 hE12 (by omega))
set_option maxRecDepth 20000 in
set_option maxHeartbeats 4000000 in
theorem s182aL {xs : Option (List Int32)} {d : Nat} {w0 : List sx_C} {P : Option Value → List sx_C → Prop} {g t : Nat} (hg : g < 10) (ht : t < 10) (kx58 : ∀ (w4 : List sx_C), WI w4 → EM w0 w4 → sx_RP xs (d + 4) 182 58 [(0, .ref 111), (1, .int (nI g)), (2, .int (nI t))] [] w4 P) : ∀ (fz j : Nat) (w : List sx_C) , 10 ≤ j + fz * 1 → j ≤ 10 → WI w → EM w0 w → sx_RP xs (d + 4) 182 24 [(0, .ref 111), (1, .int (nI g)), (2, .int (nI t)), (3, .int (nI j))] [] w P
  | 0, j, w, h, hj, hI, hE => s182aB hg ht hI hE hj   (fun w4  hI4 hE4 hlt  => absurd hlt (by omega)) kx58
  | fz + 1, j, w, h, hj, hI, hE => s182aB hg ht hI hE hj   (fun w4  hI4 hE4 hlt  => s182aL hg ht kx58 fz (j + 1) w4  (by omega) hlt hI4 hE4 ) kx58
set_option maxRecDepth 20000 in
set_option maxHeartbeats 4000000 in
theorem s182cB {xs : Option (List Int32)} {d : Nat} {w w0 : List sx_C} {P : Option Value → List sx_C → Prop} {g t : Nat} (hg : g < 10) (ht : t < 10) {n : Nat} (hI : WI w) (hE : EM w0 w) {j : Nat} (hj : j ≤ 48) (m : Int32) (kk : ∀ (w4 : List sx_C) (um : Int32), WI w4 → EM w0 w4 → j + 1 ≤ 48 → sx_RP xs (d + 4) 182 85 [(0, .ref 111), (1, .int (nI g)), (2, .int (nI t)), (3, .int (nI n)), (4, .int um), (5, .int (nI (j + 1)))] [] w4 P) (kx145 : ∀ (w4 : List sx_C) (um : Int32), WI w4 → EM w0 w4 → sx_RP xs (d + 4) 182 145 [(0, .ref 111), (1, .int (nI g)), (2, .int (nI t)), (3, .int (nI n)), (4, .int um)] [] w4 P) : sx_RP xs (d + 4) 182 85 [(0, .ref 111), (1, .int (nI g)), (2, .int (nI t)), (3, .int (nI n)), (4, .int m), (5, .int (nI j))] [] w P := by
  refine sx_RP.step (pc2 := 87) (ls2 := [(0, .ref 111), (1, .int (nI g)), (2, .int (nI t)), (3, .int (nI n)), (4, .int m), (5, .int (nI j))]) (st2 := [.int (nI j)]) (w3 := w) rfl rfl ?_
  refine sx_RP.step (pc2 := 89) (ls2 := [(0, .ref 111), (1, .int (nI g)), (2, .int (nI t)), (3, .int (nI n)), (4, .int m), (5, .int (nI j))]) (st2 := [.int 48, .int (nI j)]) (w3 := w) rfl rfl ?_
  refine sx_RP.br (p1 := 145) (l1 := [(0, .ref 111), (1, .int (nI g)), (2, .int (nI t)), (3, .int (nI n)), (4, .int m), (5, .int (nI j))]) (s1 := []) (v1 := w) (p2 := 92) (l2 := [(0, .ref 111), (1, .int (nI g)), (2, .int (nI t)), (3, .int (nI n)), (4, .int m), (5, .int (nI j))]) (s2 := []) (v2 := w) rfl rfl (fun q1 => ?_) (fun q1 => ?_)
  · replace q1 := of_decide_eq_true q1
    replace q1 := (nI_leI (a := 48) (b := j) (by omega) (by omega)).mp q1
    exact sx_RP.ls (sx_lr.cons rfl (sx_lr.cons rfl (sx_lr.cons rfl (sx_lr.cons rfl (sx_lr.cons rfl sx_lr.nil))))) (kx145 w m hI hE)
  · replace q1 := of_decide_eq_false q1
    replace q1 := mt (nI_leI (a := 48) (b := j) (by omega) (by omega)).mpr q1
    refine sx_RP.step (pc2 := 94) (ls2 := [(0, .ref 111), (1, .int (nI g)), (2, .int (nI t)), (3, .int (nI n)), (4, .int m), (5, .int (nI j))]) (st2 := [.int m]) (w3 := w) rfl rfl ?_
    refine sx_RP.br (p1 := 145) (l1 := [(0, .ref 111), (1, .int (nI g)), (2, .int (nI t)), (3, .int (nI n)), (4, .int m), (5, .int (nI j))]) (s1 := []) (v1 := w) (p2 := 97) (l2 := [(0, .ref 111), (1, .int (nI g)), (2, .int (nI t)), (3, .int (nI n)), (4, .int m), (5, .int (nI j))]) (s2 := []) (v2 := w) rfl rfl (fun q2 => ?_) (fun q2 => ?_)
    · replace q2 := of_decide_eq_true q2
      exact sx_RP.ls (sx_lr.cons rfl (sx_lr.cons rfl (sx_lr.cons rfl (sx_lr.cons rfl (sx_lr.cons rfl sx_lr.nil))))) (kx145 w m hI hE)
    · replace q2 := of_decide_eq_false q2
      refine sx_RP.step (pc2 := 98) (ls2 := [(0, .ref 111), (1, .int (nI g)), (2, .int (nI t)), (3, .int (nI n)), (4, .int m), (5, .int (nI j))]) (st2 := [.ref 111]) (w3 := w) rfl rfl ?_
      refine sx_RP.gf (v := .ref 117) rfl rfl hI.1.o111 rfl rfl (show _ = 101 from rfl) ?_
      refine sx_RP.step (pc2 := 103) (ls2 := [(0, .ref 111), (1, .int (nI g)), (2, .int (nI t)), (3, .int (nI n)), (4, .int m), (5, .int (nI j))]) (st2 := [.int (nI j), .ref 117]) (w3 := w) rfl rfl ?_
      refine sx_RP.ild (c := j) rfl hI.1.a117.1 hI.1.a117.2 (sx_in_nI (show j < 48 by omega) (by decide)) (show (nI j).toNatClampNeg = j from nI_clamp (by omega)) (show _ = 104 from rfl) ?_
      refine sx_RP.br (p1 := 136) (l1 := [(0, .ref 111), (1, .int (nI g)), (2, .int (nI t)), (3, .int (nI n)), (4, .int m), (5, .int (nI j))]) (s1 := []) (v1 := w) (p2 := 107) (l2 := [(0, .ref 111), (1, .int (nI g)), (2, .int (nI t)), (3, .int (nI n)), (4, .int m), (5, .int (nI j))]) (s2 := []) (v2 := w) rfl rfl (fun q3 => ?_) (fun q3 => ?_)
      · replace q3 := of_decide_eq_true q3
        refine sx_RP.step (pc2 := 137) (ls2 := [(0, .ref 111), (1, .int (nI g)), (2, .int (nI t)), (3, .int (nI n)), (4, .int m), (5, .int (nI j))]) (st2 := [.int (-1)]) (w3 := w) rfl rfl ?_
        refine sx_RP.step (pc2 := 139) (ls2 := [(4, .int (-1)), (0, .ref 111), (1, .int (nI g)), (2, .int (nI t)), (3, .int (nI n)), (5, .int (nI j))]) (st2 := []) (w3 := w) rfl rfl ?_
        refine sx_RP.step (pc2 := 142) (ls2 := [(5, .int ((nI j) + 1)), (4, .int (-1)), (0, .ref 111), (1, .int (nI g)), (2, .int (nI t)), (3, .int (nI n))]) (st2 := []) (w3 := w) rfl rfl ?_
        rw [nI_1 j]
        refine sx_RP.step (pc2 := 85) (ls2 := [(5, .int (nI (j + 1))), (4, .int (-1)), (0, .ref 111), (1, .int (nI g)), (2, .int (nI t)), (3, .int (nI n))]) (st2 := []) (w3 := w) rfl rfl ?_
        exact sx_RP.ls (sx_lr.cons rfl (sx_lr.cons rfl (sx_lr.cons rfl (sx_lr.cons rfl (sx_lr.cons rfl (sx_lr.cons rfl sx_lr.nil)))))) (kk w (-1) hI hE (by omega))
      · replace q3 := of_decide_eq_false q3
        refine sx_RP.step (pc2 := 108) (ls2 := [(0, .ref 111), (1, .int (nI g)), (2, .int (nI t)), (3, .int (nI n)), (4, .int m), (5, .int (nI j))]) (st2 := [.ref 111]) (w3 := w) rfl rfl ?_
        refine sx_RP.gf (v := .ref 117) rfl rfl hI.1.o111 rfl rfl (show _ = 111 from rfl) ?_
        refine sx_RP.step (pc2 := 113) (ls2 := [(0, .ref 111), (1, .int (nI g)), (2, .int (nI t)), (3, .int (nI n)), (4, .int m), (5, .int (nI j))]) (st2 := [.int (nI j), .ref 117]) (w3 := w) rfl rfl ?_
        refine sx_RP.ild (c := j) rfl hI.1.a117.1 hI.1.a117.2 (sx_in_nI (show j < 48 by omega) (by decide)) (show (nI j).toNatClampNeg = j from nI_clamp (by omega)) (show _ = 114 from rfl) ?_
        refine sx_RP.step (pc2 := 115) (ls2 := [(0, .ref 111), (1, .int (nI g)), (2, .int (nI t)), (3, .int (nI n)), (4, .int m), (5, .int (nI j))]) (st2 := [.int (nI n), .int ((ia w 117).getD j 0)]) (w3 := w) rfl rfl ?_
        refine sx_RP.br (p1 := 136) (l1 := [(0, .ref 111), (1, .int (nI g)), (2, .int (nI t)), (3, .int (nI n)), (4, .int m), (5, .int (nI j))]) (s1 := []) (v1 := w) (p2 := 118) (l2 := [(0, .ref 111), (1, .int (nI g)), (2, .int (nI t)), (3, .int (nI n)), (4, .int m), (5, .int (nI j))]) (s2 := []) (v2 := w) rfl rfl (fun q4 => ?_) (fun q4 => ?_)
        · replace q4 := of_decide_eq_true q4
          refine sx_RP.step (pc2 := 137) (ls2 := [(0, .ref 111), (1, .int (nI g)), (2, .int (nI t)), (3, .int (nI n)), (4, .int m), (5, .int (nI j))]) (st2 := [.int (-1)]) (w3 := w) rfl rfl ?_
          refine sx_RP.step (pc2 := 139) (ls2 := [(4, .int (-1)), (0, .ref 111), (1, .int (nI g)), (2, .int (nI t)), (3, .int (nI n)), (5, .int (nI j))]) (st2 := []) (w3 := w) rfl rfl ?_
          refine sx_RP.step (pc2 := 142) (ls2 := [(5, .int ((nI j) + 1)), (4, .int (-1)), (0, .ref 111), (1, .int (nI g)), (2, .int (nI t)), (3, .int (nI n))]) (st2 := []) (w3 := w) rfl rfl ?_
          rw [nI_1 j]
          refine sx_RP.step (pc2 := 85) (ls2 := [(5, .int (nI (j + 1))), (4, .int (-1)), (0, .ref 111), (1, .int (nI g)), (2, .int (nI t)), (3, .int (nI n))]) (st2 := []) (w3 := w) rfl rfl ?_
          exact sx_RP.ls (sx_lr.cons rfl (sx_lr.cons rfl (sx_lr.cons rfl (sx_lr.cons rfl (sx_lr.cons rfl (sx_lr.cons rfl sx_lr.nil)))))) (kk w (-1) hI hE (by omega))
        · replace q4 := of_decide_eq_false q4
          refine sx_RP.step (pc2 := 119) (ls2 := [(0, .ref 111), (1, .int (nI g)), (2, .int (nI t)), (3, .int (nI n)), (4, .int m), (5, .int (nI j))]) (st2 := [.ref 111]) (w3 := w) rfl rfl ?_
          refine sx_RP.step (pc2 := 120) (ls2 := [(0, .ref 111), (1, .int (nI g)), (2, .int (nI t)), (3, .int (nI n)), (4, .int m), (5, .int (nI j))]) (st2 := [.int (nI t), .ref 111]) (w3 := w) rfl rfl ?_
          refine sx_RP.step (pc2 := 121) (ls2 := [(0, .ref 111), (1, .int (nI g)), (2, .int (nI t)), (3, .int (nI n)), (4, .int m), (5, .int (nI j))]) (st2 := [.int 2, .int (nI t), .ref 111]) (w3 := w) rfl rfl ?_
          obtain ⟨x5, hx6, c7⟩ := p138_2 hI (show t < 10 by omega)
          refine sx_RP.cu (as := [.ref 111, .int (nI t), .int 2]) (rest2 := []) (st3 := [.int (nI x5)]) rfl rfl (sx_inv_v2 (mi := 182) (k := 59) (st := [.int 2, .int (nI t), .ref 111]) (w := w) rfl rfl hI.1.o111 rfl rfl rfl) rfl rfl (c7) rfl ?_
          refine sx_RP.step (pc2 := 126) (ls2 := [(0, .ref 111), (1, .int (nI g)), (2, .int (nI t)), (3, .int (nI n)), (4, .int m), (5, .int (nI j))]) (st2 := [.int (nI j), .int (nI x5)]) (w3 := w) rfl rfl ?_
          obtain ⟨x8, hx9, c10⟩ := p172 hI (show x5 < 48 by omega) (nI j)
          refine sx_RP.cu (as := [.int (nI x5), .int (nI j)]) (rest2 := []) (st3 := [.int (nI x8)]) rfl rfl rfl rfl rfl (c10) rfl ?_
          refine sx_RP.br (p1 := 136) (l1 := [(0, .ref 111), (1, .int (nI g)), (2, .int (nI t)), (3, .int (nI n)), (4, .int m), (5, .int (nI j))]) (s1 := []) (v1 := w) (p2 := 132) (l2 := [(0, .ref 111), (1, .int (nI g)), (2, .int (nI t)), (3, .int (nI n)), (4, .int m), (5, .int (nI j))]) (s2 := []) (v2 := w) rfl rfl (fun q11 => ?_) (fun q11 => ?_)
          · replace q11 := of_decide_eq_true q11
            replace q11 := (nI_eq (a := x8) (b := 0) (by omega) (by omega)).mp q11
            refine sx_RP.step (pc2 := 137) (ls2 := [(0, .ref 111), (1, .int (nI g)), (2, .int (nI t)), (3, .int (nI n)), (4, .int m), (5, .int (nI j))]) (st2 := [.int (-1)]) (w3 := w) rfl rfl ?_
            refine sx_RP.step (pc2 := 139) (ls2 := [(4, .int (-1)), (0, .ref 111), (1, .int (nI g)), (2, .int (nI t)), (3, .int (nI n)), (5, .int (nI j))]) (st2 := []) (w3 := w) rfl rfl ?_
            refine sx_RP.step (pc2 := 142) (ls2 := [(5, .int ((nI j) + 1)), (4, .int (-1)), (0, .ref 111), (1, .int (nI g)), (2, .int (nI t)), (3, .int (nI n))]) (st2 := []) (w3 := w) rfl rfl ?_
            rw [nI_1 j]
            refine sx_RP.step (pc2 := 85) (ls2 := [(5, .int (nI (j + 1))), (4, .int (-1)), (0, .ref 111), (1, .int (nI g)), (2, .int (nI t)), (3, .int (nI n))]) (st2 := []) (w3 := w) rfl rfl ?_
            exact sx_RP.ls (sx_lr.cons rfl (sx_lr.cons rfl (sx_lr.cons rfl (sx_lr.cons rfl (sx_lr.cons rfl (sx_lr.cons rfl sx_lr.nil)))))) (kk w (-1) hI hE (by omega))
          · replace q11 := of_decide_eq_false q11
            replace q11 := mt (nI_eq (a := x8) (b := 0) (by omega) (by omega)).mpr q11
            refine sx_RP.step (pc2 := 133) (ls2 := [(0, .ref 111), (1, .int (nI g)), (2, .int (nI t)), (3, .int (nI n)), (4, .int m), (5, .int (nI j))]) (st2 := [.int (nI n)]) (w3 := w) rfl rfl ?_
            refine sx_RP.step (pc2 := 137) (ls2 := [(0, .ref 111), (1, .int (nI g)), (2, .int (nI t)), (3, .int (nI n)), (4, .int m), (5, .int (nI j))]) (st2 := [.int (nI n)]) (w3 := w) rfl rfl ?_
            refine sx_RP.step (pc2 := 139) (ls2 := [(4, .int (nI n)), (0, .ref 111), (1, .int (nI g)), (2, .int (nI t)), (3, .int (nI n)), (5, .int (nI j))]) (st2 := []) (w3 := w) rfl rfl ?_
            refine sx_RP.step (pc2 := 142) (ls2 := [(5, .int ((nI j) + 1)), (4, .int (nI n)), (0, .ref 111), (1, .int (nI g)), (2, .int (nI t)), (3, .int (nI n))]) (st2 := []) (w3 := w) rfl rfl ?_
            rw [nI_1 j]
            refine sx_RP.step (pc2 := 85) (ls2 := [(5, .int (nI (j + 1))), (4, .int (nI n)), (0, .ref 111), (1, .int (nI g)), (2, .int (nI t)), (3, .int (nI n))]) (st2 := []) (w3 := w) rfl rfl ?_
            exact sx_RP.ls (sx_lr.cons rfl (sx_lr.cons rfl (sx_lr.cons rfl (sx_lr.cons rfl (sx_lr.cons rfl (sx_lr.cons rfl sx_lr.nil)))))) (kk w (nI n) hI hE (by omega))
set_option maxRecDepth 20000 in
set_option maxHeartbeats 4000000 in
theorem s182cL {xs : Option (List Int32)} {d : Nat} {w0 : List sx_C} {P : Option Value → List sx_C → Prop} {g t : Nat} (hg : g < 10) (ht : t < 10) {n : Nat} (kx145 : ∀ (w4 : List sx_C) (um : Int32), WI w4 → EM w0 w4 → sx_RP xs (d + 4) 182 145 [(0, .ref 111), (1, .int (nI g)), (2, .int (nI t)), (3, .int (nI n)), (4, .int um)] [] w4 P) : ∀ (fz j : Nat) (w : List sx_C) (m : Int32) , 48 ≤ j + fz * 1 → j ≤ 48 → WI w → EM w0 w → sx_RP xs (d + 4) 182 85 [(0, .ref 111), (1, .int (nI g)), (2, .int (nI t)), (3, .int (nI n)), (4, .int m), (5, .int (nI j))] [] w P
  | 0, j, w, m, h, hj, hI, hE => s182cB hg ht (n := n) hI hE hj m  (fun w4 um hI4 hE4 hlt  => absurd hlt (by omega)) kx145
  | fz + 1, j, w, m, h, hj, hI, hE => s182cB hg ht (n := n) hI hE hj m  (fun w4 um hI4 hE4 hlt  => s182cL hg ht (n := n) kx145 fz (j + 1) w4 um (by omega) hlt hI4 hE4 ) kx145
set_option maxRecDepth 20000 in
set_option maxHeartbeats 4000000 in
theorem s182bB {xs : Option (List Int32)} {d : Nat} {w w0 : List sx_C} {P : Option Value → List sx_C → Prop} {g t : Nat} (hg : g < 10) (ht : t < 10) (hI : WI w) (hE : EM w0 w) {j : Nat} (hj : j ≤ 61) (m : Int32) (kk : ∀ (w4 : List sx_C) (um : Int32), WI w4 → EM w0 w4 → j + 1 ≤ 61 → sx_RP xs (d + 4) 182 63 [(0, .ref 111), (1, .int (nI g)), (2, .int (nI t)), (4, .int um), (3, .int (nI (j + 1)))] [] w4 P) (kx155 : ∀ (w4 : List sx_C) (um : Int32), WI w4 → EM w0 w4 → sx_RP xs (d + 4) 182 155 [(0, .ref 111), (1, .int (nI g)), (2, .int (nI t)), (4, .int um)] [] w4 P) : sx_RP xs (d + 4) 182 63 [(0, .ref 111), (1, .int (nI g)), (2, .int (nI t)), (4, .int m), (3, .int (nI j))] [] w P := by
  refine sx_RP.step (pc2 := 64) (ls2 := [(0, .ref 111), (1, .int (nI g)), (2, .int (nI t)), (4, .int m), (3, .int (nI j))]) (st2 := [.int (nI j)]) (w3 := w) rfl rfl ?_
  refine sx_RP.step (pc2 := 66) (ls2 := [(0, .ref 111), (1, .int (nI g)), (2, .int (nI t)), (4, .int m), (3, .int (nI j))]) (st2 := [.int 60, .int (nI j)]) (w3 := w) rfl rfl ?_
  refine sx_RP.br (p1 := 155) (l1 := [(0, .ref 111), (1, .int (nI g)), (2, .int (nI t)), (4, .int m), (3, .int (nI j))]) (s1 := []) (v1 := w) (p2 := 69) (l2 := [(0, .ref 111), (1, .int (nI g)), (2, .int (nI t)), (4, .int m), (3, .int (nI j))]) (s2 := []) (v2 := w) rfl rfl (fun q1 => ?_) (fun q1 => ?_)
  · replace q1 := of_decide_eq_true q1
    replace q1 := (nI_ltI (a := 60) (b := j) (by omega) (by omega)).mp q1
    exact sx_RP.ls (sx_lr.cons rfl (sx_lr.cons rfl (sx_lr.cons rfl (sx_lr.cons rfl sx_lr.nil)))) (kx155 w m hI hE)
  · replace q1 := of_decide_eq_false q1
    replace q1 := mt (nI_ltI (a := 60) (b := j) (by omega) (by omega)).mpr q1
    refine sx_RP.step (pc2 := 71) (ls2 := [(0, .ref 111), (1, .int (nI g)), (2, .int (nI t)), (4, .int m), (3, .int (nI j))]) (st2 := [.int m]) (w3 := w) rfl rfl ?_
    refine sx_RP.br (p1 := 155) (l1 := [(0, .ref 111), (1, .int (nI g)), (2, .int (nI t)), (4, .int m), (3, .int (nI j))]) (s1 := []) (v1 := w) (p2 := 74) (l2 := [(0, .ref 111), (1, .int (nI g)), (2, .int (nI t)), (4, .int m), (3, .int (nI j))]) (s2 := []) (v2 := w) rfl rfl (fun q2 => ?_) (fun q2 => ?_)
    · replace q2 := of_decide_eq_true q2
      exact sx_RP.ls (sx_lr.cons rfl (sx_lr.cons rfl (sx_lr.cons rfl (sx_lr.cons rfl sx_lr.nil)))) (kx155 w m hI hE)
    · replace q2 := of_decide_eq_false q2
      refine sx_RP.step (pc2 := 75) (ls2 := [(0, .ref 111), (1, .int (nI g)), (2, .int (nI t)), (4, .int m), (3, .int (nI j))]) (st2 := [.ref 111]) (w3 := w) rfl rfl ?_
      refine sx_RP.step (pc2 := 76) (ls2 := [(0, .ref 111), (1, .int (nI g)), (2, .int (nI t)), (4, .int m), (3, .int (nI j))]) (st2 := [.int (nI t), .ref 111]) (w3 := w) rfl rfl ?_
      obtain ⟨x3, hx4, c5⟩ := p137 hI (show t < 10 by omega)
      refine sx_RP.cu (as := [.ref 111, .int (nI t)]) (rest2 := []) (st3 := [.int (nI x3)]) rfl rfl (sx_inv_v2 (mi := 182) (k := 74) (st := [.int (nI t), .ref 111]) (w := w) rfl rfl hI.1.o111 rfl rfl rfl) rfl rfl (c5) rfl ?_
      refine sx_RP.br (p1 := 155) (l1 := [(0, .ref 111), (1, .int (nI g)), (2, .int (nI t)), (4, .int m), (3, .int (nI j))]) (s1 := []) (v1 := w) (p2 := 82) (l2 := [(0, .ref 111), (1, .int (nI g)), (2, .int (nI t)), (4, .int m), (3, .int (nI j))]) (s2 := []) (v2 := w) rfl rfl (fun q6 => ?_) (fun q6 => ?_)
      · replace q6 := of_decide_eq_true q6
        replace q6 := (nI_eq (a := x3) (b := 0) (by omega) (by omega)).mp q6
        exact sx_RP.ls (sx_lr.cons rfl (sx_lr.cons rfl (sx_lr.cons rfl (sx_lr.cons rfl sx_lr.nil)))) (kx155 w m hI hE)
      · replace q6 := of_decide_eq_false q6
        replace q6 := mt (nI_eq (a := x3) (b := 0) (by omega) (by omega)).mpr q6
        refine sx_RP.step (pc2 := 83) (ls2 := [(0, .ref 111), (1, .int (nI g)), (2, .int (nI t)), (4, .int m), (3, .int (nI j))]) (st2 := [.int 0]) (w3 := w) rfl rfl ?_
        refine sx_RP.step (pc2 := 85) (ls2 := [(5, .int 0), (0, .ref 111), (1, .int (nI g)), (2, .int (nI t)), (4, .int m), (3, .int (nI j))]) (st2 := []) (w3 := w) rfl rfl ?_
        refine sx_RP.ls (sx_lr.cons rfl (sx_lr.cons rfl (sx_lr.cons rfl (sx_lr.cons rfl (sx_lr.cons rfl (sx_lr.cons rfl sx_lr.nil)))))) (s182cL hg ht (n := j) (fun w7 u10 hI8 hE9 => ?_) 48 0 w m (by omega) (by omega) hI hE )
        refine sx_RP.step (pc2 := 146) (ls2 := [(0, .ref 111), (1, .int (nI g)), (2, .int (nI t)), (3, .int (nI j)), (4, .int u10)]) (st2 := [.ref 111]) (w3 := w7) rfl rfl ?_
        refine sx_RP.callp (as2 := [.ref 111]) (rest2 := []) rfl rfl (sx_inv_v2 (mi := 182) (k := 143) (st := [.ref 111]) (w := w7) rfl rfl hI8.1.o111 rfl rfl rfl) rfl rfl rfl (s169 hI8 ) (show _ = 149 from rfl) ?_
        rintro r4 w11 ⟨rfl, hI12, hE14⟩
        have hE13 := hE9.tr (hE14)
        show sx_RP _ _ _ _ _ [] _ _
        refine sx_RP.step (pc2 := 152) (ls2 := [(3, .int ((nI j) + 1)), (0, .ref 111), (1, .int (nI g)), (2, .int (nI t)), (4, .int u10)]) (st2 := []) (w3 := w11) rfl rfl ?_
        rw [nI_1 j]
        refine sx_RP.step (pc2 := 63) (ls2 := [(3, .int (nI (j + 1))), (0, .ref 111), (1, .int (nI g)), (2, .int (nI t)), (4, .int u10)]) (st2 := []) (w3 := w11) rfl rfl ?_
        exact sx_RP.ls (sx_lr.cons rfl (sx_lr.cons rfl (sx_lr.cons rfl (sx_lr.cons rfl (sx_lr.cons rfl sx_lr.nil))))) (kk w11 u10 hI12 hE13 (by omega))
set_option maxRecDepth 20000 in
set_option maxHeartbeats 4000000 in
theorem s182bL {xs : Option (List Int32)} {d : Nat} {w0 : List sx_C} {P : Option Value → List sx_C → Prop} {g t : Nat} (hg : g < 10) (ht : t < 10) (kx155 : ∀ (w4 : List sx_C) (um : Int32), WI w4 → EM w0 w4 → sx_RP xs (d + 4) 182 155 [(0, .ref 111), (1, .int (nI g)), (2, .int (nI t)), (4, .int um)] [] w4 P) : ∀ (fz j : Nat) (w : List sx_C) (m : Int32) , 61 ≤ j + fz * 1 → j ≤ 61 → WI w → EM w0 w → sx_RP xs (d + 4) 182 63 [(0, .ref 111), (1, .int (nI g)), (2, .int (nI t)), (4, .int m), (3, .int (nI j))] [] w P
  | 0, j, w, m, h, hj, hI, hE => s182bB hg ht hI hE hj m  (fun w4 um hI4 hE4 hlt  => absurd hlt (by omega)) kx155
  | fz + 1, j, w, m, h, hj, hI, hE => s182bB hg ht hI hE hj m  (fun w4 um hI4 hE4 hlt  => s182bL hg ht kx155 fz (j + 1) w4 um (by omega) hlt hI4 hE4 ) kx155
set_option maxRecDepth 20000 in
set_option maxHeartbeats 4000000 in
theorem s182 {xs : Option (List Int32)} {d : Nat} {w : List sx_C} (hI : WI w) {g t : Nat} (hg : g < 10) (ht : t < 10) : sx_RP xs (d + 4) 182 0 (lv_args 0 [.ref 111, .int (nI g), .int (nI t)]) [] w (fun r w2 => (∃ v : Int32, r = some (.int v)) ∧ WI w2 ∧ EM w w2) := by
  have hE : EM w w := EM.rf
  refine sx_RP.step (pc2 := 1) (ls2 := [(0, .ref 111), (1, .int (nI g)), (2, .int (nI t))]) (st2 := [.ref 111]) (w3 := w) rfl rfl ?_
  refine sx_RP.step (pc2 := 2) (ls2 := [(0, .ref 111), (1, .int (nI g)), (2, .int (nI t))]) (st2 := [.ref 111, .ref 111]) (w3 := w) rfl rfl ?_
  refine sx_RP.step (pc2 := 3) (ls2 := [(0, .ref 111), (1, .int (nI g)), (2, .int (nI t))]) (st2 := [.int (nI g), .ref 111, .ref 111]) (w3 := w) rfl rfl ?_
  refine sx_RP.step (pc2 := 4) (ls2 := [(0, .ref 111), (1, .int (nI g)), (2, .int (nI t))]) (st2 := [.int 2, .int (nI g), .ref 111, .ref 111]) (w3 := w) rfl rfl ?_
  obtain ⟨x1, hx2, c3⟩ := p138_2 hI (show g < 10 by omega)
  refine sx_RP.cu (as := [.ref 111, .int (nI g), .int 2]) (rest2 := [.ref 111]) (st3 := [.int (nI x1), .ref 111]) rfl rfl (sx_inv_v2 (mi := 182) (k := 59) (st := [.int 2, .int (nI g), .ref 111, .ref 111]) (w := w) rfl rfl hI.1.o111 rfl rfl rfl) rfl rfl (c3) rfl ?_
  refine sx_RP.step (pc2 := 8) (ls2 := [(0, .ref 111), (1, .int (nI g)), (2, .int (nI t))]) (st2 := [.int (nI g), .int (nI x1), .ref 111]) (w3 := w) rfl rfl ?_
  refine sx_RP.callp (as2 := [.ref 111, .int (nI x1), .int (nI g)]) (rest2 := []) rfl rfl (sx_inv_v2 (mi := 182) (k := 94) (st := [.int (nI g), .int (nI x1), .ref 111]) (w := w) rfl rfl hI.1.o111 rfl rfl rfl) rfl rfl rfl (s141d hI (show x1 < 48 by omega) (show g < 10 by omega)) (show _ = 11 from rfl) ?_
  rintro r4 w4 ⟨rfl, hI5, hE7⟩
  have hE6 := hE.tr (hE7)
  show sx_RP _ _ _ _ _ [] _ _
  refine sx_RP.step (pc2 := 12) (ls2 := [(0, .ref 111), (1, .int (nI g)), (2, .int (nI t))]) (st2 := [.ref 111]) (w3 := w4) rfl rfl ?_
  refine sx_RP.gf (v := .ref 112) rfl rfl hI5.1.o111 rfl rfl (show _ = 15 from rfl) ?_
  refine sx_RP.step (pc2 := 16) (ls2 := [(0, .ref 111), (1, .int (nI g)), (2, .int (nI t))]) (st2 := [.ref 111, .ref 112]) (w3 := w4) rfl rfl ?_
  refine sx_RP.gf (v := .ref 114) rfl rfl hI5.1.o111 rfl rfl (show _ = 19 from rfl) ?_
  refine sx_RP.callp (as2 := [.ref 112, .ref 114]) (rest2 := []) rfl rfl rfl rfl rfl rfl (s175 hI5 (a := 112) (b := 114) (by decide) (by decide)) (show _ = 22 from rfl) ?_
  rintro r4 w8 ⟨rfl, hI9, hE11⟩
  have hE10 := hE6.tr (hE11)
  show sx_RP _ _ _ _ _ [] _ _
  refine sx_RP.step (pc2 := 23) (ls2 := [(0, .ref 111), (1, .int (nI g)), (2, .int (nI t))]) (st2 := [.int 0]) (w3 := w8) rfl rfl ?_
  refine sx_RP.step (pc2 := 24) (ls2 := [(3, .int 0), (0, .ref 111), (1, .int (nI g)), (2, .int (nI t))]) (st2 := []) (w3 := w8) rfl rfl ?_
  refine sx_RP.ls (sx_lr.cons rfl (sx_lr.cons rfl (sx_lr.cons rfl (sx_lr.cons rfl sx_lr.nil)))) (s182aL hg ht (fun w12 hI13 hE14 => ?_) 10 0 w8  (by omega) (by omega) hI9 hE10 )
  refine sx_RP.step (pc2 := 59) (ls2 := [(0, .ref 111), (1, .int (nI g)), (2, .int (nI t))]) (st2 := [.int 0]) (w3 := w12) rfl rfl ?_
  refine sx_RP.step (pc2 := 60) (ls2 := [(3, .int 0), (0, .ref 111), (1, .int (nI g)), (2, .int (nI t))]) (st2 := []) (w3 := w12) rfl rfl ?_
  refine sx_RP.step (pc2 := 61) (ls2 := [(3, .int 0), (0, .ref 111), (1, .int (nI g)), (2, .int (nI t))]) (st2 := [.int (-1)]) (w3 := w12) rfl rfl ?_
  refine sx_RP.step (pc2 := 63) (ls2 := [(4, .int (-1)), (3, .int 0), (0, .ref 111), (1, .int (nI g)), (2, .int (nI t))]) (st2 := []) (w3 := w12) rfl rfl ?_
  refine sx_RP.ls (sx_lr.cons rfl (sx_lr.cons rfl (sx_lr.cons rfl (sx_lr.cons rfl (sx_lr.cons rfl sx_lr.nil))))) (s182bL hg ht (fun w15 u18 hI16 hE17 => ?_) 61 0 w12 (-1) (by omega) (by omega) hI13 hE14 )
  refine sx_RP.step (pc2 := 156) (ls2 := [(0, .ref 111), (1, .int (nI g)), (2, .int (nI t)), (4, .int u18)]) (st2 := [.ref 111]) (w3 := w15) rfl rfl ?_
  refine sx_RP.gf (v := .ref 114) rfl rfl hI16.1.o111 rfl rfl (show _ = 159 from rfl) ?_
  refine sx_RP.step (pc2 := 160) (ls2 := [(0, .ref 111), (1, .int (nI g)), (2, .int (nI t)), (4, .int u18)]) (st2 := [.ref 111, .ref 114]) (w3 := w15) rfl rfl ?_
  refine sx_RP.gf (v := .ref 112) rfl rfl hI16.1.o111 rfl rfl (show _ = 163 from rfl) ?_
  refine sx_RP.callp (as2 := [.ref 114, .ref 112]) (rest2 := []) rfl rfl rfl rfl rfl rfl (s175 hI16 (a := 114) (b := 112) (by decide) (by decide)) (show _ = 166 from rfl) ?_
  rintro r4 w19 ⟨rfl, hI20, hE22⟩
  have hE21 := hE17.tr (hE22)
  show sx_RP _ _ _ _ _ [] _ _
  refine sx_RP.step (pc2 := 168) (ls2 := [(0, .ref 111), (1, .int (nI g)), (2, .int (nI t)), (4, .int u18)]) (st2 := [.int u18]) (w3 := w19) rfl rfl ?_
  refine sx_RP.ret (r := (some (.int u18))) rfl rfl ?_
  exact ⟨⟨_, rfl⟩, hI20, hE21⟩
set_option maxRecDepth 20000 in
set_option maxHeartbeats 4000000 in
theorem s180 {xs : Option (List Int32)} {d : Nat} {w : List sx_C} (hI : WI w) (a1 a2 : Int32) : sx_RP xs (d + 7) 180 0 (lv_args 0 [.ref 111, .int a1, .int a2]) [] w (fun r w2 => (∃ v : Int32, r = some (.int v)) ∧ WI w2 ∧ EM w w2) := by
  have hE : EM w w := EM.rf
  refine sx_RP.step (pc2 := 1) (ls2 := [(0, .ref 111), (1, .int a1), (2, .int a2)]) (st2 := [.ref 111]) (w3 := w) rfl rfl ?_
  refine sx_RP.step (pc2 := 2) (ls2 := [(0, .ref 111), (1, .int a1), (2, .int a2)]) (st2 := [.int a1, .ref 111]) (w3 := w) rfl rfl ?_
  rcases p156 (xs := xs) hI a1 with c2 | ⟨⟨x3, hx4, rfl⟩, c2⟩
  · refine sx_RP.cu (as := [.ref 111, .int a1]) (rest2 := []) (st3 := [.int 0]) rfl rfl (sx_inv_v2 (mi := 180) (k := 124) (st := [.int a1, .ref 111]) (w := w) rfl rfl hI.1.o111 rfl rfl rfl) rfl rfl (c2) rfl ?_
    refine sx_RP.step (pc2 := 16) (ls2 := [(0, .ref 111), (1, .int a1), (2, .int a2)]) (st2 := []) (w3 := w) rfl rfl ?_
    refine sx_RP.step (pc2 := 17) (ls2 := [(0, .ref 111), (1, .int a1), (2, .int a2)]) (st2 := [.ref 111]) (w3 := w) rfl rfl ?_
    refine sx_RP.step (pc2 := 18) (ls2 := [(0, .ref 111), (1, .int a1), (2, .int a2)]) (st2 := [.int 0, .ref 111]) (w3 := w) rfl rfl ?_
    refine sx_RP.callp (as2 := [.ref 111, .int 0]) (rest2 := []) rfl rfl (sx_inv_v2 (mi := 180) (k := 70) (st := [.int 0, .ref 111]) (w := w) rfl rfl hI.1.o111 rfl rfl rfl) rfl rfl rfl (s133_0 hI) (show _ = 21 from rfl) ?_
    rintro r4 w6 ⟨rfl, hI7, hE9⟩
    have hE8 := hE.tr (hE9)
    show sx_RP _ _ _ _ _ [.int (-1000000001)] _ _
    refine sx_RP.ret (r := (some (.int (-1000000001)))) rfl rfl ?_
    exact ⟨⟨_, rfl⟩, hI7, hE8⟩
  · refine sx_RP.cu (as := [.ref 111, .int (nI x3)]) (rest2 := []) (st3 := [.int 1]) rfl rfl (sx_inv_v2 (mi := 180) (k := 124) (st := [.int (nI x3), .ref 111]) (w := w) rfl rfl hI.1.o111 rfl rfl rfl) rfl rfl (c2) rfl ?_
    refine sx_RP.step (pc2 := 8) (ls2 := [(0, .ref 111), (1, .int (nI x3)), (2, .int a2)]) (st2 := []) (w3 := w) rfl rfl ?_
    refine sx_RP.step (pc2 := 9) (ls2 := [(0, .ref 111), (1, .int (nI x3)), (2, .int a2)]) (st2 := [.ref 111]) (w3 := w) rfl rfl ?_
    refine sx_RP.step (pc2 := 10) (ls2 := [(0, .ref 111), (1, .int (nI x3)), (2, .int a2)]) (st2 := [.int a2, .ref 111]) (w3 := w) rfl rfl ?_
    rcases p156 (xs := xs) hI a2 with c11 | ⟨⟨x12, hx13, rfl⟩, c11⟩
    · refine sx_RP.cu (as := [.ref 111, .int a2]) (rest2 := []) (st3 := [.int 0]) rfl rfl (sx_inv_v2 (mi := 180) (k := 124) (st := [.int a2, .ref 111]) (w := w) rfl rfl hI.1.o111 rfl rfl rfl) rfl rfl (c11) rfl ?_
      refine sx_RP.step (pc2 := 16) (ls2 := [(0, .ref 111), (1, .int (nI x3)), (2, .int a2)]) (st2 := []) (w3 := w) rfl rfl ?_
      refine sx_RP.step (pc2 := 17) (ls2 := [(0, .ref 111), (1, .int (nI x3)), (2, .int a2)]) (st2 := [.ref 111]) (w3 := w) rfl rfl ?_
      refine sx_RP.step (pc2 := 18) (ls2 := [(0, .ref 111), (1, .int (nI x3)), (2, .int a2)]) (st2 := [.int 0, .ref 111]) (w3 := w) rfl rfl ?_
      refine sx_RP.callp (as2 := [.ref 111, .int 0]) (rest2 := []) rfl rfl (sx_inv_v2 (mi := 180) (k := 70) (st := [.int 0, .ref 111]) (w := w) rfl rfl hI.1.o111 rfl rfl rfl) rfl rfl rfl (s133_0 hI) (show _ = 21 from rfl) ?_
      rintro r4 w15 ⟨rfl, hI16, hE18⟩
      have hE17 := hE.tr (hE18)
      show sx_RP _ _ _ _ _ [.int (-1000000001)] _ _
      refine sx_RP.ret (r := (some (.int (-1000000001)))) rfl rfl ?_
      exact ⟨⟨_, rfl⟩, hI16, hE17⟩
    · refine sx_RP.cu (as := [.ref 111, .int (nI x12)]) (rest2 := []) (st3 := [.int 1]) rfl rfl (sx_inv_v2 (mi := 180) (k := 124) (st := [.int (nI x12), .ref 111]) (w := w) rfl rfl hI.1.o111 rfl rfl rfl) rfl rfl (c11) rfl ?_
      refine sx_RP.step (pc2 := 22) (ls2 := [(0, .ref 111), (1, .int (nI x3)), (2, .int (nI x12))]) (st2 := []) (w3 := w) rfl rfl ?_
      refine sx_RP.step (pc2 := 23) (ls2 := [(0, .ref 111), (1, .int (nI x3)), (2, .int (nI x12))]) (st2 := [.ref 111]) (w3 := w) rfl rfl ?_
      refine sx_RP.step (pc2 := 24) (ls2 := [(0, .ref 111), (1, .int (nI x3)), (2, .int (nI x12))]) (st2 := [.int (nI x3), .ref 111]) (w3 := w) rfl rfl ?_
      refine sx_RP.step (pc2 := 25) (ls2 := [(0, .ref 111), (1, .int (nI x3)), (2, .int (nI x12))]) (st2 := [.int 1, .int (nI x3), .ref 111]) (w3 := w) rfl rfl ?_
      obtain ⟨x19, hx20, c21⟩ := p181 hI (show x3 < 10 by omega) 1
      refine sx_RP.cu (as := [.ref 111, .int (nI x3), .int 1]) (rest2 := []) (st3 := [.int (nI x19)]) rfl rfl (sx_inv_v2 (mi := 180) (k := 165) (st := [.int 1, .int (nI x3), .ref 111]) (w := w) rfl rfl hI.1.o111 rfl rfl rfl) rfl rfl (c21) rfl ?_
      refine sx_RP.br (p1 := 49) (l1 := [(0, .ref 111), (1, .int (nI x3)), (2, .int (nI x12))]) (s1 := []) (v1 := w) (p2 := 31) (l2 := [(0, .ref 111), (1, .int (nI x3)), (2, .int (nI x12))]) (s2 := []) (v2 := w) rfl rfl (fun q22 => ?_) (fun q22 => ?_)
      · replace q22 := of_decide_eq_true q22
        replace q22 := (nI_eq (a := x19) (b := 0) (by omega) (by omega)).mp q22
        refine sx_RP.step (pc2 := 50) (ls2 := [(0, .ref 111), (1, .int (nI x3)), (2, .int (nI x12))]) (st2 := [.ref 111]) (w3 := w) rfl rfl ?_
        refine sx_RP.step (pc2 := 51) (ls2 := [(0, .ref 111), (1, .int (nI x3)), (2, .int (nI x12))]) (st2 := [.int 4, .ref 111]) (w3 := w) rfl rfl ?_
        refine sx_RP.callp (as2 := [.ref 111, .int 4]) (rest2 := []) rfl rfl (sx_inv_v2 (mi := 180) (k := 70) (st := [.int 4, .ref 111]) (w := w) rfl rfl hI.1.o111 rfl rfl rfl) rfl rfl rfl (s133_4 hI) (show _ = 54 from rfl) ?_
        rintro r4 w23 ⟨rfl, hI24, hE26⟩
        have hE25 := hE.tr (hE26)
        show sx_RP _ _ _ _ _ [.int (-1000000005)] _ _
        refine sx_RP.ret (r := (some (.int (-1000000005)))) rfl rfl ?_
        exact ⟨⟨_, rfl⟩, hI24, hE25⟩
      · replace q22 := of_decide_eq_false q22
        replace q22 := mt (nI_eq (a := x19) (b := 0) (by omega) (by omega)).mpr q22
        refine sx_RP.step (pc2 := 32) (ls2 := [(0, .ref 111), (1, .int (nI x3)), (2, .int (nI x12))]) (st2 := [.ref 111]) (w3 := w) rfl rfl ?_
        refine sx_RP.step (pc2 := 33) (ls2 := [(0, .ref 111), (1, .int (nI x3)), (2, .int (nI x12))]) (st2 := [.int (nI x12), .ref 111]) (w3 := w) rfl rfl ?_
        refine sx_RP.step (pc2 := 34) (ls2 := [(0, .ref 111), (1, .int (nI x3)), (2, .int (nI x12))]) (st2 := [.int 0, .int (nI x12), .ref 111]) (w3 := w) rfl rfl ?_
        obtain ⟨x27, hx28, c29⟩ := p181 hI (show x12 < 10 by omega) 0
        refine sx_RP.cu (as := [.ref 111, .int (nI x12), .int 0]) (rest2 := []) (st3 := [.int (nI x27)]) rfl rfl (sx_inv_v2 (mi := 180) (k := 165) (st := [.int 0, .int (nI x12), .ref 111]) (w := w) rfl rfl hI.1.o111 rfl rfl rfl) rfl rfl (c29) rfl ?_
        refine sx_RP.br (p1 := 49) (l1 := [(0, .ref 111), (1, .int (nI x3)), (2, .int (nI x12))]) (s1 := []) (v1 := w) (p2 := 40) (l2 := [(0, .ref 111), (1, .int (nI x3)), (2, .int (nI x12))]) (s2 := []) (v2 := w) rfl rfl (fun q30 => ?_) (fun q30 => ?_)
        · replace q30 := of_decide_eq_true q30
          replace q30 := (nI_eq (a := x27) (b := 0) (by omega) (by omega)).mp q30
          refine sx_RP.step (pc2 := 50) (ls2 := [(0, .ref 111), (1, .int (nI x3)), (2, .int (nI x12))]) (st2 := [.ref 111]) (w3 := w) rfl rfl ?_
          refine sx_RP.step (pc2 := 51) (ls2 := [(0, .ref 111), (1, .int (nI x3)), (2, .int (nI x12))]) (st2 := [.int 4, .ref 111]) (w3 := w) rfl rfl ?_
          refine sx_RP.callp (as2 := [.ref 111, .int 4]) (rest2 := []) rfl rfl (sx_inv_v2 (mi := 180) (k := 70) (st := [.int 4, .ref 111]) (w := w) rfl rfl hI.1.o111 rfl rfl rfl) rfl rfl rfl (s133_4 hI) (show _ = 54 from rfl) ?_
          rintro r4 w31 ⟨rfl, hI32, hE34⟩
          have hE33 := hE.tr (hE34)
          show sx_RP _ _ _ _ _ [.int (-1000000005)] _ _
          refine sx_RP.ret (r := (some (.int (-1000000005)))) rfl rfl ?_
          exact ⟨⟨_, rfl⟩, hI32, hE33⟩
        · replace q30 := of_decide_eq_false q30
          replace q30 := mt (nI_eq (a := x27) (b := 0) (by omega) (by omega)).mpr q30
          refine sx_RP.step (pc2 := 41) (ls2 := [(0, .ref 111), (1, .int (nI x3)), (2, .int (nI x12))]) (st2 := [.ref 111]) (w3 := w) rfl rfl ?_
          refine sx_RP.step (pc2 := 43) (ls2 := [(0, .ref 111), (1, .int (nI x3)), (2, .int (nI x12))]) (st2 := [.int 60, .ref 111]) (w3 := w) rfl rfl ?_
          obtain ⟨x35, hx36, c37⟩ := p165 hI 60
          refine sx_RP.cu (as := [.ref 111, .int 60]) (rest2 := []) (st3 := [.int (nI x35)]) rfl rfl (sx_inv_v2 (mi := 180) (k := 149) (st := [.int 60, .ref 111]) (w := w) rfl rfl hI.1.o111 rfl rfl rfl) rfl rfl (c37) rfl ?_
          refine sx_RP.br (p1 := 55) (l1 := [(0, .ref 111), (1, .int (nI x3)), (2, .int (nI x12))]) (s1 := []) (v1 := w) (p2 := 49) (l2 := [(0, .ref 111), (1, .int (nI x3)), (2, .int (nI x12))]) (s2 := []) (v2 := w) rfl rfl (fun q38 => ?_) (fun q38 => ?_)
          · replace q38 := of_decide_eq_true q38
            replace q38 := (nI_eq (a := x35) (b := 0) (by omega) (by omega)).mp q38
            refine sx_RP.step (pc2 := 56) (ls2 := [(0, .ref 111), (1, .int (nI x3)), (2, .int (nI x12))]) (st2 := [.ref 111]) (w3 := w) rfl rfl ?_
            refine sx_RP.step (pc2 := 57) (ls2 := [(0, .ref 111), (1, .int (nI x3)), (2, .int (nI x12))]) (st2 := [.int (nI x3), .ref 111]) (w3 := w) rfl rfl ?_
            refine sx_RP.step (pc2 := 58) (ls2 := [(0, .ref 111), (1, .int (nI x3)), (2, .int (nI x12))]) (st2 := [.int (nI x12), .int (nI x3), .ref 111]) (w3 := w) rfl rfl ?_
            refine sx_RP.callp (as2 := [.ref 111, .int (nI x3), .int (nI x12)]) (rest2 := []) rfl rfl (sx_inv_v2 (mi := 180) (k := 168) (st := [.int (nI x12), .int (nI x3), .ref 111]) (w := w) rfl rfl hI.1.o111 rfl rfl rfl) rfl rfl rfl (s182 hI (show x3 < 10 by omega) (show x12 < 10 by omega)) (show _ = 61 from rfl) ?_
            rintro r4 w40 ⟨⟨v39, rfl⟩, hI41, hE43⟩
            have hE42 := hE.tr (hE43)
            show sx_RP _ _ _ _ _ [.int v39] _ _
            refine sx_RP.step (pc2 := 62) (ls2 := [(3, .int v39), (0, .ref 111), (1, .int (nI x3)), (2, .int (nI x12))]) (st2 := []) (w3 := w40) rfl rfl ?_
            refine sx_RP.step (pc2 := 63) (ls2 := [(3, .int v39), (0, .ref 111), (1, .int (nI x3)), (2, .int (nI x12))]) (st2 := [.int v39]) (w3 := w40) rfl rfl ?_
            refine sx_RP.br (p1 := 74) (l1 := [(3, .int v39), (0, .ref 111), (1, .int (nI x3)), (2, .int (nI x12))]) (s1 := []) (v1 := w40) (p2 := 66) (l2 := [(3, .int v39), (0, .ref 111), (1, .int (nI x3)), (2, .int (nI x12))]) (s2 := []) (v2 := w40) rfl rfl (fun q44 => ?_) (fun q44 => ?_)
            · replace q44 := of_decide_eq_true q44
              refine sx_RP.step (pc2 := 75) (ls2 := [(3, .int v39), (0, .ref 111), (1, .int (nI x3)), (2, .int (nI x12))]) (st2 := [.int v39]) (w3 := w40) rfl rfl ?_
              refine sx_RP.ret (r := (some (.int v39))) rfl rfl ?_
              exact ⟨⟨_, rfl⟩, hI41, hE42⟩
            · replace q44 := of_decide_eq_false q44
              refine sx_RP.step (pc2 := 67) (ls2 := [(3, .int v39), (0, .ref 111), (1, .int (nI x3)), (2, .int (nI x12))]) (st2 := [.ref 111]) (w3 := w40) rfl rfl ?_
              refine sx_RP.step (pc2 := 68) (ls2 := [(3, .int v39), (0, .ref 111), (1, .int (nI x3)), (2, .int (nI x12))]) (st2 := [.int 3, .ref 111]) (w3 := w40) rfl rfl ?_
              refine sx_RP.callp (as2 := [.ref 111, .int 3]) (rest2 := []) rfl rfl (sx_inv_v2 (mi := 180) (k := 70) (st := [.int 3, .ref 111]) (w := w40) rfl rfl hI41.1.o111 rfl rfl rfl) rfl rfl rfl (s133_3 hI41) (show _ = 71 from rfl) ?_
              rintro r4 w45 ⟨rfl, hI46, hE48⟩
              have hE47 := hE42.tr (hE48)
              show sx_RP _ _ _ _ _ [.int (-1000000004)] _ _
              refine sx_RP.step (pc2 := 75) (ls2 := [(3, .int v39), (0, .ref 111), (1, .int (nI x3)), (2, .int (nI x12))]) (st2 := [.int (-1000000004)]) (w3 := w45) rfl rfl ?_
              refine sx_RP.ret (r := (some (.int (-1000000004)))) rfl rfl ?_
              exact ⟨⟨_, rfl⟩, hI46, hE47⟩
          · replace q38 := of_decide_eq_false q38
            replace q38 := mt (nI_eq (a := x35) (b := 0) (by omega) (by omega)).mpr q38
            refine sx_RP.step (pc2 := 50) (ls2 := [(0, .ref 111), (1, .int (nI x3)), (2, .int (nI x12))]) (st2 := [.ref 111]) (w3 := w) rfl rfl ?_
            refine sx_RP.step (pc2 := 51) (ls2 := [(0, .ref 111), (1, .int (nI x3)), (2, .int (nI x12))]) (st2 := [.int 4, .ref 111]) (w3 := w) rfl rfl ?_
            refine sx_RP.callp (as2 := [.ref 111, .int 4]) (rest2 := []) rfl rfl (sx_inv_v2 (mi := 180) (k := 70) (st := [.int 4, .ref 111]) (w := w) rfl rfl hI.1.o111 rfl rfl rfl) rfl rfl rfl (s133_4 hI) (show _ = 54 from rfl) ?_
            rintro r4 w49 ⟨rfl, hI50, hE52⟩
            have hE51 := hE.tr (hE52)
            show sx_RP _ _ _ _ _ [.int (-1000000005)] _ _
            refine sx_RP.ret (r := (some (.int (-1000000005)))) rfl rfl ?_
            exact ⟨⟨_, rfl⟩, hI50, hE51⟩
set_option maxRecDepth 20000 in
set_option maxHeartbeats 4000000 in
theorem s183B {xs : Option (List Int32)} {d : Nat} {w w0 : List sx_C} {t : Nat} (ht : t < 10) (hI : WI w) (hE : EM w0 w) {j : Nat} (hj : j ≤ 10) (m : Int32) (l : Int32) (kk : ∀ (w4 : List sx_C) (um : Int32) (ul : Int32), WI w4 → EM w0 w4 → j + 1 ≤ 10 → sx_RP xs (d + 7) 183 46 [(0, .ref 111), (1, .int (nI t)), (2, .int um), (3, .int ul), (4, .int (nI (j + 1)))] [] w4 (fun r w2 => (∃ v : Int32, r = some (.int v)) ∧ WI w2 ∧ EM w0 w2)) : sx_RP xs (d + 7) 183 46 [(0, .ref 111), (1, .int (nI t)), (2, .int m), (3, .int l), (4, .int (nI j))] [] w (fun r w2 => (∃ v : Int32, r = some (.int v)) ∧ WI w2 ∧ EM w0 w2) := by
  refine sx_RP.step (pc2 := 48) (ls2 := [(0, .ref 111), (1, .int (nI t)), (2, .int m), (3, .int l), (4, .int (nI j))]) (st2 := [.int (nI j)]) (w3 := w) rfl rfl ?_
  refine sx_RP.step (pc2 := 49) (ls2 := [(0, .ref 111), (1, .int (nI t)), (2, .int m), (3, .int l), (4, .int (nI j))]) (st2 := [.ref 111, .int (nI j)]) (w3 := w) rfl rfl ?_
  refine sx_RP.gf (v := .ref 112) rfl rfl hI.1.o111 rfl rfl (show _ = 52 from rfl) ?_
  refine sx_RP.step (pc2 := 53) (ls2 := [(0, .ref 111), (1, .int (nI t)), (2, .int m), (3, .int l), (4, .int (nI j))]) (st2 := [.int 1, .ref 112, .int (nI j)]) (w3 := w) rfl rfl ?_
  refine sx_RP.ild (c := 1) rfl hI.1.a112.1 hI.1.a112.2 (sx_in_nI (show 1 < 172 by omega) (by decide)) (show (nI 1).toNatClampNeg = 1 from nI_clamp (by omega)) (show _ = 54 from rfl) ?_
  obtain ⟨x1, hx2, ex3⟩ : inR ((ia w 112).getD 1 0) 10 := (hI.s (1) (by omega)).1 rfl
  rw [ex3]
  refine sx_RP.br (p1 := 103) (l1 := [(0, .ref 111), (1, .int (nI t)), (2, .int m), (3, .int l), (4, .int (nI j))]) (s1 := []) (v1 := w) (p2 := 57) (l2 := [(0, .ref 111), (1, .int (nI t)), (2, .int m), (3, .int l), (4, .int (nI j))]) (s2 := []) (v2 := w) rfl rfl (fun q4 => ?_) (fun q4 => ?_)
  · replace q4 := of_decide_eq_true q4
    replace q4 := (nI_leI (a := x1) (b := j) (by omega) (by omega)).mp q4
    refine sx_RP.step (pc2 := 104) (ls2 := [(0, .ref 111), (1, .int (nI t)), (2, .int m), (3, .int l), (4, .int (nI j))]) (st2 := [.int m]) (w3 := w) rfl rfl ?_
    refine sx_RP.br (p1 := 115) (l1 := [(0, .ref 111), (1, .int (nI t)), (2, .int m), (3, .int l), (4, .int (nI j))]) (s1 := []) (v1 := w) (p2 := 107) (l2 := [(0, .ref 111), (1, .int (nI t)), (2, .int m), (3, .int l), (4, .int (nI j))]) (s2 := []) (v2 := w) rfl rfl (fun q5 => ?_) (fun q5 => ?_)
    · replace q5 := of_decide_eq_true q5
      refine sx_RP.step (pc2 := 116) (ls2 := [(0, .ref 111), (1, .int (nI t)), (2, .int m), (3, .int l), (4, .int (nI j))]) (st2 := [.int m]) (w3 := w) rfl rfl ?_
      refine sx_RP.ret (r := (some (.int m))) rfl rfl ?_
      exact ⟨⟨_, rfl⟩, hI, hE⟩
    · replace q5 := of_decide_eq_false q5
      refine sx_RP.step (pc2 := 108) (ls2 := [(0, .ref 111), (1, .int (nI t)), (2, .int m), (3, .int l), (4, .int (nI j))]) (st2 := [.ref 111]) (w3 := w) rfl rfl ?_
      refine sx_RP.step (pc2 := 109) (ls2 := [(0, .ref 111), (1, .int (nI t)), (2, .int m), (3, .int l), (4, .int (nI j))]) (st2 := [.int 3, .ref 111]) (w3 := w) rfl rfl ?_
      refine sx_RP.callp (as2 := [.ref 111, .int 3]) (rest2 := []) rfl rfl (sx_inv_v2 (mi := 183) (k := 70) (st := [.int 3, .ref 111]) (w := w) rfl rfl hI.1.o111 rfl rfl rfl) rfl rfl rfl (s133_3 hI) (show _ = 112 from rfl) ?_
      rintro r4 w6 ⟨rfl, hI7, hE9⟩
      have hE8 := hE.tr (hE9)
      show sx_RP _ _ _ _ _ [.int (-1000000004)] _ _
      refine sx_RP.step (pc2 := 116) (ls2 := [(0, .ref 111), (1, .int (nI t)), (2, .int m), (3, .int l), (4, .int (nI j))]) (st2 := [.int (-1000000004)]) (w3 := w6) rfl rfl ?_
      refine sx_RP.ret (r := (some (.int (-1000000004)))) rfl rfl ?_
      exact ⟨⟨_, rfl⟩, hI7, hE8⟩
  · replace q4 := of_decide_eq_false q4
    replace q4 := mt (nI_leI (a := x1) (b := j) (by omega) (by omega)).mpr q4
    refine sx_RP.step (pc2 := 58) (ls2 := [(0, .ref 111), (1, .int (nI t)), (2, .int m), (3, .int l), (4, .int (nI j))]) (st2 := [.ref 111]) (w3 := w) rfl rfl ?_
    refine sx_RP.step (pc2 := 60) (ls2 := [(0, .ref 111), (1, .int (nI t)), (2, .int m), (3, .int l), (4, .int (nI j))]) (st2 := [.int (nI j), .ref 111]) (w3 := w) rfl rfl ?_
    refine sx_RP.step (pc2 := 61) (ls2 := [(0, .ref 111), (1, .int (nI t)), (2, .int m), (3, .int l), (4, .int (nI j))]) (st2 := [.int 1, .int (nI j), .ref 111]) (w3 := w) rfl rfl ?_
    obtain ⟨x10, hx11, c12⟩ := p181 hI (show j < 10 by omega) 1
    refine sx_RP.cu (as := [.ref 111, .int (nI j), .int 1]) (rest2 := []) (st3 := [.int (nI x10)]) rfl rfl (sx_inv_v2 (mi := 183) (k := 165) (st := [.int 1, .int (nI j), .ref 111]) (w := w) rfl rfl hI.1.o111 rfl rfl rfl) rfl rfl (c12) rfl ?_
    refine sx_RP.br (p1 := 77) (l1 := [(0, .ref 111), (1, .int (nI t)), (2, .int m), (3, .int l), (4, .int (nI j))]) (s1 := []) (v1 := w) (p2 := 67) (l2 := [(0, .ref 111), (1, .int (nI t)), (2, .int m), (3, .int l), (4, .int (nI j))]) (s2 := []) (v2 := w) rfl rfl (fun q13 => ?_) (fun q13 => ?_)
    · replace q13 := of_decide_eq_true q13
      replace q13 := (nI_eq (a := x10) (b := 0) (by omega) (by omega)).mp q13
      refine sx_RP.step (pc2 := 78) (ls2 := [(0, .ref 111), (1, .int (nI t)), (2, .int m), (3, .int l), (4, .int (nI j))]) (st2 := [.int (-1)]) (w3 := w) rfl rfl ?_
      refine sx_RP.step (pc2 := 80) (ls2 := [(5, .int (-1)), (0, .ref 111), (1, .int (nI t)), (2, .int m), (3, .int l), (4, .int (nI j))]) (st2 := []) (w3 := w) rfl rfl ?_
      refine sx_RP.step (pc2 := 82) (ls2 := [(5, .int (-1)), (0, .ref 111), (1, .int (nI t)), (2, .int m), (3, .int l), (4, .int (nI j))]) (st2 := [.int (-1)]) (w3 := w) rfl rfl ?_
      refine sx_RP.step (pc2 := 97) (ls2 := [(5, .int (-1)), (0, .ref 111), (1, .int (nI t)), (2, .int m), (3, .int l), (4, .int (nI j))]) (st2 := []) (w3 := w) rfl rfl ?_
      refine sx_RP.step (pc2 := 100) (ls2 := [(4, .int ((nI j) + 1)), (5, .int (-1)), (0, .ref 111), (1, .int (nI t)), (2, .int m), (3, .int l)]) (st2 := []) (w3 := w) rfl rfl ?_
      rw [nI_1 j]
      refine sx_RP.step (pc2 := 46) (ls2 := [(4, .int (nI (j + 1))), (5, .int (-1)), (0, .ref 111), (1, .int (nI t)), (2, .int m), (3, .int l)]) (st2 := []) (w3 := w) rfl rfl ?_
      exact sx_RP.ls (sx_lr.cons rfl (sx_lr.cons rfl (sx_lr.cons rfl (sx_lr.cons rfl (sx_lr.cons rfl sx_lr.nil))))) (kk w m l hI hE (by omega))
    · replace q13 := of_decide_eq_false q13
      replace q13 := mt (nI_eq (a := x10) (b := 0) (by omega) (by omega)).mpr q13
      refine sx_RP.step (pc2 := 68) (ls2 := [(0, .ref 111), (1, .int (nI t)), (2, .int m), (3, .int l), (4, .int (nI j))]) (st2 := [.ref 111]) (w3 := w) rfl rfl ?_
      refine sx_RP.step (pc2 := 70) (ls2 := [(0, .ref 111), (1, .int (nI t)), (2, .int m), (3, .int l), (4, .int (nI j))]) (st2 := [.int (nI j), .ref 111]) (w3 := w) rfl rfl ?_
      refine sx_RP.step (pc2 := 71) (ls2 := [(0, .ref 111), (1, .int (nI t)), (2, .int m), (3, .int l), (4, .int (nI j))]) (st2 := [.int (nI t), .int (nI j), .ref 111]) (w3 := w) rfl rfl ?_
      refine sx_RP.callp (as2 := [.ref 111, .int (nI j), .int (nI t)]) (rest2 := []) rfl rfl (sx_inv_v2 (mi := 183) (k := 168) (st := [.int (nI t), .int (nI j), .ref 111]) (w := w) rfl rfl hI.1.o111 rfl rfl rfl) rfl rfl rfl (s182 hI (show j < 10 by omega) (show t < 10 by omega)) (show _ = 74 from rfl) ?_
      rintro r4 w15 ⟨⟨v14, rfl⟩, hI16, hE18⟩
      have hE17 := hE.tr (hE18)
      show sx_RP _ _ _ _ _ [.int v14] _ _
      refine sx_RP.step (pc2 := 78) (ls2 := [(0, .ref 111), (1, .int (nI t)), (2, .int m), (3, .int l), (4, .int (nI j))]) (st2 := [.int v14]) (w3 := w15) rfl rfl ?_
      refine sx_RP.step (pc2 := 80) (ls2 := [(5, .int v14), (0, .ref 111), (1, .int (nI t)), (2, .int m), (3, .int l), (4, .int (nI j))]) (st2 := []) (w3 := w15) rfl rfl ?_
      refine sx_RP.step (pc2 := 82) (ls2 := [(5, .int v14), (0, .ref 111), (1, .int (nI t)), (2, .int m), (3, .int l), (4, .int (nI j))]) (st2 := [.int v14]) (w3 := w15) rfl rfl ?_
      refine sx_RP.br (p1 := 97) (l1 := [(5, .int v14), (0, .ref 111), (1, .int (nI t)), (2, .int m), (3, .int l), (4, .int (nI j))]) (s1 := []) (v1 := w15) (p2 := 85) (l2 := [(5, .int v14), (0, .ref 111), (1, .int (nI t)), (2, .int m), (3, .int l), (4, .int (nI j))]) (s2 := []) (v2 := w15) rfl rfl (fun q19 => ?_) (fun q19 => ?_)
      · replace q19 := of_decide_eq_true q19
        refine sx_RP.step (pc2 := 100) (ls2 := [(4, .int ((nI j) + 1)), (5, .int v14), (0, .ref 111), (1, .int (nI t)), (2, .int m), (3, .int l)]) (st2 := []) (w3 := w15) rfl rfl ?_
        rw [nI_1 j]
        refine sx_RP.step (pc2 := 46) (ls2 := [(4, .int (nI (j + 1))), (5, .int v14), (0, .ref 111), (1, .int (nI t)), (2, .int m), (3, .int l)]) (st2 := []) (w3 := w15) rfl rfl ?_
        exact sx_RP.ls (sx_lr.cons rfl (sx_lr.cons rfl (sx_lr.cons rfl (sx_lr.cons rfl (sx_lr.cons rfl sx_lr.nil))))) (kk w15 m l hI16 hE17 (by omega))
      · replace q19 := of_decide_eq_false q19
        refine sx_RP.step (pc2 := 87) (ls2 := [(5, .int v14), (0, .ref 111), (1, .int (nI t)), (2, .int m), (3, .int l), (4, .int (nI j))]) (st2 := [.int v14]) (w3 := w15) rfl rfl ?_
        refine sx_RP.step (pc2 := 88) (ls2 := [(5, .int v14), (0, .ref 111), (1, .int (nI t)), (2, .int m), (3, .int l), (4, .int (nI j))]) (st2 := [.int l, .int v14]) (w3 := w15) rfl rfl ?_
        refine sx_RP.br (p1 := 97) (l1 := [(5, .int v14), (0, .ref 111), (1, .int (nI t)), (2, .int m), (3, .int l), (4, .int (nI j))]) (s1 := []) (v1 := w15) (p2 := 91) (l2 := [(5, .int v14), (0, .ref 111), (1, .int (nI t)), (2, .int m), (3, .int l), (4, .int (nI j))]) (s2 := []) (v2 := w15) rfl rfl (fun q20 => ?_) (fun q20 => ?_)
        · replace q20 := of_decide_eq_true q20
          refine sx_RP.step (pc2 := 100) (ls2 := [(4, .int ((nI j) + 1)), (5, .int v14), (0, .ref 111), (1, .int (nI t)), (2, .int m), (3, .int l)]) (st2 := []) (w3 := w15) rfl rfl ?_
          rw [nI_1 j]
          refine sx_RP.step (pc2 := 46) (ls2 := [(4, .int (nI (j + 1))), (5, .int v14), (0, .ref 111), (1, .int (nI t)), (2, .int m), (3, .int l)]) (st2 := []) (w3 := w15) rfl rfl ?_
          exact sx_RP.ls (sx_lr.cons rfl (sx_lr.cons rfl (sx_lr.cons rfl (sx_lr.cons rfl (sx_lr.cons rfl sx_lr.nil))))) (kk w15 m l hI16 hE17 (by omega))
        · replace q20 := of_decide_eq_false q20
          refine sx_RP.step (pc2 := 93) (ls2 := [(5, .int v14), (0, .ref 111), (1, .int (nI t)), (2, .int m), (3, .int l), (4, .int (nI j))]) (st2 := [.int (nI j)]) (w3 := w15) rfl rfl ?_
          refine sx_RP.step (pc2 := 94) (ls2 := [(2, .int (nI j)), (5, .int v14), (0, .ref 111), (1, .int (nI t)), (3, .int l), (4, .int (nI j))]) (st2 := []) (w3 := w15) rfl rfl ?_
          refine sx_RP.step (pc2 := 96) (ls2 := [(2, .int (nI j)), (5, .int v14), (0, .ref 111), (1, .int (nI t)), (3, .int l), (4, .int (nI j))]) (st2 := [.int v14]) (w3 := w15) rfl rfl ?_
          refine sx_RP.step (pc2 := 97) (ls2 := [(3, .int v14), (2, .int (nI j)), (5, .int v14), (0, .ref 111), (1, .int (nI t)), (4, .int (nI j))]) (st2 := []) (w3 := w15) rfl rfl ?_
          refine sx_RP.step (pc2 := 100) (ls2 := [(4, .int ((nI j) + 1)), (3, .int v14), (2, .int (nI j)), (5, .int v14), (0, .ref 111), (1, .int (nI t))]) (st2 := []) (w3 := w15) rfl rfl ?_
          rw [nI_1 j]
          refine sx_RP.step (pc2 := 46) (ls2 := [(4, .int (nI (j + 1))), (3, .int v14), (2, .int (nI j)), (5, .int v14), (0, .ref 111), (1, .int (nI t))]) (st2 := []) (w3 := w15) rfl rfl ?_
          exact sx_RP.ls (sx_lr.cons rfl (sx_lr.cons rfl (sx_lr.cons rfl (sx_lr.cons rfl (sx_lr.cons rfl sx_lr.nil))))) (kk w15 (nI j) v14 hI16 hE17 (by omega))
set_option maxRecDepth 20000 in
set_option maxHeartbeats 4000000 in
theorem s183L {xs : Option (List Int32)} {d : Nat} {w0 : List sx_C} {t : Nat} (ht : t < 10) : ∀ (fz j : Nat) (w : List sx_C) (m : Int32) (l : Int32) , 10 ≤ j + fz * 1 → j ≤ 10 → WI w → EM w0 w → sx_RP xs (d + 7) 183 46 [(0, .ref 111), (1, .int (nI t)), (2, .int m), (3, .int l), (4, .int (nI j))] [] w (fun r w2 => (∃ v : Int32, r = some (.int v)) ∧ WI w2 ∧ EM w0 w2)
  | 0, j, w, m, l, h, hj, hI, hE => s183B ht hI hE hj m l  (fun w4 um ul hI4 hE4 hlt  => absurd hlt (by omega)) 
  | fz + 1, j, w, m, l, h, hj, hI, hE => s183B ht hI hE hj m l  (fun w4 um ul hI4 hE4 hlt  => s183L ht  fz (j + 1) w4 um ul (by omega) hlt hI4 hE4 ) 
set_option maxRecDepth 20000 in
set_option maxHeartbeats 4000000 in
theorem s183 {xs : Option (List Int32)} {d : Nat} {w : List sx_C} (hI : WI w) (a1 : Int32) : sx_RP xs (d + 7) 183 0 (lv_args 0 [.ref 111, .int a1]) [] w (fun r w2 => (∃ v : Int32, r = some (.int v)) ∧ WI w2 ∧ EM w w2) := by
  have hE : EM w w := EM.rf
  refine sx_RP.step (pc2 := 1) (ls2 := [(0, .ref 111), (1, .int a1)]) (st2 := [.ref 111]) (w3 := w) rfl rfl ?_
  refine sx_RP.step (pc2 := 2) (ls2 := [(0, .ref 111), (1, .int a1)]) (st2 := [.int a1, .ref 111]) (w3 := w) rfl rfl ?_
  rcases p156 (xs := xs) hI a1 with c2 | ⟨⟨x3, hx4, rfl⟩, c2⟩
  · refine sx_RP.cu (as := [.ref 111, .int a1]) (rest2 := []) (st3 := [.int 0]) rfl rfl (sx_inv_v2 (mi := 183) (k := 124) (st := [.int a1, .ref 111]) (w := w) rfl rfl hI.1.o111 rfl rfl rfl) rfl rfl (c2) rfl ?_
    refine sx_RP.step (pc2 := 8) (ls2 := [(0, .ref 111), (1, .int a1)]) (st2 := []) (w3 := w) rfl rfl ?_
    refine sx_RP.step (pc2 := 9) (ls2 := [(0, .ref 111), (1, .int a1)]) (st2 := [.ref 111]) (w3 := w) rfl rfl ?_
    refine sx_RP.step (pc2 := 10) (ls2 := [(0, .ref 111), (1, .int a1)]) (st2 := [.int 0, .ref 111]) (w3 := w) rfl rfl ?_
    refine sx_RP.callp (as2 := [.ref 111, .int 0]) (rest2 := []) rfl rfl (sx_inv_v2 (mi := 183) (k := 70) (st := [.int 0, .ref 111]) (w := w) rfl rfl hI.1.o111 rfl rfl rfl) rfl rfl rfl (s133_0 hI) (show _ = 13 from rfl) ?_
    rintro r4 w6 ⟨rfl, hI7, hE9⟩
    have hE8 := hE.tr (hE9)
    show sx_RP _ _ _ _ _ [.int (-1000000001)] _ _
    refine sx_RP.ret (r := (some (.int (-1000000001)))) rfl rfl ?_
    exact ⟨⟨_, rfl⟩, hI7, hE8⟩
  · refine sx_RP.cu (as := [.ref 111, .int (nI x3)]) (rest2 := []) (st3 := [.int 1]) rfl rfl (sx_inv_v2 (mi := 183) (k := 124) (st := [.int (nI x3), .ref 111]) (w := w) rfl rfl hI.1.o111 rfl rfl rfl) rfl rfl (c2) rfl ?_
    refine sx_RP.step (pc2 := 14) (ls2 := [(0, .ref 111), (1, .int (nI x3))]) (st2 := []) (w3 := w) rfl rfl ?_
    refine sx_RP.step (pc2 := 15) (ls2 := [(0, .ref 111), (1, .int (nI x3))]) (st2 := [.ref 111]) (w3 := w) rfl rfl ?_
    refine sx_RP.step (pc2 := 16) (ls2 := [(0, .ref 111), (1, .int (nI x3))]) (st2 := [.int (nI x3), .ref 111]) (w3 := w) rfl rfl ?_
    refine sx_RP.step (pc2 := 17) (ls2 := [(0, .ref 111), (1, .int (nI x3))]) (st2 := [.int 0, .int (nI x3), .ref 111]) (w3 := w) rfl rfl ?_
    obtain ⟨x10, hx11, c12⟩ := p181 hI (show x3 < 10 by omega) 0
    refine sx_RP.cu (as := [.ref 111, .int (nI x3), .int 0]) (rest2 := []) (st3 := [.int (nI x10)]) rfl rfl (sx_inv_v2 (mi := 183) (k := 165) (st := [.int 0, .int (nI x3), .ref 111]) (w := w) rfl rfl hI.1.o111 rfl rfl rfl) rfl rfl (c12) rfl ?_
    refine sx_RP.br (p1 := 32) (l1 := [(0, .ref 111), (1, .int (nI x3))]) (s1 := []) (v1 := w) (p2 := 23) (l2 := [(0, .ref 111), (1, .int (nI x3))]) (s2 := []) (v2 := w) rfl rfl (fun q13 => ?_) (fun q13 => ?_)
    · replace q13 := of_decide_eq_true q13
      replace q13 := (nI_eq (a := x10) (b := 0) (by omega) (by omega)).mp q13
      refine sx_RP.step (pc2 := 33) (ls2 := [(0, .ref 111), (1, .int (nI x3))]) (st2 := [.ref 111]) (w3 := w) rfl rfl ?_
      refine sx_RP.step (pc2 := 34) (ls2 := [(0, .ref 111), (1, .int (nI x3))]) (st2 := [.int 4, .ref 111]) (w3 := w) rfl rfl ?_
      refine sx_RP.callp (as2 := [.ref 111, .int 4]) (rest2 := []) rfl rfl (sx_inv_v2 (mi := 183) (k := 70) (st := [.int 4, .ref 111]) (w := w) rfl rfl hI.1.o111 rfl rfl rfl) rfl rfl rfl (s133_4 hI) (show _ = 37 from rfl) ?_
      rintro r4 w14 ⟨rfl, hI15, hE17⟩
      have hE16 := hE.tr (hE17)
      show sx_RP _ _ _ _ _ [.int (-1000000005)] _ _
      refine sx_RP.ret (r := (some (.int (-1000000005)))) rfl rfl ?_
      exact ⟨⟨_, rfl⟩, hI15, hE16⟩
    · replace q13 := of_decide_eq_false q13
      replace q13 := mt (nI_eq (a := x10) (b := 0) (by omega) (by omega)).mpr q13
      refine sx_RP.step (pc2 := 24) (ls2 := [(0, .ref 111), (1, .int (nI x3))]) (st2 := [.ref 111]) (w3 := w) rfl rfl ?_
      refine sx_RP.step (pc2 := 26) (ls2 := [(0, .ref 111), (1, .int (nI x3))]) (st2 := [.int 60, .ref 111]) (w3 := w) rfl rfl ?_
      obtain ⟨x18, hx19, c20⟩ := p165 hI 60
      refine sx_RP.cu (as := [.ref 111, .int 60]) (rest2 := []) (st3 := [.int (nI x18)]) rfl rfl (sx_inv_v2 (mi := 183) (k := 149) (st := [.int 60, .ref 111]) (w := w) rfl rfl hI.1.o111 rfl rfl rfl) rfl rfl (c20) rfl ?_
      refine sx_RP.br (p1 := 38) (l1 := [(0, .ref 111), (1, .int (nI x3))]) (s1 := []) (v1 := w) (p2 := 32) (l2 := [(0, .ref 111), (1, .int (nI x3))]) (s2 := []) (v2 := w) rfl rfl (fun q21 => ?_) (fun q21 => ?_)
      · replace q21 := of_decide_eq_true q21
        replace q21 := (nI_eq (a := x18) (b := 0) (by omega) (by omega)).mp q21
        refine sx_RP.step (pc2 := 39) (ls2 := [(0, .ref 111), (1, .int (nI x3))]) (st2 := [.int (-1)]) (w3 := w) rfl rfl ?_
        refine sx_RP.step (pc2 := 40) (ls2 := [(2, .int (-1)), (0, .ref 111), (1, .int (nI x3))]) (st2 := []) (w3 := w) rfl rfl ?_
        refine sx_RP.step (pc2 := 42) (ls2 := [(2, .int (-1)), (0, .ref 111), (1, .int (nI x3))]) (st2 := [.int 61]) (w3 := w) rfl rfl ?_
        refine sx_RP.step (pc2 := 43) (ls2 := [(3, .int 61), (2, .int (-1)), (0, .ref 111), (1, .int (nI x3))]) (st2 := []) (w3 := w) rfl rfl ?_
        refine sx_RP.step (pc2 := 44) (ls2 := [(3, .int 61), (2, .int (-1)), (0, .ref 111), (1, .int (nI x3))]) (st2 := [.int 0]) (w3 := w) rfl rfl ?_
        refine sx_RP.step (pc2 := 46) (ls2 := [(4, .int 0), (3, .int 61), (2, .int (-1)), (0, .ref 111), (1, .int (nI x3))]) (st2 := []) (w3 := w) rfl rfl ?_
        exact sx_RP.ls (sx_lr.cons rfl (sx_lr.cons rfl (sx_lr.cons rfl (sx_lr.cons rfl (sx_lr.cons rfl sx_lr.nil))))) (s183L (show x3 < 10 by omega) 10 0 w (-1) 61 (by omega) (by omega) hI hE )
      · replace q21 := of_decide_eq_false q21
        replace q21 := mt (nI_eq (a := x18) (b := 0) (by omega) (by omega)).mpr q21
        refine sx_RP.step (pc2 := 33) (ls2 := [(0, .ref 111), (1, .int (nI x3))]) (st2 := [.ref 111]) (w3 := w) rfl rfl ?_
        refine sx_RP.step (pc2 := 34) (ls2 := [(0, .ref 111), (1, .int (nI x3))]) (st2 := [.int 4, .ref 111]) (w3 := w) rfl rfl ?_
        refine sx_RP.callp (as2 := [.ref 111, .int 4]) (rest2 := []) rfl rfl (sx_inv_v2 (mi := 183) (k := 70) (st := [.int 4, .ref 111]) (w := w) rfl rfl hI.1.o111 rfl rfl rfl) rfl rfl rfl (s133_4 hI) (show _ = 37 from rfl) ?_
        rintro r4 w22 ⟨rfl, hI23, hE25⟩
        have hE24 := hE.tr (hE25)
        show sx_RP _ _ _ _ _ [.int (-1000000005)] _ _
        refine sx_RP.ret (r := (some (.int (-1000000005)))) rfl rfl ?_
        exact ⟨⟨_, rfl⟩, hI23, hE24⟩
end
-- 67.findM.lean.txt
section
-- safety: finds, where, best, book, read of the reference
/-- as EM, and cell 117 as it was -/
def EV (w w2 : List sx_C) : Prop := EM w w2 ∧ ia w2 117 = ia w 117
theorem EV.rf {w : List sx_C} : EV w w := ⟨EM.rf, rfl⟩
theorem sx_RP.mBV {xs : Option (List Int32)} {d mi pc pc2 : Nat} {ls : sx_L} {r : List Value} {w w0 : List sx_C} {P : Option Value → List sx_C → Prop} {a : Nat} {i x : Int32} {n : Nat} (hI : WI w) (hE : EV w0 w) (hi : sx_ins mi pc = some (.bastore, 1)) (hw : w[a]? = some (.inl (1, ia w a)) ∧ (ia w a).length = n) (hn : sx_in i n = true) (hf : a = 118 ∨ a = 120) (hp : pc + 1 = pc2) (kk : ∀ w2, WI w2 → EV w0 w2 → (∀ j, (ia w2 112).getD j 0 = (ia w 112).getD j 0) → sx_RP xs d mi pc2 ls r w2 P) : sx_RP xs d mi pc ls (.int x :: .int i :: .ref a :: r) w P :=
  sx_RP.bst1 hi hw.1 hw.2 hn rfl rfl hp (kk _ (hI.set hw.1 sh_set (cOK.free (by omega))) ⟨hE.1.set hw.1 (by omega) (kp_n (by omega)), by rw [ia_ne (by omega)]; exact hE.2⟩ (fun j => by rw [ia_ne (by omega)]))
theorem sx_RP.mBk {xs : Option (List Int32)} {d mi pc pc2 : Nat} {ls : sx_L} {r : List Value} {w w0 : List sx_C} {P : Option Value → List sx_C → Prop} {i x : Int32} {n : Nat} (hI : WI w) (hE : EM w0 w) (hi : sx_ins mi pc = some (.bastore, 1)) (hw : w[120]? = some (.inl (1, ia w 120)) ∧ (ia w 120).length = n) (hn : sx_in i n = true) (hp : pc + 1 = pc2) (kk : ∀ w2, WI w2 → EM w0 w2 → ia w2 117 = ia w 117 → sx_RP xs d mi pc2 ls r w2 P) : sx_RP xs d mi pc ls (.int x :: .int i :: .ref 120 :: r) w P :=
  sx_RP.bst1 hi hw.1 hw.2 hn rfl rfl hp (kk _ (hI.set hw.1 sh_set (cOK.free (by omega))) (hE.set hw.1 (by omega) (kp_n (by omega))) (by rw [ia_ne (by omega)]))
theorem sx_RP.mono9 {xs : Option (List Int32)} {d mi pc : Nat} {ls : sx_L} {st : List Value} {w : List sx_C} {P Q : Option Value → List sx_C → Prop} (h : sx_RP xs d mi pc ls st w P) (k : ∀ r w2, P r w2 → Q r w2) : sx_RP xs d mi pc ls st w Q := by
  obtain ⟨r, w2, a, b⟩ := h
  exact ⟨r, w2, a, k r w2 b⟩
theorem l146 {xs : Option (List Int32)} {d : Nat} {w : List sx_C} (hI : WI w) {c : Nat} (hc : c < 48) : ∃ j, (1 ≤ j ∧ j ≤ 4 ∧ crF ((ia w 112).getD (7 + c) 0) = nI j) ∧ sx_RU xs d 146 0 (lv_args 0 [.ref 111, .int (nI c)]) [] w (some (.int (nI j))) w := by
  obtain ⟨j, h1, h2, h3⟩ := crF_n ((ia w 112).getD (7 + c) 0)
  have h := hI.1.aM (a := 112) (by omega)
  have k := cp_146 (xs := xs) (d := d) hI.1.o111 h.1 h.2 hc
  rw [h3] at k
  exact ⟨j, ⟨h1, h2, h3⟩, k⟩
theorem lf_n0 {w wz : List sx_C} {src c v x y : Nat} (h : wOK wz src w) (hc : c < 48) (hne : ¬ c = src) (hv1 : v ≤ 1000) (hv : (ia w 117).getD c 0 = nI v) (hx : crF ((ia w 112).getD (7 + c) 0) = nI x) (hx4 : x ≤ 4) (hy : y ≤ 4) : ¬ (1 + (nI v - nI x + nI y) : Int32) = 0 := by
  rcases h.2.1 c hc with e | ⟨v2, h1, h2, h3⟩
  · exact absurd e (h.2.2 c hc)
  · obtain ⟨j, hj, e⟩ := h3 hne
    rw [← h.1, hx] at e
    obtain rfl : x = j := (nI_eq (by omega) (by omega)).mp e
    obtain rfl : v = v2 := (nI_eq (by omega) (by omega)).mp (hv.symm.trans h2)
    rw [show nI v - nI x = nI (v - x) from nI_sub (by omega), nI_add, show (1 : Int32) = nI 1 from rfl, nI_add]
    exact nI_n0 (by omega) (by omega)
set_option maxRecDepth 20000 in
set_option maxHeartbeats 4000000 in
theorem s193aB {xs : Option (List Int32)} {d : Nat} {w w0 : List sx_C} {P : Option Value → List sx_C → Prop} {k : Int32} (hI : WI w) (hE : EM w0 w) {j : Nat} (hj : j ≤ 9) (kk : ∀ (w4 : List sx_C), WI w4 → EM w0 w4 → j + 1 ≤ 9 → sx_RP xs (d + 6) 193 2 [(0, .ref 111), (1, .int k), (2, .int (nI (j + 1)))] [] w4 P) (kx29 : ∀ (w4 : List sx_C), WI w4 → EM w0 w4 → sx_RP xs (d + 6) 193 29 [(0, .ref 111), (1, .int k)] [] w4 P) : sx_RP xs (d + 6) 193 2 [(0, .ref 111), (1, .int k), (2, .int (nI j))] [] w P := by
  refine sx_RP.step (pc2 := 3) (ls2 := [(0, .ref 111), (1, .int k), (2, .int (nI j))]) (st2 := [.int (nI j)]) (w3 := w) rfl rfl ?_
  refine sx_RP.step (pc2 := 4) (ls2 := [(0, .ref 111), (1, .int k), (2, .int (nI j))]) (st2 := [.ref 111, .int (nI j)]) (w3 := w) rfl rfl ?_
  refine sx_RP.gf (v := .ref 112) rfl rfl hI.1.o111 rfl rfl (show _ = 7 from rfl) ?_
  refine sx_RP.step (pc2 := 8) (ls2 := [(0, .ref 111), (1, .int k), (2, .int (nI j))]) (st2 := [.int 2, .ref 112, .int (nI j)]) (w3 := w) rfl rfl ?_
  refine sx_RP.ild (c := 2) rfl hI.1.a112.1 hI.1.a112.2 (sx_in_nI (show 2 < 172 by omega) (by decide)) (show (nI 2).toNatClampNeg = 2 from nI_clamp (by omega)) (show _ = 9 from rfl) ?_
  obtain ⟨x1, hx2, ex3⟩ : inR ((ia w 112).getD 2 0) 9 := (hI.s (2) (by omega)).2.1 rfl
  rw [ex3]
  refine sx_RP.br (p1 := 29) (l1 := [(0, .ref 111), (1, .int k), (2, .int (nI j))]) (s1 := []) (v1 := w) (p2 := 12) (l2 := [(0, .ref 111), (1, .int k), (2, .int (nI j))]) (s2 := []) (v2 := w) rfl rfl (fun q4 => ?_) (fun q4 => ?_)
  · replace q4 := of_decide_eq_true q4
    replace q4 := (nI_leI (a := x1) (b := j) (by omega) (by omega)).mp q4
    exact sx_RP.ls (sx_lr.cons rfl (sx_lr.cons rfl sx_lr.nil)) (kx29 w hI hE)
  · replace q4 := of_decide_eq_false q4
    replace q4 := mt (nI_leI (a := x1) (b := j) (by omega) (by omega)).mpr q4
    refine sx_RP.step (pc2 := 13) (ls2 := [(0, .ref 111), (1, .int k), (2, .int (nI j))]) (st2 := [.ref 111]) (w3 := w) rfl rfl ?_
    refine sx_RP.gf (v := .ref 119) rfl rfl hI.1.o111 rfl rfl (show _ = 16 from rfl) ?_
    refine sx_RP.step (pc2 := 17) (ls2 := [(0, .ref 111), (1, .int k), (2, .int (nI j))]) (st2 := [.int (nI j), .ref 119]) (w3 := w) rfl rfl ?_
    refine sx_RP.step (pc2 := 18) (ls2 := [(0, .ref 111), (1, .int k), (2, .int (nI j))]) (st2 := [.ref 111, .int (nI j), .ref 119]) (w3 := w) rfl rfl ?_
    refine sx_RP.step (pc2 := 19) (ls2 := [(0, .ref 111), (1, .int k), (2, .int (nI j))]) (st2 := [.int (nI j), .ref 111, .int (nI j), .ref 119]) (w3 := w) rfl rfl ?_
    refine sx_RP.callp (as2 := [.ref 111, .int (nI j)]) (rest2 := [.int (nI j), .ref 119]) rfl rfl (sx_inv_v2 (mi := 193) (k := 180) (st := [.int (nI j), .ref 111, .int (nI j), .ref 119]) (w := w) rfl rfl hI.1.o111 rfl rfl rfl) rfl rfl rfl (s188 hI (show j < 9 by omega)) (show _ = 22 from rfl) ?_
    rintro r4 w6 ⟨⟨v5, rfl⟩, hI7, hE9⟩
    have hE8 := hE.tr (hE9)
    show sx_RP _ _ _ _ _ [.int v5, .int (nI j), .ref 119] _ _
    refine sx_RP.mF hI7 hE8 rfl hI7.1.a119 (sx_in_nI (show j < 9 by omega) (by decide)) (by decide) (show _ = 23 from rfl) (fun w10 hI11 hE12 hk13 => ?_)
    refine sx_RP.step (pc2 := 26) (ls2 := [(2, .int ((nI j) + 1)), (0, .ref 111), (1, .int k)]) (st2 := []) (w3 := w10) rfl rfl ?_
    rw [nI_1 j]
    refine sx_RP.step (pc2 := 2) (ls2 := [(2, .int (nI (j + 1))), (0, .ref 111), (1, .int k)]) (st2 := []) (w3 := w10) rfl rfl ?_
    exact sx_RP.ls (sx_lr.cons rfl (sx_lr.cons rfl (sx_lr.cons rfl sx_lr.nil))) (kk w10 hI11 hE12 (by omega))
set_option maxRecDepth 20000 in
set_option maxHeartbeats 4000000 in
theorem s193aL {xs : Option (List Int32)} {d : Nat} {w0 : List sx_C} {P : Option Value → List sx_C → Prop} {k : Int32} (kx29 : ∀ (w4 : List sx_C), WI w4 → EM w0 w4 → sx_RP xs (d + 6) 193 29 [(0, .ref 111), (1, .int k)] [] w4 P) : ∀ (fz j : Nat) (w : List sx_C) , 9 ≤ j + fz * 1 → j ≤ 9 → WI w → EM w0 w → sx_RP xs (d + 6) 193 2 [(0, .ref 111), (1, .int k), (2, .int (nI j))] [] w P
  | 0, j, w, h, hj, hI, hE => s193aB (k := k) hI hE hj   (fun w4  hI4 hE4 hlt  => absurd hlt (by omega)) kx29
  | fz + 1, j, w, h, hj, hI, hE => s193aB (k := k) hI hE hj   (fun w4  hI4 hE4 hlt  => s193aL (k := k) kx29 fz (j + 1) w4  (by omega) hlt hI4 hE4 ) kx29
set_option maxRecDepth 20000 in
set_option maxHeartbeats 4000000 in
theorem s193iB {xs : Option (List Int32)} {d : Nat} {w w0 : List sx_C} {P : Option Value → List sx_C → Prop} {k n l : Int32} {c : Nat} (hc : c < 48) (hw : ∀ c, c < 48 → inR ((ia w0 117).getD c 0) 1000) (hI : WI w) (hE : EV w0 w) {j : Nat} (hj : j ≤ 9) (kk : ∀ (w4 : List sx_C), WI w4 → EV w0 w4 → j + 1 ≤ 9 → sx_RP xs (d + 6) 193 63 [(0, .ref 111), (1, .int k), (2, .int n), (3, .int (nI c)), (4, .int l), (5, .int (nI (j + 1)))] [] w4 P) (kx131 : ∀ (w4 : List sx_C), WI w4 → EV w0 w4 → sx_RP xs (d + 6) 193 131 [(0, .ref 111), (1, .int k), (2, .int n), (3, .int (nI c))] [] w4 P) : sx_RP xs (d + 6) 193 63 [(0, .ref 111), (1, .int k), (2, .int n), (3, .int (nI c)), (4, .int l), (5, .int (nI j))] [] w P := by
  refine sx_RP.step (pc2 := 65) (ls2 := [(0, .ref 111), (1, .int k), (2, .int n), (3, .int (nI c)), (4, .int l), (5, .int (nI j))]) (st2 := [.int (nI j)]) (w3 := w) rfl rfl ?_
  refine sx_RP.step (pc2 := 66) (ls2 := [(0, .ref 111), (1, .int k), (2, .int n), (3, .int (nI c)), (4, .int l), (5, .int (nI j))]) (st2 := [.ref 111, .int (nI j)]) (w3 := w) rfl rfl ?_
  refine sx_RP.gf (v := .ref 112) rfl rfl hI.1.o111 rfl rfl (show _ = 69 from rfl) ?_
  refine sx_RP.step (pc2 := 70) (ls2 := [(0, .ref 111), (1, .int k), (2, .int n), (3, .int (nI c)), (4, .int l), (5, .int (nI j))]) (st2 := [.int 2, .ref 112, .int (nI j)]) (w3 := w) rfl rfl ?_
  refine sx_RP.ild (c := 2) rfl hI.1.a112.1 hI.1.a112.2 (sx_in_nI (show 2 < 172 by omega) (by decide)) (show (nI 2).toNatClampNeg = 2 from nI_clamp (by omega)) (show _ = 71 from rfl) ?_
  obtain ⟨x1, hx2, ex3⟩ : inR ((ia w 112).getD 2 0) 9 := (hI.s (2) (by omega)).2.1 rfl
  rw [ex3]
  refine sx_RP.br (p1 := 131) (l1 := [(0, .ref 111), (1, .int k), (2, .int n), (3, .int (nI c)), (4, .int l), (5, .int (nI j))]) (s1 := []) (v1 := w) (p2 := 74) (l2 := [(0, .ref 111), (1, .int k), (2, .int n), (3, .int (nI c)), (4, .int l), (5, .int (nI j))]) (s2 := []) (v2 := w) rfl rfl (fun q4 => ?_) (fun q4 => ?_)
  · replace q4 := of_decide_eq_true q4
    replace q4 := (nI_leI (a := x1) (b := j) (by omega) (by omega)).mp q4
    exact sx_RP.ls (sx_lr.cons rfl (sx_lr.cons rfl (sx_lr.cons rfl (sx_lr.cons rfl sx_lr.nil)))) (kx131 w hI hE)
  · replace q4 := of_decide_eq_false q4
    replace q4 := mt (nI_leI (a := x1) (b := j) (by omega) (by omega)).mpr q4
    refine sx_RP.step (pc2 := 75) (ls2 := [(0, .ref 111), (1, .int k), (2, .int n), (3, .int (nI c)), (4, .int l), (5, .int (nI j))]) (st2 := [.ref 111]) (w3 := w) rfl rfl ?_
    refine sx_RP.gf (v := .ref 120) rfl rfl hI.1.o111 rfl rfl (show _ = 78 from rfl) ?_
    refine sx_RP.step (pc2 := 79) (ls2 := [(0, .ref 111), (1, .int k), (2, .int n), (3, .int (nI c)), (4, .int l), (5, .int (nI j))]) (st2 := [.int (nI c), .ref 120]) (w3 := w) rfl rfl ?_
    refine sx_RP.step (pc2 := 80) (ls2 := [(0, .ref 111), (1, .int k), (2, .int n), (3, .int (nI c)), (4, .int l), (5, .int (nI j))]) (st2 := [.ref 111, .int (nI c), .ref 120]) (w3 := w) rfl rfl ?_
    refine sx_RP.gf (v := .ref 120) rfl rfl hI.1.o111 rfl rfl (show _ = 83 from rfl) ?_
    refine sx_RP.step (pc2 := 84) (ls2 := [(0, .ref 111), (1, .int k), (2, .int n), (3, .int (nI c)), (4, .int l), (5, .int (nI j))]) (st2 := [.int (nI c), .ref 120, .int (nI c), .ref 120]) (w3 := w) rfl rfl ?_
    refine sx_RP.bld1 (c := c) rfl hI.1.a120.1 hI.1.a120.2 (sx_in_nI (show c < 48 by omega) (by decide)) (show (nI c).toNatClampNeg = c from nI_clamp (by omega)) (show _ = 85 from rfl) ?_
    refine sx_RP.br (p1 := 123) (l1 := [(0, .ref 111), (1, .int k), (2, .int n), (3, .int (nI c)), (4, .int l), (5, .int (nI j))]) (s1 := [.int (nI c), .ref 120]) (v1 := w) (p2 := 88) (l2 := [(0, .ref 111), (1, .int k), (2, .int n), (3, .int (nI c)), (4, .int l), (5, .int (nI j))]) (s2 := [.int (nI c), .ref 120]) (v2 := w) rfl rfl (fun q5 => ?_) (fun q5 => ?_)
    · replace q5 := of_decide_eq_true q5
      refine sx_RP.step (pc2 := 124) (ls2 := [(0, .ref 111), (1, .int k), (2, .int n), (3, .int (nI c)), (4, .int l), (5, .int (nI j))]) (st2 := [.int 0, .int (nI c), .ref 120]) (w3 := w) rfl rfl ?_
      refine sx_RP.mBV hI hE rfl hI.1.a120 (sx_in_nI (show c < 48 by omega) (by decide)) (by decide) (show _ = 125 from rfl) (fun w6 hI7 hE8 hk9 => ?_)
      have ex10 := (hk9 2).trans ex3
      refine sx_RP.step (pc2 := 128) (ls2 := [(5, .int ((nI j) + 1)), (0, .ref 111), (1, .int k), (2, .int n), (3, .int (nI c)), (4, .int l)]) (st2 := []) (w3 := w6) rfl rfl ?_
      rw [nI_1 j]
      refine sx_RP.step (pc2 := 63) (ls2 := [(5, .int (nI (j + 1))), (0, .ref 111), (1, .int k), (2, .int n), (3, .int (nI c)), (4, .int l)]) (st2 := []) (w3 := w6) rfl rfl ?_
      exact sx_RP.ls (sx_lr.cons rfl (sx_lr.cons rfl (sx_lr.cons rfl (sx_lr.cons rfl (sx_lr.cons rfl (sx_lr.cons rfl sx_lr.nil)))))) (kk w6 hI7 hE8 (by omega))
    · replace q5 := of_decide_eq_false q5
      refine sx_RP.step (pc2 := 90) (ls2 := [(0, .ref 111), (1, .int k), (2, .int n), (3, .int (nI c)), (4, .int l), (5, .int (nI j))]) (st2 := [.int l, .int (nI c), .ref 120]) (w3 := w) rfl rfl ?_
      refine sx_RP.step (pc2 := 91) (ls2 := [(0, .ref 111), (1, .int k), (2, .int n), (3, .int (nI c)), (4, .int l), (5, .int (nI j))]) (st2 := [.int 1, .int l, .int (nI c), .ref 120]) (w3 := w) rfl rfl ?_
      refine sx_RP.step (pc2 := 92) (ls2 := [(0, .ref 111), (1, .int k), (2, .int n), (3, .int (nI c)), (4, .int l), (5, .int (nI j))]) (st2 := [.ref 111, .int 1, .int l, .int (nI c), .ref 120]) (w3 := w) rfl rfl ?_
      refine sx_RP.gf (v := .ref 117) rfl rfl hI.1.o111 rfl rfl (show _ = 95 from rfl) ?_
      refine sx_RP.step (pc2 := 96) (ls2 := [(0, .ref 111), (1, .int k), (2, .int n), (3, .int (nI c)), (4, .int l), (5, .int (nI j))]) (st2 := [.ref 111, .ref 117, .int 1, .int l, .int (nI c), .ref 120]) (w3 := w) rfl rfl ?_
      refine sx_RP.gf (v := .ref 112) rfl rfl hI.1.o111 rfl rfl (show _ = 99 from rfl) ?_
      refine sx_RP.step (pc2 := 102) (ls2 := [(0, .ref 111), (1, .int k), (2, .int n), (3, .int (nI c)), (4, .int l), (5, .int (nI j))]) (st2 := [.int 163, .ref 112, .ref 117, .int 1, .int l, .int (nI c), .ref 120]) (w3 := w) rfl rfl ?_
      refine sx_RP.step (pc2 := 104) (ls2 := [(0, .ref 111), (1, .int k), (2, .int n), (3, .int (nI c)), (4, .int l), (5, .int (nI j))]) (st2 := [.int (nI j), .int 163, .ref 112, .ref 117, .int 1, .int l, .int (nI c), .ref 120]) (w3 := w) rfl rfl ?_
      refine sx_RP.step (pc2 := 105) (ls2 := [(0, .ref 111), (1, .int k), (2, .int n), (3, .int (nI c)), (4, .int l), (5, .int (nI j))]) (st2 := [.int (163 + (nI j)), .ref 112, .ref 117, .int 1, .int l, .int (nI c), .ref 120]) (w3 := w) rfl rfl ?_
      rw [show (163 + (nI j) : Int32) = nI (163 + j) from nI_add 163 j]
      refine sx_RP.ild (c := (163 + j)) rfl hI.1.a112.1 hI.1.a112.2 (sx_in_nI (show (163 + j) < 172 by omega) (by decide)) (show (nI (163 + j)).toNatClampNeg = (163 + j) from nI_clamp (by omega)) (show _ = 106 from rfl) ?_
      obtain ⟨x11, hx12, ex13⟩ : inR ((ia w 112).getD (163 + j) 0) 47 := (hI.s ((163 + j)) (by omega)).2.2.2.2.2.2.2.2 (by omega)
      rw [ex13]
      refine sx_RP.ild (c := x11) rfl hI.1.a117.1 hI.1.a117.2 (sx_in_nI (show x11 < 48 by omega) (by decide)) (show (nI x11).toNatClampNeg = x11 from nI_clamp (by omega)) (show _ = 107 from rfl) ?_
      obtain ⟨x14, hx15, ex16⟩ : inR ((ia w 117).getD x11 0) 1000 := (by rw [hE.2]; exact hw _ (show x11 < 48 by omega))
      rw [ex16]
      refine sx_RP.step (pc2 := 108) (ls2 := [(0, .ref 111), (1, .int k), (2, .int n), (3, .int (nI c)), (4, .int l), (5, .int (nI j))]) (st2 := [.int (1 + (nI x14)), .int l, .int (nI c), .ref 120]) (w3 := w) rfl rfl ?_
      rw [show (1 + (nI x14) : Int32) = nI (1 + x14) from nI_add 1 x14]
      refine sx_RP.idiv (pc2 := 109) rfl (nI_n0 (by omega) (by omega)) rfl ?_
      refine sx_RP.step (pc2 := 110) (ls2 := [(0, .ref 111), (1, .int k), (2, .int n), (3, .int (nI c)), (4, .int l), (5, .int (nI j))]) (st2 := [.ref 111, .int (l / (nI (1 + x14))), .int (nI c), .ref 120]) (w3 := w) rfl rfl ?_
      refine sx_RP.gf (v := .ref 119) rfl rfl hI.1.o111 rfl rfl (show _ = 113 from rfl) ?_
      refine sx_RP.step (pc2 := 115) (ls2 := [(0, .ref 111), (1, .int k), (2, .int n), (3, .int (nI c)), (4, .int l), (5, .int (nI j))]) (st2 := [.int (nI j), .ref 119, .int (l / (nI (1 + x14))), .int (nI c), .ref 120]) (w3 := w) rfl rfl ?_
      refine sx_RP.ild (c := j) rfl hI.1.a119.1 hI.1.a119.2 (sx_in_nI (show j < 9 by omega) (by decide)) (show (nI j).toNatClampNeg = j from nI_clamp (by omega)) (show _ = 116 from rfl) ?_
      refine sx_RP.br (p1 := 123) (l1 := [(0, .ref 111), (1, .int k), (2, .int n), (3, .int (nI c)), (4, .int l), (5, .int (nI j))]) (s1 := [.int (nI c), .ref 120]) (v1 := w) (p2 := 119) (l2 := [(0, .ref 111), (1, .int k), (2, .int n), (3, .int (nI c)), (4, .int l), (5, .int (nI j))]) (s2 := [.int (nI c), .ref 120]) (v2 := w) rfl rfl (fun q17 => ?_) (fun q17 => ?_)
      · replace q17 := of_decide_eq_true q17
        refine sx_RP.step (pc2 := 124) (ls2 := [(0, .ref 111), (1, .int k), (2, .int n), (3, .int (nI c)), (4, .int l), (5, .int (nI j))]) (st2 := [.int 0, .int (nI c), .ref 120]) (w3 := w) rfl rfl ?_
        refine sx_RP.mBV hI hE rfl hI.1.a120 (sx_in_nI (show c < 48 by omega) (by decide)) (by decide) (show _ = 125 from rfl) (fun w18 hI19 hE20 hk21 => ?_)
        have ex22 := (hk21 2).trans ex3
        have ex23 := (hk21 (163 + j)).trans ex13
        refine sx_RP.step (pc2 := 128) (ls2 := [(5, .int ((nI j) + 1)), (0, .ref 111), (1, .int k), (2, .int n), (3, .int (nI c)), (4, .int l)]) (st2 := []) (w3 := w18) rfl rfl ?_
        rw [nI_1 j]
        refine sx_RP.step (pc2 := 63) (ls2 := [(5, .int (nI (j + 1))), (0, .ref 111), (1, .int k), (2, .int n), (3, .int (nI c)), (4, .int l)]) (st2 := []) (w3 := w18) rfl rfl ?_
        exact sx_RP.ls (sx_lr.cons rfl (sx_lr.cons rfl (sx_lr.cons rfl (sx_lr.cons rfl (sx_lr.cons rfl (sx_lr.cons rfl sx_lr.nil)))))) (kk w18 hI19 hE20 (by omega))
      · replace q17 := Decidable.not_not.mp (of_decide_eq_false q17)
        refine sx_RP.step (pc2 := 120) (ls2 := [(0, .ref 111), (1, .int k), (2, .int n), (3, .int (nI c)), (4, .int l), (5, .int (nI j))]) (st2 := [.int 1, .int (nI c), .ref 120]) (w3 := w) rfl rfl ?_
        refine sx_RP.step (pc2 := 124) (ls2 := [(0, .ref 111), (1, .int k), (2, .int n), (3, .int (nI c)), (4, .int l), (5, .int (nI j))]) (st2 := [.int 1, .int (nI c), .ref 120]) (w3 := w) rfl rfl ?_
        refine sx_RP.mBV hI hE rfl hI.1.a120 (sx_in_nI (show c < 48 by omega) (by decide)) (by decide) (show _ = 125 from rfl) (fun w24 hI25 hE26 hk27 => ?_)
        have ex28 := (hk27 2).trans ex3
        have ex29 := (hk27 (163 + j)).trans ex13
        refine sx_RP.step (pc2 := 128) (ls2 := [(5, .int ((nI j) + 1)), (0, .ref 111), (1, .int k), (2, .int n), (3, .int (nI c)), (4, .int l)]) (st2 := []) (w3 := w24) rfl rfl ?_
        rw [nI_1 j]
        refine sx_RP.step (pc2 := 63) (ls2 := [(5, .int (nI (j + 1))), (0, .ref 111), (1, .int k), (2, .int n), (3, .int (nI c)), (4, .int l)]) (st2 := []) (w3 := w24) rfl rfl ?_
        exact sx_RP.ls (sx_lr.cons rfl (sx_lr.cons rfl (sx_lr.cons rfl (sx_lr.cons rfl (sx_lr.cons rfl (sx_lr.cons rfl sx_lr.nil)))))) (kk w24 hI25 hE26 (by omega))
set_option maxRecDepth 20000 in
set_option maxHeartbeats 4000000 in
theorem s193iL {xs : Option (List Int32)} {d : Nat} {w0 : List sx_C} {P : Option Value → List sx_C → Prop} {k n l : Int32} {c : Nat} (hc : c < 48) (hw : ∀ c, c < 48 → inR ((ia w0 117).getD c 0) 1000) (kx131 : ∀ (w4 : List sx_C), WI w4 → EV w0 w4 → sx_RP xs (d + 6) 193 131 [(0, .ref 111), (1, .int k), (2, .int n), (3, .int (nI c))] [] w4 P) : ∀ (fz j : Nat) (w : List sx_C) , 9 ≤ j + fz * 1 → j ≤ 9 → WI w → EV w0 w → sx_RP xs (d + 6) 193 63 [(0, .ref 111), (1, .int k), (2, .int n), (3, .int (nI c)), (4, .int l), (5, .int (nI j))] [] w P
  | 0, j, w, h, hj, hI, hE => s193iB hc hw hI hE hj   (fun w4  hI4 hE4 hlt  => absurd hlt (by omega)) kx131
  | fz + 1, j, w, h, hj, hI, hE => s193iB hc hw hI hE hj   (fun w4  hI4 hE4 hlt  => s193iL hc hw kx131 fz (j + 1) w4  (by omega) hlt hI4 hE4 ) kx131
set_option maxRecDepth 20000 in
set_option maxHeartbeats 4000000 in
theorem s193bB {xs : Option (List Int32)} {d : Nat} {w w0 : List sx_C} {k : Int32} (hI : WI w) (hE : EM w0 w) {j : Nat} (hj : j ≤ 48) (n : Int32) (kk : ∀ (w4 : List sx_C) (un : Int32), WI w4 → EM w0 w4 → j + 1 ≤ 48 → sx_RP xs (d + 6) 193 33 [(0, .ref 111), (1, .int k), (2, .int un), (3, .int (nI (j + 1)))] [] w4 (fun r w2 => (∃ v : Int32, r = some (.int v)) ∧ WI w2 ∧ EM w0 w2)) : sx_RP xs (d + 6) 193 33 [(0, .ref 111), (1, .int k), (2, .int n), (3, .int (nI j))] [] w (fun r w2 => (∃ v : Int32, r = some (.int v)) ∧ WI w2 ∧ EM w0 w2) := by
  refine sx_RP.step (pc2 := 34) (ls2 := [(0, .ref 111), (1, .int k), (2, .int n), (3, .int (nI j))]) (st2 := [.int (nI j)]) (w3 := w) rfl rfl ?_
  refine sx_RP.step (pc2 := 36) (ls2 := [(0, .ref 111), (1, .int k), (2, .int n), (3, .int (nI j))]) (st2 := [.int 48, .int (nI j)]) (w3 := w) rfl rfl ?_
  refine sx_RP.br (p1 := 154) (l1 := [(0, .ref 111), (1, .int k), (2, .int n), (3, .int (nI j))]) (s1 := []) (v1 := w) (p2 := 39) (l2 := [(0, .ref 111), (1, .int k), (2, .int n), (3, .int (nI j))]) (s2 := []) (v2 := w) rfl rfl (fun q1 => ?_) (fun q1 => ?_)
  · replace q1 := of_decide_eq_true q1
    replace q1 := (nI_leI (a := 48) (b := j) (by omega) (by omega)).mp q1
    refine sx_RP.step (pc2 := 155) (ls2 := [(0, .ref 111), (1, .int k), (2, .int n), (3, .int (nI j))]) (st2 := [.int n]) (w3 := w) rfl rfl ?_
    refine sx_RP.ret (r := (some (.int n))) rfl rfl ?_
    exact ⟨⟨_, rfl⟩, hI, hE⟩
  · replace q1 := of_decide_eq_false q1
    replace q1 := mt (nI_leI (a := 48) (b := j) (by omega) (by omega)).mpr q1
    refine sx_RP.step (pc2 := 40) (ls2 := [(0, .ref 111), (1, .int k), (2, .int n), (3, .int (nI j))]) (st2 := [.ref 111]) (w3 := w) rfl rfl ?_
    refine sx_RP.step (pc2 := 41) (ls2 := [(0, .ref 111), (1, .int k), (2, .int n), (3, .int (nI j))]) (st2 := [.int (nI j), .ref 111]) (w3 := w) rfl rfl ?_
    refine sx_RP.step (pc2 := 42) (ls2 := [(0, .ref 111), (1, .int k), (2, .int n), (3, .int (nI j))]) (st2 := [.int (-1), .int (nI j), .ref 111]) (w3 := w) rfl rfl ?_
    refine sx_RP.callp (as2 := [.ref 111, .int (nI j), .int (-1)]) (rest2 := []) rfl rfl (sx_inv_v2 (mi := 193) (k := 94) (st := [.int (-1), .int (nI j), .ref 111]) (w := w) rfl rfl hI.1.o111 rfl rfl rfl) rfl rfl rfl (s141t hI (show j < 48 by omega)) (show _ = 45 from rfl) ?_
    rintro r4 w3 ⟨⟨rfl, hw2⟩, hI4, hE6⟩
    have hE5 := hE.tr (hE6)
    show sx_RP _ _ _ _ _ [] _ _
    refine sx_RP.step (pc2 := 46) (ls2 := [(0, .ref 111), (1, .int k), (2, .int n), (3, .int (nI j))]) (st2 := [.ref 111]) (w3 := w3) rfl rfl ?_
    refine sx_RP.step (pc2 := 47) (ls2 := [(0, .ref 111), (1, .int k), (2, .int n), (3, .int (nI j))]) (st2 := [.int k, .ref 111]) (w3 := w3) rfl rfl ?_
    refine sx_RP.step (pc2 := 48) (ls2 := [(0, .ref 111), (1, .int k), (2, .int n), (3, .int (nI j))]) (st2 := [.int (nI j), .int k, .ref 111]) (w3 := w3) rfl rfl ?_
    obtain ⟨v7, c8⟩ := p162 hI4 k (show j < 48 by omega)
    refine sx_RP.cu (as := [.ref 111, .int k, .int (nI j)]) (rest2 := []) (st3 := [.int v7]) rfl rfl (sx_inv_v2 (mi := 193) (k := 130) (st := [.int (nI j), .int k, .ref 111]) (w := w3) rfl rfl hI4.1.o111 rfl rfl rfl) rfl rfl (c8) rfl ?_
    refine sx_RP.step (pc2 := 53) (ls2 := [(4, .int v7), (0, .ref 111), (1, .int k), (2, .int n), (3, .int (nI j))]) (st2 := []) (w3 := w3) rfl rfl ?_
    refine sx_RP.step (pc2 := 54) (ls2 := [(4, .int v7), (0, .ref 111), (1, .int k), (2, .int n), (3, .int (nI j))]) (st2 := [.ref 111]) (w3 := w3) rfl rfl ?_
    refine sx_RP.gf (v := .ref 120) rfl rfl hI4.1.o111 rfl rfl (show _ = 57 from rfl) ?_
    refine sx_RP.step (pc2 := 58) (ls2 := [(4, .int v7), (0, .ref 111), (1, .int k), (2, .int n), (3, .int (nI j))]) (st2 := [.int (nI j), .ref 120]) (w3 := w3) rfl rfl ?_
    refine sx_RP.step (pc2 := 59) (ls2 := [(4, .int v7), (0, .ref 111), (1, .int k), (2, .int n), (3, .int (nI j))]) (st2 := [.int 1, .int (nI j), .ref 120]) (w3 := w3) rfl rfl ?_
    refine sx_RP.mBk hI4 hE5 rfl hI4.1.a120 (sx_in_nI (show j < 48 by omega) (by decide)) (show _ = 60 from rfl) (fun w9 hI10 hE11 hk12 => ?_)
    refine sx_RP.step (pc2 := 61) (ls2 := [(4, .int v7), (0, .ref 111), (1, .int k), (2, .int n), (3, .int (nI j))]) (st2 := [.int 0]) (w3 := w9) rfl rfl ?_
    refine sx_RP.step (pc2 := 63) (ls2 := [(5, .int 0), (4, .int v7), (0, .ref 111), (1, .int k), (2, .int n), (3, .int (nI j))]) (st2 := []) (w3 := w9) rfl rfl ?_
    refine sx_RP.ls (sx_lr.cons rfl (sx_lr.cons rfl (sx_lr.cons rfl (sx_lr.cons rfl (sx_lr.cons rfl (sx_lr.cons rfl sx_lr.nil)))))) (s193iL (w0 := w9) (show j < 48 by omega) (fun c hc => by rw [hk12]; exact hw2.at hc) (fun w13 hI14 hE15 => ?_) 9 0 w9 (by omega) (by omega) hI10 EV.rf)
    have hE16 := hE11.tr hE15.1
    refine sx_RP.step (pc2 := 132) (ls2 := [(0, .ref 111), (1, .int k), (2, .int n), (3, .int (nI j))]) (st2 := [.int n]) (w3 := w13) rfl rfl ?_
    refine sx_RP.step (pc2 := 133) (ls2 := [(0, .ref 111), (1, .int k), (2, .int n), (3, .int (nI j))]) (st2 := [.ref 111, .int n]) (w3 := w13) rfl rfl ?_
    refine sx_RP.gf (v := .ref 120) rfl rfl hI14.1.o111 rfl rfl (show _ = 136 from rfl) ?_
    refine sx_RP.step (pc2 := 137) (ls2 := [(0, .ref 111), (1, .int k), (2, .int n), (3, .int (nI j))]) (st2 := [.int (nI j), .ref 120, .int n]) (w3 := w13) rfl rfl ?_
    refine sx_RP.bld1 (c := j) rfl hI14.1.a120.1 hI14.1.a120.2 (sx_in_nI (show j < 48 by omega) (by decide)) (show (nI j).toNatClampNeg = j from nI_clamp (by omega)) (show _ = 138 from rfl) ?_
    refine sx_RP.br (p1 := 145) (l1 := [(0, .ref 111), (1, .int k), (2, .int n), (3, .int (nI j))]) (s1 := [.int n]) (v1 := w13) (p2 := 141) (l2 := [(0, .ref 111), (1, .int k), (2, .int n), (3, .int (nI j))]) (s2 := [.int n]) (v2 := w13) rfl rfl (fun q17 => ?_) (fun q17 => ?_)
    · replace q17 := of_decide_eq_true q17
      refine sx_RP.step (pc2 := 146) (ls2 := [(0, .ref 111), (1, .int k), (2, .int n), (3, .int (nI j))]) (st2 := [.int 0, .int n]) (w3 := w13) rfl rfl ?_
      refine sx_RP.step (pc2 := 147) (ls2 := [(0, .ref 111), (1, .int k), (2, .int n), (3, .int (nI j))]) (st2 := [.int (n + 0)]) (w3 := w13) rfl rfl ?_
      refine sx_RP.step (pc2 := 148) (ls2 := [(2, .int (n + 0)), (0, .ref 111), (1, .int k), (3, .int (nI j))]) (st2 := []) (w3 := w13) rfl rfl ?_
      refine sx_RP.step (pc2 := 151) (ls2 := [(3, .int ((nI j) + 1)), (2, .int (n + 0)), (0, .ref 111), (1, .int k)]) (st2 := []) (w3 := w13) rfl rfl ?_
      rw [nI_1 j]
      refine sx_RP.step (pc2 := 33) (ls2 := [(3, .int (nI (j + 1))), (2, .int (n + 0)), (0, .ref 111), (1, .int k)]) (st2 := []) (w3 := w13) rfl rfl ?_
      exact sx_RP.ls (sx_lr.cons rfl (sx_lr.cons rfl (sx_lr.cons rfl (sx_lr.cons rfl sx_lr.nil)))) (kk w13 (n + 0) hI14 hE16 (by omega))
    · replace q17 := of_decide_eq_false q17
      refine sx_RP.step (pc2 := 142) (ls2 := [(0, .ref 111), (1, .int k), (2, .int n), (3, .int (nI j))]) (st2 := [.int 1, .int n]) (w3 := w13) rfl rfl ?_
      refine sx_RP.step (pc2 := 146) (ls2 := [(0, .ref 111), (1, .int k), (2, .int n), (3, .int (nI j))]) (st2 := [.int 1, .int n]) (w3 := w13) rfl rfl ?_
      refine sx_RP.step (pc2 := 147) (ls2 := [(0, .ref 111), (1, .int k), (2, .int n), (3, .int (nI j))]) (st2 := [.int (n + 1)]) (w3 := w13) rfl rfl ?_
      refine sx_RP.step (pc2 := 148) (ls2 := [(2, .int (n + 1)), (0, .ref 111), (1, .int k), (3, .int (nI j))]) (st2 := []) (w3 := w13) rfl rfl ?_
      refine sx_RP.step (pc2 := 151) (ls2 := [(3, .int ((nI j) + 1)), (2, .int (n + 1)), (0, .ref 111), (1, .int k)]) (st2 := []) (w3 := w13) rfl rfl ?_
      rw [nI_1 j]
      refine sx_RP.step (pc2 := 33) (ls2 := [(3, .int (nI (j + 1))), (2, .int (n + 1)), (0, .ref 111), (1, .int k)]) (st2 := []) (w3 := w13) rfl rfl ?_
      exact sx_RP.ls (sx_lr.cons rfl (sx_lr.cons rfl (sx_lr.cons rfl (sx_lr.cons rfl sx_lr.nil)))) (kk w13 (n + 1) hI14 hE16 (by omega))
set_option maxRecDepth 20000 in
set_option maxHeartbeats 4000000 in
theorem s193bL {xs : Option (List Int32)} {d : Nat} {w0 : List sx_C} {k : Int32} : ∀ (fz j : Nat) (w : List sx_C) (n : Int32) , 48 ≤ j + fz * 1 → j ≤ 48 → WI w → EM w0 w → sx_RP xs (d + 6) 193 33 [(0, .ref 111), (1, .int k), (2, .int n), (3, .int (nI j))] [] w (fun r w2 => (∃ v : Int32, r = some (.int v)) ∧ WI w2 ∧ EM w0 w2)
  | 0, j, w, n, h, hj, hI, hE => s193bB (k := k) hI hE hj n  (fun w4 un hI4 hE4 hlt  => absurd hlt (by omega)) 
  | fz + 1, j, w, n, h, hj, hI, hE => s193bB (k := k) hI hE hj n  (fun w4 un hI4 hE4 hlt  => s193bL (k := k)  fz (j + 1) w4 un (by omega) hlt hI4 hE4 ) 
set_option maxRecDepth 20000 in
set_option maxHeartbeats 4000000 in
theorem s193 {xs : Option (List Int32)} {d : Nat} {w : List sx_C} (hI : WI w) (k : Int32) : sx_RP xs (d + 6) 193 0 (lv_args 0 [.ref 111, .int k]) [] w (fun r w2 => (∃ v : Int32, r = some (.int v)) ∧ WI w2 ∧ EM w w2) := by
  have hE : EM w w := EM.rf
  refine sx_RP.step (pc2 := 1) (ls2 := [(0, .ref 111), (1, .int k)]) (st2 := [.int 0]) (w3 := w) rfl rfl ?_
  refine sx_RP.step (pc2 := 2) (ls2 := [(2, .int 0), (0, .ref 111), (1, .int k)]) (st2 := []) (w3 := w) rfl rfl ?_
  refine sx_RP.ls (sx_lr.cons rfl (sx_lr.cons rfl (sx_lr.cons rfl sx_lr.nil))) (s193aL  (fun w1 hI2 hE3 => ?_) 9 0 w  (by omega) (by omega) hI hE )
  refine sx_RP.step (pc2 := 30) (ls2 := [(0, .ref 111), (1, .int k)]) (st2 := [.int 0]) (w3 := w1) rfl rfl ?_
  refine sx_RP.step (pc2 := 31) (ls2 := [(2, .int 0), (0, .ref 111), (1, .int k)]) (st2 := []) (w3 := w1) rfl rfl ?_
  refine sx_RP.step (pc2 := 32) (ls2 := [(2, .int 0), (0, .ref 111), (1, .int k)]) (st2 := [.int 0]) (w3 := w1) rfl rfl ?_
  refine sx_RP.step (pc2 := 33) (ls2 := [(3, .int 0), (2, .int 0), (0, .ref 111), (1, .int k)]) (st2 := []) (w3 := w1) rfl rfl ?_
  exact sx_RP.ls (sx_lr.cons rfl (sx_lr.cons rfl (sx_lr.cons rfl (sx_lr.cons rfl sx_lr.nil)))) (s193bL  48 0 w1 0 (by omega) (by omega) hI2 hE3 )
set_option maxRecDepth 20000 in
set_option maxHeartbeats 4000000 in
theorem s192B {xs : Option (List Int32)} {d : Nat} {w w0 : List sx_C} (m : Int32) (hI : WI w) (hE : EM w0 w) {j : Nat} (hj : j ≤ 48) (n : Int64) (kk : ∀ (w4 : List sx_C) (un : Int64), WI w4 → EM w0 w4 → j + 1 ≤ 48 → sx_RP xs (d + 7) 192 41 [(0, .ref 111), (2, .int m), (3, .long un), (5, .int (nI (j + 1)))] [] w4 (fun r w2 => (∃ v : Int64, r = some (.long v)) ∧ WI w2 ∧ EM w0 w2)) : sx_RP xs (d + 7) 192 41 [(0, .ref 111), (2, .int m), (3, .long n), (5, .int (nI j))] [] w (fun r w2 => (∃ v : Int64, r = some (.long v)) ∧ WI w2 ∧ EM w0 w2) := by
  refine sx_RP.step (pc2 := 43) (ls2 := [(0, .ref 111), (2, .int m), (3, .long n), (5, .int (nI j))]) (st2 := [.int (nI j)]) (w3 := w) rfl rfl ?_
  refine sx_RP.step (pc2 := 45) (ls2 := [(0, .ref 111), (2, .int m), (3, .long n), (5, .int (nI j))]) (st2 := [.int 48, .int (nI j)]) (w3 := w) rfl rfl ?_
  refine sx_RP.br (p1 := 79) (l1 := [(0, .ref 111), (2, .int m), (3, .long n), (5, .int (nI j))]) (s1 := []) (v1 := w) (p2 := 48) (l2 := [(0, .ref 111), (2, .int m), (3, .long n), (5, .int (nI j))]) (s2 := []) (v2 := w) rfl rfl (fun q1 => ?_) (fun q1 => ?_)
  · replace q1 := of_decide_eq_true q1
    replace q1 := (nI_leI (a := 48) (b := j) (by omega) (by omega)).mp q1
    refine sx_RP.step (pc2 := 80) (ls2 := [(0, .ref 111), (2, .int m), (3, .long n), (5, .int (nI j))]) (st2 := [.long n]) (w3 := w) rfl rfl ?_
    refine sx_RP.ret (r := (some (.long n))) rfl rfl ?_
    exact ⟨⟨_, rfl⟩, hI, hE⟩
  · replace q1 := of_decide_eq_false q1
    replace q1 := mt (nI_leI (a := 48) (b := j) (by omega) (by omega)).mpr q1
    refine sx_RP.step (pc2 := 49) (ls2 := [(0, .ref 111), (2, .int m), (3, .long n), (5, .int (nI j))]) (st2 := [.int m]) (w3 := w) rfl rfl ?_
    refine sx_RP.br (p1 := 79) (l1 := [(0, .ref 111), (2, .int m), (3, .long n), (5, .int (nI j))]) (s1 := []) (v1 := w) (p2 := 52) (l2 := [(0, .ref 111), (2, .int m), (3, .long n), (5, .int (nI j))]) (s2 := []) (v2 := w) rfl rfl (fun q2 => ?_) (fun q2 => ?_)
    · replace q2 := of_decide_eq_true q2
      refine sx_RP.step (pc2 := 80) (ls2 := [(0, .ref 111), (2, .int m), (3, .long n), (5, .int (nI j))]) (st2 := [.long n]) (w3 := w) rfl rfl ?_
      refine sx_RP.ret (r := (some (.long n))) rfl rfl ?_
      exact ⟨⟨_, rfl⟩, hI, hE⟩
    · replace q2 := of_decide_eq_false q2
      refine sx_RP.step (pc2 := 53) (ls2 := [(0, .ref 111), (2, .int m), (3, .long n), (5, .int (nI j))]) (st2 := [.long n]) (w3 := w) rfl rfl ?_
      refine sx_RP.step (pc2 := 54) (ls2 := [(0, .ref 111), (2, .int m), (3, .long n), (5, .int (nI j))]) (st2 := [.ref 111, .long n]) (w3 := w) rfl rfl ?_
      refine sx_RP.gf (v := .ref 120) rfl rfl hI.1.o111 rfl rfl (show _ = 57 from rfl) ?_
      refine sx_RP.step (pc2 := 59) (ls2 := [(0, .ref 111), (2, .int m), (3, .long n), (5, .int (nI j))]) (st2 := [.int (nI j), .ref 120, .long n]) (w3 := w) rfl rfl ?_
      refine sx_RP.bld1 (c := j) rfl hI.1.a120.1 hI.1.a120.2 (sx_in_nI (show j < 48 by omega) (by decide)) (show (nI j).toNatClampNeg = j from nI_clamp (by omega)) (show _ = 60 from rfl) ?_
      refine sx_RP.br (p1 := 70) (l1 := [(0, .ref 111), (2, .int m), (3, .long n), (5, .int (nI j))]) (s1 := [.long n]) (v1 := w) (p2 := 63) (l2 := [(0, .ref 111), (2, .int m), (3, .long n), (5, .int (nI j))]) (s2 := [.long n]) (v2 := w) rfl rfl (fun q3 => ?_) (fun q3 => ?_)
      · replace q3 := of_decide_eq_true q3
        refine sx_RP.step (pc2 := 71) (ls2 := [(0, .ref 111), (2, .int m), (3, .long n), (5, .int (nI j))]) (st2 := [.long 0, .long n]) (w3 := w) rfl rfl ?_
        refine sx_RP.step (pc2 := 72) (ls2 := [(0, .ref 111), (2, .int m), (3, .long n), (5, .int (nI j))]) (st2 := [.long (n ||| 0)]) (w3 := w) rfl rfl ?_
        refine sx_RP.step (pc2 := 73) (ls2 := [(3, .long (n ||| 0)), (0, .ref 111), (2, .int m), (5, .int (nI j))]) (st2 := []) (w3 := w) rfl rfl ?_
        refine sx_RP.step (pc2 := 76) (ls2 := [(5, .int ((nI j) + 1)), (3, .long (n ||| 0)), (0, .ref 111), (2, .int m)]) (st2 := []) (w3 := w) rfl rfl ?_
        rw [nI_1 j]
        refine sx_RP.step (pc2 := 41) (ls2 := [(5, .int (nI (j + 1))), (3, .long (n ||| 0)), (0, .ref 111), (2, .int m)]) (st2 := []) (w3 := w) rfl rfl ?_
        exact sx_RP.ls (sx_lr.cons rfl (sx_lr.cons rfl (sx_lr.cons rfl (sx_lr.cons rfl sx_lr.nil)))) (kk w (n ||| 0) hI hE (by omega))
      · replace q3 := of_decide_eq_false q3
        refine sx_RP.step (pc2 := 64) (ls2 := [(0, .ref 111), (2, .int m), (3, .long n), (5, .int (nI j))]) (st2 := [.long 1, .long n]) (w3 := w) rfl rfl ?_
        refine sx_RP.step (pc2 := 66) (ls2 := [(0, .ref 111), (2, .int m), (3, .long n), (5, .int (nI j))]) (st2 := [.int (nI j), .long 1, .long n]) (w3 := w) rfl rfl ?_
        refine sx_RP.step (pc2 := 67) (ls2 := [(0, .ref 111), (2, .int m), (3, .long n), (5, .int (nI j))]) (st2 := [.long ((1 : Int64) <<< ((nI j).toInt64 &&& 63)), .long n]) (w3 := w) rfl rfl ?_
        refine sx_RP.step (pc2 := 71) (ls2 := [(0, .ref 111), (2, .int m), (3, .long n), (5, .int (nI j))]) (st2 := [.long ((1 : Int64) <<< ((nI j).toInt64 &&& 63)), .long n]) (w3 := w) rfl rfl ?_
        refine sx_RP.step (pc2 := 72) (ls2 := [(0, .ref 111), (2, .int m), (3, .long n), (5, .int (nI j))]) (st2 := [.long (n ||| ((1 : Int64) <<< ((nI j).toInt64 &&& 63)))]) (w3 := w) rfl rfl ?_
        refine sx_RP.step (pc2 := 73) (ls2 := [(3, .long (n ||| ((1 : Int64) <<< ((nI j).toInt64 &&& 63)))), (0, .ref 111), (2, .int m), (5, .int (nI j))]) (st2 := []) (w3 := w) rfl rfl ?_
        refine sx_RP.step (pc2 := 76) (ls2 := [(5, .int ((nI j) + 1)), (3, .long (n ||| ((1 : Int64) <<< ((nI j).toInt64 &&& 63)))), (0, .ref 111), (2, .int m)]) (st2 := []) (w3 := w) rfl rfl ?_
        rw [nI_1 j]
        refine sx_RP.step (pc2 := 41) (ls2 := [(5, .int (nI (j + 1))), (3, .long (n ||| ((1 : Int64) <<< ((nI j).toInt64 &&& 63)))), (0, .ref 111), (2, .int m)]) (st2 := []) (w3 := w) rfl rfl ?_
        exact sx_RP.ls (sx_lr.cons rfl (sx_lr.cons rfl (sx_lr.cons rfl (sx_lr.cons rfl sx_lr.nil)))) (kk w (n ||| ((1 : Int64) <<< ((nI j).toInt64 &&& 63))) hI hE (by omega))
set_option maxRecDepth 20000 in
set_option maxHeartbeats 4000000 in
theorem s192L {xs : Option (List Int32)} {d : Nat} {w0 : List sx_C} (m : Int32) : ∀ (fz j : Nat) (w : List sx_C) (n : Int64) , 48 ≤ j + fz * 1 → j ≤ 48 → WI w → EM w0 w → sx_RP xs (d + 7) 192 41 [(0, .ref 111), (2, .int m), (3, .long n), (5, .int (nI j))] [] w (fun r w2 => (∃ v : Int64, r = some (.long v)) ∧ WI w2 ∧ EM w0 w2)
  | 0, j, w, n, h, hj, hI, hE => s192B m hI hE hj n  (fun w4 un hI4 hE4 hlt  => absurd hlt (by omega)) 
  | fz + 1, j, w, n, h, hj, hI, hE => s192B m hI hE hj n  (fun w4 un hI4 hE4 hlt  => s192L m  fz (j + 1) w4 un (by omega) hlt hI4 hE4 ) 
set_option maxRecDepth 20000 in
set_option maxHeartbeats 4000000 in
theorem s192 {xs : Option (List Int32)} {d : Nat} {w : List sx_C} (hI : WI w) (a1 : Int32) : sx_RP xs (d + 7) 192 0 (lv_args 0 [.ref 111, .int a1]) [] w (fun r w2 => (∃ v : Int64, r = some (.long v)) ∧ WI w2 ∧ EM w w2) := by
  have hE : EM w w := EM.rf
  refine sx_RP.step (pc2 := 1) (ls2 := [(0, .ref 111), (1, .int a1)]) (st2 := [.int a1]) (w3 := w) rfl rfl ?_
  rcases in_cases a1 0 5 (m := 0) (n := 5) rfl rfl (by decide) (by decide) with q1 | ⟨x2, hx3, hx4, rfl⟩
  · refine sx_RP.cu (as := [.int a1]) (rest2 := []) (st3 := [.int 0]) rfl rfl rfl rfl rfl (cx_151n q1) rfl ?_
    refine sx_RP.step (pc2 := 7) (ls2 := [(0, .ref 111), (1, .int a1)]) (st2 := []) (w3 := w) rfl rfl ?_
    refine sx_RP.step (pc2 := 8) (ls2 := [(0, .ref 111), (1, .int a1)]) (st2 := [.ref 111]) (w3 := w) rfl rfl ?_
    refine sx_RP.step (pc2 := 9) (ls2 := [(0, .ref 111), (1, .int a1)]) (st2 := [.int 0, .ref 111]) (w3 := w) rfl rfl ?_
    refine sx_RP.callp (as2 := [.ref 111, .int 0]) (rest2 := []) rfl rfl (sx_inv_v2 (mi := 192) (k := 70) (st := [.int 0, .ref 111]) (w := w) rfl rfl hI.1.o111 rfl rfl rfl) rfl rfl rfl (s133_0 hI) (show _ = 12 from rfl) ?_
    rintro r4 w6 ⟨rfl, hI7, hE9⟩
    have hE8 := hE.tr (hE9)
    show sx_RP _ _ _ _ _ [.int (-1000000001)] _ _
    refine sx_RP.step (pc2 := 13) (ls2 := [(0, .ref 111), (1, .int a1)]) (st2 := [.long (-1000000001)]) (w3 := w6) rfl rfl ?_
    refine sx_RP.ret (r := (some (.long (-1000000001)))) rfl rfl ?_
    exact ⟨⟨_, rfl⟩, hI7, hE8⟩
  · refine sx_RP.cu (as := [.int (nI x2)]) (rest2 := []) (st3 := [.int 1]) rfl rfl rfl rfl rfl (cx_151p ⟨nI_le (a := 0) hx3 (by omega), nI_le (b := 5) hx4 (by decide)⟩) rfl ?_
    refine sx_RP.step (pc2 := 14) (ls2 := [(0, .ref 111), (1, .int (nI x2))]) (st2 := []) (w3 := w) rfl rfl ?_
    refine sx_RP.step (pc2 := 15) (ls2 := [(0, .ref 111), (1, .int (nI x2))]) (st2 := [.ref 111]) (w3 := w) rfl rfl ?_
    refine sx_RP.gf (v := .ref 112) rfl rfl hI.1.o111 rfl rfl (show _ = 18 from rfl) ?_
    refine sx_RP.step (pc2 := 19) (ls2 := [(0, .ref 111), (1, .int (nI x2))]) (st2 := [.int 2, .ref 112]) (w3 := w) rfl rfl ?_
    refine sx_RP.ild (c := 2) rfl hI.1.a112.1 hI.1.a112.2 (sx_in_nI (show 2 < 172 by omega) (by decide)) (show (nI 2).toNatClampNeg = 2 from nI_clamp (by omega)) (show _ = 20 from rfl) ?_
    obtain ⟨x10, hx11, ex12⟩ : inR ((ia w 112).getD 2 0) 9 := (hI.s (2) (by omega)).2.1 rfl
    rw [ex12]
    refine sx_RP.br (p1 := 30) (l1 := [(0, .ref 111), (1, .int (nI x2))]) (s1 := []) (v1 := w) (p2 := 23) (l2 := [(0, .ref 111), (1, .int (nI x2))]) (s2 := []) (v2 := w) rfl rfl (fun q13 => ?_) (fun q13 => ?_)
    · replace q13 := of_decide_eq_true q13
      replace q13 := mt (nI_eq (a := x10) (b := 0) (by omega) (by omega)).mpr q13
      refine sx_RP.step (pc2 := 31) (ls2 := [(0, .ref 111), (1, .int (nI x2))]) (st2 := [.ref 111]) (w3 := w) rfl rfl ?_
      refine sx_RP.step (pc2 := 32) (ls2 := [(0, .ref 111), (1, .int (nI x2))]) (st2 := [.int (nI x2), .ref 111]) (w3 := w) rfl rfl ?_
      refine sx_RP.callp (as2 := [.ref 111, .int (nI x2)]) (rest2 := []) rfl rfl (sx_inv_v2 (mi := 192) (k := 183) (st := [.int (nI x2), .ref 111]) (w := w) rfl rfl hI.1.o111 rfl rfl rfl) rfl rfl rfl (s193 hI (nI x2)) (show _ = 35 from rfl) ?_
      rintro r4 w15 ⟨⟨v14, rfl⟩, hI16, hE18⟩
      have hE17 := hE.tr (hE18)
      show sx_RP _ _ _ _ _ [.int v14] _ _
      refine sx_RP.step (pc2 := 36) (ls2 := [(2, .int v14), (0, .ref 111), (1, .int (nI x2))]) (st2 := []) (w3 := w15) rfl rfl ?_
      refine sx_RP.step (pc2 := 37) (ls2 := [(2, .int v14), (0, .ref 111), (1, .int (nI x2))]) (st2 := [.long 0]) (w3 := w15) rfl rfl ?_
      refine sx_RP.step (pc2 := 38) (ls2 := [(3, .long 0), (2, .int v14), (0, .ref 111), (1, .int (nI x2))]) (st2 := []) (w3 := w15) rfl rfl ?_
      refine sx_RP.step (pc2 := 39) (ls2 := [(3, .long 0), (2, .int v14), (0, .ref 111), (1, .int (nI x2))]) (st2 := [.int 0]) (w3 := w15) rfl rfl ?_
      refine sx_RP.step (pc2 := 41) (ls2 := [(5, .int 0), (3, .long 0), (2, .int v14), (0, .ref 111), (1, .int (nI x2))]) (st2 := []) (w3 := w15) rfl rfl ?_
      exact sx_RP.ls (sx_lr.cons rfl (sx_lr.cons rfl (sx_lr.cons rfl (sx_lr.cons rfl sx_lr.nil)))) (s192L v14 48 0 w15 0 (by omega) (by omega) hI16 hE17 )
    · replace q13 := Decidable.not_not.mp (of_decide_eq_false q13)
      replace q13 := (nI_eq (a := x10) (b := 0) (by omega) (by omega)).mp q13
      refine sx_RP.step (pc2 := 24) (ls2 := [(0, .ref 111), (1, .int (nI x2))]) (st2 := [.ref 111]) (w3 := w) rfl rfl ?_
      refine sx_RP.step (pc2 := 25) (ls2 := [(0, .ref 111), (1, .int (nI x2))]) (st2 := [.int 3, .ref 111]) (w3 := w) rfl rfl ?_
      refine sx_RP.callp (as2 := [.ref 111, .int 3]) (rest2 := []) rfl rfl (sx_inv_v2 (mi := 192) (k := 70) (st := [.int 3, .ref 111]) (w := w) rfl rfl hI.1.o111 rfl rfl rfl) rfl rfl rfl (s133_3 hI) (show _ = 28 from rfl) ?_
      rintro r4 w19 ⟨rfl, hI20, hE22⟩
      have hE21 := hE.tr (hE22)
      show sx_RP _ _ _ _ _ [.int (-1000000004)] _ _
      refine sx_RP.step (pc2 := 29) (ls2 := [(0, .ref 111), (1, .int (nI x2))]) (st2 := [.long (-1000000004)]) (w3 := w19) rfl rfl ?_
      refine sx_RP.ret (r := (some (.long (-1000000004)))) rfl rfl ?_
      exact ⟨⟨_, rfl⟩, hI20, hE21⟩
set_option maxRecDepth 20000 in
set_option maxHeartbeats 4000000 in
theorem s195B {xs : Option (List Int32)} {d : Nat} {w : List sx_C} {wz : List sx_C} {c : Nat} (hc : c < 48) (hw : wOK wz c w) (k p : Int32) (hI : WI w) {j : Nat} (hj : j ≤ 48) (n : Int32) (kk : ∀ (un : Int32), j + 1 ≤ 48 → sx_RP xs (d + 6) 195 18 [(0, .ref 111), (1, .int (nI c)), (2, .int k), (3, .int p), (4, .int un), (5, .int (nI (j + 1)))] [] w (fun r w2 => (∃ v : Int32, r = some (.int v)) ∧ w2 = w)) : sx_RP xs (d + 6) 195 18 [(0, .ref 111), (1, .int (nI c)), (2, .int k), (3, .int p), (4, .int n), (5, .int (nI j))] [] w (fun r w2 => (∃ v : Int32, r = some (.int v)) ∧ w2 = w) := by
  refine sx_RP.step (pc2 := 20) (ls2 := [(0, .ref 111), (1, .int (nI c)), (2, .int k), (3, .int p), (4, .int n), (5, .int (nI j))]) (st2 := [.int (nI j)]) (w3 := w) rfl rfl ?_
  refine sx_RP.step (pc2 := 22) (ls2 := [(0, .ref 111), (1, .int (nI c)), (2, .int k), (3, .int p), (4, .int n), (5, .int (nI j))]) (st2 := [.int 48, .int (nI j)]) (w3 := w) rfl rfl ?_
  refine sx_RP.br (p1 := 103) (l1 := [(0, .ref 111), (1, .int (nI c)), (2, .int k), (3, .int p), (4, .int n), (5, .int (nI j))]) (s1 := []) (v1 := w) (p2 := 25) (l2 := [(0, .ref 111), (1, .int (nI c)), (2, .int k), (3, .int p), (4, .int n), (5, .int (nI j))]) (s2 := []) (v2 := w) rfl rfl (fun q1 => ?_) (fun q1 => ?_)
  · replace q1 := of_decide_eq_true q1
    replace q1 := (nI_leI (a := 48) (b := j) (by omega) (by omega)).mp q1
    refine sx_RP.step (pc2 := 105) (ls2 := [(0, .ref 111), (1, .int (nI c)), (2, .int k), (3, .int p), (4, .int n), (5, .int (nI j))]) (st2 := [.int n]) (w3 := w) rfl rfl ?_
    refine sx_RP.ret (r := (some (.int n))) rfl rfl ?_
    exact ⟨⟨_, rfl⟩, rfl⟩
  · replace q1 := of_decide_eq_false q1
    replace q1 := mt (nI_leI (a := 48) (b := j) (by omega) (by omega)).mpr q1
    refine sx_RP.step (pc2 := 26) (ls2 := [(0, .ref 111), (1, .int (nI c)), (2, .int k), (3, .int p), (4, .int n), (5, .int (nI j))]) (st2 := [.ref 111]) (w3 := w) rfl rfl ?_
    refine sx_RP.gf (v := .ref 120) rfl rfl hI.1.o111 rfl rfl (show _ = 29 from rfl) ?_
    refine sx_RP.step (pc2 := 31) (ls2 := [(0, .ref 111), (1, .int (nI c)), (2, .int k), (3, .int p), (4, .int n), (5, .int (nI j))]) (st2 := [.int (nI j), .ref 120]) (w3 := w) rfl rfl ?_
    refine sx_RP.bld1 (c := j) rfl hI.1.a120.1 hI.1.a120.2 (sx_in_nI (show j < 48 by omega) (by decide)) (show (nI j).toNatClampNeg = j from nI_clamp (by omega)) (show _ = 32 from rfl) ?_
    refine sx_RP.br (p1 := 97) (l1 := [(0, .ref 111), (1, .int (nI c)), (2, .int k), (3, .int p), (4, .int n), (5, .int (nI j))]) (s1 := []) (v1 := w) (p2 := 35) (l2 := [(0, .ref 111), (1, .int (nI c)), (2, .int k), (3, .int p), (4, .int n), (5, .int (nI j))]) (s2 := []) (v2 := w) rfl rfl (fun q2 => ?_) (fun q2 => ?_)
    · replace q2 := of_decide_eq_true q2
      refine sx_RP.step (pc2 := 100) (ls2 := [(5, .int ((nI j) + 1)), (0, .ref 111), (1, .int (nI c)), (2, .int k), (3, .int p), (4, .int n)]) (st2 := []) (w3 := w) rfl rfl ?_
      rw [nI_1 j]
      refine sx_RP.step (pc2 := 18) (ls2 := [(5, .int (nI (j + 1))), (0, .ref 111), (1, .int (nI c)), (2, .int k), (3, .int p), (4, .int n)]) (st2 := []) (w3 := w) rfl rfl ?_
      exact sx_RP.ls (sx_lr.cons rfl (sx_lr.cons rfl (sx_lr.cons rfl (sx_lr.cons rfl (sx_lr.cons rfl (sx_lr.cons rfl sx_lr.nil)))))) (kk n (by omega))
    · replace q2 := of_decide_eq_false q2
      refine sx_RP.step (pc2 := 36) (ls2 := [(0, .ref 111), (1, .int (nI c)), (2, .int k), (3, .int p), (4, .int n), (5, .int (nI j))]) (st2 := [.ref 111]) (w3 := w) rfl rfl ?_
      refine sx_RP.gf (v := .ref 117) rfl rfl hI.1.o111 rfl rfl (show _ = 39 from rfl) ?_
      refine sx_RP.step (pc2 := 41) (ls2 := [(0, .ref 111), (1, .int (nI c)), (2, .int k), (3, .int p), (4, .int n), (5, .int (nI j))]) (st2 := [.int (nI j), .ref 117]) (w3 := w) rfl rfl ?_
      refine sx_RP.ild (c := j) rfl hI.1.a117.1 hI.1.a117.2 (sx_in_nI (show j < 48 by omega) (by decide)) (show (nI j).toNatClampNeg = j from nI_clamp (by omega)) (show _ = 42 from rfl) ?_
      obtain ⟨x3, hx4, ex5⟩ : inR ((ia w 117).getD j 0) 1000 := hw.at (show j < 48 by omega)
      rw [ex5]
      refine sx_RP.step (pc2 := 43) (ls2 := [(0, .ref 111), (1, .int (nI c)), (2, .int k), (3, .int p), (4, .int n), (5, .int (nI j))]) (st2 := [.ref 111, .int (nI x3)]) (w3 := w) rfl rfl ?_
      refine sx_RP.step (pc2 := 45) (ls2 := [(0, .ref 111), (1, .int (nI c)), (2, .int k), (3, .int p), (4, .int n), (5, .int (nI j))]) (st2 := [.int (nI j), .ref 111, .int (nI x3)]) (w3 := w) rfl rfl ?_
      obtain ⟨x6, ⟨hx7, hx8, hx9⟩, c10⟩ := l146 (xs := xs) hI (show j < 48 by omega)
      refine sx_RP.cu (as := [.ref 111, .int (nI j)]) (rest2 := [.int (nI x3)]) (st3 := [.int (nI x6), .int (nI x3)]) rfl rfl (sx_inv_v2 (mi := 195) (k := 84) (st := [.int (nI j), .ref 111, .int (nI x3)]) (w := w) rfl rfl hI.1.o111 rfl rfl rfl) rfl rfl (c10) rfl ?_
      refine sx_RP.step (pc2 := 49) (ls2 := [(0, .ref 111), (1, .int (nI c)), (2, .int k), (3, .int p), (4, .int n), (5, .int (nI j))]) (st2 := [.int ((nI x3) - (nI x6))]) (w3 := w) rfl rfl ?_
      refine sx_RP.step (pc2 := 50) (ls2 := [(0, .ref 111), (1, .int (nI c)), (2, .int k), (3, .int p), (4, .int n), (5, .int (nI j))]) (st2 := [.ref 111, .int ((nI x3) - (nI x6))]) (w3 := w) rfl rfl ?_
      refine sx_RP.step (pc2 := 51) (ls2 := [(0, .ref 111), (1, .int (nI c)), (2, .int k), (3, .int p), (4, .int n), (5, .int (nI j))]) (st2 := [.int (nI c), .ref 111, .int ((nI x3) - (nI x6))]) (w3 := w) rfl rfl ?_
      obtain ⟨x11, ⟨hx12, hx13, hx14⟩, c15⟩ := l146 (xs := xs) hI (show c < 48 by omega)
      refine sx_RP.cu (as := [.ref 111, .int (nI c)]) (rest2 := [.int ((nI x3) - (nI x6))]) (st3 := [.int (nI x11), .int ((nI x3) - (nI x6))]) rfl rfl (sx_inv_v2 (mi := 195) (k := 84) (st := [.int (nI c), .ref 111, .int ((nI x3) - (nI x6))]) (w := w) rfl rfl hI.1.o111 rfl rfl rfl) rfl rfl (c15) rfl ?_
      refine sx_RP.step (pc2 := 55) (ls2 := [(0, .ref 111), (1, .int (nI c)), (2, .int k), (3, .int p), (4, .int n), (5, .int (nI j))]) (st2 := [.int (((nI x3) - (nI x6)) + (nI x11))]) (w3 := w) rfl rfl ?_
      refine sx_RP.step (pc2 := 57) (ls2 := [(6, .int (((nI x3) - (nI x6)) + (nI x11))), (0, .ref 111), (1, .int (nI c)), (2, .int k), (3, .int p), (4, .int n), (5, .int (nI j))]) (st2 := []) (w3 := w) rfl rfl ?_
      refine sx_RP.step (pc2 := 59) (ls2 := [(6, .int (((nI x3) - (nI x6)) + (nI x11))), (0, .ref 111), (1, .int (nI c)), (2, .int k), (3, .int p), (4, .int n), (5, .int (nI j))]) (st2 := [.int (nI j)]) (w3 := w) rfl rfl ?_
      refine sx_RP.step (pc2 := 60) (ls2 := [(6, .int (((nI x3) - (nI x6)) + (nI x11))), (0, .ref 111), (1, .int (nI c)), (2, .int k), (3, .int p), (4, .int n), (5, .int (nI j))]) (st2 := [.int (nI c), .int (nI j)]) (w3 := w) rfl rfl ?_
      refine sx_RP.br (p1 := 67) (l1 := [(6, .int (((nI x3) - (nI x6)) + (nI x11))), (0, .ref 111), (1, .int (nI c)), (2, .int k), (3, .int p), (4, .int n), (5, .int (nI j))]) (s1 := []) (v1 := w) (p2 := 63) (l2 := [(6, .int (((nI x3) - (nI x6)) + (nI x11))), (0, .ref 111), (1, .int (nI c)), (2, .int k), (3, .int p), (4, .int n), (5, .int (nI j))]) (s2 := []) (v2 := w) rfl rfl (fun q16 => ?_) (fun q16 => ?_)
      · replace q16 := of_decide_eq_true q16
        replace q16 := mt (nI_eq (a := j) (b := c) (by omega) (by omega)).mpr q16
        refine sx_RP.step (pc2 := 69) (ls2 := [(6, .int (((nI x3) - (nI x6)) + (nI x11))), (0, .ref 111), (1, .int (nI c)), (2, .int k), (3, .int p), (4, .int n), (5, .int (nI j))]) (st2 := [.int (((nI x3) - (nI x6)) + (nI x11))]) (w3 := w) rfl rfl ?_
        refine sx_RP.step (pc2 := 71) (ls2 := [(7, .int (((nI x3) - (nI x6)) + (nI x11))), (6, .int (((nI x3) - (nI x6)) + (nI x11))), (0, .ref 111), (1, .int (nI c)), (2, .int k), (3, .int p), (4, .int n), (5, .int (nI j))]) (st2 := []) (w3 := w) rfl rfl ?_
        refine sx_RP.step (pc2 := 73) (ls2 := [(7, .int (((nI x3) - (nI x6)) + (nI x11))), (6, .int (((nI x3) - (nI x6)) + (nI x11))), (0, .ref 111), (1, .int (nI c)), (2, .int k), (3, .int p), (4, .int n), (5, .int (nI j))]) (st2 := [.int n]) (w3 := w) rfl rfl ?_
        refine sx_RP.step (pc2 := 74) (ls2 := [(7, .int (((nI x3) - (nI x6)) + (nI x11))), (6, .int (((nI x3) - (nI x6)) + (nI x11))), (0, .ref 111), (1, .int (nI c)), (2, .int k), (3, .int p), (4, .int n), (5, .int (nI j))]) (st2 := [.ref 111, .int n]) (w3 := w) rfl rfl ?_
        refine sx_RP.step (pc2 := 75) (ls2 := [(7, .int (((nI x3) - (nI x6)) + (nI x11))), (6, .int (((nI x3) - (nI x6)) + (nI x11))), (0, .ref 111), (1, .int (nI c)), (2, .int k), (3, .int p), (4, .int n), (5, .int (nI j))]) (st2 := [.int k, .ref 111, .int n]) (w3 := w) rfl rfl ?_
        refine sx_RP.step (pc2 := 77) (ls2 := [(7, .int (((nI x3) - (nI x6)) + (nI x11))), (6, .int (((nI x3) - (nI x6)) + (nI x11))), (0, .ref 111), (1, .int (nI c)), (2, .int k), (3, .int p), (4, .int n), (5, .int (nI j))]) (st2 := [.int (nI j), .int k, .ref 111, .int n]) (w3 := w) rfl rfl ?_
        obtain ⟨v17, c18⟩ := p162 hI k (show j < 48 by omega)
        refine sx_RP.cu (as := [.ref 111, .int k, .int (nI j)]) (rest2 := [.int n]) (st3 := [.int v17, .int n]) rfl rfl (sx_inv_v2 (mi := 195) (k := 130) (st := [.int (nI j), .int k, .ref 111, .int n]) (w := w) rfl rfl hI.1.o111 rfl rfl rfl) rfl rfl (c18) rfl ?_
        refine sx_RP.step (pc2 := 81) (ls2 := [(7, .int (((nI x3) - (nI x6)) + (nI x11))), (6, .int (((nI x3) - (nI x6)) + (nI x11))), (0, .ref 111), (1, .int (nI c)), (2, .int k), (3, .int p), (4, .int n), (5, .int (nI j))]) (st2 := [.int 1, .int v17, .int n]) (w3 := w) rfl rfl ?_
        refine sx_RP.step (pc2 := 83) (ls2 := [(7, .int (((nI x3) - (nI x6)) + (nI x11))), (6, .int (((nI x3) - (nI x6)) + (nI x11))), (0, .ref 111), (1, .int (nI c)), (2, .int k), (3, .int p), (4, .int n), (5, .int (nI j))]) (st2 := [.int (((nI x3) - (nI x6)) + (nI x11)), .int 1, .int v17, .int n]) (w3 := w) rfl rfl ?_
        refine sx_RP.step (pc2 := 84) (ls2 := [(7, .int (((nI x3) - (nI x6)) + (nI x11))), (6, .int (((nI x3) - (nI x6)) + (nI x11))), (0, .ref 111), (1, .int (nI c)), (2, .int k), (3, .int p), (4, .int n), (5, .int (nI j))]) (st2 := [.int (1 + (((nI x3) - (nI x6)) + (nI x11))), .int v17, .int n]) (w3 := w) rfl rfl ?_
        refine sx_RP.idiv (pc2 := 85) rfl (lf_n0 hw (show j < 48 by omega) (by omega) (by omega) ex5 hx9 (by omega) (by omega)) rfl ?_
        refine sx_RP.step (pc2 := 86) (ls2 := [(7, .int (((nI x3) - (nI x6)) + (nI x11))), (6, .int (((nI x3) - (nI x6)) + (nI x11))), (0, .ref 111), (1, .int (nI c)), (2, .int k), (3, .int p), (4, .int n), (5, .int (nI j))]) (st2 := [.int p, .int (v17 / (1 + (((nI x3) - (nI x6)) + (nI x11)))), .int n]) (w3 := w) rfl rfl ?_
        refine sx_RP.br (p1 := 93) (l1 := [(7, .int (((nI x3) - (nI x6)) + (nI x11))), (6, .int (((nI x3) - (nI x6)) + (nI x11))), (0, .ref 111), (1, .int (nI c)), (2, .int k), (3, .int p), (4, .int n), (5, .int (nI j))]) (s1 := [.int n]) (v1 := w) (p2 := 89) (l2 := [(7, .int (((nI x3) - (nI x6)) + (nI x11))), (6, .int (((nI x3) - (nI x6)) + (nI x11))), (0, .ref 111), (1, .int (nI c)), (2, .int k), (3, .int p), (4, .int n), (5, .int (nI j))]) (s2 := [.int n]) (v2 := w) rfl rfl (fun q19 => ?_) (fun q19 => ?_)
        · replace q19 := of_decide_eq_true q19
          refine sx_RP.step (pc2 := 94) (ls2 := [(7, .int (((nI x3) - (nI x6)) + (nI x11))), (6, .int (((nI x3) - (nI x6)) + (nI x11))), (0, .ref 111), (1, .int (nI c)), (2, .int k), (3, .int p), (4, .int n), (5, .int (nI j))]) (st2 := [.int 0, .int n]) (w3 := w) rfl rfl ?_
          refine sx_RP.step (pc2 := 95) (ls2 := [(7, .int (((nI x3) - (nI x6)) + (nI x11))), (6, .int (((nI x3) - (nI x6)) + (nI x11))), (0, .ref 111), (1, .int (nI c)), (2, .int k), (3, .int p), (4, .int n), (5, .int (nI j))]) (st2 := [.int (n + 0)]) (w3 := w) rfl rfl ?_
          refine sx_RP.step (pc2 := 97) (ls2 := [(4, .int (n + 0)), (7, .int (((nI x3) - (nI x6)) + (nI x11))), (6, .int (((nI x3) - (nI x6)) + (nI x11))), (0, .ref 111), (1, .int (nI c)), (2, .int k), (3, .int p), (5, .int (nI j))]) (st2 := []) (w3 := w) rfl rfl ?_
          refine sx_RP.step (pc2 := 100) (ls2 := [(5, .int ((nI j) + 1)), (4, .int (n + 0)), (7, .int (((nI x3) - (nI x6)) + (nI x11))), (6, .int (((nI x3) - (nI x6)) + (nI x11))), (0, .ref 111), (1, .int (nI c)), (2, .int k), (3, .int p)]) (st2 := []) (w3 := w) rfl rfl ?_
          rw [nI_1 j]
          refine sx_RP.step (pc2 := 18) (ls2 := [(5, .int (nI (j + 1))), (4, .int (n + 0)), (7, .int (((nI x3) - (nI x6)) + (nI x11))), (6, .int (((nI x3) - (nI x6)) + (nI x11))), (0, .ref 111), (1, .int (nI c)), (2, .int k), (3, .int p)]) (st2 := []) (w3 := w) rfl rfl ?_
          exact sx_RP.ls (sx_lr.cons rfl (sx_lr.cons rfl (sx_lr.cons rfl (sx_lr.cons rfl (sx_lr.cons rfl (sx_lr.cons rfl sx_lr.nil)))))) (kk (n + 0) (by omega))
        · replace q19 := Decidable.not_not.mp (of_decide_eq_false q19)
          refine sx_RP.step (pc2 := 90) (ls2 := [(7, .int (((nI x3) - (nI x6)) + (nI x11))), (6, .int (((nI x3) - (nI x6)) + (nI x11))), (0, .ref 111), (1, .int (nI c)), (2, .int k), (3, .int p), (4, .int n), (5, .int (nI j))]) (st2 := [.int 1, .int n]) (w3 := w) rfl rfl ?_
          refine sx_RP.step (pc2 := 94) (ls2 := [(7, .int (((nI x3) - (nI x6)) + (nI x11))), (6, .int (((nI x3) - (nI x6)) + (nI x11))), (0, .ref 111), (1, .int (nI c)), (2, .int k), (3, .int p), (4, .int n), (5, .int (nI j))]) (st2 := [.int 1, .int n]) (w3 := w) rfl rfl ?_
          refine sx_RP.step (pc2 := 95) (ls2 := [(7, .int (((nI x3) - (nI x6)) + (nI x11))), (6, .int (((nI x3) - (nI x6)) + (nI x11))), (0, .ref 111), (1, .int (nI c)), (2, .int k), (3, .int p), (4, .int n), (5, .int (nI j))]) (st2 := [.int (n + 1)]) (w3 := w) rfl rfl ?_
          refine sx_RP.step (pc2 := 97) (ls2 := [(4, .int (n + 1)), (7, .int (((nI x3) - (nI x6)) + (nI x11))), (6, .int (((nI x3) - (nI x6)) + (nI x11))), (0, .ref 111), (1, .int (nI c)), (2, .int k), (3, .int p), (5, .int (nI j))]) (st2 := []) (w3 := w) rfl rfl ?_
          refine sx_RP.step (pc2 := 100) (ls2 := [(5, .int ((nI j) + 1)), (4, .int (n + 1)), (7, .int (((nI x3) - (nI x6)) + (nI x11))), (6, .int (((nI x3) - (nI x6)) + (nI x11))), (0, .ref 111), (1, .int (nI c)), (2, .int k), (3, .int p)]) (st2 := []) (w3 := w) rfl rfl ?_
          rw [nI_1 j]
          refine sx_RP.step (pc2 := 18) (ls2 := [(5, .int (nI (j + 1))), (4, .int (n + 1)), (7, .int (((nI x3) - (nI x6)) + (nI x11))), (6, .int (((nI x3) - (nI x6)) + (nI x11))), (0, .ref 111), (1, .int (nI c)), (2, .int k), (3, .int p)]) (st2 := []) (w3 := w) rfl rfl ?_
          exact sx_RP.ls (sx_lr.cons rfl (sx_lr.cons rfl (sx_lr.cons rfl (sx_lr.cons rfl (sx_lr.cons rfl (sx_lr.cons rfl sx_lr.nil)))))) (kk (n + 1) (by omega))
      · replace q16 := Decidable.not_not.mp (of_decide_eq_false q16)
        replace q16 := (nI_eq (a := j) (b := c) (by omega) (by omega)).mp q16
        refine sx_RP.step (pc2 := 64) (ls2 := [(6, .int (((nI x3) - (nI x6)) + (nI x11))), (0, .ref 111), (1, .int (nI c)), (2, .int k), (3, .int p), (4, .int n), (5, .int (nI j))]) (st2 := [.int 0]) (w3 := w) rfl rfl ?_
        refine sx_RP.step (pc2 := 69) (ls2 := [(6, .int (((nI x3) - (nI x6)) + (nI x11))), (0, .ref 111), (1, .int (nI c)), (2, .int k), (3, .int p), (4, .int n), (5, .int (nI j))]) (st2 := [.int 0]) (w3 := w) rfl rfl ?_
        refine sx_RP.step (pc2 := 71) (ls2 := [(7, .int 0), (6, .int (((nI x3) - (nI x6)) + (nI x11))), (0, .ref 111), (1, .int (nI c)), (2, .int k), (3, .int p), (4, .int n), (5, .int (nI j))]) (st2 := []) (w3 := w) rfl rfl ?_
        refine sx_RP.step (pc2 := 73) (ls2 := [(7, .int 0), (6, .int (((nI x3) - (nI x6)) + (nI x11))), (0, .ref 111), (1, .int (nI c)), (2, .int k), (3, .int p), (4, .int n), (5, .int (nI j))]) (st2 := [.int n]) (w3 := w) rfl rfl ?_
        refine sx_RP.step (pc2 := 74) (ls2 := [(7, .int 0), (6, .int (((nI x3) - (nI x6)) + (nI x11))), (0, .ref 111), (1, .int (nI c)), (2, .int k), (3, .int p), (4, .int n), (5, .int (nI j))]) (st2 := [.ref 111, .int n]) (w3 := w) rfl rfl ?_
        refine sx_RP.step (pc2 := 75) (ls2 := [(7, .int 0), (6, .int (((nI x3) - (nI x6)) + (nI x11))), (0, .ref 111), (1, .int (nI c)), (2, .int k), (3, .int p), (4, .int n), (5, .int (nI j))]) (st2 := [.int k, .ref 111, .int n]) (w3 := w) rfl rfl ?_
        refine sx_RP.step (pc2 := 77) (ls2 := [(7, .int 0), (6, .int (((nI x3) - (nI x6)) + (nI x11))), (0, .ref 111), (1, .int (nI c)), (2, .int k), (3, .int p), (4, .int n), (5, .int (nI j))]) (st2 := [.int (nI j), .int k, .ref 111, .int n]) (w3 := w) rfl rfl ?_
        obtain ⟨v20, c21⟩ := p162 hI k (show j < 48 by omega)
        refine sx_RP.cu (as := [.ref 111, .int k, .int (nI j)]) (rest2 := [.int n]) (st3 := [.int v20, .int n]) rfl rfl (sx_inv_v2 (mi := 195) (k := 130) (st := [.int (nI j), .int k, .ref 111, .int n]) (w := w) rfl rfl hI.1.o111 rfl rfl rfl) rfl rfl (c21) rfl ?_
        refine sx_RP.step (pc2 := 81) (ls2 := [(7, .int 0), (6, .int (((nI x3) - (nI x6)) + (nI x11))), (0, .ref 111), (1, .int (nI c)), (2, .int k), (3, .int p), (4, .int n), (5, .int (nI j))]) (st2 := [.int 1, .int v20, .int n]) (w3 := w) rfl rfl ?_
        refine sx_RP.step (pc2 := 83) (ls2 := [(7, .int 0), (6, .int (((nI x3) - (nI x6)) + (nI x11))), (0, .ref 111), (1, .int (nI c)), (2, .int k), (3, .int p), (4, .int n), (5, .int (nI j))]) (st2 := [.int 0, .int 1, .int v20, .int n]) (w3 := w) rfl rfl ?_
        refine sx_RP.step (pc2 := 84) (ls2 := [(7, .int 0), (6, .int (((nI x3) - (nI x6)) + (nI x11))), (0, .ref 111), (1, .int (nI c)), (2, .int k), (3, .int p), (4, .int n), (5, .int (nI j))]) (st2 := [.int 1, .int v20, .int n]) (w3 := w) rfl rfl ?_
        refine sx_RP.step (pc2 := 85) (ls2 := [(7, .int 0), (6, .int (((nI x3) - (nI x6)) + (nI x11))), (0, .ref 111), (1, .int (nI c)), (2, .int k), (3, .int p), (4, .int n), (5, .int (nI j))]) (st2 := [.int (v20 / 1), .int n]) (w3 := w) rfl rfl ?_
        refine sx_RP.step (pc2 := 86) (ls2 := [(7, .int 0), (6, .int (((nI x3) - (nI x6)) + (nI x11))), (0, .ref 111), (1, .int (nI c)), (2, .int k), (3, .int p), (4, .int n), (5, .int (nI j))]) (st2 := [.int p, .int (v20 / 1), .int n]) (w3 := w) rfl rfl ?_
        refine sx_RP.br (p1 := 93) (l1 := [(7, .int 0), (6, .int (((nI x3) - (nI x6)) + (nI x11))), (0, .ref 111), (1, .int (nI c)), (2, .int k), (3, .int p), (4, .int n), (5, .int (nI j))]) (s1 := [.int n]) (v1 := w) (p2 := 89) (l2 := [(7, .int 0), (6, .int (((nI x3) - (nI x6)) + (nI x11))), (0, .ref 111), (1, .int (nI c)), (2, .int k), (3, .int p), (4, .int n), (5, .int (nI j))]) (s2 := [.int n]) (v2 := w) rfl rfl (fun q22 => ?_) (fun q22 => ?_)
        · replace q22 := of_decide_eq_true q22
          refine sx_RP.step (pc2 := 94) (ls2 := [(7, .int 0), (6, .int (((nI x3) - (nI x6)) + (nI x11))), (0, .ref 111), (1, .int (nI c)), (2, .int k), (3, .int p), (4, .int n), (5, .int (nI j))]) (st2 := [.int 0, .int n]) (w3 := w) rfl rfl ?_
          refine sx_RP.step (pc2 := 95) (ls2 := [(7, .int 0), (6, .int (((nI x3) - (nI x6)) + (nI x11))), (0, .ref 111), (1, .int (nI c)), (2, .int k), (3, .int p), (4, .int n), (5, .int (nI j))]) (st2 := [.int (n + 0)]) (w3 := w) rfl rfl ?_
          refine sx_RP.step (pc2 := 97) (ls2 := [(4, .int (n + 0)), (7, .int 0), (6, .int (((nI x3) - (nI x6)) + (nI x11))), (0, .ref 111), (1, .int (nI c)), (2, .int k), (3, .int p), (5, .int (nI j))]) (st2 := []) (w3 := w) rfl rfl ?_
          refine sx_RP.step (pc2 := 100) (ls2 := [(5, .int ((nI j) + 1)), (4, .int (n + 0)), (7, .int 0), (6, .int (((nI x3) - (nI x6)) + (nI x11))), (0, .ref 111), (1, .int (nI c)), (2, .int k), (3, .int p)]) (st2 := []) (w3 := w) rfl rfl ?_
          rw [nI_1 j]
          refine sx_RP.step (pc2 := 18) (ls2 := [(5, .int (nI (j + 1))), (4, .int (n + 0)), (7, .int 0), (6, .int (((nI x3) - (nI x6)) + (nI x11))), (0, .ref 111), (1, .int (nI c)), (2, .int k), (3, .int p)]) (st2 := []) (w3 := w) rfl rfl ?_
          exact sx_RP.ls (sx_lr.cons rfl (sx_lr.cons rfl (sx_lr.cons rfl (sx_lr.cons rfl (sx_lr.cons rfl (sx_lr.cons rfl sx_lr.nil)))))) (kk (n + 0) (by omega))
        · replace q22 := Decidable.not_not.mp (of_decide_eq_false q22)
          refine sx_RP.step (pc2 := 90) (ls2 := [(7, .int 0), (6, .int (((nI x3) - (nI x6)) + (nI x11))), (0, .ref 111), (1, .int (nI c)), (2, .int k), (3, .int p), (4, .int n), (5, .int (nI j))]) (st2 := [.int 1, .int n]) (w3 := w) rfl rfl ?_
          refine sx_RP.step (pc2 := 94) (ls2 := [(7, .int 0), (6, .int (((nI x3) - (nI x6)) + (nI x11))), (0, .ref 111), (1, .int (nI c)), (2, .int k), (3, .int p), (4, .int n), (5, .int (nI j))]) (st2 := [.int 1, .int n]) (w3 := w) rfl rfl ?_
          refine sx_RP.step (pc2 := 95) (ls2 := [(7, .int 0), (6, .int (((nI x3) - (nI x6)) + (nI x11))), (0, .ref 111), (1, .int (nI c)), (2, .int k), (3, .int p), (4, .int n), (5, .int (nI j))]) (st2 := [.int (n + 1)]) (w3 := w) rfl rfl ?_
          refine sx_RP.step (pc2 := 97) (ls2 := [(4, .int (n + 1)), (7, .int 0), (6, .int (((nI x3) - (nI x6)) + (nI x11))), (0, .ref 111), (1, .int (nI c)), (2, .int k), (3, .int p), (5, .int (nI j))]) (st2 := []) (w3 := w) rfl rfl ?_
          refine sx_RP.step (pc2 := 100) (ls2 := [(5, .int ((nI j) + 1)), (4, .int (n + 1)), (7, .int 0), (6, .int (((nI x3) - (nI x6)) + (nI x11))), (0, .ref 111), (1, .int (nI c)), (2, .int k), (3, .int p)]) (st2 := []) (w3 := w) rfl rfl ?_
          rw [nI_1 j]
          refine sx_RP.step (pc2 := 18) (ls2 := [(5, .int (nI (j + 1))), (4, .int (n + 1)), (7, .int 0), (6, .int (((nI x3) - (nI x6)) + (nI x11))), (0, .ref 111), (1, .int (nI c)), (2, .int k), (3, .int p)]) (st2 := []) (w3 := w) rfl rfl ?_
          exact sx_RP.ls (sx_lr.cons rfl (sx_lr.cons rfl (sx_lr.cons rfl (sx_lr.cons rfl (sx_lr.cons rfl (sx_lr.cons rfl sx_lr.nil)))))) (kk (n + 1) (by omega))
set_option maxRecDepth 20000 in
set_option maxHeartbeats 4000000 in
theorem s195L {xs : Option (List Int32)} {d : Nat} {w : List sx_C} {wz : List sx_C} {c : Nat} (hc : c < 48) (hw : wOK wz c w) (k p : Int32) (hI : WI w) : ∀ (fz j : Nat) (n : Int32) , 48 ≤ j + fz * 1 → j ≤ 48 → sx_RP xs (d + 6) 195 18 [(0, .ref 111), (1, .int (nI c)), (2, .int k), (3, .int p), (4, .int n), (5, .int (nI j))] [] w (fun r w2 => (∃ v : Int32, r = some (.int v)) ∧ w2 = w)
  | 0, j, n, h, hj => s195B hc hw k p hI hj n  (fun un  hlt  => absurd hlt (by omega)) 
  | fz + 1, j, n, h, hj => s195B hc hw k p hI hj n  (fun un  hlt  => s195L hc hw k p hI  fz (j + 1) un (by omega) hlt ) 
set_option maxRecDepth 20000 in
set_option maxHeartbeats 4000000 in
theorem s195 {xs : Option (List Int32)} {d : Nat} {w : List sx_C} (hI : WI w) {c : Nat} (hc : c < 48) (k : Int32) : sx_RP xs (d + 6) 195 0 (lv_args 0 [.ref 111, .int (nI c), .int k]) [] w (fun r w2 => (∃ v : Int32, r = some (.int v)) ∧ WI w2 ∧ EM w w2) := by
  have hE : EM w w := EM.rf
  refine sx_RP.step (pc2 := 1) (ls2 := [(0, .ref 111), (1, .int (nI c)), (2, .int k)]) (st2 := [.ref 111]) (w3 := w) rfl rfl ?_
  refine sx_RP.step (pc2 := 2) (ls2 := [(0, .ref 111), (1, .int (nI c)), (2, .int k)]) (st2 := [.int (nI c), .ref 111]) (w3 := w) rfl rfl ?_
  refine sx_RP.callp (as2 := [.ref 111, .int (nI c)]) (rest2 := []) rfl rfl (sx_inv_v2 (mi := 195) (k := 177) (st := [.int (nI c), .ref 111]) (w := w) rfl rfl hI.1.o111 rfl rfl rfl) rfl rfl rfl (s189 hI (show c < 48 by omega)) (show _ = 5 from rfl) ?_
  rintro r4 w2 ⟨⟨v1, rfl⟩, hI3, hE5⟩
  have hE4 := hE.tr (hE5)
  show sx_RP _ _ _ _ _ [.int v1] _ _
  refine sx_RP.step (pc2 := 6) (ls2 := [(3, .int v1), (0, .ref 111), (1, .int (nI c)), (2, .int k)]) (st2 := []) (w3 := w2) rfl rfl ?_
  refine sx_RP.step (pc2 := 7) (ls2 := [(3, .int v1), (0, .ref 111), (1, .int (nI c)), (2, .int k)]) (st2 := [.int 0]) (w3 := w2) rfl rfl ?_
  refine sx_RP.step (pc2 := 9) (ls2 := [(4, .int 0), (3, .int v1), (0, .ref 111), (1, .int (nI c)), (2, .int k)]) (st2 := []) (w3 := w2) rfl rfl ?_
  refine sx_RP.step (pc2 := 10) (ls2 := [(4, .int 0), (3, .int v1), (0, .ref 111), (1, .int (nI c)), (2, .int k)]) (st2 := [.ref 111]) (w3 := w2) rfl rfl ?_
  refine sx_RP.step (pc2 := 11) (ls2 := [(4, .int 0), (3, .int v1), (0, .ref 111), (1, .int (nI c)), (2, .int k)]) (st2 := [.int (nI c), .ref 111]) (w3 := w2) rfl rfl ?_
  refine sx_RP.step (pc2 := 12) (ls2 := [(4, .int 0), (3, .int v1), (0, .ref 111), (1, .int (nI c)), (2, .int k)]) (st2 := [.int (-1), .int (nI c), .ref 111]) (w3 := w2) rfl rfl ?_
  refine sx_RP.callp (as2 := [.ref 111, .int (nI c), .int (-1)]) (rest2 := []) rfl rfl (sx_inv_v2 (mi := 195) (k := 94) (st := [.int (-1), .int (nI c), .ref 111]) (w := w2) rfl rfl hI3.1.o111 rfl rfl rfl) rfl rfl rfl (s141t hI3 (show c < 48 by omega)) (show _ = 15 from rfl) ?_
  rintro r4 w7 ⟨⟨rfl, hw6⟩, hI8, hE10⟩
  have hE9 := hE4.tr (hE10)
  show sx_RP _ _ _ _ _ [] _ _
  refine sx_RP.step (pc2 := 16) (ls2 := [(4, .int 0), (3, .int v1), (0, .ref 111), (1, .int (nI c)), (2, .int k)]) (st2 := [.int 0]) (w3 := w7) rfl rfl ?_
  refine sx_RP.step (pc2 := 18) (ls2 := [(5, .int 0), (4, .int 0), (3, .int v1), (0, .ref 111), (1, .int (nI c)), (2, .int k)]) (st2 := []) (w3 := w7) rfl rfl ?_
  exact sx_RP.ls (sx_lr.cons rfl (sx_lr.cons rfl (sx_lr.cons rfl (sx_lr.cons rfl (sx_lr.cons rfl (sx_lr.cons rfl sx_lr.nil)))))) ((s195L (show c < 48 by omega) hw6 k v1 hI8 48 0 0 (by omega) (by omega)).mono9 (fun r w2 h => ⟨h.1, by rw [h.2]; exact hI8, by rw [h.2]; exact hE9⟩))
set_option maxRecDepth 20000 in
set_option maxHeartbeats 4000000 in
theorem s194B {xs : Option (List Int32)} {d : Nat} {w w0 : List sx_C} (k : Int32) (hI : WI w) (hE : EM w0 w) {j : Nat} (hj : j ≤ 48) (m : Int32) (l : Int32) (kk : ∀ (w4 : List sx_C) (um : Int32) (ul : Int32), WI w4 → EM w0 w4 → j + 1 ≤ 48 → sx_RP xs (d + 7) 194 65 [(0, .ref 111), (1, .int k), (2, .int um), (3, .int ul), (4, .int (nI (j + 1)))] [] w4 (fun r w2 => (∃ v : Int32, r = some (.int v)) ∧ WI w2 ∧ EM w0 w2)) : sx_RP xs (d + 7) 194 65 [(0, .ref 111), (1, .int k), (2, .int m), (3, .int l), (4, .int (nI j))] [] w (fun r w2 => (∃ v : Int32, r = some (.int v)) ∧ WI w2 ∧ EM w0 w2) := by
  refine sx_RP.step (pc2 := 67) (ls2 := [(0, .ref 111), (1, .int k), (2, .int m), (3, .int l), (4, .int (nI j))]) (st2 := [.int (nI j)]) (w3 := w) rfl rfl ?_
  refine sx_RP.step (pc2 := 69) (ls2 := [(0, .ref 111), (1, .int k), (2, .int m), (3, .int l), (4, .int (nI j))]) (st2 := [.int 48, .int (nI j)]) (w3 := w) rfl rfl ?_
  refine sx_RP.br (p1 := 113) (l1 := [(0, .ref 111), (1, .int k), (2, .int m), (3, .int l), (4, .int (nI j))]) (s1 := []) (v1 := w) (p2 := 72) (l2 := [(0, .ref 111), (1, .int k), (2, .int m), (3, .int l), (4, .int (nI j))]) (s2 := []) (v2 := w) rfl rfl (fun q1 => ?_) (fun q1 => ?_)
  · replace q1 := of_decide_eq_true q1
    replace q1 := (nI_leI (a := 48) (b := j) (by omega) (by omega)).mp q1
    refine sx_RP.step (pc2 := 114) (ls2 := [(0, .ref 111), (1, .int k), (2, .int m), (3, .int l), (4, .int (nI j))]) (st2 := [.int m]) (w3 := w) rfl rfl ?_
    refine sx_RP.ret (r := (some (.int m))) rfl rfl ?_
    exact ⟨⟨_, rfl⟩, hI, hE⟩
  · replace q1 := of_decide_eq_false q1
    replace q1 := mt (nI_leI (a := 48) (b := j) (by omega) (by omega)).mpr q1
    refine sx_RP.step (pc2 := 73) (ls2 := [(0, .ref 111), (1, .int k), (2, .int m), (3, .int l), (4, .int (nI j))]) (st2 := [.ref 111]) (w3 := w) rfl rfl ?_
    refine sx_RP.step (pc2 := 75) (ls2 := [(0, .ref 111), (1, .int k), (2, .int m), (3, .int l), (4, .int (nI j))]) (st2 := [.int (nI j), .ref 111]) (w3 := w) rfl rfl ?_
    refine sx_RP.step (pc2 := 76) (ls2 := [(0, .ref 111), (1, .int k), (2, .int m), (3, .int l), (4, .int (nI j))]) (st2 := [.int k, .int (nI j), .ref 111]) (w3 := w) rfl rfl ?_
    refine sx_RP.callp (as2 := [.ref 111, .int (nI j), .int k]) (rest2 := []) rfl rfl (sx_inv_v2 (mi := 194) (k := 186) (st := [.int k, .int (nI j), .ref 111]) (w := w) rfl rfl hI.1.o111 rfl rfl rfl) rfl rfl rfl (s195 hI (show j < 48 by omega) k) (show _ = 79 from rfl) ?_
    rintro r4 w3 ⟨⟨v2, rfl⟩, hI4, hE6⟩
    have hE5 := hE.tr (hE6)
    show sx_RP _ _ _ _ _ [.int v2] _ _
    refine sx_RP.step (pc2 := 81) (ls2 := [(5, .int v2), (0, .ref 111), (1, .int k), (2, .int m), (3, .int l), (4, .int (nI j))]) (st2 := []) (w3 := w3) rfl rfl ?_
    refine sx_RP.step (pc2 := 83) (ls2 := [(5, .int v2), (0, .ref 111), (1, .int k), (2, .int m), (3, .int l), (4, .int (nI j))]) (st2 := [.int v2]) (w3 := w3) rfl rfl ?_
    refine sx_RP.step (pc2 := 84) (ls2 := [(5, .int v2), (0, .ref 111), (1, .int k), (2, .int m), (3, .int l), (4, .int (nI j))]) (st2 := [.int l, .int v2]) (w3 := w3) rfl rfl ?_
    refine sx_RP.br (p1 := 92) (l1 := [(5, .int v2), (0, .ref 111), (1, .int k), (2, .int m), (3, .int l), (4, .int (nI j))]) (s1 := []) (v1 := w3) (p2 := 87) (l2 := [(5, .int v2), (0, .ref 111), (1, .int k), (2, .int m), (3, .int l), (4, .int (nI j))]) (s2 := []) (v2 := w3) rfl rfl (fun q7 => ?_) (fun q7 => ?_)
    · replace q7 := of_decide_eq_true q7
      refine sx_RP.step (pc2 := 93) (ls2 := [(5, .int v2), (0, .ref 111), (1, .int k), (2, .int m), (3, .int l), (4, .int (nI j))]) (st2 := [.int m]) (w3 := w3) rfl rfl ?_
      refine sx_RP.step (pc2 := 94) (ls2 := [(2, .int m), (5, .int v2), (0, .ref 111), (1, .int k), (3, .int l), (4, .int (nI j))]) (st2 := []) (w3 := w3) rfl rfl ?_
      refine sx_RP.step (pc2 := 96) (ls2 := [(2, .int m), (5, .int v2), (0, .ref 111), (1, .int k), (3, .int l), (4, .int (nI j))]) (st2 := [.int v2]) (w3 := w3) rfl rfl ?_
      refine sx_RP.step (pc2 := 97) (ls2 := [(2, .int m), (5, .int v2), (0, .ref 111), (1, .int k), (3, .int l), (4, .int (nI j))]) (st2 := [.int l, .int v2]) (w3 := w3) rfl rfl ?_
      refine sx_RP.br (p1 := 105) (l1 := [(2, .int m), (5, .int v2), (0, .ref 111), (1, .int k), (3, .int l), (4, .int (nI j))]) (s1 := []) (v1 := w3) (p2 := 100) (l2 := [(2, .int m), (5, .int v2), (0, .ref 111), (1, .int k), (3, .int l), (4, .int (nI j))]) (s2 := []) (v2 := w3) rfl rfl (fun q8 => ?_) (fun q8 => ?_)
      · replace q8 := of_decide_eq_true q8
        refine sx_RP.step (pc2 := 106) (ls2 := [(2, .int m), (5, .int v2), (0, .ref 111), (1, .int k), (3, .int l), (4, .int (nI j))]) (st2 := [.int l]) (w3 := w3) rfl rfl ?_
        refine sx_RP.step (pc2 := 107) (ls2 := [(3, .int l), (2, .int m), (5, .int v2), (0, .ref 111), (1, .int k), (4, .int (nI j))]) (st2 := []) (w3 := w3) rfl rfl ?_
        refine sx_RP.step (pc2 := 110) (ls2 := [(4, .int ((nI j) + 1)), (3, .int l), (2, .int m), (5, .int v2), (0, .ref 111), (1, .int k)]) (st2 := []) (w3 := w3) rfl rfl ?_
        rw [nI_1 j]
        refine sx_RP.step (pc2 := 65) (ls2 := [(4, .int (nI (j + 1))), (3, .int l), (2, .int m), (5, .int v2), (0, .ref 111), (1, .int k)]) (st2 := []) (w3 := w3) rfl rfl ?_
        exact sx_RP.ls (sx_lr.cons rfl (sx_lr.cons rfl (sx_lr.cons rfl (sx_lr.cons rfl (sx_lr.cons rfl sx_lr.nil))))) (kk w3 m l hI4 hE5 (by omega))
      · replace q8 := of_decide_eq_false q8
        refine sx_RP.step (pc2 := 102) (ls2 := [(2, .int m), (5, .int v2), (0, .ref 111), (1, .int k), (3, .int l), (4, .int (nI j))]) (st2 := [.int v2]) (w3 := w3) rfl rfl ?_
        refine sx_RP.step (pc2 := 106) (ls2 := [(2, .int m), (5, .int v2), (0, .ref 111), (1, .int k), (3, .int l), (4, .int (nI j))]) (st2 := [.int v2]) (w3 := w3) rfl rfl ?_
        refine sx_RP.step (pc2 := 107) (ls2 := [(3, .int v2), (2, .int m), (5, .int v2), (0, .ref 111), (1, .int k), (4, .int (nI j))]) (st2 := []) (w3 := w3) rfl rfl ?_
        refine sx_RP.step (pc2 := 110) (ls2 := [(4, .int ((nI j) + 1)), (3, .int v2), (2, .int m), (5, .int v2), (0, .ref 111), (1, .int k)]) (st2 := []) (w3 := w3) rfl rfl ?_
        rw [nI_1 j]
        refine sx_RP.step (pc2 := 65) (ls2 := [(4, .int (nI (j + 1))), (3, .int v2), (2, .int m), (5, .int v2), (0, .ref 111), (1, .int k)]) (st2 := []) (w3 := w3) rfl rfl ?_
        exact sx_RP.ls (sx_lr.cons rfl (sx_lr.cons rfl (sx_lr.cons rfl (sx_lr.cons rfl (sx_lr.cons rfl sx_lr.nil))))) (kk w3 m v2 hI4 hE5 (by omega))
    · replace q7 := of_decide_eq_false q7
      refine sx_RP.step (pc2 := 89) (ls2 := [(5, .int v2), (0, .ref 111), (1, .int k), (2, .int m), (3, .int l), (4, .int (nI j))]) (st2 := [.int (nI j)]) (w3 := w3) rfl rfl ?_
      refine sx_RP.step (pc2 := 93) (ls2 := [(5, .int v2), (0, .ref 111), (1, .int k), (2, .int m), (3, .int l), (4, .int (nI j))]) (st2 := [.int (nI j)]) (w3 := w3) rfl rfl ?_
      refine sx_RP.step (pc2 := 94) (ls2 := [(2, .int (nI j)), (5, .int v2), (0, .ref 111), (1, .int k), (3, .int l), (4, .int (nI j))]) (st2 := []) (w3 := w3) rfl rfl ?_
      refine sx_RP.step (pc2 := 96) (ls2 := [(2, .int (nI j)), (5, .int v2), (0, .ref 111), (1, .int k), (3, .int l), (4, .int (nI j))]) (st2 := [.int v2]) (w3 := w3) rfl rfl ?_
      refine sx_RP.step (pc2 := 97) (ls2 := [(2, .int (nI j)), (5, .int v2), (0, .ref 111), (1, .int k), (3, .int l), (4, .int (nI j))]) (st2 := [.int l, .int v2]) (w3 := w3) rfl rfl ?_
      refine sx_RP.br (p1 := 105) (l1 := [(2, .int (nI j)), (5, .int v2), (0, .ref 111), (1, .int k), (3, .int l), (4, .int (nI j))]) (s1 := []) (v1 := w3) (p2 := 100) (l2 := [(2, .int (nI j)), (5, .int v2), (0, .ref 111), (1, .int k), (3, .int l), (4, .int (nI j))]) (s2 := []) (v2 := w3) rfl rfl (fun q9 => ?_) (fun q9 => ?_)
      · replace q9 := of_decide_eq_true q9
        refine sx_RP.step (pc2 := 106) (ls2 := [(2, .int (nI j)), (5, .int v2), (0, .ref 111), (1, .int k), (3, .int l), (4, .int (nI j))]) (st2 := [.int l]) (w3 := w3) rfl rfl ?_
        refine sx_RP.step (pc2 := 107) (ls2 := [(3, .int l), (2, .int (nI j)), (5, .int v2), (0, .ref 111), (1, .int k), (4, .int (nI j))]) (st2 := []) (w3 := w3) rfl rfl ?_
        refine sx_RP.step (pc2 := 110) (ls2 := [(4, .int ((nI j) + 1)), (3, .int l), (2, .int (nI j)), (5, .int v2), (0, .ref 111), (1, .int k)]) (st2 := []) (w3 := w3) rfl rfl ?_
        rw [nI_1 j]
        refine sx_RP.step (pc2 := 65) (ls2 := [(4, .int (nI (j + 1))), (3, .int l), (2, .int (nI j)), (5, .int v2), (0, .ref 111), (1, .int k)]) (st2 := []) (w3 := w3) rfl rfl ?_
        exact sx_RP.ls (sx_lr.cons rfl (sx_lr.cons rfl (sx_lr.cons rfl (sx_lr.cons rfl (sx_lr.cons rfl sx_lr.nil))))) (kk w3 (nI j) l hI4 hE5 (by omega))
      · replace q9 := of_decide_eq_false q9
        refine sx_RP.step (pc2 := 102) (ls2 := [(2, .int (nI j)), (5, .int v2), (0, .ref 111), (1, .int k), (3, .int l), (4, .int (nI j))]) (st2 := [.int v2]) (w3 := w3) rfl rfl ?_
        refine sx_RP.step (pc2 := 106) (ls2 := [(2, .int (nI j)), (5, .int v2), (0, .ref 111), (1, .int k), (3, .int l), (4, .int (nI j))]) (st2 := [.int v2]) (w3 := w3) rfl rfl ?_
        refine sx_RP.step (pc2 := 107) (ls2 := [(3, .int v2), (2, .int (nI j)), (5, .int v2), (0, .ref 111), (1, .int k), (4, .int (nI j))]) (st2 := []) (w3 := w3) rfl rfl ?_
        refine sx_RP.step (pc2 := 110) (ls2 := [(4, .int ((nI j) + 1)), (3, .int v2), (2, .int (nI j)), (5, .int v2), (0, .ref 111), (1, .int k)]) (st2 := []) (w3 := w3) rfl rfl ?_
        rw [nI_1 j]
        refine sx_RP.step (pc2 := 65) (ls2 := [(4, .int (nI (j + 1))), (3, .int v2), (2, .int (nI j)), (5, .int v2), (0, .ref 111), (1, .int k)]) (st2 := []) (w3 := w3) rfl rfl ?_
        exact sx_RP.ls (sx_lr.cons rfl (sx_lr.cons rfl (sx_lr.cons rfl (sx_lr.cons rfl (sx_lr.cons rfl sx_lr.nil))))) (kk w3 (nI j) v2 hI4 hE5 (by omega))
set_option maxRecDepth 20000 in
set_option maxHeartbeats 4000000 in
theorem s194L {xs : Option (List Int32)} {d : Nat} {w0 : List sx_C} (k : Int32) : ∀ (fz j : Nat) (w : List sx_C) (m : Int32) (l : Int32) , 48 ≤ j + fz * 1 → j ≤ 48 → WI w → EM w0 w → sx_RP xs (d + 7) 194 65 [(0, .ref 111), (1, .int k), (2, .int m), (3, .int l), (4, .int (nI j))] [] w (fun r w2 => (∃ v : Int32, r = some (.int v)) ∧ WI w2 ∧ EM w0 w2)
  | 0, j, w, m, l, h, hj, hI, hE => s194B k hI hE hj m l  (fun w4 um ul hI4 hE4 hlt  => absurd hlt (by omega)) 
  | fz + 1, j, w, m, l, h, hj, hI, hE => s194B k hI hE hj m l  (fun w4 um ul hI4 hE4 hlt  => s194L k  fz (j + 1) w4 um ul (by omega) hlt hI4 hE4 ) 
set_option maxRecDepth 20000 in
set_option maxHeartbeats 4000000 in
theorem s194 {xs : Option (List Int32)} {d : Nat} {w : List sx_C} (hI : WI w) (a1 : Int32) : sx_RP xs (d + 7) 194 0 (lv_args 0 [.ref 111, .int a1]) [] w (fun r w2 => (∃ v : Int32, r = some (.int v)) ∧ WI w2 ∧ EM w w2) := by
  have hE : EM w w := EM.rf
  refine sx_RP.step (pc2 := 1) (ls2 := [(0, .ref 111), (1, .int a1)]) (st2 := [.int a1]) (w3 := w) rfl rfl ?_
  rcases in_cases a1 0 5 (m := 0) (n := 5) rfl rfl (by decide) (by decide) with q1 | ⟨x2, hx3, hx4, rfl⟩
  · refine sx_RP.cu (as := [.int a1]) (rest2 := []) (st3 := [.int 0]) rfl rfl rfl rfl rfl (cx_151n q1) rfl ?_
    refine sx_RP.step (pc2 := 7) (ls2 := [(0, .ref 111), (1, .int a1)]) (st2 := []) (w3 := w) rfl rfl ?_
    refine sx_RP.step (pc2 := 8) (ls2 := [(0, .ref 111), (1, .int a1)]) (st2 := [.ref 111]) (w3 := w) rfl rfl ?_
    refine sx_RP.step (pc2 := 9) (ls2 := [(0, .ref 111), (1, .int a1)]) (st2 := [.int 0, .ref 111]) (w3 := w) rfl rfl ?_
    refine sx_RP.callp (as2 := [.ref 111, .int 0]) (rest2 := []) rfl rfl (sx_inv_v2 (mi := 194) (k := 70) (st := [.int 0, .ref 111]) (w := w) rfl rfl hI.1.o111 rfl rfl rfl) rfl rfl rfl (s133_0 hI) (show _ = 12 from rfl) ?_
    rintro r4 w6 ⟨rfl, hI7, hE9⟩
    have hE8 := hE.tr (hE9)
    show sx_RP _ _ _ _ _ [.int (-1000000001)] _ _
    refine sx_RP.ret (r := (some (.int (-1000000001)))) rfl rfl ?_
    exact ⟨⟨_, rfl⟩, hI7, hE8⟩
  · refine sx_RP.cu (as := [.int (nI x2)]) (rest2 := []) (st3 := [.int 1]) rfl rfl rfl rfl rfl (cx_151p ⟨nI_le (a := 0) hx3 (by omega), nI_le (b := 5) hx4 (by decide)⟩) rfl ?_
    refine sx_RP.step (pc2 := 13) (ls2 := [(0, .ref 111), (1, .int (nI x2))]) (st2 := []) (w3 := w) rfl rfl ?_
    refine sx_RP.step (pc2 := 14) (ls2 := [(0, .ref 111), (1, .int (nI x2))]) (st2 := [.ref 111]) (w3 := w) rfl rfl ?_
    refine sx_RP.gf (v := .ref 112) rfl rfl hI.1.o111 rfl rfl (show _ = 17 from rfl) ?_
    refine sx_RP.step (pc2 := 18) (ls2 := [(0, .ref 111), (1, .int (nI x2))]) (st2 := [.int 2, .ref 112]) (w3 := w) rfl rfl ?_
    refine sx_RP.ild (c := 2) rfl hI.1.a112.1 hI.1.a112.2 (sx_in_nI (show 2 < 172 by omega) (by decide)) (show (nI 2).toNatClampNeg = 2 from nI_clamp (by omega)) (show _ = 19 from rfl) ?_
    obtain ⟨x10, hx11, ex12⟩ : inR ((ia w 112).getD 2 0) 9 := (hI.s (2) (by omega)).2.1 rfl
    rw [ex12]
    refine sx_RP.br (p1 := 30) (l1 := [(0, .ref 111), (1, .int (nI x2))]) (s1 := []) (v1 := w) (p2 := 22) (l2 := [(0, .ref 111), (1, .int (nI x2))]) (s2 := []) (v2 := w) rfl rfl (fun q13 => ?_) (fun q13 => ?_)
    · replace q13 := of_decide_eq_true q13
      replace q13 := (nI_eq (a := x10) (b := 0) (by omega) (by omega)).mp q13
      refine sx_RP.step (pc2 := 31) (ls2 := [(0, .ref 111), (1, .int (nI x2))]) (st2 := [.ref 111]) (w3 := w) rfl rfl ?_
      refine sx_RP.step (pc2 := 32) (ls2 := [(0, .ref 111), (1, .int (nI x2))]) (st2 := [.int 3, .ref 111]) (w3 := w) rfl rfl ?_
      refine sx_RP.callp (as2 := [.ref 111, .int 3]) (rest2 := []) rfl rfl (sx_inv_v2 (mi := 194) (k := 70) (st := [.int 3, .ref 111]) (w := w) rfl rfl hI.1.o111 rfl rfl rfl) rfl rfl rfl (s133_3 hI) (show _ = 35 from rfl) ?_
      rintro r4 w14 ⟨rfl, hI15, hE17⟩
      have hE16 := hE.tr (hE17)
      show sx_RP _ _ _ _ _ [.int (-1000000004)] _ _
      refine sx_RP.ret (r := (some (.int (-1000000004)))) rfl rfl ?_
      exact ⟨⟨_, rfl⟩, hI15, hE16⟩
    · replace q13 := of_decide_eq_false q13
      replace q13 := mt (nI_eq (a := x10) (b := 0) (by omega) (by omega)).mpr q13
      refine sx_RP.step (pc2 := 23) (ls2 := [(0, .ref 111), (1, .int (nI x2))]) (st2 := [.ref 111]) (w3 := w) rfl rfl ?_
      refine sx_RP.step (pc2 := 24) (ls2 := [(0, .ref 111), (1, .int (nI x2))]) (st2 := [.int (nI x2), .ref 111]) (w3 := w) rfl rfl ?_
      refine sx_RP.callp (as2 := [.ref 111, .int (nI x2)]) (rest2 := []) rfl rfl (sx_inv_v2 (mi := 194) (k := 183) (st := [.int (nI x2), .ref 111]) (w := w) rfl rfl hI.1.o111 rfl rfl rfl) rfl rfl rfl (s193 hI (nI x2)) (show _ = 27 from rfl) ?_
      rintro r4 w19 ⟨⟨v18, rfl⟩, hI20, hE22⟩
      have hE21 := hE.tr (hE22)
      show sx_RP _ _ _ _ _ [.int v18] _ _
      refine sx_RP.br (p1 := 36) (l1 := [(0, .ref 111), (1, .int (nI x2))]) (s1 := []) (v1 := w19) (p2 := 30) (l2 := [(0, .ref 111), (1, .int (nI x2))]) (s2 := []) (v2 := w19) rfl rfl (fun q23 => ?_) (fun q23 => ?_)
      · replace q23 := of_decide_eq_true q23
        refine sx_RP.step (pc2 := 37) (ls2 := [(0, .ref 111), (1, .int (nI x2))]) (st2 := [.ref 111]) (w3 := w19) rfl rfl ?_
        refine sx_RP.gf (v := .ref 112) rfl rfl hI20.1.o111 rfl rfl (show _ = 40 from rfl) ?_
        refine sx_RP.step (pc2 := 41) (ls2 := [(0, .ref 111), (1, .int (nI x2))]) (st2 := [.int 2, .ref 112]) (w3 := w19) rfl rfl ?_
        refine sx_RP.ild (c := 2) rfl hI20.1.a112.1 hI20.1.a112.2 (sx_in_nI (show 2 < 172 by omega) (by decide)) (show (nI 2).toNatClampNeg = 2 from nI_clamp (by omega)) (show _ = 42 from rfl) ?_
        obtain ⟨x24, hx25, ex26⟩ : inR ((ia w19 112).getD 2 0) 9 := (hI20.s (2) (by omega)).2.1 rfl
        rw [ex26]
        refine sx_RP.step (pc2 := 44) (ls2 := [(0, .ref 111), (1, .int (nI x2))]) (st2 := [.int 9, .int (nI x24)]) (w3 := w19) rfl rfl ?_
        refine sx_RP.br (p1 := 53) (l1 := [(0, .ref 111), (1, .int (nI x2))]) (s1 := []) (v1 := w19) (p2 := 47) (l2 := [(0, .ref 111), (1, .int (nI x2))]) (s2 := []) (v2 := w19) rfl rfl (fun q27 => ?_) (fun q27 => ?_)
        · replace q27 := of_decide_eq_true q27
          replace q27 := mt (nI_eq (a := x24) (b := 9) (by omega) (by omega)).mpr q27
          refine sx_RP.step (pc2 := 54) (ls2 := [(0, .ref 111), (1, .int (nI x2))]) (st2 := [.int 0]) (w3 := w19) rfl rfl ?_
          refine sx_RP.step (pc2 := 55) (ls2 := [(2, .int 0), (0, .ref 111), (1, .int (nI x2))]) (st2 := []) (w3 := w19) rfl rfl ?_
          refine sx_RP.step (pc2 := 56) (ls2 := [(2, .int 0), (0, .ref 111), (1, .int (nI x2))]) (st2 := [.ref 111]) (w3 := w19) rfl rfl ?_
          refine sx_RP.step (pc2 := 57) (ls2 := [(2, .int 0), (0, .ref 111), (1, .int (nI x2))]) (st2 := [.int 0, .ref 111]) (w3 := w19) rfl rfl ?_
          refine sx_RP.step (pc2 := 58) (ls2 := [(2, .int 0), (0, .ref 111), (1, .int (nI x2))]) (st2 := [.int (nI x2), .int 0, .ref 111]) (w3 := w19) rfl rfl ?_
          refine sx_RP.callp (as2 := [.ref 111, .int 0, .int (nI x2)]) (rest2 := []) rfl rfl (sx_inv_v2 (mi := 194) (k := 186) (st := [.int (nI x2), .int 0, .ref 111]) (w := w19) rfl rfl hI20.1.o111 rfl rfl rfl) rfl rfl rfl (s195 hI20 (show 0 < 48 by omega) (nI x2)) (show _ = 61 from rfl) ?_
          rintro r4 w29 ⟨⟨v28, rfl⟩, hI30, hE32⟩
          have hE31 := hE21.tr (hE32)
          show sx_RP _ _ _ _ _ [.int v28] _ _
          refine sx_RP.step (pc2 := 62) (ls2 := [(3, .int v28), (2, .int 0), (0, .ref 111), (1, .int (nI x2))]) (st2 := []) (w3 := w29) rfl rfl ?_
          refine sx_RP.step (pc2 := 63) (ls2 := [(3, .int v28), (2, .int 0), (0, .ref 111), (1, .int (nI x2))]) (st2 := [.int 1]) (w3 := w29) rfl rfl ?_
          refine sx_RP.step (pc2 := 65) (ls2 := [(4, .int 1), (3, .int v28), (2, .int 0), (0, .ref 111), (1, .int (nI x2))]) (st2 := []) (w3 := w29) rfl rfl ?_
          exact sx_RP.ls (sx_lr.cons rfl (sx_lr.cons rfl (sx_lr.cons rfl (sx_lr.cons rfl (sx_lr.cons rfl sx_lr.nil))))) (s194L (nI x2) 48 1 w29 0 v28 (by omega) (by omega) hI30 hE31 )
        · replace q27 := Decidable.not_not.mp (of_decide_eq_false q27)
          replace q27 := (nI_eq (a := x24) (b := 9) (by omega) (by omega)).mp q27
          refine sx_RP.step (pc2 := 48) (ls2 := [(0, .ref 111), (1, .int (nI x2))]) (st2 := [.ref 111]) (w3 := w19) rfl rfl ?_
          refine sx_RP.step (pc2 := 49) (ls2 := [(0, .ref 111), (1, .int (nI x2))]) (st2 := [.int 1, .ref 111]) (w3 := w19) rfl rfl ?_
          refine sx_RP.callp (as2 := [.ref 111, .int 1]) (rest2 := []) rfl rfl (sx_inv_v2 (mi := 194) (k := 70) (st := [.int 1, .ref 111]) (w := w19) rfl rfl hI20.1.o111 rfl rfl rfl) rfl rfl rfl (s133_1 hI20) (show _ = 52 from rfl) ?_
          rintro r4 w33 ⟨rfl, hI34, hE36⟩
          have hE35 := hE21.tr (hE36)
          show sx_RP _ _ _ _ _ [.int (-1000000002)] _ _
          refine sx_RP.ret (r := (some (.int (-1000000002)))) rfl rfl ?_
          exact ⟨⟨_, rfl⟩, hI34, hE35⟩
      · replace q23 := Decidable.not_not.mp (of_decide_eq_false q23)
        refine sx_RP.step (pc2 := 31) (ls2 := [(0, .ref 111), (1, .int (nI x2))]) (st2 := [.ref 111]) (w3 := w19) rfl rfl ?_
        refine sx_RP.step (pc2 := 32) (ls2 := [(0, .ref 111), (1, .int (nI x2))]) (st2 := [.int 3, .ref 111]) (w3 := w19) rfl rfl ?_
        refine sx_RP.callp (as2 := [.ref 111, .int 3]) (rest2 := []) rfl rfl (sx_inv_v2 (mi := 194) (k := 70) (st := [.int 3, .ref 111]) (w := w19) rfl rfl hI20.1.o111 rfl rfl rfl) rfl rfl rfl (s133_3 hI20) (show _ = 35 from rfl) ?_
        rintro r4 w37 ⟨rfl, hI38, hE40⟩
        have hE39 := hE21.tr (hE40)
        show sx_RP _ _ _ _ _ [.int (-1000000004)] _ _
        refine sx_RP.ret (r := (some (.int (-1000000004)))) rfl rfl ?_
        exact ⟨⟨_, rfl⟩, hI38, hE39⟩
set_option maxRecDepth 20000 in
set_option maxHeartbeats 4000000 in
theorem s236B {xs : Option (List Int32)} {d : Nat} {w w0 : List sx_C} {k : Nat} (hk : k < 4) (hI : WI w) (hE : EM w0 w) {j : Nat} (hj : j ≤ 9) (kk : ∀ (w4 : List sx_C), WI w4 → EM w0 w4 → j + 1 ≤ 9 → sx_RP xs (d + 7) 236 30 [(0, .ref 111), (1, .int (nI k)), (2, .int (nI (j + 1)))] [] w4 (fun r w2 => (∃ v : Int32, r = some (.int v)) ∧ WI w2 ∧ EM w0 w2)) : sx_RP xs (d + 7) 236 30 [(0, .ref 111), (1, .int (nI k)), (2, .int (nI j))] [] w (fun r w2 => (∃ v : Int32, r = some (.int v)) ∧ WI w2 ∧ EM w0 w2) := by
  refine sx_RP.step (pc2 := 31) (ls2 := [(0, .ref 111), (1, .int (nI k)), (2, .int (nI j))]) (st2 := [.int (nI j)]) (w3 := w) rfl rfl ?_
  refine sx_RP.step (pc2 := 32) (ls2 := [(0, .ref 111), (1, .int (nI k)), (2, .int (nI j))]) (st2 := [.ref 111, .int (nI j)]) (w3 := w) rfl rfl ?_
  refine sx_RP.step (pc2 := 33) (ls2 := [(0, .ref 111), (1, .int (nI k)), (2, .int (nI j))]) (st2 := [.int (nI k), .ref 111, .int (nI j)]) (w3 := w) rfl rfl ?_
  obtain ⟨x1, hx2, c3⟩ := p237 hI (show k < 4 by omega)
  refine sx_RP.cu (as := [.ref 111, .int (nI k)]) (rest2 := [.int (nI j)]) (st3 := [.int (nI x1), .int (nI j)]) rfl rfl (sx_inv_v2 (mi := 236) (k := 345) (st := [.int (nI k), .ref 111, .int (nI j)]) (w := w) rfl rfl hI.1.o111 rfl rfl rfl) rfl rfl (c3) rfl ?_
  refine sx_RP.br (p1 := 57) (l1 := [(0, .ref 111), (1, .int (nI k)), (2, .int (nI j))]) (s1 := []) (v1 := w) (p2 := 39) (l2 := [(0, .ref 111), (1, .int (nI k)), (2, .int (nI j))]) (s2 := []) (v2 := w) rfl rfl (fun q4 => ?_) (fun q4 => ?_)
  · replace q4 := of_decide_eq_true q4
    replace q4 := (nI_leI (a := x1) (b := j) (by omega) (by omega)).mp q4
    refine sx_RP.step (pc2 := 58) (ls2 := [(0, .ref 111), (1, .int (nI k)), (2, .int (nI j))]) (st2 := [.ref 111]) (w3 := w) rfl rfl ?_
    refine sx_RP.step (pc2 := 59) (ls2 := [(0, .ref 111), (1, .int (nI k)), (2, .int (nI j))]) (st2 := [.int (nI k), .ref 111]) (w3 := w) rfl rfl ?_
    obtain ⟨x5, hx6, c7⟩ := p237 hI (show k < 4 by omega)
    refine sx_RP.cu (as := [.ref 111, .int (nI k)]) (rest2 := []) (st3 := [.int (nI x5)]) rfl rfl (sx_inv_v2 (mi := 236) (k := 345) (st := [.int (nI k), .ref 111]) (w := w) rfl rfl hI.1.o111 rfl rfl rfl) rfl rfl (c7) rfl ?_
    refine sx_RP.ret (r := (some (.int (nI x5)))) rfl rfl ?_
    exact ⟨⟨_, rfl⟩, hI, hE⟩
  · replace q4 := of_decide_eq_false q4
    replace q4 := mt (nI_leI (a := x1) (b := j) (by omega) (by omega)).mpr q4
    refine sx_RP.step (pc2 := 40) (ls2 := [(0, .ref 111), (1, .int (nI k)), (2, .int (nI j))]) (st2 := [.ref 111]) (w3 := w) rfl rfl ?_
    refine sx_RP.step (pc2 := 41) (ls2 := [(0, .ref 111), (1, .int (nI k)), (2, .int (nI j))]) (st2 := [.int (nI k), .ref 111]) (w3 := w) rfl rfl ?_
    refine sx_RP.step (pc2 := 42) (ls2 := [(0, .ref 111), (1, .int (nI k)), (2, .int (nI j))]) (st2 := [.int (nI j), .int (nI k), .ref 111]) (w3 := w) rfl rfl ?_
    refine sx_RP.step (pc2 := 43) (ls2 := [(0, .ref 111), (1, .int (nI k)), (2, .int (nI j))]) (st2 := [.ref 111, .int (nI j), .int (nI k), .ref 111]) (w3 := w) rfl rfl ?_
    refine sx_RP.step (pc2 := 44) (ls2 := [(0, .ref 111), (1, .int (nI k)), (2, .int (nI j))]) (st2 := [.int (nI j), .ref 111, .int (nI j), .int (nI k), .ref 111]) (w3 := w) rfl rfl ?_
    refine sx_RP.callp (as2 := [.ref 111, .int (nI j)]) (rest2 := [.int (nI j), .int (nI k), .ref 111]) rfl rfl (sx_inv_v2 (mi := 236) (k := 180) (st := [.int (nI j), .ref 111, .int (nI j), .int (nI k), .ref 111]) (w := w) rfl rfl hI.1.o111 rfl rfl rfl) rfl rfl rfl (s188 hI (show j < 9 by omega)) (show _ = 47 from rfl) ?_
    rintro r4 w9 ⟨⟨v8, rfl⟩, hI10, hE12⟩
    have hE11 := hE.tr (hE12)
    show sx_RP _ _ _ _ _ [.int v8, .int (nI j), .int (nI k), .ref 111] _ _
    refine sx_RP.step (pc2 := 48) (ls2 := [(0, .ref 111), (1, .int (nI k)), (2, .int (nI j))]) (st2 := [.long v8.toInt64, .int (nI j), .int (nI k), .ref 111]) (w3 := w9) rfl rfl ?_
    refine sx_RP.callp (as2 := [.ref 111, .int (nI k), .int (nI j), .long v8.toInt64]) (rest2 := []) rfl rfl (sx_inv_v2 (mi := 236) (k := 339) (st := [.long v8.toInt64, .int (nI j), .int (nI k), .ref 111]) (w := w9) rfl rfl hI10.1.o111 rfl rfl rfl) rfl rfl rfl (s233 hI10 (show k < 4 by omega) (show j < 40 by omega) v8.toInt64) (show _ = 51 from rfl) ?_
    rintro r4 w13 ⟨rfl, hI14, hE16⟩
    have hE15 := hE11.tr (hE16)
    show sx_RP _ _ _ _ _ [] _ _
    refine sx_RP.step (pc2 := 54) (ls2 := [(2, .int ((nI j) + 1)), (0, .ref 111), (1, .int (nI k))]) (st2 := []) (w3 := w13) rfl rfl ?_
    rw [nI_1 j]
    refine sx_RP.step (pc2 := 30) (ls2 := [(2, .int (nI (j + 1))), (0, .ref 111), (1, .int (nI k))]) (st2 := []) (w3 := w13) rfl rfl ?_
    exact sx_RP.ls (sx_lr.cons rfl (sx_lr.cons rfl (sx_lr.cons rfl sx_lr.nil))) (kk w13 hI14 hE15 (by omega))
set_option maxRecDepth 20000 in
set_option maxHeartbeats 4000000 in
theorem s236L {xs : Option (List Int32)} {d : Nat} {w0 : List sx_C} {k : Nat} (hk : k < 4) : ∀ (fz j : Nat) (w : List sx_C) , 9 ≤ j + fz * 1 → j ≤ 9 → WI w → EM w0 w → sx_RP xs (d + 7) 236 30 [(0, .ref 111), (1, .int (nI k)), (2, .int (nI j))] [] w (fun r w2 => (∃ v : Int32, r = some (.int v)) ∧ WI w2 ∧ EM w0 w2)
  | 0, j, w, h, hj, hI, hE => s236B hk hI hE hj   (fun w4  hI4 hE4 hlt  => absurd hlt (by omega)) 
  | fz + 1, j, w, h, hj, hI, hE => s236B hk hI hE hj   (fun w4  hI4 hE4 hlt  => s236L hk  fz (j + 1) w4  (by omega) hlt hI4 hE4 ) 
set_option maxRecDepth 20000 in
set_option maxHeartbeats 4000000 in
theorem s236 {xs : Option (List Int32)} {d : Nat} {w : List sx_C} (hI : WI w) (a1 : Int32) : sx_RP xs (d + 7) 236 0 (lv_args 0 [.ref 111, .int a1]) [] w (fun r w2 => (∃ v : Int32, r = some (.int v)) ∧ WI w2 ∧ EM w w2) := by
  have hE : EM w w := EM.rf
  refine sx_RP.step (pc2 := 1) (ls2 := [(0, .ref 111), (1, .int a1)]) (st2 := [.int a1]) (w3 := w) rfl rfl ?_
  rcases in_cases a1 0 3 (m := 0) (n := 3) rfl rfl (by decide) (by decide) with q1 | ⟨x2, hx3, hx4, rfl⟩
  · refine sx_RP.cu (as := [.int a1]) (rest2 := []) (st3 := [.int 0]) rfl rfl rfl rfl rfl (cx_231n q1) rfl ?_
    refine sx_RP.step (pc2 := 7) (ls2 := [(0, .ref 111), (1, .int a1)]) (st2 := []) (w3 := w) rfl rfl ?_
    refine sx_RP.step (pc2 := 8) (ls2 := [(0, .ref 111), (1, .int a1)]) (st2 := [.ref 111]) (w3 := w) rfl rfl ?_
    refine sx_RP.step (pc2 := 9) (ls2 := [(0, .ref 111), (1, .int a1)]) (st2 := [.int 0, .ref 111]) (w3 := w) rfl rfl ?_
    refine sx_RP.callp (as2 := [.ref 111, .int 0]) (rest2 := []) rfl rfl (sx_inv_v2 (mi := 236) (k := 70) (st := [.int 0, .ref 111]) (w := w) rfl rfl hI.1.o111 rfl rfl rfl) rfl rfl rfl (s133_0 hI) (show _ = 12 from rfl) ?_
    rintro r4 w6 ⟨rfl, hI7, hE9⟩
    have hE8 := hE.tr (hE9)
    show sx_RP _ _ _ _ _ [.int (-1000000001)] _ _
    refine sx_RP.ret (r := (some (.int (-1000000001)))) rfl rfl ?_
    exact ⟨⟨_, rfl⟩, hI7, hE8⟩
  · refine sx_RP.cu (as := [.int (nI x2)]) (rest2 := []) (st3 := [.int 1]) rfl rfl rfl rfl rfl (cx_231p ⟨nI_le (a := 0) hx3 (by omega), nI_le (b := 3) hx4 (by decide)⟩) rfl ?_
    refine sx_RP.step (pc2 := 13) (ls2 := [(0, .ref 111), (1, .int (nI x2))]) (st2 := []) (w3 := w) rfl rfl ?_
    refine sx_RP.step (pc2 := 14) (ls2 := [(0, .ref 111), (1, .int (nI x2))]) (st2 := [.ref 111]) (w3 := w) rfl rfl ?_
    refine sx_RP.gf (v := .ref 122) rfl rfl hI.1.o111 rfl rfl (show _ = 17 from rfl) ?_
    refine sx_RP.step (pc2 := 18) (ls2 := [(0, .ref 111), (1, .int (nI x2))]) (st2 := [.int (nI x2), .ref 122]) (w3 := w) rfl rfl ?_
    refine sx_RP.ild (c := x2) rfl hI.1.a122.1 hI.1.a122.2 (sx_in_nI (show x2 < 4 by omega) (by decide)) (show (nI x2).toNatClampNeg = x2 from nI_clamp (by omega)) (show _ = 19 from rfl) ?_
    refine sx_RP.br (p1 := 28) (l1 := [(0, .ref 111), (1, .int (nI x2))]) (s1 := []) (v1 := w) (p2 := 22) (l2 := [(0, .ref 111), (1, .int (nI x2))]) (s2 := []) (v2 := w) rfl rfl (fun q10 => ?_) (fun q10 => ?_)
    · replace q10 := of_decide_eq_true q10
      refine sx_RP.step (pc2 := 29) (ls2 := [(0, .ref 111), (1, .int (nI x2))]) (st2 := [.int 0]) (w3 := w) rfl rfl ?_
      refine sx_RP.step (pc2 := 30) (ls2 := [(2, .int 0), (0, .ref 111), (1, .int (nI x2))]) (st2 := []) (w3 := w) rfl rfl ?_
      exact sx_RP.ls (sx_lr.cons rfl (sx_lr.cons rfl (sx_lr.cons rfl sx_lr.nil))) (s236L (show x2 < 4 by omega) 9 0 w  (by omega) (by omega) hI hE )
    · replace q10 := Decidable.not_not.mp (of_decide_eq_false q10)
      refine sx_RP.step (pc2 := 23) (ls2 := [(0, .ref 111), (1, .int (nI x2))]) (st2 := [.ref 111]) (w3 := w) rfl rfl ?_
      refine sx_RP.step (pc2 := 24) (ls2 := [(0, .ref 111), (1, .int (nI x2))]) (st2 := [.int 5, .ref 111]) (w3 := w) rfl rfl ?_
      refine sx_RP.callp (as2 := [.ref 111, .int 5]) (rest2 := []) rfl rfl (sx_inv_v2 (mi := 236) (k := 70) (st := [.int 5, .ref 111]) (w := w) rfl rfl hI.1.o111 rfl rfl rfl) rfl rfl rfl (s133_5 hI) (show _ = 27 from rfl) ?_
      rintro r4 w11 ⟨rfl, hI12, hE14⟩
      have hE13 := hE.tr (hE14)
      show sx_RP _ _ _ _ _ [.int (-1000000006)] _ _
      refine sx_RP.ret (r := (some (.int (-1000000006)))) rfl rfl ?_
      exact ⟨⟨_, rfl⟩, hI12, hE13⟩
set_option maxRecDepth 20000 in
set_option maxHeartbeats 4000000 in
theorem s239B {xs : Option (List Int32)} {d : Nat} {w w0 : List sx_C} {k : Nat} (hk : k < 4) (hI : WI w) (hE : EM w0 w) {j : Nat} (hj : j ≤ 9) (i : Nat) (hi : i ≤ 1) (kk : ∀ (w4 : List sx_C) (ui : Nat), WI w4 → EM w0 w4 → j + 1 ≤ 9 → ui ≤ 1 → sx_RP xs (d + 6) 239 4 [(0, .ref 111), (1, .int (nI k)), (2, .int (nI ui)), (3, .int (nI (j + 1)))] [] w4 (fun r w2 => (∃ j, j ≤ 1 ∧ r = some (.int (nI j))) ∧ WI w2 ∧ EM w0 w2)) : sx_RP xs (d + 6) 239 4 [(0, .ref 111), (1, .int (nI k)), (2, .int (nI i)), (3, .int (nI j))] [] w (fun r w2 => (∃ j, j ≤ 1 ∧ r = some (.int (nI j))) ∧ WI w2 ∧ EM w0 w2) := by
  refine sx_RP.step (pc2 := 5) (ls2 := [(0, .ref 111), (1, .int (nI k)), (2, .int (nI i)), (3, .int (nI j))]) (st2 := [.int (nI j)]) (w3 := w) rfl rfl ?_
  refine sx_RP.step (pc2 := 6) (ls2 := [(0, .ref 111), (1, .int (nI k)), (2, .int (nI i)), (3, .int (nI j))]) (st2 := [.ref 111, .int (nI j)]) (w3 := w) rfl rfl ?_
  refine sx_RP.step (pc2 := 7) (ls2 := [(0, .ref 111), (1, .int (nI k)), (2, .int (nI i)), (3, .int (nI j))]) (st2 := [.int (nI k), .ref 111, .int (nI j)]) (w3 := w) rfl rfl ?_
  obtain ⟨x1, hx2, c3⟩ := p237 hI (show k < 4 by omega)
  refine sx_RP.cu (as := [.ref 111, .int (nI k)]) (rest2 := [.int (nI j)]) (st3 := [.int (nI x1), .int (nI j)]) rfl rfl (sx_inv_v2 (mi := 239) (k := 345) (st := [.int (nI k), .ref 111, .int (nI j)]) (w := w) rfl rfl hI.1.o111 rfl rfl rfl) rfl rfl (c3) rfl ?_
  refine sx_RP.br (p1 := 50) (l1 := [(0, .ref 111), (1, .int (nI k)), (2, .int (nI i)), (3, .int (nI j))]) (s1 := []) (v1 := w) (p2 := 13) (l2 := [(0, .ref 111), (1, .int (nI k)), (2, .int (nI i)), (3, .int (nI j))]) (s2 := []) (v2 := w) rfl rfl (fun q4 => ?_) (fun q4 => ?_)
  · replace q4 := of_decide_eq_true q4
    replace q4 := (nI_leI (a := x1) (b := j) (by omega) (by omega)).mp q4
    refine sx_RP.step (pc2 := 51) (ls2 := [(0, .ref 111), (1, .int (nI k)), (2, .int (nI i)), (3, .int (nI j))]) (st2 := [.int (nI i)]) (w3 := w) rfl rfl ?_
    refine sx_RP.ret (r := (some (.int (nI i)))) rfl (bo_ret rfl (inR.n (show i ≤ 1 by omega))) ?_
    exact ⟨⟨i, by omega, rfl⟩, hI, hE⟩
  · replace q4 := of_decide_eq_false q4
    replace q4 := mt (nI_leI (a := x1) (b := j) (by omega) (by omega)).mpr q4
    refine sx_RP.step (pc2 := 14) (ls2 := [(0, .ref 111), (1, .int (nI k)), (2, .int (nI i)), (3, .int (nI j))]) (st2 := [.int (nI i)]) (w3 := w) rfl rfl ?_
    refine sx_RP.br (p1 := 50) (l1 := [(0, .ref 111), (1, .int (nI k)), (2, .int (nI i)), (3, .int (nI j))]) (s1 := []) (v1 := w) (p2 := 17) (l2 := [(0, .ref 111), (1, .int (nI k)), (2, .int (nI i)), (3, .int (nI j))]) (s2 := []) (v2 := w) rfl rfl (fun q5 => ?_) (fun q5 => ?_)
    · replace q5 := of_decide_eq_true q5
      replace q5 := (nI_eq (a := i) (b := 0) (by omega) (by omega)).mp q5
      refine sx_RP.step (pc2 := 51) (ls2 := [(0, .ref 111), (1, .int (nI k)), (2, .int (nI i)), (3, .int (nI j))]) (st2 := [.int (nI i)]) (w3 := w) rfl rfl ?_
      refine sx_RP.ret (r := (some (.int (nI i)))) rfl (bo_ret rfl (inR.n (show i ≤ 1 by omega))) ?_
      exact ⟨⟨i, by omega, rfl⟩, hI, hE⟩
    · replace q5 := of_decide_eq_false q5
      replace q5 := mt (nI_eq (a := i) (b := 0) (by omega) (by omega)).mpr q5
      refine sx_RP.step (pc2 := 18) (ls2 := [(0, .ref 111), (1, .int (nI k)), (2, .int (nI i)), (3, .int (nI j))]) (st2 := [.ref 111]) (w3 := w) rfl rfl ?_
      refine sx_RP.gf (v := .ref 124) rfl rfl hI.1.o111 rfl rfl (show _ = 21 from rfl) ?_
      refine sx_RP.step (pc2 := 23) (ls2 := [(0, .ref 111), (1, .int (nI k)), (2, .int (nI i)), (3, .int (nI j))]) (st2 := [.int 40, .ref 124]) (w3 := w) rfl rfl ?_
      refine sx_RP.step (pc2 := 24) (ls2 := [(0, .ref 111), (1, .int (nI k)), (2, .int (nI i)), (3, .int (nI j))]) (st2 := [.int (nI k), .int 40, .ref 124]) (w3 := w) rfl rfl ?_
      refine sx_RP.step (pc2 := 25) (ls2 := [(0, .ref 111), (1, .int (nI k)), (2, .int (nI i)), (3, .int (nI j))]) (st2 := [.int (40 * (nI k)), .ref 124]) (w3 := w) rfl rfl ?_
      rw [show (40 * (nI k) : Int32) = nI (40 * k) from nI_mul 40 k]
      refine sx_RP.step (pc2 := 26) (ls2 := [(0, .ref 111), (1, .int (nI k)), (2, .int (nI i)), (3, .int (nI j))]) (st2 := [.int (nI j), .int (nI (40 * k)), .ref 124]) (w3 := w) rfl rfl ?_
      refine sx_RP.step (pc2 := 27) (ls2 := [(0, .ref 111), (1, .int (nI k)), (2, .int (nI i)), (3, .int (nI j))]) (st2 := [.int ((nI (40 * k)) + (nI j)), .ref 124]) (w3 := w) rfl rfl ?_
      rw [show ((nI (40 * k)) + (nI j) : Int32) = nI ((40 * k) + j) from nI_add (40 * k) j]
      refine sx_RP.lld (c := ((40 * k) + j)) rfl hI.1.a124.1 hI.1.a124.2 (sx_in_nI (show ((40 * k) + j) < 160 by omega) (by decide)) (show (nI ((40 * k) + j)).toNatClampNeg = ((40 * k) + j) from nI_clamp (by omega)) (show _ = 28 from rfl) ?_
      refine sx_RP.step (pc2 := 29) (ls2 := [(0, .ref 111), (1, .int (nI k)), (2, .int (nI i)), (3, .int (nI j))]) (st2 := [.ref 111, .long ((ja w 124).getD ((40 * k) + j) 0)]) (w3 := w) rfl rfl ?_
      refine sx_RP.step (pc2 := 30) (ls2 := [(0, .ref 111), (1, .int (nI k)), (2, .int (nI i)), (3, .int (nI j))]) (st2 := [.int (nI j), .ref 111, .long ((ja w 124).getD ((40 * k) + j) 0)]) (w3 := w) rfl rfl ?_
      refine sx_RP.callp (as2 := [.ref 111, .int (nI j)]) (rest2 := [.long ((ja w 124).getD ((40 * k) + j) 0)]) rfl rfl (sx_inv_v2 (mi := 239) (k := 180) (st := [.int (nI j), .ref 111, .long ((ja w 124).getD ((40 * k) + j) 0)]) (w := w) rfl rfl hI.1.o111 rfl rfl rfl) rfl rfl rfl (s188 hI (show j < 9 by omega)) (show _ = 33 from rfl) ?_
      rintro r4 w7 ⟨⟨v6, rfl⟩, hI8, hE10⟩
      have hE9 := hE.tr (hE10)
      show sx_RP _ _ _ _ _ [.int v6, .long ((ja w 124).getD ((40 * k) + j) 0)] _ _
      refine sx_RP.step (pc2 := 34) (ls2 := [(0, .ref 111), (1, .int (nI k)), (2, .int (nI i)), (3, .int (nI j))]) (st2 := [.long v6.toInt64, .long ((ja w 124).getD ((40 * k) + j) 0)]) (w3 := w7) rfl rfl ?_
      refine sx_RP.step (pc2 := 35) (ls2 := [(0, .ref 111), (1, .int (nI k)), (2, .int (nI i)), (3, .int (nI j))]) (st2 := [.int (lg_cmp ((ja w 124).getD ((40 * k) + j) 0) v6.toInt64)]) (w3 := w7) rfl rfl ?_
      refine sx_RP.br (p1 := 42) (l1 := [(0, .ref 111), (1, .int (nI k)), (2, .int (nI i)), (3, .int (nI j))]) (s1 := []) (v1 := w7) (p2 := 38) (l2 := [(0, .ref 111), (1, .int (nI k)), (2, .int (nI i)), (3, .int (nI j))]) (s2 := []) (v2 := w7) rfl rfl (fun q11 => ?_) (fun q11 => ?_)
      · replace q11 := of_decide_eq_true q11
        refine sx_RP.step (pc2 := 43) (ls2 := [(0, .ref 111), (1, .int (nI k)), (2, .int (nI i)), (3, .int (nI j))]) (st2 := [.int 0]) (w3 := w7) rfl rfl ?_
        refine sx_RP.step (pc2 := 44) (ls2 := [(2, .int 0), (0, .ref 111), (1, .int (nI k)), (3, .int (nI j))]) (st2 := []) (w3 := w7) rfl rfl ?_
        refine sx_RP.step (pc2 := 47) (ls2 := [(3, .int ((nI j) + 1)), (2, .int 0), (0, .ref 111), (1, .int (nI k))]) (st2 := []) (w3 := w7) rfl rfl ?_
        rw [nI_1 j]
        refine sx_RP.step (pc2 := 4) (ls2 := [(3, .int (nI (j + 1))), (2, .int 0), (0, .ref 111), (1, .int (nI k))]) (st2 := []) (w3 := w7) rfl rfl ?_
        exact sx_RP.ls (sx_lr.cons rfl (sx_lr.cons rfl (sx_lr.cons rfl (sx_lr.cons rfl sx_lr.nil)))) (kk w7 0 hI8 hE9 (by omega) (by omega))
      · replace q11 := Decidable.not_not.mp (of_decide_eq_false q11)
        refine sx_RP.step (pc2 := 39) (ls2 := [(0, .ref 111), (1, .int (nI k)), (2, .int (nI i)), (3, .int (nI j))]) (st2 := [.int 1]) (w3 := w7) rfl rfl ?_
        refine sx_RP.step (pc2 := 43) (ls2 := [(0, .ref 111), (1, .int (nI k)), (2, .int (nI i)), (3, .int (nI j))]) (st2 := [.int 1]) (w3 := w7) rfl rfl ?_
        refine sx_RP.step (pc2 := 44) (ls2 := [(2, .int 1), (0, .ref 111), (1, .int (nI k)), (3, .int (nI j))]) (st2 := []) (w3 := w7) rfl rfl ?_
        refine sx_RP.step (pc2 := 47) (ls2 := [(3, .int ((nI j) + 1)), (2, .int 1), (0, .ref 111), (1, .int (nI k))]) (st2 := []) (w3 := w7) rfl rfl ?_
        rw [nI_1 j]
        refine sx_RP.step (pc2 := 4) (ls2 := [(3, .int (nI (j + 1))), (2, .int 1), (0, .ref 111), (1, .int (nI k))]) (st2 := []) (w3 := w7) rfl rfl ?_
        exact sx_RP.ls (sx_lr.cons rfl (sx_lr.cons rfl (sx_lr.cons rfl (sx_lr.cons rfl sx_lr.nil)))) (kk w7 1 hI8 hE9 (by omega) (by omega))
set_option maxRecDepth 20000 in
set_option maxHeartbeats 4000000 in
theorem s239L {xs : Option (List Int32)} {d : Nat} {w0 : List sx_C} {k : Nat} (hk : k < 4) : ∀ (fz j : Nat) (w : List sx_C) (i : Nat) , 9 ≤ j + fz * 1 → j ≤ 9 → WI w → EM w0 w → i ≤ 1 → sx_RP xs (d + 6) 239 4 [(0, .ref 111), (1, .int (nI k)), (2, .int (nI i)), (3, .int (nI j))] [] w (fun r w2 => (∃ j, j ≤ 1 ∧ r = some (.int (nI j))) ∧ WI w2 ∧ EM w0 w2)
  | 0, j, w, i, h, hj, hI, hE, hi => s239B hk hI hE hj i hi (fun w4 ui hI4 hE4 hlt hui => absurd hlt (by omega)) 
  | fz + 1, j, w, i, h, hj, hI, hE, hi => s239B hk hI hE hj i hi (fun w4 ui hI4 hE4 hlt hui => s239L hk  fz (j + 1) w4 ui (by omega) hlt hI4 hE4 hui) 
set_option maxRecDepth 20000 in
set_option maxHeartbeats 4000000 in
theorem s239 {xs : Option (List Int32)} {d : Nat} {w : List sx_C} (hI : WI w) {k : Nat} (hk : k < 4) : sx_RP xs (d + 6) 239 0 (lv_args 0 [.ref 111, .int (nI k)]) [] w (fun r w2 => (∃ j, j ≤ 1 ∧ r = some (.int (nI j))) ∧ WI w2 ∧ EM w w2) := by
  have hE : EM w w := EM.rf
  refine sx_RP.step (pc2 := 1) (ls2 := [(0, .ref 111), (1, .int (nI k))]) (st2 := [.int 1]) (w3 := w) rfl rfl ?_
  refine sx_RP.step (pc2 := 2) (ls2 := [(2, .int 1), (0, .ref 111), (1, .int (nI k))]) (st2 := []) (w3 := w) rfl rfl ?_
  refine sx_RP.step (pc2 := 3) (ls2 := [(2, .int 1), (0, .ref 111), (1, .int (nI k))]) (st2 := [.int 0]) (w3 := w) rfl rfl ?_
  refine sx_RP.step (pc2 := 4) (ls2 := [(3, .int 0), (2, .int 1), (0, .ref 111), (1, .int (nI k))]) (st2 := []) (w3 := w) rfl rfl ?_
  exact sx_RP.ls (sx_lr.cons rfl (sx_lr.cons rfl (sx_lr.cons rfl (sx_lr.cons rfl sx_lr.nil)))) (s239L hk 9 0 w 1 (by omega) (by omega) hI hE (by omega))
set_option maxRecDepth 20000 in
set_option maxHeartbeats 4000000 in
theorem s238B {xs : Option (List Int32)} {d : Nat} {w w0 : List sx_C} {k : Nat} (hk : k < 4) (hI : WI w) (hE : EM w0 w) {j : Nat} (hj : j ≤ 60) (i : Nat) (hi : i ≤ 1) (kk : ∀ (w4 : List sx_C) (ui : Nat), WI w4 → EM w0 w4 → j + 1 ≤ 60 → ui ≤ 1 → sx_RP xs (d + 7) 238 62 [(0, .ref 111), (1, .int (nI k)), (3, .int (nI ui)), (2, .int (nI (j + 1)))] [] w4 (fun r w2 => (∃ v : Int32, r = some (.int v)) ∧ WI w2 ∧ EM w0 w2)) : sx_RP xs (d + 7) 238 62 [(0, .ref 111), (1, .int (nI k)), (3, .int (nI i)), (2, .int (nI j))] [] w (fun r w2 => (∃ v : Int32, r = some (.int v)) ∧ WI w2 ∧ EM w0 w2) := by
  refine sx_RP.step (pc2 := 63) (ls2 := [(0, .ref 111), (1, .int (nI k)), (3, .int (nI i)), (2, .int (nI j))]) (st2 := [.int (nI j)]) (w3 := w) rfl rfl ?_
  refine sx_RP.step (pc2 := 65) (ls2 := [(0, .ref 111), (1, .int (nI k)), (3, .int (nI i)), (2, .int (nI j))]) (st2 := [.int 60, .int (nI j)]) (w3 := w) rfl rfl ?_
  refine sx_RP.br (p1 := 88) (l1 := [(0, .ref 111), (1, .int (nI k)), (3, .int (nI i)), (2, .int (nI j))]) (s1 := []) (v1 := w) (p2 := 68) (l2 := [(0, .ref 111), (1, .int (nI k)), (3, .int (nI i)), (2, .int (nI j))]) (s2 := []) (v2 := w) rfl rfl (fun q1 => ?_) (fun q1 => ?_)
  · replace q1 := of_decide_eq_true q1
    replace q1 := (nI_leI (a := 60) (b := j) (by omega) (by omega)).mp q1
    refine sx_RP.step (pc2 := 89) (ls2 := [(0, .ref 111), (1, .int (nI k)), (3, .int (nI i)), (2, .int (nI j))]) (st2 := [.ref 111]) (w3 := w) rfl rfl ?_
    refine sx_RP.gf (v := .ref 114) rfl rfl hI.1.o111 rfl rfl (show _ = 92 from rfl) ?_
    refine sx_RP.step (pc2 := 93) (ls2 := [(0, .ref 111), (1, .int (nI k)), (3, .int (nI i)), (2, .int (nI j))]) (st2 := [.ref 111, .ref 114]) (w3 := w) rfl rfl ?_
    refine sx_RP.gf (v := .ref 112) rfl rfl hI.1.o111 rfl rfl (show _ = 96 from rfl) ?_
    refine sx_RP.callp (as2 := [.ref 114, .ref 112]) (rest2 := []) rfl rfl rfl rfl rfl rfl (s175 hI (a := 114) (b := 112) (by decide) (by decide)) (show _ = 99 from rfl) ?_
    rintro r4 w2 ⟨rfl, hI3, hE5⟩
    have hE4 := hE.tr (hE5)
    show sx_RP _ _ _ _ _ [] _ _
    refine sx_RP.step (pc2 := 100) (ls2 := [(0, .ref 111), (1, .int (nI k)), (3, .int (nI i)), (2, .int (nI j))]) (st2 := [.int (nI i)]) (w3 := w2) rfl rfl ?_
    refine sx_RP.br (p1 := 107) (l1 := [(0, .ref 111), (1, .int (nI k)), (3, .int (nI i)), (2, .int (nI j))]) (s1 := []) (v1 := w2) (p2 := 103) (l2 := [(0, .ref 111), (1, .int (nI k)), (3, .int (nI i)), (2, .int (nI j))]) (s2 := []) (v2 := w2) rfl rfl (fun q6 => ?_) (fun q6 => ?_)
    · replace q6 := of_decide_eq_true q6
      replace q6 := (nI_eq (a := i) (b := 0) (by omega) (by omega)).mp q6
      refine sx_RP.step (pc2 := 108) (ls2 := [(0, .ref 111), (1, .int (nI k)), (3, .int (nI i)), (2, .int (nI j))]) (st2 := [.ref 111]) (w3 := w2) rfl rfl ?_
      refine sx_RP.step (pc2 := 109) (ls2 := [(0, .ref 111), (1, .int (nI k)), (3, .int (nI i)), (2, .int (nI j))]) (st2 := [.int 3, .ref 111]) (w3 := w2) rfl rfl ?_
      refine sx_RP.callp (as2 := [.ref 111, .int 3]) (rest2 := []) rfl rfl (sx_inv_v2 (mi := 238) (k := 70) (st := [.int 3, .ref 111]) (w := w2) rfl rfl hI3.1.o111 rfl rfl rfl) rfl rfl rfl (s133_3 hI3) (show _ = 112 from rfl) ?_
      rintro r4 w7 ⟨rfl, hI8, hE10⟩
      have hE9 := hE4.tr (hE10)
      show sx_RP _ _ _ _ _ [.int (-1000000004)] _ _
      refine sx_RP.ret (r := (some (.int (-1000000004)))) rfl rfl ?_
      exact ⟨⟨_, rfl⟩, hI8, hE9⟩
    · replace q6 := of_decide_eq_false q6
      replace q6 := mt (nI_eq (a := i) (b := 0) (by omega) (by omega)).mpr q6
      refine sx_RP.step (pc2 := 104) (ls2 := [(0, .ref 111), (1, .int (nI k)), (3, .int (nI i)), (2, .int (nI j))]) (st2 := [.int (nI j)]) (w3 := w2) rfl rfl ?_
      refine sx_RP.step (pc2 := 112) (ls2 := [(0, .ref 111), (1, .int (nI k)), (3, .int (nI i)), (2, .int (nI j))]) (st2 := [.int (nI j)]) (w3 := w2) rfl rfl ?_
      refine sx_RP.ret (r := (some (.int (nI j)))) rfl rfl ?_
      exact ⟨⟨_, rfl⟩, hI3, hE4⟩
  · replace q1 := of_decide_eq_false q1
    replace q1 := mt (nI_leI (a := 60) (b := j) (by omega) (by omega)).mpr q1
    refine sx_RP.step (pc2 := 69) (ls2 := [(0, .ref 111), (1, .int (nI k)), (3, .int (nI i)), (2, .int (nI j))]) (st2 := [.int (nI i)]) (w3 := w) rfl rfl ?_
    refine sx_RP.br (p1 := 88) (l1 := [(0, .ref 111), (1, .int (nI k)), (3, .int (nI i)), (2, .int (nI j))]) (s1 := []) (v1 := w) (p2 := 72) (l2 := [(0, .ref 111), (1, .int (nI k)), (3, .int (nI i)), (2, .int (nI j))]) (s2 := []) (v2 := w) rfl rfl (fun q11 => ?_) (fun q11 => ?_)
    · replace q11 := of_decide_eq_true q11
      replace q11 := mt (nI_eq (a := i) (b := 0) (by omega) (by omega)).mpr q11
      refine sx_RP.step (pc2 := 89) (ls2 := [(0, .ref 111), (1, .int (nI k)), (3, .int (nI i)), (2, .int (nI j))]) (st2 := [.ref 111]) (w3 := w) rfl rfl ?_
      refine sx_RP.gf (v := .ref 114) rfl rfl hI.1.o111 rfl rfl (show _ = 92 from rfl) ?_
      refine sx_RP.step (pc2 := 93) (ls2 := [(0, .ref 111), (1, .int (nI k)), (3, .int (nI i)), (2, .int (nI j))]) (st2 := [.ref 111, .ref 114]) (w3 := w) rfl rfl ?_
      refine sx_RP.gf (v := .ref 112) rfl rfl hI.1.o111 rfl rfl (show _ = 96 from rfl) ?_
      refine sx_RP.callp (as2 := [.ref 114, .ref 112]) (rest2 := []) rfl rfl rfl rfl rfl rfl (s175 hI (a := 114) (b := 112) (by decide) (by decide)) (show _ = 99 from rfl) ?_
      rintro r4 w12 ⟨rfl, hI13, hE15⟩
      have hE14 := hE.tr (hE15)
      show sx_RP _ _ _ _ _ [] _ _
      refine sx_RP.step (pc2 := 100) (ls2 := [(0, .ref 111), (1, .int (nI k)), (3, .int (nI i)), (2, .int (nI j))]) (st2 := [.int (nI i)]) (w3 := w12) rfl rfl ?_
      refine sx_RP.br (p1 := 107) (l1 := [(0, .ref 111), (1, .int (nI k)), (3, .int (nI i)), (2, .int (nI j))]) (s1 := []) (v1 := w12) (p2 := 103) (l2 := [(0, .ref 111), (1, .int (nI k)), (3, .int (nI i)), (2, .int (nI j))]) (s2 := []) (v2 := w12) rfl rfl (fun q16 => ?_) (fun q16 => ?_)
      · replace q16 := of_decide_eq_true q16
        replace q16 := (nI_eq (a := i) (b := 0) (by omega) (by omega)).mp q16
        refine sx_RP.step (pc2 := 108) (ls2 := [(0, .ref 111), (1, .int (nI k)), (3, .int (nI i)), (2, .int (nI j))]) (st2 := [.ref 111]) (w3 := w12) rfl rfl ?_
        refine sx_RP.step (pc2 := 109) (ls2 := [(0, .ref 111), (1, .int (nI k)), (3, .int (nI i)), (2, .int (nI j))]) (st2 := [.int 3, .ref 111]) (w3 := w12) rfl rfl ?_
        refine sx_RP.callp (as2 := [.ref 111, .int 3]) (rest2 := []) rfl rfl (sx_inv_v2 (mi := 238) (k := 70) (st := [.int 3, .ref 111]) (w := w12) rfl rfl hI13.1.o111 rfl rfl rfl) rfl rfl rfl (s133_3 hI13) (show _ = 112 from rfl) ?_
        rintro r4 w17 ⟨rfl, hI18, hE20⟩
        have hE19 := hE14.tr (hE20)
        show sx_RP _ _ _ _ _ [.int (-1000000004)] _ _
        refine sx_RP.ret (r := (some (.int (-1000000004)))) rfl rfl ?_
        exact ⟨⟨_, rfl⟩, hI18, hE19⟩
      · replace q16 := of_decide_eq_false q16
        replace q16 := mt (nI_eq (a := i) (b := 0) (by omega) (by omega)).mpr q16
        refine sx_RP.step (pc2 := 104) (ls2 := [(0, .ref 111), (1, .int (nI k)), (3, .int (nI i)), (2, .int (nI j))]) (st2 := [.int (nI j)]) (w3 := w12) rfl rfl ?_
        refine sx_RP.step (pc2 := 112) (ls2 := [(0, .ref 111), (1, .int (nI k)), (3, .int (nI i)), (2, .int (nI j))]) (st2 := [.int (nI j)]) (w3 := w12) rfl rfl ?_
        refine sx_RP.ret (r := (some (.int (nI j)))) rfl rfl ?_
        exact ⟨⟨_, rfl⟩, hI13, hE14⟩
    · replace q11 := Decidable.not_not.mp (of_decide_eq_false q11)
      replace q11 := (nI_eq (a := i) (b := 0) (by omega) (by omega)).mp q11
      refine sx_RP.step (pc2 := 73) (ls2 := [(0, .ref 111), (1, .int (nI k)), (3, .int (nI i)), (2, .int (nI j))]) (st2 := [.ref 111]) (w3 := w) rfl rfl ?_
      refine sx_RP.callp (as2 := [.ref 111]) (rest2 := []) rfl rfl (sx_inv_v2 (mi := 238) (k := 143) (st := [.ref 111]) (w := w) rfl rfl hI.1.o111 rfl rfl rfl) rfl rfl rfl (s169 hI ) (show _ = 76 from rfl) ?_
      rintro r4 w21 ⟨rfl, hI22, hE24⟩
      have hE23 := hE.tr (hE24)
      show sx_RP _ _ _ _ _ [] _ _
      refine sx_RP.step (pc2 := 79) (ls2 := [(2, .int ((nI j) + 1)), (0, .ref 111), (1, .int (nI k)), (3, .int (nI i))]) (st2 := []) (w3 := w21) rfl rfl ?_
      rw [nI_1 j]
      refine sx_RP.step (pc2 := 80) (ls2 := [(2, .int (nI (j + 1))), (0, .ref 111), (1, .int (nI k)), (3, .int (nI i))]) (st2 := [.ref 111]) (w3 := w21) rfl rfl ?_
      refine sx_RP.step (pc2 := 81) (ls2 := [(2, .int (nI (j + 1))), (0, .ref 111), (1, .int (nI k)), (3, .int (nI i))]) (st2 := [.int (nI k), .ref 111]) (w3 := w21) rfl rfl ?_
      refine sx_RP.callp (as2 := [.ref 111, .int (nI k)]) (rest2 := []) rfl rfl (sx_inv_v2 (mi := 238) (k := 348) (st := [.int (nI k), .ref 111]) (w := w21) rfl rfl hI22.1.o111 rfl rfl rfl) rfl rfl rfl (s239 hI22 (show k < 4 by omega)) (show _ = 84 from rfl) ?_
      rintro r4 w27 ⟨⟨x25, hx26, rfl⟩, hI28, hE30⟩
      have hE29 := hE23.tr (hE30)
      show sx_RP _ _ _ _ _ [.int (nI x25)] _ _
      refine sx_RP.step (pc2 := 85) (ls2 := [(3, .int (nI x25)), (2, .int (nI (j + 1))), (0, .ref 111), (1, .int (nI k))]) (st2 := []) (w3 := w27) rfl rfl ?_
      refine sx_RP.step (pc2 := 62) (ls2 := [(3, .int (nI x25)), (2, .int (nI (j + 1))), (0, .ref 111), (1, .int (nI k))]) (st2 := []) (w3 := w27) rfl rfl ?_
      exact sx_RP.ls (sx_lr.cons rfl (sx_lr.cons rfl (sx_lr.cons rfl (sx_lr.cons rfl sx_lr.nil)))) (kk w27 x25 hI28 hE29 (by omega) (by omega))
set_option maxRecDepth 20000 in
set_option maxHeartbeats 4000000 in
theorem s238L {xs : Option (List Int32)} {d : Nat} {w0 : List sx_C} {k : Nat} (hk : k < 4) : ∀ (fz j : Nat) (w : List sx_C) (i : Nat) , 60 ≤ j + fz * 1 → j ≤ 60 → WI w → EM w0 w → i ≤ 1 → sx_RP xs (d + 7) 238 62 [(0, .ref 111), (1, .int (nI k)), (3, .int (nI i)), (2, .int (nI j))] [] w (fun r w2 => (∃ v : Int32, r = some (.int v)) ∧ WI w2 ∧ EM w0 w2)
  | 0, j, w, i, h, hj, hI, hE, hi => s238B hk hI hE hj i hi (fun w4 ui hI4 hE4 hlt hui => absurd hlt (by omega)) 
  | fz + 1, j, w, i, h, hj, hI, hE, hi => s238B hk hI hE hj i hi (fun w4 ui hI4 hE4 hlt hui => s238L hk  fz (j + 1) w4 ui (by omega) hlt hI4 hE4 hui) 
set_option maxRecDepth 20000 in
set_option maxHeartbeats 4000000 in
theorem s238 {xs : Option (List Int32)} {d : Nat} {w : List sx_C} (hI : WI w) (a1 : Int32) : sx_RP xs (d + 7) 238 0 (lv_args 0 [.ref 111, .int a1]) [] w (fun r w2 => (∃ v : Int32, r = some (.int v)) ∧ WI w2 ∧ EM w w2) := by
  have hE : EM w w := EM.rf
  refine sx_RP.step (pc2 := 1) (ls2 := [(0, .ref 111), (1, .int a1)]) (st2 := [.int a1]) (w3 := w) rfl rfl ?_
  rcases in_cases a1 0 3 (m := 0) (n := 3) rfl rfl (by decide) (by decide) with q1 | ⟨x2, hx3, hx4, rfl⟩
  · refine sx_RP.cu (as := [.int a1]) (rest2 := []) (st3 := [.int 0]) rfl rfl rfl rfl rfl (cx_231n q1) rfl ?_
    refine sx_RP.step (pc2 := 7) (ls2 := [(0, .ref 111), (1, .int a1)]) (st2 := []) (w3 := w) rfl rfl ?_
    refine sx_RP.step (pc2 := 8) (ls2 := [(0, .ref 111), (1, .int a1)]) (st2 := [.ref 111]) (w3 := w) rfl rfl ?_
    refine sx_RP.step (pc2 := 9) (ls2 := [(0, .ref 111), (1, .int a1)]) (st2 := [.int 0, .ref 111]) (w3 := w) rfl rfl ?_
    refine sx_RP.callp (as2 := [.ref 111, .int 0]) (rest2 := []) rfl rfl (sx_inv_v2 (mi := 238) (k := 70) (st := [.int 0, .ref 111]) (w := w) rfl rfl hI.1.o111 rfl rfl rfl) rfl rfl rfl (s133_0 hI) (show _ = 12 from rfl) ?_
    rintro r4 w6 ⟨rfl, hI7, hE9⟩
    have hE8 := hE.tr (hE9)
    show sx_RP _ _ _ _ _ [.int (-1000000001)] _ _
    refine sx_RP.ret (r := (some (.int (-1000000001)))) rfl rfl ?_
    exact ⟨⟨_, rfl⟩, hI7, hE8⟩
  · refine sx_RP.cu (as := [.int (nI x2)]) (rest2 := []) (st3 := [.int 1]) rfl rfl rfl rfl rfl (cx_231p ⟨nI_le (a := 0) hx3 (by omega), nI_le (b := 3) hx4 (by decide)⟩) rfl ?_
    refine sx_RP.step (pc2 := 13) (ls2 := [(0, .ref 111), (1, .int (nI x2))]) (st2 := []) (w3 := w) rfl rfl ?_
    refine sx_RP.step (pc2 := 14) (ls2 := [(0, .ref 111), (1, .int (nI x2))]) (st2 := [.ref 111]) (w3 := w) rfl rfl ?_
    refine sx_RP.gf (v := .ref 122) rfl rfl hI.1.o111 rfl rfl (show _ = 17 from rfl) ?_
    refine sx_RP.step (pc2 := 18) (ls2 := [(0, .ref 111), (1, .int (nI x2))]) (st2 := [.int (nI x2), .ref 122]) (w3 := w) rfl rfl ?_
    refine sx_RP.ild (c := x2) rfl hI.1.a122.1 hI.1.a122.2 (sx_in_nI (show x2 < 4 by omega) (by decide)) (show (nI x2).toNatClampNeg = x2 from nI_clamp (by omega)) (show _ = 19 from rfl) ?_
    refine sx_RP.br (p1 := 28) (l1 := [(0, .ref 111), (1, .int (nI x2))]) (s1 := []) (v1 := w) (p2 := 22) (l2 := [(0, .ref 111), (1, .int (nI x2))]) (s2 := []) (v2 := w) rfl rfl (fun q10 => ?_) (fun q10 => ?_)
    · replace q10 := of_decide_eq_true q10
      refine sx_RP.step (pc2 := 29) (ls2 := [(0, .ref 111), (1, .int (nI x2))]) (st2 := [.ref 111]) (w3 := w) rfl rfl ?_
      refine sx_RP.step (pc2 := 31) (ls2 := [(0, .ref 111), (1, .int (nI x2))]) (st2 := [.int 60, .ref 111]) (w3 := w) rfl rfl ?_
      obtain ⟨x11, hx12, c13⟩ := p165 hI 60
      refine sx_RP.cu (as := [.ref 111, .int 60]) (rest2 := []) (st3 := [.int (nI x11)]) rfl rfl (sx_inv_v2 (mi := 238) (k := 149) (st := [.int 60, .ref 111]) (w := w) rfl rfl hI.1.o111 rfl rfl rfl) rfl rfl (c13) rfl ?_
      refine sx_RP.br (p1 := 43) (l1 := [(0, .ref 111), (1, .int (nI x2))]) (s1 := []) (v1 := w) (p2 := 37) (l2 := [(0, .ref 111), (1, .int (nI x2))]) (s2 := []) (v2 := w) rfl rfl (fun q14 => ?_) (fun q14 => ?_)
      · replace q14 := of_decide_eq_true q14
        replace q14 := (nI_eq (a := x11) (b := 0) (by omega) (by omega)).mp q14
        refine sx_RP.step (pc2 := 44) (ls2 := [(0, .ref 111), (1, .int (nI x2))]) (st2 := [.ref 111]) (w3 := w) rfl rfl ?_
        refine sx_RP.gf (v := .ref 112) rfl rfl hI.1.o111 rfl rfl (show _ = 47 from rfl) ?_
        refine sx_RP.step (pc2 := 48) (ls2 := [(0, .ref 111), (1, .int (nI x2))]) (st2 := [.ref 111, .ref 112]) (w3 := w) rfl rfl ?_
        refine sx_RP.gf (v := .ref 114) rfl rfl hI.1.o111 rfl rfl (show _ = 51 from rfl) ?_
        refine sx_RP.callp (as2 := [.ref 112, .ref 114]) (rest2 := []) rfl rfl rfl rfl rfl rfl (s175 hI (a := 112) (b := 114) (by decide) (by decide)) (show _ = 54 from rfl) ?_
        rintro r4 w15 ⟨rfl, hI16, hE18⟩
        have hE17 := hE.tr (hE18)
        show sx_RP _ _ _ _ _ [] _ _
        refine sx_RP.step (pc2 := 55) (ls2 := [(0, .ref 111), (1, .int (nI x2))]) (st2 := [.int 0]) (w3 := w15) rfl rfl ?_
        refine sx_RP.step (pc2 := 56) (ls2 := [(2, .int 0), (0, .ref 111), (1, .int (nI x2))]) (st2 := []) (w3 := w15) rfl rfl ?_
        refine sx_RP.step (pc2 := 57) (ls2 := [(2, .int 0), (0, .ref 111), (1, .int (nI x2))]) (st2 := [.ref 111]) (w3 := w15) rfl rfl ?_
        refine sx_RP.step (pc2 := 58) (ls2 := [(2, .int 0), (0, .ref 111), (1, .int (nI x2))]) (st2 := [.int (nI x2), .ref 111]) (w3 := w15) rfl rfl ?_
        refine sx_RP.callp (as2 := [.ref 111, .int (nI x2)]) (rest2 := []) rfl rfl (sx_inv_v2 (mi := 238) (k := 348) (st := [.int (nI x2), .ref 111]) (w := w15) rfl rfl hI16.1.o111 rfl rfl rfl) rfl rfl rfl (s239 hI16 (show x2 < 4 by omega)) (show _ = 61 from rfl) ?_
        rintro r4 w21 ⟨⟨x19, hx20, rfl⟩, hI22, hE24⟩
        have hE23 := hE17.tr (hE24)
        show sx_RP _ _ _ _ _ [.int (nI x19)] _ _
        refine sx_RP.step (pc2 := 62) (ls2 := [(3, .int (nI x19)), (2, .int 0), (0, .ref 111), (1, .int (nI x2))]) (st2 := []) (w3 := w21) rfl rfl ?_
        exact sx_RP.ls (sx_lr.cons rfl (sx_lr.cons rfl (sx_lr.cons rfl (sx_lr.cons rfl sx_lr.nil)))) (s238L (show x2 < 4 by omega) 60 0 w21 x19 (by omega) (by omega) hI22 hE23 (by omega))
      · replace q14 := of_decide_eq_false q14
        replace q14 := mt (nI_eq (a := x11) (b := 0) (by omega) (by omega)).mpr q14
        refine sx_RP.step (pc2 := 38) (ls2 := [(0, .ref 111), (1, .int (nI x2))]) (st2 := [.ref 111]) (w3 := w) rfl rfl ?_
        refine sx_RP.step (pc2 := 39) (ls2 := [(0, .ref 111), (1, .int (nI x2))]) (st2 := [.int 4, .ref 111]) (w3 := w) rfl rfl ?_
        refine sx_RP.callp (as2 := [.ref 111, .int 4]) (rest2 := []) rfl rfl (sx_inv_v2 (mi := 238) (k := 70) (st := [.int 4, .ref 111]) (w := w) rfl rfl hI.1.o111 rfl rfl rfl) rfl rfl rfl (s133_4 hI) (show _ = 42 from rfl) ?_
        rintro r4 w25 ⟨rfl, hI26, hE28⟩
        have hE27 := hE.tr (hE28)
        show sx_RP _ _ _ _ _ [.int (-1000000005)] _ _
        refine sx_RP.ret (r := (some (.int (-1000000005)))) rfl rfl ?_
        exact ⟨⟨_, rfl⟩, hI26, hE27⟩
    · replace q10 := Decidable.not_not.mp (of_decide_eq_false q10)
      refine sx_RP.step (pc2 := 23) (ls2 := [(0, .ref 111), (1, .int (nI x2))]) (st2 := [.ref 111]) (w3 := w) rfl rfl ?_
      refine sx_RP.step (pc2 := 24) (ls2 := [(0, .ref 111), (1, .int (nI x2))]) (st2 := [.int 5, .ref 111]) (w3 := w) rfl rfl ?_
      refine sx_RP.callp (as2 := [.ref 111, .int 5]) (rest2 := []) rfl rfl (sx_inv_v2 (mi := 238) (k := 70) (st := [.int 5, .ref 111]) (w := w) rfl rfl hI.1.o111 rfl rfl rfl) rfl rfl rfl (s133_5 hI) (show _ = 27 from rfl) ?_
      rintro r4 w29 ⟨rfl, hI30, hE32⟩
      have hE31 := hE.tr (hE32)
      show sx_RP _ _ _ _ _ [.int (-1000000006)] _ _
      refine sx_RP.ret (r := (some (.int (-1000000006)))) rfl rfl ?_
      exact ⟨⟨_, rfl⟩, hI30, hE31⟩
end
-- 68.feedM.lean.txt
section
-- safety: feed and sheet of the reference
/-- the class as it was, and of the reference the field isKept -/
def EF (w w2 : List sx_C) : Prop := (∀ a, a < 111 → w2[a]? = w[a]?) ∧ fi w2 111 4 = fi w 111 4
theorem EF.rf {w : List sx_C} : EF w w := ⟨fun _ _ => rfl, rfl⟩
theorem EF.tr {w w1 w2 : List sx_C} (h : EF w w1) (h2 : EF w1 w2) : EF w w2 := ⟨fun a ha => (h2.1 a ha).trans (h.1 a ha), h2.2.trans h.2⟩
theorem EM.ef {w w2 : List sx_C} (h : EM w w2) (hI : WI w) (hI2 : WI w2) : EF w w2 := ⟨fun a ha => (h a).1 ha, (keep111 hI hI2 ((h 111).2 (by decide))).1⟩
theorem EF.set {w0 w : List sx_C} {a : Nat} {c : sx_C} (h : EF w0 w) (ha : 112 ≤ a) : EF w0 (w.set a c) := by
  refine h.tr ⟨fun b hb => ?_, fi_ne (by omega)⟩
  rw [List.getElem?_set_ne (by omega)]
section SXEF
variable {xs : Option (List Int32)} {d mi pc pc2 idx p : Nat} {ls : sx_L} {r : List Value} {w w0 : List sx_C} {P : Option Value → List sx_C → Prop}
theorem sx_RP.pmtF {v : Int32} (hI : WI w) (hE : EF w0 w) (hi : sx_ins mi pc = some (.putfield idx, 3)) (hq : sx_lk (sx_fl (sx_own mi)) idx = some (6, 11, p)) (hf : sx_fin mi 6 11 = true) (hv : inR v 120) (hp : pc + 3 = pc2) (kk : ∀ w2, WI w2 → EF w0 w2 → fi w2 111 11 = v → sx_RP xs d mi pc2 ls r w2 P) : sx_RP xs d mi pc ls (.int v :: .ref 111 :: r) w P :=
  sx_RP.pmt hI hi hq hf hv hp (fun w2 h1 h2 h3 h4 => kk w2 h1 (hE.tr ⟨fun a ha => (h2 a (by omega)).1 ha, h4⟩) h3)
theorem sx_RP.mFT {i x : Int32} {n : Nat} (hI : WI w) (hE : EF w0 w) (hi : sx_ins mi pc = some (.iastore, 1)) (hw : w[121]? = some (.inl (0, ia w 121)) ∧ (ia w 121).length = n) (hn : sx_in i n = true) (hp : pc + 1 = pc2) (kk : ∀ w2, WI w2 → EF w0 w2 → fi w2 111 11 = fi w 111 11 → sx_RP xs d mi pc2 ls r w2 P) : sx_RP xs d mi pc ls (.int x :: .int i :: .ref 121 :: r) w P :=
  sx_RP.ist hi hw.1 hw.2 hn rfl rfl hp (kk _ (hI.set hw.1 sh_set (cOK.free (by omega))) (hE.set (by omega)) (fi_ne (by omega)))
theorem sx_RP.mFF {a : Nat} {i x : Int32} {n : Nat} (hI : WI w) (hE : EF w0 w) (hi : sx_ins mi pc = some (.iastore, 1)) (hw : w[a]? = some (.inl (0, ia w a)) ∧ (ia w a).length = n) (hn : sx_in i n = true) (hf : a = 116 ∨ a = 117 ∨ a = 119 ∨ a = 121 ∨ a = 122) (hp : pc + 1 = pc2) (kk : ∀ w2, WI w2 → EF w0 w2 → (∀ j, (ia w2 112).getD j 0 = (ia w 112).getD j 0) → sx_RP xs d mi pc2 ls r w2 P) : sx_RP xs d mi pc ls (.int x :: .int i :: .ref a :: r) w P :=
  sx_RP.ist hi hw.1 hw.2 hn rfl rfl hp (kk _ (hI.set hw.1 sh_set (cOK.free (by omega))) (hE.set (by omega)) (fun j => by rw [ia_ne (by omega)]))
theorem fd_m1 {x : Int32} : x + (-1) = x - 1 := (Int32.sub_eq_add_neg x 1).symm
theorem fd_s1 {k : Nat} : nI (k + 1) - 1 = nI k := by
  rw [show (1 : Int32) = nI 1 from rfl, nI_sub (by omega)]
  rfl
end SXEF
set_option maxRecDepth 20000 in
set_option maxHeartbeats 4000000 in
theorem s208L {xs : Option (List Int32)} {d : Nat} {w0 : List sx_C} (x : Int32) : ∀ (kz t : Nat) (w : List sx_C), t + kz ≤ 120 → fi w 111 11 = nI t → WI w → EF w0 w → sx_RP xs (d + 7) 208 36 [(0, .ref 111), (1, .int x), (3, .int (nI kz - 1))] [] w (fun r w2 => (∃ v : Int32, r = some (.int v)) ∧ WI w2 ∧ EF w0 w2)
  | 0, t, w, ht, et, hI, hE => by
    rw [show nI 0 - 1 = -1 from rfl]
    refine sx_RP.step (pc2 := 37) (ls2 := [(0, .ref 111), (1, .int x), (3, .int (-1))]) (st2 := [.int (-1)]) (w3 := w) rfl rfl ?_
    refine sx_RP.step (pc2 := 75) (ls2 := [(0, .ref 111), (1, .int x), (3, .int (-1))]) (st2 := []) (w3 := w) rfl rfl ?_
    refine sx_RP.step (pc2 := 76) (ls2 := [(0, .ref 111), (1, .int x), (3, .int (-1))]) (st2 := [.ref 111]) (w3 := w) rfl rfl ?_
    refine sx_RP.gf (v := .int (fi w 111 11)) rfl rfl hI.1.o111 rfl rfl (show _ = 79 from rfl) ?_
    obtain ⟨x1, hx2, ex3⟩ : inR (fi w 111 11) 120 := hI.m.2.1
    rw [ex3]
    refine sx_RP.ret (r := (some (.int (nI x1)))) rfl rfl ?_
    exact ⟨⟨_, rfl⟩, hI, hE⟩
  | kz + 1, t, w, ht, et, hI, hE => by
    rw [show nI (kz + 1) - 1 = nI kz from fd_s1]
    refine sx_RP.step (pc2 := 37) (ls2 := [(0, .ref 111), (1, .int x), (3, .int (nI kz))]) (st2 := [.int (nI kz)]) (w3 := w) rfl rfl ?_
    refine sx_RP.br (p2 := 40) (l2 := [(0, .ref 111), (1, .int x), (3, .int (nI kz))]) (s2 := []) (v2 := w) rfl rfl (fun q => absurd (of_decide_eq_true q) (nI_pos (by omega))) (fun _ => ?_)
    refine sx_RP.step (pc2 := 41) (ls2 := [(0, .ref 111), (1, .int x), (3, .int (nI kz))]) (st2 := [.ref 111]) (w3 := w) rfl rfl ?_
    refine sx_RP.gf (v := .ref 121) rfl rfl hI.1.o111 rfl rfl (show _ = 44 from rfl) ?_
    refine sx_RP.step (pc2 := 45) (ls2 := [(0, .ref 111), (1, .int x), (3, .int (nI kz))]) (st2 := [.ref 111, .ref 121]) (w3 := w) rfl rfl ?_
    refine sx_RP.gf (v := .int (fi w 111 11)) rfl rfl hI.1.o111 rfl rfl (show _ = 48 from rfl) ?_
    rw [et]
    refine sx_RP.step (pc2 := 49) (ls2 := [(0, .ref 111), (1, .int x), (3, .int (nI kz))]) (st2 := [.int x, .int (nI t), .ref 121]) (w3 := w) rfl rfl ?_
    refine sx_RP.step (pc2 := 51) (ls2 := [(0, .ref 111), (1, .int x), (3, .int (nI kz))]) (st2 := [.int 8, .int x, .int (nI t), .ref 121]) (w3 := w) rfl rfl ?_
    refine sx_RP.step (pc2 := 52) (ls2 := [(0, .ref 111), (1, .int x), (3, .int (nI kz))]) (st2 := [.int (nI kz), .int 8, .int x, .int (nI t), .ref 121]) (w3 := w) rfl rfl ?_
    refine sx_RP.step (pc2 := 53) (ls2 := [(0, .ref 111), (1, .int x), (3, .int (nI kz))]) (st2 := [.int (8 * (nI kz)), .int x, .int (nI t), .ref 121]) (w3 := w) rfl rfl ?_
    rw [show (8 * (nI kz) : Int32) = nI (8 * kz) from nI_mul 8 kz]
    refine sx_RP.step (pc2 := 54) (ls2 := [(0, .ref 111), (1, .int x), (3, .int (nI kz))]) (st2 := [.int (x >>> ((nI (8 * kz)) &&& 31)), .int (nI t), .ref 121]) (w3 := w) rfl rfl ?_
    refine sx_RP.step (pc2 := 57) (ls2 := [(0, .ref 111), (1, .int x), (3, .int (nI kz))]) (st2 := [.int 255, .int (x >>> ((nI (8 * kz)) &&& 31)), .int (nI t), .ref 121]) (w3 := w) rfl rfl ?_
    refine sx_RP.step (pc2 := 58) (ls2 := [(0, .ref 111), (1, .int x), (3, .int (nI kz))]) (st2 := [.int ((x >>> ((nI (8 * kz)) &&& 31)) &&& 255), .int (nI t), .ref 121]) (w3 := w) rfl rfl ?_
    refine sx_RP.mFT hI hE rfl hI.1.a121 (sx_in_nI (show t < 120 by omega) (by decide)) (show _ = 59 from rfl) (fun w1 hI2 hE3 ht4 => ?_)
    have ex5 := ht4.trans et
    refine sx_RP.step (pc2 := 60) (ls2 := [(0, .ref 111), (1, .int x), (3, .int (nI kz))]) (st2 := [.ref 111]) (w3 := w1) rfl rfl ?_
    refine sx_RP.step (pc2 := 61) (ls2 := [(0, .ref 111), (1, .int x), (3, .int (nI kz))]) (st2 := [.ref 111, .ref 111]) (w3 := w1) rfl rfl ?_
    refine sx_RP.gf (v := .int (fi w1 111 11)) rfl rfl hI2.1.o111 rfl rfl (show _ = 64 from rfl) ?_
    rw [ex5]
    refine sx_RP.step (pc2 := 65) (ls2 := [(0, .ref 111), (1, .int x), (3, .int (nI kz))]) (st2 := [.int 1, .int (nI t), .ref 111]) (w3 := w1) rfl rfl ?_
    refine sx_RP.step (pc2 := 66) (ls2 := [(0, .ref 111), (1, .int x), (3, .int (nI kz))]) (st2 := [.int ((nI t) + 1), .ref 111]) (w3 := w1) rfl rfl ?_
    rw [show ((nI t) + 1 : Int32) = nI (t + 1) from nI_add t 1]
    refine sx_RP.pmtF hI2 hE3 rfl rfl rfl ⟨(t + 1), by omega, rfl⟩ (show _ = 69 from rfl) (fun w6 hI7 hE8 ht9 => ?_)
    refine sx_RP.step (pc2 := 72) (ls2 := [(3, .int ((nI kz) + (-1))), (0, .ref 111), (1, .int x)]) (st2 := []) (w3 := w6) rfl rfl ?_
    refine sx_RP.step (pc2 := 36) (ls2 := [(3, .int ((nI kz) + (-1))), (0, .ref 111), (1, .int x)]) (st2 := []) (w3 := w6) rfl rfl ?_
    rw [fd_m1]
    exact sx_RP.ls (sx_lr.cons rfl (sx_lr.cons rfl (sx_lr.cons rfl sx_lr.nil))) (s208L x kz (t + 1) w6 (by omega) ht9 hI7 hE8)
set_option maxRecDepth 20000 in
set_option maxHeartbeats 4000000 in
theorem s208 {xs : Option (List Int32)} {d : Nat} {w : List sx_C} (hI : WI w) (a1 a2 : Int32) : sx_RP xs (d + 7) 208 0 (lv_args 0 [.ref 111, .int a1, .int a2]) [] w (fun r w2 => (∃ v : Int32, r = some (.int v)) ∧ WI w2 ∧ EF w w2) := by
  have hE : EF w w := EF.rf
  refine sx_RP.step (pc2 := 1) (ls2 := [(0, .ref 111), (1, .int a1), (2, .int a2)]) (st2 := [.int a2]) (w3 := w) rfl rfl ?_
  refine sx_RP.step (pc2 := 2) (ls2 := [(0, .ref 111), (1, .int a1), (2, .int a2)]) (st2 := [.int 1, .int a2]) (w3 := w) rfl rfl ?_
  refine sx_RP.step (pc2 := 3) (ls2 := [(0, .ref 111), (1, .int a1), (2, .int a2)]) (st2 := [.int 4, .int 1, .int a2]) (w3 := w) rfl rfl ?_
  rcases in_cases a2 1 4 (m := 1) (n := 4) rfl rfl (by decide) (by decide) with q1 | ⟨x2, hx3, hx4, rfl⟩
  · refine sx_RP.cu (as := [.int a2, .int 1, .int 4]) (rest2 := []) (st3 := [.int 0]) rfl rfl rfl rfl rfl (cx_132o q1) rfl ?_
    refine sx_RP.step (pc2 := 9) (ls2 := [(0, .ref 111), (1, .int a1), (2, .int a2)]) (st2 := []) (w3 := w) rfl rfl ?_
    refine sx_RP.step (pc2 := 10) (ls2 := [(0, .ref 111), (1, .int a1), (2, .int a2)]) (st2 := [.ref 111]) (w3 := w) rfl rfl ?_
    refine sx_RP.step (pc2 := 11) (ls2 := [(0, .ref 111), (1, .int a1), (2, .int a2)]) (st2 := [.int 0, .ref 111]) (w3 := w) rfl rfl ?_
    refine sx_RP.callp (as2 := [.ref 111, .int 0]) (rest2 := []) rfl rfl (sx_inv_v2 (mi := 208) (k := 70) (st := [.int 0, .ref 111]) (w := w) rfl rfl hI.1.o111 rfl rfl rfl) rfl rfl rfl (s133_0 hI) (show _ = 14 from rfl) ?_
    rintro r4 w6 ⟨rfl, hI7, hE9⟩
    have hE8 := hE.tr (hE9.ef hI hI7)
    show sx_RP _ _ _ _ _ [.int (-1000000001)] _ _
    refine sx_RP.ret (r := (some (.int (-1000000001)))) rfl rfl ?_
    exact ⟨⟨_, rfl⟩, hI7, hE8⟩
  · refine sx_RP.cu (as := [.int (nI x2), .int 1, .int 4]) (rest2 := []) (st3 := [.int 1]) rfl rfl rfl rfl rfl (cx_132p ⟨nI_le (a := 1) hx3 (by omega), nI_le (b := 4) hx4 (by decide)⟩) rfl ?_
    refine sx_RP.step (pc2 := 15) (ls2 := [(0, .ref 111), (1, .int a1), (2, .int (nI x2))]) (st2 := []) (w3 := w) rfl rfl ?_
    refine sx_RP.step (pc2 := 16) (ls2 := [(0, .ref 111), (1, .int a1), (2, .int (nI x2))]) (st2 := [.ref 111]) (w3 := w) rfl rfl ?_
    refine sx_RP.gf (v := .int (fi w 111 11)) rfl rfl hI.1.o111 rfl rfl (show _ = 19 from rfl) ?_
    obtain ⟨x10, hx11, ex12⟩ : inR (fi w 111 11) 120 := hI.m.2.1
    rw [ex12]
    refine sx_RP.step (pc2 := 20) (ls2 := [(0, .ref 111), (1, .int a1), (2, .int (nI x2))]) (st2 := [.int (nI x2), .int (nI x10)]) (w3 := w) rfl rfl ?_
    refine sx_RP.step (pc2 := 21) (ls2 := [(0, .ref 111), (1, .int a1), (2, .int (nI x2))]) (st2 := [.int ((nI x10) + (nI x2))]) (w3 := w) rfl rfl ?_
    rw [show ((nI x10) + (nI x2) : Int32) = nI (x10 + x2) from nI_add x10 x2]
    refine sx_RP.step (pc2 := 23) (ls2 := [(0, .ref 111), (1, .int a1), (2, .int (nI x2))]) (st2 := [.int 120, .int (nI (x10 + x2))]) (w3 := w) rfl rfl ?_
    refine sx_RP.br (p1 := 32) (l1 := [(0, .ref 111), (1, .int a1), (2, .int (nI x2))]) (s1 := []) (v1 := w) (p2 := 26) (l2 := [(0, .ref 111), (1, .int a1), (2, .int (nI x2))]) (s2 := []) (v2 := w) rfl rfl (fun q13 => ?_) (fun q13 => ?_)
    · replace q13 := of_decide_eq_true q13
      replace q13 := (nI_leI (a := (x10 + x2)) (b := 120) (by omega) (by omega)).mp q13
      refine sx_RP.step (pc2 := 33) (ls2 := [(0, .ref 111), (1, .int a1), (2, .int (nI x2))]) (st2 := [.int (nI x2)]) (w3 := w) rfl rfl ?_
      refine sx_RP.step (pc2 := 34) (ls2 := [(0, .ref 111), (1, .int a1), (2, .int (nI x2))]) (st2 := [.int 1, .int (nI x2)]) (w3 := w) rfl rfl ?_
      refine sx_RP.step (pc2 := 35) (ls2 := [(0, .ref 111), (1, .int a1), (2, .int (nI x2))]) (st2 := [.int ((nI x2) - 1)]) (w3 := w) rfl rfl ?_
      refine sx_RP.step (pc2 := 36) (ls2 := [(3, .int ((nI x2) - 1)), (0, .ref 111), (1, .int a1), (2, .int (nI x2))]) (st2 := []) (w3 := w) rfl rfl ?_
      exact sx_RP.ls (sx_lr.cons rfl (sx_lr.cons rfl (sx_lr.cons rfl sx_lr.nil))) (s208L a1 x2 x10 w (by omega) ex12 hI hE)
    · replace q13 := of_decide_eq_false q13
      replace q13 := mt (nI_leI (a := (x10 + x2)) (b := 120) (by omega) (by omega)).mpr q13
      refine sx_RP.step (pc2 := 27) (ls2 := [(0, .ref 111), (1, .int a1), (2, .int (nI x2))]) (st2 := [.ref 111]) (w3 := w) rfl rfl ?_
      refine sx_RP.step (pc2 := 28) (ls2 := [(0, .ref 111), (1, .int a1), (2, .int (nI x2))]) (st2 := [.int 1, .ref 111]) (w3 := w) rfl rfl ?_
      refine sx_RP.callp (as2 := [.ref 111, .int 1]) (rest2 := []) rfl rfl (sx_inv_v2 (mi := 208) (k := 70) (st := [.int 1, .ref 111]) (w := w) rfl rfl hI.1.o111 rfl rfl rfl) rfl rfl rfl (s133_1 hI) (show _ = 31 from rfl) ?_
      rintro r4 w14 ⟨rfl, hI15, hE17⟩
      have hE16 := hE.tr (hE17.ef hI hI15)
      show sx_RP _ _ _ _ _ [.int (-1000000002)] _ _
      refine sx_RP.ret (r := (some (.int (-1000000002)))) rfl rfl ?_
      exact ⟨⟨_, rfl⟩, hI15, hE16⟩
end
