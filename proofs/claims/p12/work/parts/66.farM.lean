-- safety: far, comes, peas, meets of the reference
/-- behind walks by sound -/
def wOK (w : List sx_C) (src : Nat) (w2 : List sx_C) : Prop := ia w2 112 = ia w 112 ∧ wA (ia w 112) src 1000 (ia w2 117) ∧ ∀ c, c < 48 → (ia w2 117).getD c 0 ≠ -1
theorem wOK.at {w w2 : List sx_C} {src c : Nat} (h : wOK w src w2) (hc : c < 48) : inR ((ia w2 117).getD c 0) 1000 := by
  rcases h.2.1 c hc with e | ⟨v, h1, h2, _⟩
  · exact absurd e (h.2.2 c hc)
  · exact ⟨v, h1, h2⟩
theorem s141t {xs : Option (List Int32)} {d : Nat} {w : List sx_C} (hI : WI w) {src : Nat} (hs : src < 48) : sx_RP xs (d + 1) 141 0 (lv_args 0 [.ref 111, .int (nI src), .int (-1)]) [] w (fun r w2 => (r = none ∧ wOK w src w2) ∧ WI w2 ∧ EM w w2) := by
  obtain ⟨r, w2, h, h1, h2, h3, h4⟩ := s141s (xs := xs) (d := d) hI hs
  exact ⟨r, w2, h, ⟨h1, h4⟩, h2, h3⟩
theorem nI_n0 {c : Nat} (h : c < 2 ^ 31) (h0 : 0 < c) : ¬ nI c = 0 := fun e => by
  have := (nI_eq (a := c) (b := 0) h (by omega)).mp e
  omega
set_option maxRecDepth 20000 in
set_option maxHeartbeats 4000000 in
theorem s140 {xs : Option (List Int32)} {d : Nat} {w : List sx_C} (hI : WI w) (a1 a2 : Int32) : sx_RP xs (d + 7) 140 0 (lv_args 0 [.ref 111, .int a1, .int a2]) [] w (fun r w2 => (∃ v : Int32, r = some (.int v)) ∧ WI w2 ∧ EM w w2) := by
  have hE : EM w w := EM.rf
  refine sx_RP.step (pc2 := 1) (ls2 := [(0, .ref 111), (1, .int a1), (2, .int a2)]) (st2 := [.int a1]) (w3 := w) rfl rfl ?_
  rcases in_cases a1 0 47 (m := 0) (n := 47) rfl rfl (by decide) (by decide) with q1 | ⟨x2, hx3, hx4, rfl⟩
  · refine sx_RP.cu (as := [.int a1]) (rest2 := []) (st3 := [.int 0]) rfl rfl rfl rfl rfl (cx_131n q1) rfl ?_
    refine sx_RP.step (pc2 := 14) (ls2 := [(0, .ref 111), (1, .int a1), (2, .int a2)]) (st2 := []) (w3 := w) rfl rfl ?_
    refine sx_RP.step (pc2 := 15) (ls2 := [(0, .ref 111), (1, .int a1), (2, .int a2)]) (st2 := [.ref 111]) (w3 := w) rfl rfl ?_
    refine sx_RP.step (pc2 := 16) (ls2 := [(0, .ref 111), (1, .int a1), (2, .int a2)]) (st2 := [.int 0, .ref 111]) (w3 := w) rfl rfl ?_
    refine sx_RP.callp (as2 := [.ref 111, .int 0]) (rest2 := []) rfl rfl (sx_inv_v2 (mi := 140) (k := 70) (st := [.int 0, .ref 111]) (w := w) rfl rfl hI.1.o111 rfl rfl rfl) rfl rfl rfl (s133_0 hI) (show _ = 19 from rfl) ?_
    rintro r4 w6 ⟨rfl, hI7, hE9⟩
    have hE8 := hE.tr (hE9)
    show sx_RP _ _ _ _ _ [.int (-1000000001)] _ _
    refine sx_RP.ret (r := (some (.int (-1000000001)))) rfl rfl ?_
    exact ⟨⟨_, rfl⟩, hI7, hE8⟩
  · refine sx_RP.cu (as := [.int (nI x2)]) (rest2 := []) (st3 := [.int 1]) rfl rfl rfl rfl rfl (cx_131p ⟨nI_le (a := 0) hx3 (by omega), nI_le (b := 47) hx4 (by decide)⟩) rfl ?_
    refine sx_RP.step (pc2 := 7) (ls2 := [(0, .ref 111), (1, .int (nI x2)), (2, .int a2)]) (st2 := []) (w3 := w) rfl rfl ?_
    refine sx_RP.step (pc2 := 8) (ls2 := [(0, .ref 111), (1, .int (nI x2)), (2, .int a2)]) (st2 := [.int a2]) (w3 := w) rfl rfl ?_
    rcases in_cases a2 0 47 (m := 0) (n := 47) rfl rfl (by decide) (by decide) with q10 | ⟨x11, hx12, hx13, rfl⟩
    · refine sx_RP.cu (as := [.int a2]) (rest2 := []) (st3 := [.int 0]) rfl rfl rfl rfl rfl (cx_131n q10) rfl ?_
      refine sx_RP.step (pc2 := 14) (ls2 := [(0, .ref 111), (1, .int (nI x2)), (2, .int a2)]) (st2 := []) (w3 := w) rfl rfl ?_
      refine sx_RP.step (pc2 := 15) (ls2 := [(0, .ref 111), (1, .int (nI x2)), (2, .int a2)]) (st2 := [.ref 111]) (w3 := w) rfl rfl ?_
      refine sx_RP.step (pc2 := 16) (ls2 := [(0, .ref 111), (1, .int (nI x2)), (2, .int a2)]) (st2 := [.int 0, .ref 111]) (w3 := w) rfl rfl ?_
      refine sx_RP.callp (as2 := [.ref 111, .int 0]) (rest2 := []) rfl rfl (sx_inv_v2 (mi := 140) (k := 70) (st := [.int 0, .ref 111]) (w := w) rfl rfl hI.1.o111 rfl rfl rfl) rfl rfl rfl (s133_0 hI) (show _ = 19 from rfl) ?_
      rintro r4 w15 ⟨rfl, hI16, hE18⟩
      have hE17 := hE.tr (hE18)
      show sx_RP _ _ _ _ _ [.int (-1000000001)] _ _
      refine sx_RP.ret (r := (some (.int (-1000000001)))) rfl rfl ?_
      exact ⟨⟨_, rfl⟩, hI16, hE17⟩
    · refine sx_RP.cu (as := [.int (nI x11)]) (rest2 := []) (st3 := [.int 1]) rfl rfl rfl rfl rfl (cx_131p ⟨nI_le (a := 0) hx12 (by omega), nI_le (b := 47) hx13 (by decide)⟩) rfl ?_
      refine sx_RP.step (pc2 := 20) (ls2 := [(0, .ref 111), (1, .int (nI x2)), (2, .int (nI x11))]) (st2 := []) (w3 := w) rfl rfl ?_
      refine sx_RP.step (pc2 := 21) (ls2 := [(0, .ref 111), (1, .int (nI x2)), (2, .int (nI x11))]) (st2 := [.ref 111]) (w3 := w) rfl rfl ?_
      refine sx_RP.step (pc2 := 22) (ls2 := [(0, .ref 111), (1, .int (nI x2)), (2, .int (nI x11))]) (st2 := [.int (nI x2), .ref 111]) (w3 := w) rfl rfl ?_
      refine sx_RP.step (pc2 := 23) (ls2 := [(0, .ref 111), (1, .int (nI x2)), (2, .int (nI x11))]) (st2 := [.int (-1), .int (nI x2), .ref 111]) (w3 := w) rfl rfl ?_
      refine sx_RP.callp (as2 := [.ref 111, .int (nI x2), .int (-1)]) (rest2 := []) rfl rfl (sx_inv_v2 (mi := 140) (k := 94) (st := [.int (-1), .int (nI x2), .ref 111]) (w := w) rfl rfl hI.1.o111 rfl rfl rfl) rfl rfl rfl (s141t hI (show x2 < 48 by omega)) (show _ = 26 from rfl) ?_
      rintro r4 w20 ⟨⟨rfl, hw19⟩, hI21, hE23⟩
      have hE22 := hE.tr (hE23)
      show sx_RP _ _ _ _ _ [] _ _
      refine sx_RP.step (pc2 := 27) (ls2 := [(0, .ref 111), (1, .int (nI x2)), (2, .int (nI x11))]) (st2 := [.ref 111]) (w3 := w20) rfl rfl ?_
      refine sx_RP.gf (v := .ref 117) rfl rfl hI21.1.o111 rfl rfl (show _ = 30 from rfl) ?_
      refine sx_RP.step (pc2 := 31) (ls2 := [(0, .ref 111), (1, .int (nI x2)), (2, .int (nI x11))]) (st2 := [.int (nI x11), .ref 117]) (w3 := w20) rfl rfl ?_
      refine sx_RP.ild (c := x11) rfl hI21.1.a117.1 hI21.1.a117.2 (sx_in_nI (show x11 < 48 by omega) (by decide)) (show (nI x11).toNatClampNeg = x11 from nI_clamp (by omega)) (show _ = 32 from rfl) ?_
      obtain ⟨x24, hx25, ex26⟩ : inR ((ia w20 117).getD x11 0) 1000 := hw19.at (show x11 < 48 by omega)
      rw [ex26]
      refine sx_RP.ret (r := (some (.int (nI x24)))) rfl rfl ?_
      exact ⟨⟨_, rfl⟩, hI21, hE22⟩
set_option maxRecDepth 20000 in
set_option maxHeartbeats 4000000 in
theorem s179 {xs : Option (List Int32)} {d : Nat} {w : List sx_C} (hI : WI w) (a1 a2 : Int32) : sx_RP xs (d + 7) 179 0 (lv_args 0 [.ref 111, .int a1, .int a2]) [] w (fun r w2 => (∃ v : Int32, r = some (.int v)) ∧ WI w2 ∧ EM w w2) := by
  have hE : EM w w := EM.rf
  refine sx_RP.step (pc2 := 1) (ls2 := [(0, .ref 111), (1, .int a1), (2, .int a2)]) (st2 := [.ref 111]) (w3 := w) rfl rfl ?_
  refine sx_RP.step (pc2 := 2) (ls2 := [(0, .ref 111), (1, .int a1), (2, .int a2)]) (st2 := [.int a1, .ref 111]) (w3 := w) rfl rfl ?_
  rcases p156 (xs := xs) hI a1 with c2 | ⟨⟨x3, hx4, rfl⟩, c2⟩
  · refine sx_RP.cu (as := [.ref 111, .int a1]) (rest2 := []) (st3 := [.int 0]) rfl rfl (sx_inv_v2 (mi := 179) (k := 124) (st := [.int a1, .ref 111]) (w := w) rfl rfl hI.1.o111 rfl rfl rfl) rfl rfl (c2) rfl ?_
    refine sx_RP.step (pc2 := 15) (ls2 := [(0, .ref 111), (1, .int a1), (2, .int a2)]) (st2 := []) (w3 := w) rfl rfl ?_
    refine sx_RP.step (pc2 := 16) (ls2 := [(0, .ref 111), (1, .int a1), (2, .int a2)]) (st2 := [.ref 111]) (w3 := w) rfl rfl ?_
    refine sx_RP.step (pc2 := 17) (ls2 := [(0, .ref 111), (1, .int a1), (2, .int a2)]) (st2 := [.int 0, .ref 111]) (w3 := w) rfl rfl ?_
    refine sx_RP.callp (as2 := [.ref 111, .int 0]) (rest2 := []) rfl rfl (sx_inv_v2 (mi := 179) (k := 70) (st := [.int 0, .ref 111]) (w := w) rfl rfl hI.1.o111 rfl rfl rfl) rfl rfl rfl (s133_0 hI) (show _ = 20 from rfl) ?_
    rintro r4 w6 ⟨rfl, hI7, hE9⟩
    have hE8 := hE.tr (hE9)
    show sx_RP _ _ _ _ _ [.int (-1000000001)] _ _
    refine sx_RP.ret (r := (some (.int (-1000000001)))) rfl rfl ?_
    exact ⟨⟨_, rfl⟩, hI7, hE8⟩
  · refine sx_RP.cu (as := [.ref 111, .int (nI x3)]) (rest2 := []) (st3 := [.int 1]) rfl rfl (sx_inv_v2 (mi := 179) (k := 124) (st := [.int (nI x3), .ref 111]) (w := w) rfl rfl hI.1.o111 rfl rfl rfl) rfl rfl (c2) rfl ?_
    refine sx_RP.step (pc2 := 8) (ls2 := [(0, .ref 111), (1, .int (nI x3)), (2, .int a2)]) (st2 := []) (w3 := w) rfl rfl ?_
    refine sx_RP.step (pc2 := 9) (ls2 := [(0, .ref 111), (1, .int (nI x3)), (2, .int a2)]) (st2 := [.int a2]) (w3 := w) rfl rfl ?_
    rcases in_cases a2 0 47 (m := 0) (n := 47) rfl rfl (by decide) (by decide) with q10 | ⟨x11, hx12, hx13, rfl⟩
    · refine sx_RP.cu (as := [.int a2]) (rest2 := []) (st3 := [.int 0]) rfl rfl rfl rfl rfl (cx_131n q10) rfl ?_
      refine sx_RP.step (pc2 := 15) (ls2 := [(0, .ref 111), (1, .int (nI x3)), (2, .int a2)]) (st2 := []) (w3 := w) rfl rfl ?_
      refine sx_RP.step (pc2 := 16) (ls2 := [(0, .ref 111), (1, .int (nI x3)), (2, .int a2)]) (st2 := [.ref 111]) (w3 := w) rfl rfl ?_
      refine sx_RP.step (pc2 := 17) (ls2 := [(0, .ref 111), (1, .int (nI x3)), (2, .int a2)]) (st2 := [.int 0, .ref 111]) (w3 := w) rfl rfl ?_
      refine sx_RP.callp (as2 := [.ref 111, .int 0]) (rest2 := []) rfl rfl (sx_inv_v2 (mi := 179) (k := 70) (st := [.int 0, .ref 111]) (w := w) rfl rfl hI.1.o111 rfl rfl rfl) rfl rfl rfl (s133_0 hI) (show _ = 20 from rfl) ?_
      rintro r4 w15 ⟨rfl, hI16, hE18⟩
      have hE17 := hE.tr (hE18)
      show sx_RP _ _ _ _ _ [.int (-1000000001)] _ _
      refine sx_RP.ret (r := (some (.int (-1000000001)))) rfl rfl ?_
      exact ⟨⟨_, rfl⟩, hI16, hE17⟩
    · refine sx_RP.cu (as := [.int (nI x11)]) (rest2 := []) (st3 := [.int 1]) rfl rfl rfl rfl rfl (cx_131p ⟨nI_le (a := 0) hx12 (by omega), nI_le (b := 47) hx13 (by decide)⟩) rfl ?_
      refine sx_RP.step (pc2 := 21) (ls2 := [(0, .ref 111), (1, .int (nI x3)), (2, .int (nI x11))]) (st2 := []) (w3 := w) rfl rfl ?_
      refine sx_RP.step (pc2 := 22) (ls2 := [(0, .ref 111), (1, .int (nI x3)), (2, .int (nI x11))]) (st2 := [.ref 111]) (w3 := w) rfl rfl ?_
      refine sx_RP.step (pc2 := 23) (ls2 := [(0, .ref 111), (1, .int (nI x3)), (2, .int (nI x11))]) (st2 := [.int (nI x3), .ref 111]) (w3 := w) rfl rfl ?_
      obtain ⟨x19, hx20, c21⟩ := p137 hI (show x3 < 10 by omega)
      refine sx_RP.cu (as := [.ref 111, .int (nI x3)]) (rest2 := []) (st3 := [.int (nI x19)]) rfl rfl (sx_inv_v2 (mi := 179) (k := 74) (st := [.int (nI x3), .ref 111]) (w := w) rfl rfl hI.1.o111 rfl rfl rfl) rfl rfl (c21) rfl ?_
      refine sx_RP.br (p1 := 38) (l1 := [(0, .ref 111), (1, .int (nI x3)), (2, .int (nI x11))]) (s1 := []) (v1 := w) (p2 := 29) (l2 := [(0, .ref 111), (1, .int (nI x3)), (2, .int (nI x11))]) (s2 := []) (v2 := w) rfl rfl (fun q22 => ?_) (fun q22 => ?_)
      · replace q22 := of_decide_eq_true q22
        replace q22 := (nI_eq (a := x19) (b := 0) (by omega) (by omega)).mp q22
        refine sx_RP.step (pc2 := 39) (ls2 := [(0, .ref 111), (1, .int (nI x3)), (2, .int (nI x11))]) (st2 := [.ref 111]) (w3 := w) rfl rfl ?_
        refine sx_RP.step (pc2 := 40) (ls2 := [(0, .ref 111), (1, .int (nI x3)), (2, .int (nI x11))]) (st2 := [.int 4, .ref 111]) (w3 := w) rfl rfl ?_
        refine sx_RP.callp (as2 := [.ref 111, .int 4]) (rest2 := []) rfl rfl (sx_inv_v2 (mi := 179) (k := 70) (st := [.int 4, .ref 111]) (w := w) rfl rfl hI.1.o111 rfl rfl rfl) rfl rfl rfl (s133_4 hI) (show _ = 43 from rfl) ?_
        rintro r4 w23 ⟨rfl, hI24, hE26⟩
        have hE25 := hE.tr (hE26)
        show sx_RP _ _ _ _ _ [.int (-1000000005)] _ _
        refine sx_RP.ret (r := (some (.int (-1000000005)))) rfl rfl ?_
        exact ⟨⟨_, rfl⟩, hI24, hE25⟩
      · replace q22 := of_decide_eq_false q22
        replace q22 := mt (nI_eq (a := x19) (b := 0) (by omega) (by omega)).mpr q22
        refine sx_RP.step (pc2 := 30) (ls2 := [(0, .ref 111), (1, .int (nI x3)), (2, .int (nI x11))]) (st2 := [.ref 111]) (w3 := w) rfl rfl ?_
        refine sx_RP.step (pc2 := 31) (ls2 := [(0, .ref 111), (1, .int (nI x3)), (2, .int (nI x11))]) (st2 := [.int (nI x3), .ref 111]) (w3 := w) rfl rfl ?_
        refine sx_RP.step (pc2 := 32) (ls2 := [(0, .ref 111), (1, .int (nI x3)), (2, .int (nI x11))]) (st2 := [.int 1, .int (nI x3), .ref 111]) (w3 := w) rfl rfl ?_
        obtain ⟨x27, hx28, c29⟩ := p138_1 hI (show x3 < 10 by omega)
        refine sx_RP.cu (as := [.ref 111, .int (nI x3), .int 1]) (rest2 := []) (st3 := [.int (nI x27)]) rfl rfl (sx_inv_v2 (mi := 179) (k := 59) (st := [.int 1, .int (nI x3), .ref 111]) (w := w) rfl rfl hI.1.o111 rfl rfl rfl) rfl rfl (c29) rfl ?_
        refine sx_RP.br (p1 := 44) (l1 := [(0, .ref 111), (1, .int (nI x3)), (2, .int (nI x11))]) (s1 := []) (v1 := w) (p2 := 38) (l2 := [(0, .ref 111), (1, .int (nI x3)), (2, .int (nI x11))]) (s2 := []) (v2 := w) rfl rfl (fun q30 => ?_) (fun q30 => ?_)
        · replace q30 := of_decide_eq_true q30
          replace q30 := mt (nI_eq (a := x27) (b := 0) (by omega) (by omega)).mpr q30
          refine sx_RP.step (pc2 := 45) (ls2 := [(0, .ref 111), (1, .int (nI x3)), (2, .int (nI x11))]) (st2 := [.ref 111]) (w3 := w) rfl rfl ?_
          refine sx_RP.step (pc2 := 46) (ls2 := [(0, .ref 111), (1, .int (nI x3)), (2, .int (nI x11))]) (st2 := [.ref 111, .ref 111]) (w3 := w) rfl rfl ?_
          refine sx_RP.step (pc2 := 47) (ls2 := [(0, .ref 111), (1, .int (nI x3)), (2, .int (nI x11))]) (st2 := [.int (nI x3), .ref 111, .ref 111]) (w3 := w) rfl rfl ?_
          refine sx_RP.step (pc2 := 48) (ls2 := [(0, .ref 111), (1, .int (nI x3)), (2, .int (nI x11))]) (st2 := [.int 2, .int (nI x3), .ref 111, .ref 111]) (w3 := w) rfl rfl ?_
          obtain ⟨x31, hx32, c33⟩ := p138_2 hI (show x3 < 10 by omega)
          refine sx_RP.cu (as := [.ref 111, .int (nI x3), .int 2]) (rest2 := [.ref 111]) (st3 := [.int (nI x31), .ref 111]) rfl rfl (sx_inv_v2 (mi := 179) (k := 59) (st := [.int 2, .int (nI x3), .ref 111, .ref 111]) (w := w) rfl rfl hI.1.o111 rfl rfl rfl) rfl rfl (c33) rfl ?_
          refine sx_RP.step (pc2 := 52) (ls2 := [(0, .ref 111), (1, .int (nI x3)), (2, .int (nI x11))]) (st2 := [.int (nI x3), .int (nI x31), .ref 111]) (w3 := w) rfl rfl ?_
          refine sx_RP.callp (as2 := [.ref 111, .int (nI x31), .int (nI x3)]) (rest2 := []) rfl rfl (sx_inv_v2 (mi := 179) (k := 94) (st := [.int (nI x3), .int (nI x31), .ref 111]) (w := w) rfl rfl hI.1.o111 rfl rfl rfl) rfl rfl rfl (s141d hI (show x31 < 48 by omega) (show x3 < 10 by omega)) (show _ = 55 from rfl) ?_
          rintro r4 w34 ⟨rfl, hI35, hE37⟩
          have hE36 := hE.tr (hE37)
          show sx_RP _ _ _ _ _ [] _ _
          refine sx_RP.step (pc2 := 56) (ls2 := [(0, .ref 111), (1, .int (nI x3)), (2, .int (nI x11))]) (st2 := [.ref 111]) (w3 := w34) rfl rfl ?_
          refine sx_RP.gf (v := .ref 117) rfl rfl hI35.1.o111 rfl rfl (show _ = 59 from rfl) ?_
          refine sx_RP.step (pc2 := 60) (ls2 := [(0, .ref 111), (1, .int (nI x3)), (2, .int (nI x11))]) (st2 := [.int (nI x11), .ref 117]) (w3 := w34) rfl rfl ?_
          refine sx_RP.ild (c := x11) rfl hI35.1.a117.1 hI35.1.a117.2 (sx_in_nI (show x11 < 48 by omega) (by decide)) (show (nI x11).toNatClampNeg = x11 from nI_clamp (by omega)) (show _ = 61 from rfl) ?_
          refine sx_RP.br (p1 := 72) (l1 := [(0, .ref 111), (1, .int (nI x3)), (2, .int (nI x11))]) (s1 := []) (v1 := w34) (p2 := 64) (l2 := [(0, .ref 111), (1, .int (nI x3)), (2, .int (nI x11))]) (s2 := []) (v2 := w34) rfl rfl (fun q38 => ?_) (fun q38 => ?_)
          · replace q38 := of_decide_eq_true q38
            refine sx_RP.step (pc2 := 73) (ls2 := [(0, .ref 111), (1, .int (nI x3)), (2, .int (nI x11))]) (st2 := [.ref 111]) (w3 := w34) rfl rfl ?_
            refine sx_RP.gf (v := .ref 117) rfl rfl hI35.1.o111 rfl rfl (show _ = 76 from rfl) ?_
            refine sx_RP.step (pc2 := 77) (ls2 := [(0, .ref 111), (1, .int (nI x3)), (2, .int (nI x11))]) (st2 := [.int (nI x11), .ref 117]) (w3 := w34) rfl rfl ?_
            refine sx_RP.ild (c := x11) rfl hI35.1.a117.1 hI35.1.a117.2 (sx_in_nI (show x11 < 48 by omega) (by decide)) (show (nI x11).toNatClampNeg = x11 from nI_clamp (by omega)) (show _ = 78 from rfl) ?_
            refine sx_RP.ret (r := (some (.int ((ia w34 117).getD x11 0)))) rfl rfl ?_
            exact ⟨⟨_, rfl⟩, hI35, hE36⟩
          · replace q38 := of_decide_eq_false q38
            refine sx_RP.step (pc2 := 65) (ls2 := [(0, .ref 111), (1, .int (nI x3)), (2, .int (nI x11))]) (st2 := [.ref 111]) (w3 := w34) rfl rfl ?_
            refine sx_RP.step (pc2 := 66) (ls2 := [(0, .ref 111), (1, .int (nI x3)), (2, .int (nI x11))]) (st2 := [.int 3, .ref 111]) (w3 := w34) rfl rfl ?_
            refine sx_RP.callp (as2 := [.ref 111, .int 3]) (rest2 := []) rfl rfl (sx_inv_v2 (mi := 179) (k := 70) (st := [.int 3, .ref 111]) (w := w34) rfl rfl hI35.1.o111 rfl rfl rfl) rfl rfl rfl (s133_3 hI35) (show _ = 69 from rfl) ?_
            rintro r4 w39 ⟨rfl, hI40, hE42⟩
            have hE41 := hE36.tr (hE42)
            show sx_RP _ _ _ _ _ [.int (-1000000004)] _ _
            refine sx_RP.step (pc2 := 78) (ls2 := [(0, .ref 111), (1, .int (nI x3)), (2, .int (nI x11))]) (st2 := [.int (-1000000004)]) (w3 := w39) rfl rfl ?_
            refine sx_RP.ret (r := (some (.int (-1000000004)))) rfl rfl ?_
            exact ⟨⟨_, rfl⟩, hI40, hE41⟩
        · replace q30 := Decidable.not_not.mp (of_decide_eq_false q30)
          replace q30 := (nI_eq (a := x27) (b := 0) (by omega) (by omega)).mp q30
          refine sx_RP.step (pc2 := 39) (ls2 := [(0, .ref 111), (1, .int (nI x3)), (2, .int (nI x11))]) (st2 := [.ref 111]) (w3 := w) rfl rfl ?_
          refine sx_RP.step (pc2 := 40) (ls2 := [(0, .ref 111), (1, .int (nI x3)), (2, .int (nI x11))]) (st2 := [.int 4, .ref 111]) (w3 := w) rfl rfl ?_
          refine sx_RP.callp (as2 := [.ref 111, .int 4]) (rest2 := []) rfl rfl (sx_inv_v2 (mi := 179) (k := 70) (st := [.int 4, .ref 111]) (w := w) rfl rfl hI.1.o111 rfl rfl rfl) rfl rfl rfl (s133_4 hI) (show _ = 43 from rfl) ?_
          rintro r4 w43 ⟨rfl, hI44, hE46⟩
          have hE45 := hE.tr (hE46)
          show sx_RP _ _ _ _ _ [.int (-1000000005)] _ _
          refine sx_RP.ret (r := (some (.int (-1000000005)))) rfl rfl ?_
          exact ⟨⟨_, rfl⟩, hI44, hE45⟩
set_option maxRecDepth 20000 in
set_option maxHeartbeats 4000000 in
theorem s190 {xs : Option (List Int32)} {d : Nat} {w : List sx_C} (hI : WI w) {c g : Nat} (hc : c < 48) (hg : g < 10) : sx_RP xs (d + 3) 190 0 (lv_args 0 [.ref 111, .int (nI c), .int (nI g)]) [] w (fun r w2 => (∃ v : Int32, r = some (.int v)) ∧ WI w2 ∧ EM w w2) := by
  have hE : EM w w := EM.rf
  refine sx_RP.step (pc2 := 1) (ls2 := [(0, .ref 111), (1, .int (nI c)), (2, .int (nI g))]) (st2 := [.ref 111]) (w3 := w) rfl rfl ?_
  refine sx_RP.step (pc2 := 2) (ls2 := [(0, .ref 111), (1, .int (nI c)), (2, .int (nI g))]) (st2 := [.int (nI g), .ref 111]) (w3 := w) rfl rfl ?_
  refine sx_RP.step (pc2 := 3) (ls2 := [(0, .ref 111), (1, .int (nI c)), (2, .int (nI g))]) (st2 := [.int 0, .int (nI g), .ref 111]) (w3 := w) rfl rfl ?_
  obtain ⟨x1, hx2, c3⟩ := p181 hI (show g < 10 by omega) 0
  refine sx_RP.cu (as := [.ref 111, .int (nI g), .int 0]) (rest2 := []) (st3 := [.int (nI x1)]) rfl rfl (sx_inv_v2 (mi := 190) (k := 165) (st := [.int 0, .int (nI g), .ref 111]) (w := w) rfl rfl hI.1.o111 rfl rfl rfl) rfl rfl (c3) rfl ?_
  refine sx_RP.br (p1 := 11) (l1 := [(0, .ref 111), (1, .int (nI c)), (2, .int (nI g))]) (s1 := []) (v1 := w) (p2 := 9) (l2 := [(0, .ref 111), (1, .int (nI c)), (2, .int (nI g))]) (s2 := []) (v2 := w) rfl rfl (fun q4 => ?_) (fun q4 => ?_)
  · replace q4 := of_decide_eq_true q4
    replace q4 := mt (nI_eq (a := x1) (b := 0) (by omega) (by omega)).mpr q4
    refine sx_RP.step (pc2 := 12) (ls2 := [(0, .ref 111), (1, .int (nI c)), (2, .int (nI g))]) (st2 := [.ref 111]) (w3 := w) rfl rfl ?_
    refine sx_RP.step (pc2 := 13) (ls2 := [(0, .ref 111), (1, .int (nI c)), (2, .int (nI g))]) (st2 := [.int (nI g), .ref 111]) (w3 := w) rfl rfl ?_
    refine sx_RP.step (pc2 := 14) (ls2 := [(0, .ref 111), (1, .int (nI c)), (2, .int (nI g))]) (st2 := [.int 2, .int (nI g), .ref 111]) (w3 := w) rfl rfl ?_
    obtain ⟨x5, hx6, c7⟩ := p138_2 hI (show g < 10 by omega)
    refine sx_RP.cu (as := [.ref 111, .int (nI g), .int 2]) (rest2 := []) (st3 := [.int (nI x5)]) rfl rfl (sx_inv_v2 (mi := 190) (k := 59) (st := [.int 2, .int (nI g), .ref 111]) (w := w) rfl rfl hI.1.o111 rfl rfl rfl) rfl rfl (c7) rfl ?_
    refine sx_RP.step (pc2 := 18) (ls2 := [(3, .int (nI x5)), (0, .ref 111), (1, .int (nI c)), (2, .int (nI g))]) (st2 := []) (w3 := w) rfl rfl ?_
    refine sx_RP.step (pc2 := 19) (ls2 := [(3, .int (nI x5)), (0, .ref 111), (1, .int (nI c)), (2, .int (nI g))]) (st2 := [.ref 111]) (w3 := w) rfl rfl ?_
    refine sx_RP.step (pc2 := 20) (ls2 := [(3, .int (nI x5)), (0, .ref 111), (1, .int (nI c)), (2, .int (nI g))]) (st2 := [.int (nI x5), .ref 111]) (w3 := w) rfl rfl ?_
    refine sx_RP.step (pc2 := 21) (ls2 := [(3, .int (nI x5)), (0, .ref 111), (1, .int (nI c)), (2, .int (nI g))]) (st2 := [.int (-1), .int (nI x5), .ref 111]) (w3 := w) rfl rfl ?_
    refine sx_RP.callp (as2 := [.ref 111, .int (nI x5), .int (-1)]) (rest2 := []) rfl rfl (sx_inv_v2 (mi := 190) (k := 94) (st := [.int (-1), .int (nI x5), .ref 111]) (w := w) rfl rfl hI.1.o111 rfl rfl rfl) rfl rfl rfl (s141t hI (show x5 < 48 by omega)) (show _ = 24 from rfl) ?_
    rintro r4 w9 ⟨⟨rfl, hw8⟩, hI10, hE12⟩
    have hE11 := hE.tr (hE12)
    show sx_RP _ _ _ _ _ [] _ _
    refine sx_RP.step (pc2 := 25) (ls2 := [(3, .int (nI x5)), (0, .ref 111), (1, .int (nI c)), (2, .int (nI g))]) (st2 := [.ref 111]) (w3 := w9) rfl rfl ?_
    refine sx_RP.step (pc2 := 26) (ls2 := [(3, .int (nI x5)), (0, .ref 111), (1, .int (nI c)), (2, .int (nI g))]) (st2 := [.ref 111, .ref 111]) (w3 := w9) rfl rfl ?_
    refine sx_RP.step (pc2 := 27) (ls2 := [(3, .int (nI x5)), (0, .ref 111), (1, .int (nI c)), (2, .int (nI g))]) (st2 := [.int (nI g), .ref 111, .ref 111]) (w3 := w9) rfl rfl ?_
    refine sx_RP.step (pc2 := 28) (ls2 := [(3, .int (nI x5)), (0, .ref 111), (1, .int (nI c)), (2, .int (nI g))]) (st2 := [.int 0, .int (nI g), .ref 111, .ref 111]) (w3 := w9) rfl rfl ?_
    obtain ⟨x13, hx14, c15⟩ := p138_0 hI10 (show g < 10 by omega)
    refine sx_RP.cu (as := [.ref 111, .int (nI g), .int 0]) (rest2 := [.ref 111]) (st3 := [.int (nI x13), .ref 111]) rfl rfl (sx_inv_v2 (mi := 190) (k := 59) (st := [.int 0, .int (nI g), .ref 111, .ref 111]) (w := w9) rfl rfl hI10.1.o111 rfl rfl rfl) rfl rfl (c15) rfl ?_
    refine sx_RP.step (pc2 := 32) (ls2 := [(3, .int (nI x5)), (0, .ref 111), (1, .int (nI c)), (2, .int (nI g))]) (st2 := [.int (nI x5), .int (nI x13), .ref 111]) (w3 := w9) rfl rfl ?_
    obtain ⟨v16, c17⟩ := p162 hI10 (nI x13) (show x5 < 48 by omega)
    refine sx_RP.cu (as := [.ref 111, .int (nI x13), .int (nI x5)]) (rest2 := []) (st3 := [.int v16]) rfl rfl (sx_inv_v2 (mi := 190) (k := 130) (st := [.int (nI x5), .int (nI x13), .ref 111]) (w := w9) rfl rfl hI10.1.o111 rfl rfl rfl) rfl rfl (c17) rfl ?_
    refine sx_RP.step (pc2 := 36) (ls2 := [(3, .int (nI x5)), (0, .ref 111), (1, .int (nI c)), (2, .int (nI g))]) (st2 := [.int 1, .int v16]) (w3 := w9) rfl rfl ?_
    refine sx_RP.step (pc2 := 37) (ls2 := [(3, .int (nI x5)), (0, .ref 111), (1, .int (nI c)), (2, .int (nI g))]) (st2 := [.ref 111, .int 1, .int v16]) (w3 := w9) rfl rfl ?_
    refine sx_RP.gf (v := .ref 117) rfl rfl hI10.1.o111 rfl rfl (show _ = 40 from rfl) ?_
    refine sx_RP.step (pc2 := 41) (ls2 := [(3, .int (nI x5)), (0, .ref 111), (1, .int (nI c)), (2, .int (nI g))]) (st2 := [.int (nI c), .ref 117, .int 1, .int v16]) (w3 := w9) rfl rfl ?_
    refine sx_RP.ild (c := c) rfl hI10.1.a117.1 hI10.1.a117.2 (sx_in_nI (show c < 48 by omega) (by decide)) (show (nI c).toNatClampNeg = c from nI_clamp (by omega)) (show _ = 42 from rfl) ?_
    obtain ⟨x18, hx19, ex20⟩ : inR ((ia w9 117).getD c 0) 1000 := hw8.at (show c < 48 by omega)
    rw [ex20]
    refine sx_RP.step (pc2 := 43) (ls2 := [(3, .int (nI x5)), (0, .ref 111), (1, .int (nI c)), (2, .int (nI g))]) (st2 := [.int (1 + (nI x18)), .int v16]) (w3 := w9) rfl rfl ?_
    rw [show (1 + (nI x18) : Int32) = nI (1 + x18) from nI_add 1 x18]
    refine sx_RP.idiv (pc2 := 44) rfl (nI_n0 (by omega) (by omega)) rfl ?_
    refine sx_RP.ret (r := (some (.int (v16 / (nI (1 + x18)))))) rfl rfl ?_
    exact ⟨⟨_, rfl⟩, hI10, hE11⟩
  · replace q4 := Decidable.not_not.mp (of_decide_eq_false q4)
    replace q4 := (nI_eq (a := x1) (b := 0) (by omega) (by omega)).mp q4
    refine sx_RP.step (pc2 := 10) (ls2 := [(0, .ref 111), (1, .int (nI c)), (2, .int (nI g))]) (st2 := [.int 0]) (w3 := w) rfl rfl ?_
    refine sx_RP.ret (r := (some (.int 0))) rfl rfl ?_
    exact ⟨⟨_, rfl⟩, hI, hE⟩
set_option maxRecDepth 20000 in
set_option maxHeartbeats 4000000 in
theorem s189B {xs : Option (List Int32)} {d : Nat} {w w0 : List sx_C} {c : Nat} (hc : c < 48) (hI : WI w) (hE : EM w0 w) {j : Nat} (hj : j ≤ 10) (n : Int32) (kk : ∀ (w4 : List sx_C) (un : Int32), WI w4 → EM w0 w4 → j + 1 ≤ 10 → sx_RP xs (d + 4) 189 4 [(0, .ref 111), (1, .int (nI c)), (2, .int un), (3, .int (nI (j + 1)))] [] w4 (fun r w2 => (∃ v : Int32, r = some (.int v)) ∧ WI w2 ∧ EM w0 w2)) : sx_RP xs (d + 4) 189 4 [(0, .ref 111), (1, .int (nI c)), (2, .int n), (3, .int (nI j))] [] w (fun r w2 => (∃ v : Int32, r = some (.int v)) ∧ WI w2 ∧ EM w0 w2) := by
  refine sx_RP.step (pc2 := 5) (ls2 := [(0, .ref 111), (1, .int (nI c)), (2, .int n), (3, .int (nI j))]) (st2 := [.int (nI j)]) (w3 := w) rfl rfl ?_
  refine sx_RP.step (pc2 := 6) (ls2 := [(0, .ref 111), (1, .int (nI c)), (2, .int n), (3, .int (nI j))]) (st2 := [.ref 111, .int (nI j)]) (w3 := w) rfl rfl ?_
  refine sx_RP.gf (v := .ref 112) rfl rfl hI.1.o111 rfl rfl (show _ = 9 from rfl) ?_
  refine sx_RP.step (pc2 := 10) (ls2 := [(0, .ref 111), (1, .int (nI c)), (2, .int n), (3, .int (nI j))]) (st2 := [.int 1, .ref 112, .int (nI j)]) (w3 := w) rfl rfl ?_
  refine sx_RP.ild (c := 1) rfl hI.1.a112.1 hI.1.a112.2 (sx_in_nI (show 1 < 172 by omega) (by decide)) (show (nI 1).toNatClampNeg = 1 from nI_clamp (by omega)) (show _ = 11 from rfl) ?_
  obtain ⟨x1, hx2, ex3⟩ : inR ((ia w 112).getD 1 0) 10 := (hI.s (1) (by omega)).1 rfl
  rw [ex3]
  refine sx_RP.br (p1 := 29) (l1 := [(0, .ref 111), (1, .int (nI c)), (2, .int n), (3, .int (nI j))]) (s1 := []) (v1 := w) (p2 := 14) (l2 := [(0, .ref 111), (1, .int (nI c)), (2, .int n), (3, .int (nI j))]) (s2 := []) (v2 := w) rfl rfl (fun q4 => ?_) (fun q4 => ?_)
  · replace q4 := of_decide_eq_true q4
    replace q4 := (nI_leI (a := x1) (b := j) (by omega) (by omega)).mp q4
    refine sx_RP.step (pc2 := 30) (ls2 := [(0, .ref 111), (1, .int (nI c)), (2, .int n), (3, .int (nI j))]) (st2 := [.int n]) (w3 := w) rfl rfl ?_
    refine sx_RP.ret (r := (some (.int n))) rfl rfl ?_
    exact ⟨⟨_, rfl⟩, hI, hE⟩
  · replace q4 := of_decide_eq_false q4
    replace q4 := mt (nI_leI (a := x1) (b := j) (by omega) (by omega)).mpr q4
    refine sx_RP.step (pc2 := 15) (ls2 := [(0, .ref 111), (1, .int (nI c)), (2, .int n), (3, .int (nI j))]) (st2 := [.int n]) (w3 := w) rfl rfl ?_
    refine sx_RP.step (pc2 := 16) (ls2 := [(0, .ref 111), (1, .int (nI c)), (2, .int n), (3, .int (nI j))]) (st2 := [.ref 111, .int n]) (w3 := w) rfl rfl ?_
    refine sx_RP.step (pc2 := 17) (ls2 := [(0, .ref 111), (1, .int (nI c)), (2, .int n), (3, .int (nI j))]) (st2 := [.int (nI c), .ref 111, .int n]) (w3 := w) rfl rfl ?_
    refine sx_RP.step (pc2 := 18) (ls2 := [(0, .ref 111), (1, .int (nI c)), (2, .int n), (3, .int (nI j))]) (st2 := [.int (nI j), .int (nI c), .ref 111, .int n]) (w3 := w) rfl rfl ?_
    refine sx_RP.callp (as2 := [.ref 111, .int (nI c), .int (nI j)]) (rest2 := [.int n]) rfl rfl (sx_inv_v2 (mi := 189) (k := 174) (st := [.int (nI j), .int (nI c), .ref 111, .int n]) (w := w) rfl rfl hI.1.o111 rfl rfl rfl) rfl rfl rfl (s190 hI (show c < 48 by omega) (show j < 10 by omega)) (show _ = 21 from rfl) ?_
    rintro r4 w6 ⟨⟨v5, rfl⟩, hI7, hE9⟩
    have hE8 := hE.tr (hE9)
    show sx_RP _ _ _ _ _ [.int v5, .int n] _ _
    refine sx_RP.step (pc2 := 22) (ls2 := [(0, .ref 111), (1, .int (nI c)), (2, .int n), (3, .int (nI j))]) (st2 := [.int (n + v5)]) (w3 := w6) rfl rfl ?_
    refine sx_RP.step (pc2 := 23) (ls2 := [(2, .int (n + v5)), (0, .ref 111), (1, .int (nI c)), (3, .int (nI j))]) (st2 := []) (w3 := w6) rfl rfl ?_
    refine sx_RP.step (pc2 := 26) (ls2 := [(3, .int ((nI j) + 1)), (2, .int (n + v5)), (0, .ref 111), (1, .int (nI c))]) (st2 := []) (w3 := w6) rfl rfl ?_
    rw [nI_1 j]
    refine sx_RP.step (pc2 := 4) (ls2 := [(3, .int (nI (j + 1))), (2, .int (n + v5)), (0, .ref 111), (1, .int (nI c))]) (st2 := []) (w3 := w6) rfl rfl ?_
    exact sx_RP.ls (sx_lr.cons rfl (sx_lr.cons rfl (sx_lr.cons rfl (sx_lr.cons rfl sx_lr.nil)))) (kk w6 (n + v5) hI7 hE8 (by omega))
set_option maxRecDepth 20000 in
set_option maxHeartbeats 4000000 in
theorem s189L {xs : Option (List Int32)} {d : Nat} {w0 : List sx_C} {c : Nat} (hc : c < 48) : ∀ (fz j : Nat) (w : List sx_C) (n : Int32) , 10 ≤ j + fz * 1 → j ≤ 10 → WI w → EM w0 w → sx_RP xs (d + 4) 189 4 [(0, .ref 111), (1, .int (nI c)), (2, .int n), (3, .int (nI j))] [] w (fun r w2 => (∃ v : Int32, r = some (.int v)) ∧ WI w2 ∧ EM w0 w2)
  | 0, j, w, n, h, hj, hI, hE => s189B hc hI hE hj n  (fun w4 un hI4 hE4 hlt  => absurd hlt (by omega)) 
  | fz + 1, j, w, n, h, hj, hI, hE => s189B hc hI hE hj n  (fun w4 un hI4 hE4 hlt  => s189L hc  fz (j + 1) w4 un (by omega) hlt hI4 hE4 ) 
set_option maxRecDepth 20000 in
set_option maxHeartbeats 4000000 in
theorem s189 {xs : Option (List Int32)} {d : Nat} {w : List sx_C} (hI : WI w) {c : Nat} (hc : c < 48) : sx_RP xs (d + 4) 189 0 (lv_args 0 [.ref 111, .int (nI c)]) [] w (fun r w2 => (∃ v : Int32, r = some (.int v)) ∧ WI w2 ∧ EM w w2) := by
  have hE : EM w w := EM.rf
  refine sx_RP.step (pc2 := 1) (ls2 := [(0, .ref 111), (1, .int (nI c))]) (st2 := [.int 0]) (w3 := w) rfl rfl ?_
  refine sx_RP.step (pc2 := 2) (ls2 := [(2, .int 0), (0, .ref 111), (1, .int (nI c))]) (st2 := []) (w3 := w) rfl rfl ?_
  refine sx_RP.step (pc2 := 3) (ls2 := [(2, .int 0), (0, .ref 111), (1, .int (nI c))]) (st2 := [.int 0]) (w3 := w) rfl rfl ?_
  refine sx_RP.step (pc2 := 4) (ls2 := [(3, .int 0), (2, .int 0), (0, .ref 111), (1, .int (nI c))]) (st2 := []) (w3 := w) rfl rfl ?_
  exact sx_RP.ls (sx_lr.cons rfl (sx_lr.cons rfl (sx_lr.cons rfl (sx_lr.cons rfl sx_lr.nil)))) (s189L hc 10 0 w 0 (by omega) (by omega) hI hE )
set_option maxRecDepth 20000 in
set_option maxHeartbeats 4000000 in
theorem s188 {xs : Option (List Int32)} {d : Nat} {w : List sx_C} (hI : WI w) {j : Nat} (hj : j < 9) : sx_RP xs (d + 5) 188 0 (lv_args 0 [.ref 111, .int (nI j)]) [] w (fun r w2 => (∃ v : Int32, r = some (.int v)) ∧ WI w2 ∧ EM w w2) := by
  have hE : EM w w := EM.rf
  refine sx_RP.step (pc2 := 1) (ls2 := [(0, .ref 111), (1, .int (nI j))]) (st2 := [.ref 111]) (w3 := w) rfl rfl ?_
  refine sx_RP.step (pc2 := 2) (ls2 := [(0, .ref 111), (1, .int (nI j))]) (st2 := [.ref 111, .ref 111]) (w3 := w) rfl rfl ?_
  refine sx_RP.gf (v := .ref 112) rfl rfl hI.1.o111 rfl rfl (show _ = 5 from rfl) ?_
  refine sx_RP.step (pc2 := 8) (ls2 := [(0, .ref 111), (1, .int (nI j))]) (st2 := [.int 163, .ref 112, .ref 111]) (w3 := w) rfl rfl ?_
  refine sx_RP.step (pc2 := 9) (ls2 := [(0, .ref 111), (1, .int (nI j))]) (st2 := [.int (nI j), .int 163, .ref 112, .ref 111]) (w3 := w) rfl rfl ?_
  refine sx_RP.step (pc2 := 10) (ls2 := [(0, .ref 111), (1, .int (nI j))]) (st2 := [.int (163 + (nI j)), .ref 112, .ref 111]) (w3 := w) rfl rfl ?_
  rw [show (163 + (nI j) : Int32) = nI (163 + j) from nI_add 163 j]
  refine sx_RP.ild (c := (163 + j)) rfl hI.1.a112.1 hI.1.a112.2 (sx_in_nI (show (163 + j) < 172 by omega) (by decide)) (show (nI (163 + j)).toNatClampNeg = (163 + j) from nI_clamp (by omega)) (show _ = 11 from rfl) ?_
  obtain ⟨x1, hx2, ex3⟩ : inR ((ia w 112).getD (163 + j) 0) 47 := (hI.s ((163 + j)) (by omega)).2.2.2.2.2.2.2.2 (by omega)
  rw [ex3]
  refine sx_RP.callp (as2 := [.ref 111, .int (nI x1)]) (rest2 := []) rfl rfl (sx_inv_v2 (mi := 188) (k := 177) (st := [.int (nI x1), .ref 111]) (w := w) rfl rfl hI.1.o111 rfl rfl rfl) rfl rfl rfl (s189 hI (show x1 < 48 by omega)) (show _ = 14 from rfl) ?_
  rintro r4 w5 ⟨⟨v4, rfl⟩, hI6, hE8⟩
  have hE7 := hE.tr (hE8)
  show sx_RP _ _ _ _ _ [.int v4] _ _
  refine sx_RP.ret (r := (some (.int v4))) rfl rfl ?_
  exact ⟨⟨_, rfl⟩, hI6, hE7⟩
set_option maxRecDepth 20000 in
set_option maxHeartbeats 4000000 in
theorem s187 {xs : Option (List Int32)} {d : Nat} {w : List sx_C} (hI : WI w) (a1 : Int32) : sx_RP xs (d + 7) 187 0 (lv_args 0 [.ref 111, .int a1]) [] w (fun r w2 => (∃ v : Int32, r = some (.int v)) ∧ WI w2 ∧ EM w w2) := by
  have hE : EM w w := EM.rf
  refine sx_RP.step (pc2 := 1) (ls2 := [(0, .ref 111), (1, .int a1)]) (st2 := [.ref 111]) (w3 := w) rfl rfl ?_
  refine sx_RP.step (pc2 := 2) (ls2 := [(0, .ref 111), (1, .int a1)]) (st2 := [.int a1, .ref 111]) (w3 := w) rfl rfl ?_
  rcases p186 (xs := xs) hI a1 with c2 | ⟨⟨x3, hx4, rfl⟩, c2⟩
  · refine sx_RP.cu (as := [.ref 111, .int a1]) (rest2 := []) (st3 := [.int 0]) rfl rfl (sx_inv_v2 (mi := 187) (k := 171) (st := [.int a1, .ref 111]) (w := w) rfl rfl hI.1.o111 rfl rfl rfl) rfl rfl (c2) rfl ?_
    refine sx_RP.step (pc2 := 16) (ls2 := [(0, .ref 111), (1, .int a1)]) (st2 := []) (w3 := w) rfl rfl ?_
    refine sx_RP.step (pc2 := 17) (ls2 := [(0, .ref 111), (1, .int a1)]) (st2 := [.ref 111]) (w3 := w) rfl rfl ?_
    refine sx_RP.step (pc2 := 18) (ls2 := [(0, .ref 111), (1, .int a1)]) (st2 := [.int 0, .ref 111]) (w3 := w) rfl rfl ?_
    refine sx_RP.callp (as2 := [.ref 111, .int 0]) (rest2 := []) rfl rfl (sx_inv_v2 (mi := 187) (k := 70) (st := [.int 0, .ref 111]) (w := w) rfl rfl hI.1.o111 rfl rfl rfl) rfl rfl rfl (s133_0 hI) (show _ = 21 from rfl) ?_
    rintro r4 w6 ⟨rfl, hI7, hE9⟩
    have hE8 := hE.tr (hE9)
    show sx_RP _ _ _ _ _ [.int (-1000000001)] _ _
    refine sx_RP.ret (r := (some (.int (-1000000001)))) rfl rfl ?_
    exact ⟨⟨_, rfl⟩, hI7, hE8⟩
  · refine sx_RP.cu (as := [.ref 111, .int (nI x3)]) (rest2 := []) (st3 := [.int 1]) rfl rfl (sx_inv_v2 (mi := 187) (k := 171) (st := [.int (nI x3), .ref 111]) (w := w) rfl rfl hI.1.o111 rfl rfl rfl) rfl rfl (c2) rfl ?_
    refine sx_RP.step (pc2 := 8) (ls2 := [(0, .ref 111), (1, .int (nI x3))]) (st2 := []) (w3 := w) rfl rfl ?_
    refine sx_RP.step (pc2 := 9) (ls2 := [(0, .ref 111), (1, .int (nI x3))]) (st2 := [.ref 111]) (w3 := w) rfl rfl ?_
    refine sx_RP.step (pc2 := 10) (ls2 := [(0, .ref 111), (1, .int (nI x3))]) (st2 := [.int (nI x3), .ref 111]) (w3 := w) rfl rfl ?_
    refine sx_RP.callp (as2 := [.ref 111, .int (nI x3)]) (rest2 := []) rfl rfl (sx_inv_v2 (mi := 187) (k := 180) (st := [.int (nI x3), .ref 111]) (w := w) rfl rfl hI.1.o111 rfl rfl rfl) rfl rfl rfl (s188 hI (show x3 < 9 by omega)) (show _ = 13 from rfl) ?_
    rintro r4 w11 ⟨⟨v10, rfl⟩, hI12, hE14⟩
    have hE13 := hE.tr (hE14)
    show sx_RP _ _ _ _ _ [.int v10] _ _
    refine sx_RP.step (pc2 := 21) (ls2 := [(0, .ref 111), (1, .int (nI x3))]) (st2 := [.int v10]) (w3 := w11) rfl rfl ?_
    refine sx_RP.ret (r := (some (.int v10))) rfl rfl ?_
    exact ⟨⟨_, rfl⟩, hI12, hE13⟩
set_option maxRecDepth 20000 in
set_option maxHeartbeats 4000000 in
theorem s191 {xs : Option (List Int32)} {d : Nat} {w : List sx_C} (hI : WI w) (a1 a2 : Int32) : sx_RP xs (d + 7) 191 0 (lv_args 0 [.ref 111, .int a1, .int a2]) [] w (fun r w2 => (∃ v : Int32, r = some (.int v)) ∧ WI w2 ∧ EM w w2) := by
  have hE : EM w w := EM.rf
  refine sx_RP.step (pc2 := 1) (ls2 := [(0, .ref 111), (1, .int a1), (2, .int a2)]) (st2 := [.ref 111]) (w3 := w) rfl rfl ?_
  refine sx_RP.step (pc2 := 2) (ls2 := [(0, .ref 111), (1, .int a1), (2, .int a2)]) (st2 := [.int a1, .ref 111]) (w3 := w) rfl rfl ?_
  rcases p186 (xs := xs) hI a1 with c2 | ⟨⟨x3, hx4, rfl⟩, c2⟩
  · refine sx_RP.cu (as := [.ref 111, .int a1]) (rest2 := []) (st3 := [.int 0]) rfl rfl (sx_inv_v2 (mi := 191) (k := 171) (st := [.int a1, .ref 111]) (w := w) rfl rfl hI.1.o111 rfl rfl rfl) rfl rfl (c2) rfl ?_
    refine sx_RP.step (pc2 := 34) (ls2 := [(0, .ref 111), (1, .int a1), (2, .int a2)]) (st2 := []) (w3 := w) rfl rfl ?_
    refine sx_RP.step (pc2 := 35) (ls2 := [(0, .ref 111), (1, .int a1), (2, .int a2)]) (st2 := [.ref 111]) (w3 := w) rfl rfl ?_
    refine sx_RP.step (pc2 := 36) (ls2 := [(0, .ref 111), (1, .int a1), (2, .int a2)]) (st2 := [.int 0, .ref 111]) (w3 := w) rfl rfl ?_
    refine sx_RP.callp (as2 := [.ref 111, .int 0]) (rest2 := []) rfl rfl (sx_inv_v2 (mi := 191) (k := 70) (st := [.int 0, .ref 111]) (w := w) rfl rfl hI.1.o111 rfl rfl rfl) rfl rfl rfl (s133_0 hI) (show _ = 39 from rfl) ?_
    rintro r4 w6 ⟨rfl, hI7, hE9⟩
    have hE8 := hE.tr (hE9)
    show sx_RP _ _ _ _ _ [.int (-1000000001)] _ _
    refine sx_RP.ret (r := (some (.int (-1000000001)))) rfl rfl ?_
    exact ⟨⟨_, rfl⟩, hI7, hE8⟩
  · refine sx_RP.cu (as := [.ref 111, .int (nI x3)]) (rest2 := []) (st3 := [.int 1]) rfl rfl (sx_inv_v2 (mi := 191) (k := 171) (st := [.int (nI x3), .ref 111]) (w := w) rfl rfl hI.1.o111 rfl rfl rfl) rfl rfl (c2) rfl ?_
    refine sx_RP.step (pc2 := 8) (ls2 := [(0, .ref 111), (1, .int (nI x3)), (2, .int a2)]) (st2 := []) (w3 := w) rfl rfl ?_
    refine sx_RP.step (pc2 := 9) (ls2 := [(0, .ref 111), (1, .int (nI x3)), (2, .int a2)]) (st2 := [.ref 111]) (w3 := w) rfl rfl ?_
    refine sx_RP.step (pc2 := 10) (ls2 := [(0, .ref 111), (1, .int (nI x3)), (2, .int a2)]) (st2 := [.int a2, .ref 111]) (w3 := w) rfl rfl ?_
    rcases p156 (xs := xs) hI a2 with c11 | ⟨⟨x12, hx13, rfl⟩, c11⟩
    · refine sx_RP.cu (as := [.ref 111, .int a2]) (rest2 := []) (st3 := [.int 0]) rfl rfl (sx_inv_v2 (mi := 191) (k := 124) (st := [.int a2, .ref 111]) (w := w) rfl rfl hI.1.o111 rfl rfl rfl) rfl rfl (c11) rfl ?_
      refine sx_RP.step (pc2 := 34) (ls2 := [(0, .ref 111), (1, .int (nI x3)), (2, .int a2)]) (st2 := []) (w3 := w) rfl rfl ?_
      refine sx_RP.step (pc2 := 35) (ls2 := [(0, .ref 111), (1, .int (nI x3)), (2, .int a2)]) (st2 := [.ref 111]) (w3 := w) rfl rfl ?_
      refine sx_RP.step (pc2 := 36) (ls2 := [(0, .ref 111), (1, .int (nI x3)), (2, .int a2)]) (st2 := [.int 0, .ref 111]) (w3 := w) rfl rfl ?_
      refine sx_RP.callp (as2 := [.ref 111, .int 0]) (rest2 := []) rfl rfl (sx_inv_v2 (mi := 191) (k := 70) (st := [.int 0, .ref 111]) (w := w) rfl rfl hI.1.o111 rfl rfl rfl) rfl rfl rfl (s133_0 hI) (show _ = 39 from rfl) ?_
      rintro r4 w15 ⟨rfl, hI16, hE18⟩
      have hE17 := hE.tr (hE18)
      show sx_RP _ _ _ _ _ [.int (-1000000001)] _ _
      refine sx_RP.ret (r := (some (.int (-1000000001)))) rfl rfl ?_
      exact ⟨⟨_, rfl⟩, hI16, hE17⟩
    · refine sx_RP.cu (as := [.ref 111, .int (nI x12)]) (rest2 := []) (st3 := [.int 1]) rfl rfl (sx_inv_v2 (mi := 191) (k := 124) (st := [.int (nI x12), .ref 111]) (w := w) rfl rfl hI.1.o111 rfl rfl rfl) rfl rfl (c11) rfl ?_
      refine sx_RP.step (pc2 := 16) (ls2 := [(0, .ref 111), (1, .int (nI x3)), (2, .int (nI x12))]) (st2 := []) (w3 := w) rfl rfl ?_
      refine sx_RP.step (pc2 := 17) (ls2 := [(0, .ref 111), (1, .int (nI x3)), (2, .int (nI x12))]) (st2 := [.ref 111]) (w3 := w) rfl rfl ?_
      refine sx_RP.step (pc2 := 18) (ls2 := [(0, .ref 111), (1, .int (nI x3)), (2, .int (nI x12))]) (st2 := [.ref 111, .ref 111]) (w3 := w) rfl rfl ?_
      refine sx_RP.gf (v := .ref 112) rfl rfl hI.1.o111 rfl rfl (show _ = 21 from rfl) ?_
      refine sx_RP.step (pc2 := 24) (ls2 := [(0, .ref 111), (1, .int (nI x3)), (2, .int (nI x12))]) (st2 := [.int 163, .ref 112, .ref 111]) (w3 := w) rfl rfl ?_
      refine sx_RP.step (pc2 := 25) (ls2 := [(0, .ref 111), (1, .int (nI x3)), (2, .int (nI x12))]) (st2 := [.int (nI x3), .int 163, .ref 112, .ref 111]) (w3 := w) rfl rfl ?_
      refine sx_RP.step (pc2 := 26) (ls2 := [(0, .ref 111), (1, .int (nI x3)), (2, .int (nI x12))]) (st2 := [.int (163 + (nI x3)), .ref 112, .ref 111]) (w3 := w) rfl rfl ?_
      rw [show (163 + (nI x3) : Int32) = nI (163 + x3) from nI_add 163 x3]
      refine sx_RP.ild (c := (163 + x3)) rfl hI.1.a112.1 hI.1.a112.2 (sx_in_nI (show (163 + x3) < 172 by omega) (by decide)) (show (nI (163 + x3)).toNatClampNeg = (163 + x3) from nI_clamp (by omega)) (show _ = 27 from rfl) ?_
      obtain ⟨x19, hx20, ex21⟩ : inR ((ia w 112).getD (163 + x3) 0) 47 := (hI.s ((163 + x3)) (by omega)).2.2.2.2.2.2.2.2 (by omega)
      rw [ex21]
      refine sx_RP.step (pc2 := 28) (ls2 := [(0, .ref 111), (1, .int (nI x3)), (2, .int (nI x12))]) (st2 := [.int (nI x12), .int (nI x19), .ref 111]) (w3 := w) rfl rfl ?_
      refine sx_RP.callp (as2 := [.ref 111, .int (nI x19), .int (nI x12)]) (rest2 := []) rfl rfl (sx_inv_v2 (mi := 191) (k := 174) (st := [.int (nI x12), .int (nI x19), .ref 111]) (w := w) rfl rfl hI.1.o111 rfl rfl rfl) rfl rfl rfl (s190 hI (show x19 < 48 by omega) (show x12 < 10 by omega)) (show _ = 31 from rfl) ?_
      rintro r4 w23 ⟨⟨v22, rfl⟩, hI24, hE26⟩
      have hE25 := hE.tr (hE26)
      show sx_RP _ _ _ _ _ [.int v22] _ _
      refine sx_RP.step (pc2 := 39) (ls2 := [(0, .ref 111), (1, .int (nI x3)), (2, .int (nI x12))]) (st2 := [.int v22]) (w3 := w23) rfl rfl ?_
      refine sx_RP.ret (r := (some (.int v22))) rfl rfl ?_
      exact ⟨⟨_, rfl⟩, hI24, hE25⟩
set_option maxRecDepth 20000 in
set_option maxHeartbeats 4000000 in
theorem s182aB {xs : Option (List Int32)} {d : Nat} {w w0 : List sx_C} {P : Option Value → List sx_C → Prop} {g t : Nat} (hg : g < 10) (ht : t < 10) (hI : WI w) (hE : EM w0 w) {j : Nat} (hj : j ≤ 10) (kk : ∀ (w4 : List sx_C), WI w4 → EM w0 w4 → j + 1 ≤ 10 → sx_RP xs (d + 4) 182 24 [(0, .ref 111), (1, .int (nI g)), (2, .int (nI t)), (3, .int (nI (j + 1)))] [] w4 P) (kx58 : ∀ (w4 : List sx_C), WI w4 → EM w0 w4 → sx_RP xs (d + 4) 182 58 [(0, .ref 111), (1, .int (nI g)), (2, .int (nI t))] [] w4 P) : sx_RP xs (d + 4) 182 24 [(0, .ref 111), (1, .int (nI g)), (2, .int (nI t)), (3, .int (nI j))] [] w P := by
  refine sx_RP.step (pc2 := 25) (ls2 := [(0, .ref 111), (1, .int (nI g)), (2, .int (nI t)), (3, .int (nI j))]) (st2 := [.int (nI j)]) (w3 := w) rfl rfl ?_
  refine sx_RP.step (pc2 := 26) (ls2 := [(0, .ref 111), (1, .int (nI g)), (2, .int (nI t)), (3, .int (nI j))]) (st2 := [.ref 111, .int (nI j)]) (w3 := w) rfl rfl ?_
  refine sx_RP.gf (v := .ref 112) rfl rfl hI.1.o111 rfl rfl (show _ = 29 from rfl) ?_
  refine sx_RP.step (pc2 := 30) (ls2 := [(0, .ref 111), (1, .int (nI g)), (2, .int (nI t)), (3, .int (nI j))]) (st2 := [.int 1, .ref 112, .int (nI j)]) (w3 := w) rfl rfl ?_
  refine sx_RP.ild (c := 1) rfl hI.1.a112.1 hI.1.a112.2 (sx_in_nI (show 1 < 172 by omega) (by decide)) (show (nI 1).toNatClampNeg = 1 from nI_clamp (by omega)) (show _ = 31 from rfl) ?_
  obtain ⟨x1, hx2, ex3⟩ : inR ((ia w 112).getD 1 0) 10 := (hI.s (1) (by omega)).1 rfl
  rw [ex3]
  refine sx_RP.br (p1 := 58) (l1 := [(0, .ref 111), (1, .int (nI g)), (2, .int (nI t)), (3, .int (nI j))]) (s1 := []) (v1 := w) (p2 := 34) (l2 := [(0, .ref 111), (1, .int (nI g)), (2, .int (nI t)), (3, .int (nI j))]) (s2 := []) (v2 := w) rfl rfl (fun q4 => ?_) (fun q4 => ?_)
  · replace q4 := of_decide_eq_true q4
    replace q4 := (nI_leI (a := x1) (b := j) (by omega) (by omega)).mp q4
    exact sx_RP.ls (sx_lr.cons rfl (sx_lr.cons rfl (sx_lr.cons rfl sx_lr.nil))) (kx58 w hI hE)
  · replace q4 := of_decide_eq_false q4
    replace q4 := mt (nI_leI (a := x1) (b := j) (by omega) (by omega)).mpr q4
    refine sx_RP.step (pc2 := 35) (ls2 := [(0, .ref 111), (1, .int (nI g)), (2, .int (nI t)), (3, .int (nI j))]) (st2 := [.ref 111]) (w3 := w) rfl rfl ?_
    refine sx_RP.step (pc2 := 36) (ls2 := [(0, .ref 111), (1, .int (nI g)), (2, .int (nI t)), (3, .int (nI j))]) (st2 := [.int (nI j), .ref 111]) (w3 := w) rfl rfl ?_
    refine sx_RP.step (pc2 := 37) (ls2 := [(0, .ref 111), (1, .int (nI g)), (2, .int (nI t)), (3, .int (nI j))]) (st2 := [.int 1, .int (nI j), .ref 111]) (w3 := w) rfl rfl ?_
    obtain ⟨x5, hx6, c7⟩ := p138_1 hI (show j < 10 by omega)
    refine sx_RP.cu (as := [.ref 111, .int (nI j), .int 1]) (rest2 := []) (st3 := [.int (nI x5)]) rfl rfl (sx_inv_v2 (mi := 182) (k := 59) (st := [.int 1, .int (nI j), .ref 111]) (w := w) rfl rfl hI.1.o111 rfl rfl rfl) rfl rfl (c7) rfl ?_
    refine sx_RP.step (pc2 := 41) (ls2 := [(0, .ref 111), (1, .int (nI g)), (2, .int (nI t)), (3, .int (nI j))]) (st2 := [.int 1, .int (nI x5)]) (w3 := w) rfl rfl ?_
    refine sx_RP.br (p1 := 52) (l1 := [(0, .ref 111), (1, .int (nI g)), (2, .int (nI t)), (3, .int (nI j))]) (s1 := []) (v1 := w) (p2 := 44) (l2 := [(0, .ref 111), (1, .int (nI g)), (2, .int (nI t)), (3, .int (nI j))]) (s2 := []) (v2 := w) rfl rfl (fun q8 => ?_) (fun q8 => ?_)
    · replace q8 := of_decide_eq_true q8
      replace q8 := mt (nI_eq (a := x5) (b := 1) (by omega) (by omega)).mpr q8
      refine sx_RP.step (pc2 := 55) (ls2 := [(3, .int ((nI j) + 1)), (0, .ref 111), (1, .int (nI g)), (2, .int (nI t))]) (st2 := []) (w3 := w) rfl rfl ?_
      rw [nI_1 j]
      refine sx_RP.step (pc2 := 24) (ls2 := [(3, .int (nI (j + 1))), (0, .ref 111), (1, .int (nI g)), (2, .int (nI t))]) (st2 := []) (w3 := w) rfl rfl ?_
      exact sx_RP.ls (sx_lr.cons rfl (sx_lr.cons rfl (sx_lr.cons rfl (sx_lr.cons rfl sx_lr.nil)))) (kk w hI hE (by omega))
    · replace q8 := Decidable.not_not.mp (of_decide_eq_false q8)
      replace q8 := (nI_eq (a := x5) (b := 1) (by omega) (by omega)).mp q8
      refine sx_RP.step (pc2 := 45) (ls2 := [(0, .ref 111), (1, .int (nI g)), (2, .int (nI t)), (3, .int (nI j))]) (st2 := [.ref 111]) (w3 := w) rfl rfl ?_
      refine sx_RP.step (pc2 := 46) (ls2 := [(0, .ref 111), (1, .int (nI g)), (2, .int (nI t)), (3, .int (nI j))]) (st2 := [.int (nI j), .ref 111]) (w3 := w) rfl rfl ?_
      refine sx_RP.step (pc2 := 47) (ls2 := [(0, .ref 111), (1, .int (nI g)), (2, .int (nI t)), (3, .int (nI j))]) (st2 := [.int 5, .int (nI j), .ref 111]) (w3 := w) rfl rfl ?_
      refine sx_RP.step (pc2 := 48) (ls2 := [(0, .ref 111), (1, .int (nI g)), (2, .int (nI t)), (3, .int (nI j))]) (st2 := [.int 1, .int 5, .int (nI j), .ref 111]) (w3 := w) rfl rfl ?_
      refine sx_RP.callp (as2 := [.ref 111, .int (nI j), .int 5, .int 1]) (rest2 := []) rfl rfl (sx_inv_v2 (mi := 182) (k := 110) (st := [.int 1, .int 5, .int (nI j), .ref 111]) (w := w) rfl rfl hI.1.o111 rfl rfl rfl) rfl rfl rfl (s154_5 hI (show j < 10 by omega) (show 1 ≤ 1 by omega)) (show _ = 51 from rfl) ?_
      rintro r4 w10 ⟨⟨v9, rfl⟩, hI11, hE13⟩
      have hE12 := hE.tr (hE13)
      show sx_RP _ _ _ _ _ [.int v9] _ _
      refine sx_RP.step (pc2 := 52) (ls2 := [(0, .ref 111), (1, .int (nI g)), (2, .int (nI t)), (3, .int (nI j))]) (st2 := []) (w3 := w10) rfl rfl ?_
      refine sx_RP.step (pc2 := 55) (ls2 := [(3, .int ((nI j) + 1)), (0, .ref 111), (1, .int (nI g)), (2, .int (nI t))]) (st2 := []) (w3 := w10) rfl rfl ?_
      rw [nI_1 j]
      refine sx_RP.step (pc2 := 24) (ls2 := [(3, .int (nI (j + 1))), (0, .ref 111), (1, .int (nI g)), (2, .int (nI t))]) (st2 := []) (w3 := w10) rfl rfl ?_
      exact sx_RP.ls (sx_lr.cons rfl (sx_lr.cons rfl (sx_lr.cons rfl (sx_lr.cons rfl sx_lr.nil)))) (kk w10 hI11 hE12 (by omega))
set_option maxRecDepth 20000 in
set_option maxHeartbeats 4000000 in
theorem s182aL {xs : Option (List Int32)} {d : Nat} {w0 : List sx_C} {P : Option Value → List sx_C → Prop} {g t : Nat} (hg : g < 10) (ht : t < 10) (kx58 : ∀ (w4 : List sx_C), WI w4 → EM w0 w4 → sx_RP xs (d + 4) 182 58 [(0, .ref 111), (1, .int (nI g)), (2, .int (nI t))] [] w4 P) : ∀ (fz j : Nat) (w : List sx_C) , 10 ≤ j + fz * 1 → j ≤ 10 → WI w → EM w0 w → sx_RP xs (d + 4) 182 24 [(0, .ref 111), (1, .int (nI g)), (2, .int (nI t)), (3, .int (nI j))] [] w P
  | 0, j, w, h, hj, hI, hE => s182aB hg ht hI hE hj   (fun w4  hI4 hE4 hlt  => absurd hlt (by omega)) kx58
  | fz + 1, j, w, h, hj, hI, hE => s182aB hg ht hI hE hj   (fun w4  hI4 hE4 hlt  => s182aL hg ht kx58 fz (j + 1) w4  (by omega) hlt hI4 hE4 ) kx58
set_option maxRecDepth 20000 in
set_option maxHeartbeats 4000000 in
theorem s182cB {xs : Option (List Int32)} {d : Nat} {w w0 : List sx_C} {P : Option Value → List sx_C → Prop} {g t : Nat} (hg : g < 10) (ht : t < 10) {n : Nat} (hI : WI w) (hE : EM w0 w) {j : Nat} (hj : j ≤ 48) (m : Int32) (kk : ∀ (w4 : List sx_C) (um : Int32), WI w4 → EM w0 w4 → j + 1 ≤ 48 → sx_RP xs (d + 4) 182 85 [(0, .ref 111), (1, .int (nI g)), (2, .int (nI t)), (3, .int (nI n)), (4, .int um), (5, .int (nI (j + 1)))] [] w4 P) (kx145 : ∀ (w4 : List sx_C) (um : Int32), WI w4 → EM w0 w4 → sx_RP xs (d + 4) 182 145 [(0, .ref 111), (1, .int (nI g)), (2, .int (nI t)), (3, .int (nI n)), (4, .int um)] [] w4 P) : sx_RP xs (d + 4) 182 85 [(0, .ref 111), (1, .int (nI g)), (2, .int (nI t)), (3, .int (nI n)), (4, .int m), (5, .int (nI j))] [] w P := by
  refine sx_RP.step (pc2 := 87) (ls2 := [(0, .ref 111), (1, .int (nI g)), (2, .int (nI t)), (3, .int (nI n)), (4, .int m), (5, .int (nI j))]) (st2 := [.int (nI j)]) (w3 := w) rfl rfl ?_
  refine sx_RP.step (pc2 := 89) (ls2 := [(0, .ref 111), (1, .int (nI g)), (2, .int (nI t)), (3, .int (nI n)), (4, .int m), (5, .int (nI j))]) (st2 := [.int 48, .int (nI j)]) (w3 := w) rfl rfl ?_
  refine sx_RP.br (p1 := 145) (l1 := [(0, .ref 111), (1, .int (nI g)), (2, .int (nI t)), (3, .int (nI n)), (4, .int m), (5, .int (nI j))]) (s1 := []) (v1 := w) (p2 := 92) (l2 := [(0, .ref 111), (1, .int (nI g)), (2, .int (nI t)), (3, .int (nI n)), (4, .int m), (5, .int (nI j))]) (s2 := []) (v2 := w) rfl rfl (fun q1 => ?_) (fun q1 => ?_)
  · replace q1 := of_decide_eq_true q1
    replace q1 := (nI_leI (a := 48) (b := j) (by omega) (by omega)).mp q1
    exact sx_RP.ls (sx_lr.cons rfl (sx_lr.cons rfl (sx_lr.cons rfl (sx_lr.cons rfl (sx_lr.cons rfl sx_lr.nil))))) (kx145 w m hI hE)
  · replace q1 := of_decide_eq_false q1
    replace q1 := mt (nI_leI (a := 48) (b := j) (by omega) (by omega)).mpr q1
    refine sx_RP.step (pc2 := 94) (ls2 := [(0, .ref 111), (1, .int (nI g)), (2, .int (nI t)), (3, .int (nI n)), (4, .int m), (5, .int (nI j))]) (st2 := [.int m]) (w3 := w) rfl rfl ?_
    refine sx_RP.br (p1 := 145) (l1 := [(0, .ref 111), (1, .int (nI g)), (2, .int (nI t)), (3, .int (nI n)), (4, .int m), (5, .int (nI j))]) (s1 := []) (v1 := w) (p2 := 97) (l2 := [(0, .ref 111), (1, .int (nI g)), (2, .int (nI t)), (3, .int (nI n)), (4, .int m), (5, .int (nI j))]) (s2 := []) (v2 := w) rfl rfl (fun q2 => ?_) (fun q2 => ?_)
    · replace q2 := of_decide_eq_true q2
      exact sx_RP.ls (sx_lr.cons rfl (sx_lr.cons rfl (sx_lr.cons rfl (sx_lr.cons rfl (sx_lr.cons rfl sx_lr.nil))))) (kx145 w m hI hE)
    · replace q2 := of_decide_eq_false q2
      refine sx_RP.step (pc2 := 98) (ls2 := [(0, .ref 111), (1, .int (nI g)), (2, .int (nI t)), (3, .int (nI n)), (4, .int m), (5, .int (nI j))]) (st2 := [.ref 111]) (w3 := w) rfl rfl ?_
      refine sx_RP.gf (v := .ref 117) rfl rfl hI.1.o111 rfl rfl (show _ = 101 from rfl) ?_
      refine sx_RP.step (pc2 := 103) (ls2 := [(0, .ref 111), (1, .int (nI g)), (2, .int (nI t)), (3, .int (nI n)), (4, .int m), (5, .int (nI j))]) (st2 := [.int (nI j), .ref 117]) (w3 := w) rfl rfl ?_
      refine sx_RP.ild (c := j) rfl hI.1.a117.1 hI.1.a117.2 (sx_in_nI (show j < 48 by omega) (by decide)) (show (nI j).toNatClampNeg = j from nI_clamp (by omega)) (show _ = 104 from rfl) ?_
      refine sx_RP.br (p1 := 136) (l1 := [(0, .ref 111), (1, .int (nI g)), (2, .int (nI t)), (3, .int (nI n)), (4, .int m), (5, .int (nI j))]) (s1 := []) (v1 := w) (p2 := 107) (l2 := [(0, .ref 111), (1, .int (nI g)), (2, .int (nI t)), (3, .int (nI n)), (4, .int m), (5, .int (nI j))]) (s2 := []) (v2 := w) rfl rfl (fun q3 => ?_) (fun q3 => ?_)
      · replace q3 := of_decide_eq_true q3
        refine sx_RP.step (pc2 := 137) (ls2 := [(0, .ref 111), (1, .int (nI g)), (2, .int (nI t)), (3, .int (nI n)), (4, .int m), (5, .int (nI j))]) (st2 := [.int (-1)]) (w3 := w) rfl rfl ?_
        refine sx_RP.step (pc2 := 139) (ls2 := [(4, .int (-1)), (0, .ref 111), (1, .int (nI g)), (2, .int (nI t)), (3, .int (nI n)), (5, .int (nI j))]) (st2 := []) (w3 := w) rfl rfl ?_
        refine sx_RP.step (pc2 := 142) (ls2 := [(5, .int ((nI j) + 1)), (4, .int (-1)), (0, .ref 111), (1, .int (nI g)), (2, .int (nI t)), (3, .int (nI n))]) (st2 := []) (w3 := w) rfl rfl ?_
        rw [nI_1 j]
        refine sx_RP.step (pc2 := 85) (ls2 := [(5, .int (nI (j + 1))), (4, .int (-1)), (0, .ref 111), (1, .int (nI g)), (2, .int (nI t)), (3, .int (nI n))]) (st2 := []) (w3 := w) rfl rfl ?_
        exact sx_RP.ls (sx_lr.cons rfl (sx_lr.cons rfl (sx_lr.cons rfl (sx_lr.cons rfl (sx_lr.cons rfl (sx_lr.cons rfl sx_lr.nil)))))) (kk w (-1) hI hE (by omega))
      · replace q3 := of_decide_eq_false q3
        refine sx_RP.step (pc2 := 108) (ls2 := [(0, .ref 111), (1, .int (nI g)), (2, .int (nI t)), (3, .int (nI n)), (4, .int m), (5, .int (nI j))]) (st2 := [.ref 111]) (w3 := w) rfl rfl ?_
        refine sx_RP.gf (v := .ref 117) rfl rfl hI.1.o111 rfl rfl (show _ = 111 from rfl) ?_
        refine sx_RP.step (pc2 := 113) (ls2 := [(0, .ref 111), (1, .int (nI g)), (2, .int (nI t)), (3, .int (nI n)), (4, .int m), (5, .int (nI j))]) (st2 := [.int (nI j), .ref 117]) (w3 := w) rfl rfl ?_
        refine sx_RP.ild (c := j) rfl hI.1.a117.1 hI.1.a117.2 (sx_in_nI (show j < 48 by omega) (by decide)) (show (nI j).toNatClampNeg = j from nI_clamp (by omega)) (show _ = 114 from rfl) ?_
        refine sx_RP.step (pc2 := 115) (ls2 := [(0, .ref 111), (1, .int (nI g)), (2, .int (nI t)), (3, .int (nI n)), (4, .int m), (5, .int (nI j))]) (st2 := [.int (nI n), .int ((ia w 117).getD j 0)]) (w3 := w) rfl rfl ?_
        refine sx_RP.br (p1 := 136) (l1 := [(0, .ref 111), (1, .int (nI g)), (2, .int (nI t)), (3, .int (nI n)), (4, .int m), (5, .int (nI j))]) (s1 := []) (v1 := w) (p2 := 118) (l2 := [(0, .ref 111), (1, .int (nI g)), (2, .int (nI t)), (3, .int (nI n)), (4, .int m), (5, .int (nI j))]) (s2 := []) (v2 := w) rfl rfl (fun q4 => ?_) (fun q4 => ?_)
        · replace q4 := of_decide_eq_true q4
          refine sx_RP.step (pc2 := 137) (ls2 := [(0, .ref 111), (1, .int (nI g)), (2, .int (nI t)), (3, .int (nI n)), (4, .int m), (5, .int (nI j))]) (st2 := [.int (-1)]) (w3 := w) rfl rfl ?_
          refine sx_RP.step (pc2 := 139) (ls2 := [(4, .int (-1)), (0, .ref 111), (1, .int (nI g)), (2, .int (nI t)), (3, .int (nI n)), (5, .int (nI j))]) (st2 := []) (w3 := w) rfl rfl ?_
          refine sx_RP.step (pc2 := 142) (ls2 := [(5, .int ((nI j) + 1)), (4, .int (-1)), (0, .ref 111), (1, .int (nI g)), (2, .int (nI t)), (3, .int (nI n))]) (st2 := []) (w3 := w) rfl rfl ?_
          rw [nI_1 j]
          refine sx_RP.step (pc2 := 85) (ls2 := [(5, .int (nI (j + 1))), (4, .int (-1)), (0, .ref 111), (1, .int (nI g)), (2, .int (nI t)), (3, .int (nI n))]) (st2 := []) (w3 := w) rfl rfl ?_
          exact sx_RP.ls (sx_lr.cons rfl (sx_lr.cons rfl (sx_lr.cons rfl (sx_lr.cons rfl (sx_lr.cons rfl (sx_lr.cons rfl sx_lr.nil)))))) (kk w (-1) hI hE (by omega))
        · replace q4 := of_decide_eq_false q4
          refine sx_RP.step (pc2 := 119) (ls2 := [(0, .ref 111), (1, .int (nI g)), (2, .int (nI t)), (3, .int (nI n)), (4, .int m), (5, .int (nI j))]) (st2 := [.ref 111]) (w3 := w) rfl rfl ?_
          refine sx_RP.step (pc2 := 120) (ls2 := [(0, .ref 111), (1, .int (nI g)), (2, .int (nI t)), (3, .int (nI n)), (4, .int m), (5, .int (nI j))]) (st2 := [.int (nI t), .ref 111]) (w3 := w) rfl rfl ?_
          refine sx_RP.step (pc2 := 121) (ls2 := [(0, .ref 111), (1, .int (nI g)), (2, .int (nI t)), (3, .int (nI n)), (4, .int m), (5, .int (nI j))]) (st2 := [.int 2, .int (nI t), .ref 111]) (w3 := w) rfl rfl ?_
          obtain ⟨x5, hx6, c7⟩ := p138_2 hI (show t < 10 by omega)
          refine sx_RP.cu (as := [.ref 111, .int (nI t), .int 2]) (rest2 := []) (st3 := [.int (nI x5)]) rfl rfl (sx_inv_v2 (mi := 182) (k := 59) (st := [.int 2, .int (nI t), .ref 111]) (w := w) rfl rfl hI.1.o111 rfl rfl rfl) rfl rfl (c7) rfl ?_
          refine sx_RP.step (pc2 := 126) (ls2 := [(0, .ref 111), (1, .int (nI g)), (2, .int (nI t)), (3, .int (nI n)), (4, .int m), (5, .int (nI j))]) (st2 := [.int (nI j), .int (nI x5)]) (w3 := w) rfl rfl ?_
          obtain ⟨x8, hx9, c10⟩ := p172 hI (show x5 < 48 by omega) (nI j)
          refine sx_RP.cu (as := [.int (nI x5), .int (nI j)]) (rest2 := []) (st3 := [.int (nI x8)]) rfl rfl rfl rfl rfl (c10) rfl ?_
          refine sx_RP.br (p1 := 136) (l1 := [(0, .ref 111), (1, .int (nI g)), (2, .int (nI t)), (3, .int (nI n)), (4, .int m), (5, .int (nI j))]) (s1 := []) (v1 := w) (p2 := 132) (l2 := [(0, .ref 111), (1, .int (nI g)), (2, .int (nI t)), (3, .int (nI n)), (4, .int m), (5, .int (nI j))]) (s2 := []) (v2 := w) rfl rfl (fun q11 => ?_) (fun q11 => ?_)
          · replace q11 := of_decide_eq_true q11
            replace q11 := (nI_eq (a := x8) (b := 0) (by omega) (by omega)).mp q11
            refine sx_RP.step (pc2 := 137) (ls2 := [(0, .ref 111), (1, .int (nI g)), (2, .int (nI t)), (3, .int (nI n)), (4, .int m), (5, .int (nI j))]) (st2 := [.int (-1)]) (w3 := w) rfl rfl ?_
            refine sx_RP.step (pc2 := 139) (ls2 := [(4, .int (-1)), (0, .ref 111), (1, .int (nI g)), (2, .int (nI t)), (3, .int (nI n)), (5, .int (nI j))]) (st2 := []) (w3 := w) rfl rfl ?_
            refine sx_RP.step (pc2 := 142) (ls2 := [(5, .int ((nI j) + 1)), (4, .int (-1)), (0, .ref 111), (1, .int (nI g)), (2, .int (nI t)), (3, .int (nI n))]) (st2 := []) (w3 := w) rfl rfl ?_
            rw [nI_1 j]
            refine sx_RP.step (pc2 := 85) (ls2 := [(5, .int (nI (j + 1))), (4, .int (-1)), (0, .ref 111), (1, .int (nI g)), (2, .int (nI t)), (3, .int (nI n))]) (st2 := []) (w3 := w) rfl rfl ?_
            exact sx_RP.ls (sx_lr.cons rfl (sx_lr.cons rfl (sx_lr.cons rfl (sx_lr.cons rfl (sx_lr.cons rfl (sx_lr.cons rfl sx_lr.nil)))))) (kk w (-1) hI hE (by omega))
          · replace q11 := of_decide_eq_false q11
            replace q11 := mt (nI_eq (a := x8) (b := 0) (by omega) (by omega)).mpr q11
            refine sx_RP.step (pc2 := 133) (ls2 := [(0, .ref 111), (1, .int (nI g)), (2, .int (nI t)), (3, .int (nI n)), (4, .int m), (5, .int (nI j))]) (st2 := [.int (nI n)]) (w3 := w) rfl rfl ?_
            refine sx_RP.step (pc2 := 137) (ls2 := [(0, .ref 111), (1, .int (nI g)), (2, .int (nI t)), (3, .int (nI n)), (4, .int m), (5, .int (nI j))]) (st2 := [.int (nI n)]) (w3 := w) rfl rfl ?_
            refine sx_RP.step (pc2 := 139) (ls2 := [(4, .int (nI n)), (0, .ref 111), (1, .int (nI g)), (2, .int (nI t)), (3, .int (nI n)), (5, .int (nI j))]) (st2 := []) (w3 := w) rfl rfl ?_
            refine sx_RP.step (pc2 := 142) (ls2 := [(5, .int ((nI j) + 1)), (4, .int (nI n)), (0, .ref 111), (1, .int (nI g)), (2, .int (nI t)), (3, .int (nI n))]) (st2 := []) (w3 := w) rfl rfl ?_
            rw [nI_1 j]
            refine sx_RP.step (pc2 := 85) (ls2 := [(5, .int (nI (j + 1))), (4, .int (nI n)), (0, .ref 111), (1, .int (nI g)), (2, .int (nI t)), (3, .int (nI n))]) (st2 := []) (w3 := w) rfl rfl ?_
            exact sx_RP.ls (sx_lr.cons rfl (sx_lr.cons rfl (sx_lr.cons rfl (sx_lr.cons rfl (sx_lr.cons rfl (sx_lr.cons rfl sx_lr.nil)))))) (kk w (nI n) hI hE (by omega))
set_option maxRecDepth 20000 in
set_option maxHeartbeats 4000000 in
theorem s182cL {xs : Option (List Int32)} {d : Nat} {w0 : List sx_C} {P : Option Value → List sx_C → Prop} {g t : Nat} (hg : g < 10) (ht : t < 10) {n : Nat} (kx145 : ∀ (w4 : List sx_C) (um : Int32), WI w4 → EM w0 w4 → sx_RP xs (d + 4) 182 145 [(0, .ref 111), (1, .int (nI g)), (2, .int (nI t)), (3, .int (nI n)), (4, .int um)] [] w4 P) : ∀ (fz j : Nat) (w : List sx_C) (m : Int32) , 48 ≤ j + fz * 1 → j ≤ 48 → WI w → EM w0 w → sx_RP xs (d + 4) 182 85 [(0, .ref 111), (1, .int (nI g)), (2, .int (nI t)), (3, .int (nI n)), (4, .int m), (5, .int (nI j))] [] w P
  | 0, j, w, m, h, hj, hI, hE => s182cB hg ht (n := n) hI hE hj m  (fun w4 um hI4 hE4 hlt  => absurd hlt (by omega)) kx145
  | fz + 1, j, w, m, h, hj, hI, hE => s182cB hg ht (n := n) hI hE hj m  (fun w4 um hI4 hE4 hlt  => s182cL hg ht (n := n) kx145 fz (j + 1) w4 um (by omega) hlt hI4 hE4 ) kx145
set_option maxRecDepth 20000 in
set_option maxHeartbeats 4000000 in
theorem s182bB {xs : Option (List Int32)} {d : Nat} {w w0 : List sx_C} {P : Option Value → List sx_C → Prop} {g t : Nat} (hg : g < 10) (ht : t < 10) (hI : WI w) (hE : EM w0 w) {j : Nat} (hj : j ≤ 61) (m : Int32) (kk : ∀ (w4 : List sx_C) (um : Int32), WI w4 → EM w0 w4 → j + 1 ≤ 61 → sx_RP xs (d + 4) 182 63 [(0, .ref 111), (1, .int (nI g)), (2, .int (nI t)), (4, .int um), (3, .int (nI (j + 1)))] [] w4 P) (kx155 : ∀ (w4 : List sx_C) (um : Int32), WI w4 → EM w0 w4 → sx_RP xs (d + 4) 182 155 [(0, .ref 111), (1, .int (nI g)), (2, .int (nI t)), (4, .int um)] [] w4 P) : sx_RP xs (d + 4) 182 63 [(0, .ref 111), (1, .int (nI g)), (2, .int (nI t)), (4, .int m), (3, .int (nI j))] [] w P := by
  refine sx_RP.step (pc2 := 64) (ls2 := [(0, .ref 111), (1, .int (nI g)), (2, .int (nI t)), (4, .int m), (3, .int (nI j))]) (st2 := [.int (nI j)]) (w3 := w) rfl rfl ?_
  refine sx_RP.step (pc2 := 66) (ls2 := [(0, .ref 111), (1, .int (nI g)), (2, .int (nI t)), (4, .int m), (3, .int (nI j))]) (st2 := [.int 60, .int (nI j)]) (w3 := w) rfl rfl ?_
  refine sx_RP.br (p1 := 155) (l1 := [(0, .ref 111), (1, .int (nI g)), (2, .int (nI t)), (4, .int m), (3, .int (nI j))]) (s1 := []) (v1 := w) (p2 := 69) (l2 := [(0, .ref 111), (1, .int (nI g)), (2, .int (nI t)), (4, .int m), (3, .int (nI j))]) (s2 := []) (v2 := w) rfl rfl (fun q1 => ?_) (fun q1 => ?_)
  · replace q1 := of_decide_eq_true q1
    replace q1 := (nI_ltI (a := 60) (b := j) (by omega) (by omega)).mp q1
    exact sx_RP.ls (sx_lr.cons rfl (sx_lr.cons rfl (sx_lr.cons rfl (sx_lr.cons rfl sx_lr.nil)))) (kx155 w m hI hE)
  · replace q1 := of_decide_eq_false q1
    replace q1 := mt (nI_ltI (a := 60) (b := j) (by omega) (by omega)).mpr q1
    refine sx_RP.step (pc2 := 71) (ls2 := [(0, .ref 111), (1, .int (nI g)), (2, .int (nI t)), (4, .int m), (3, .int (nI j))]) (st2 := [.int m]) (w3 := w) rfl rfl ?_
    refine sx_RP.br (p1 := 155) (l1 := [(0, .ref 111), (1, .int (nI g)), (2, .int (nI t)), (4, .int m), (3, .int (nI j))]) (s1 := []) (v1 := w) (p2 := 74) (l2 := [(0, .ref 111), (1, .int (nI g)), (2, .int (nI t)), (4, .int m), (3, .int (nI j))]) (s2 := []) (v2 := w) rfl rfl (fun q2 => ?_) (fun q2 => ?_)
    · replace q2 := of_decide_eq_true q2
      exact sx_RP.ls (sx_lr.cons rfl (sx_lr.cons rfl (sx_lr.cons rfl (sx_lr.cons rfl sx_lr.nil)))) (kx155 w m hI hE)
    · replace q2 := of_decide_eq_false q2
      refine sx_RP.step (pc2 := 75) (ls2 := [(0, .ref 111), (1, .int (nI g)), (2, .int (nI t)), (4, .int m), (3, .int (nI j))]) (st2 := [.ref 111]) (w3 := w) rfl rfl ?_
      refine sx_RP.step (pc2 := 76) (ls2 := [(0, .ref 111), (1, .int (nI g)), (2, .int (nI t)), (4, .int m), (3, .int (nI j))]) (st2 := [.int (nI t), .ref 111]) (w3 := w) rfl rfl ?_
      obtain ⟨x3, hx4, c5⟩ := p137 hI (show t < 10 by omega)
      refine sx_RP.cu (as := [.ref 111, .int (nI t)]) (rest2 := []) (st3 := [.int (nI x3)]) rfl rfl (sx_inv_v2 (mi := 182) (k := 74) (st := [.int (nI t), .ref 111]) (w := w) rfl rfl hI.1.o111 rfl rfl rfl) rfl rfl (c5) rfl ?_
      refine sx_RP.br (p1 := 155) (l1 := [(0, .ref 111), (1, .int (nI g)), (2, .int (nI t)), (4, .int m), (3, .int (nI j))]) (s1 := []) (v1 := w) (p2 := 82) (l2 := [(0, .ref 111), (1, .int (nI g)), (2, .int (nI t)), (4, .int m), (3, .int (nI j))]) (s2 := []) (v2 := w) rfl rfl (fun q6 => ?_) (fun q6 => ?_)
      · replace q6 := of_decide_eq_true q6
        replace q6 := (nI_eq (a := x3) (b := 0) (by omega) (by omega)).mp q6
        exact sx_RP.ls (sx_lr.cons rfl (sx_lr.cons rfl (sx_lr.cons rfl (sx_lr.cons rfl sx_lr.nil)))) (kx155 w m hI hE)
      · replace q6 := of_decide_eq_false q6
        replace q6 := mt (nI_eq (a := x3) (b := 0) (by omega) (by omega)).mpr q6
        refine sx_RP.step (pc2 := 83) (ls2 := [(0, .ref 111), (1, .int (nI g)), (2, .int (nI t)), (4, .int m), (3, .int (nI j))]) (st2 := [.int 0]) (w3 := w) rfl rfl ?_
        refine sx_RP.step (pc2 := 85) (ls2 := [(5, .int 0), (0, .ref 111), (1, .int (nI g)), (2, .int (nI t)), (4, .int m), (3, .int (nI j))]) (st2 := []) (w3 := w) rfl rfl ?_
        refine sx_RP.ls (sx_lr.cons rfl (sx_lr.cons rfl (sx_lr.cons rfl (sx_lr.cons rfl (sx_lr.cons rfl (sx_lr.cons rfl sx_lr.nil)))))) (s182cL hg ht (n := j) (fun w7 u10 hI8 hE9 => ?_) 48 0 w m (by omega) (by omega) hI hE )
        refine sx_RP.step (pc2 := 146) (ls2 := [(0, .ref 111), (1, .int (nI g)), (2, .int (nI t)), (3, .int (nI j)), (4, .int u10)]) (st2 := [.ref 111]) (w3 := w7) rfl rfl ?_
        refine sx_RP.callp (as2 := [.ref 111]) (rest2 := []) rfl rfl (sx_inv_v2 (mi := 182) (k := 143) (st := [.ref 111]) (w := w7) rfl rfl hI8.1.o111 rfl rfl rfl) rfl rfl rfl (s169 hI8 ) (show _ = 149 from rfl) ?_
        rintro r4 w11 ⟨rfl, hI12, hE14⟩
        have hE13 := hE9.tr (hE14)
        show sx_RP _ _ _ _ _ [] _ _
        refine sx_RP.step (pc2 := 152) (ls2 := [(3, .int ((nI j) + 1)), (0, .ref 111), (1, .int (nI g)), (2, .int (nI t)), (4, .int u10)]) (st2 := []) (w3 := w11) rfl rfl ?_
        rw [nI_1 j]
        refine sx_RP.step (pc2 := 63) (ls2 := [(3, .int (nI (j + 1))), (0, .ref 111), (1, .int (nI g)), (2, .int (nI t)), (4, .int u10)]) (st2 := []) (w3 := w11) rfl rfl ?_
        exact sx_RP.ls (sx_lr.cons rfl (sx_lr.cons rfl (sx_lr.cons rfl (sx_lr.cons rfl (sx_lr.cons rfl sx_lr.nil))))) (kk w11 u10 hI12 hE13 (by omega))
set_option maxRecDepth 20000 in
set_option maxHeartbeats 4000000 in
theorem s182bL {xs : Option (List Int32)} {d : Nat} {w0 : List sx_C} {P : Option Value → List sx_C → Prop} {g t : Nat} (hg : g < 10) (ht : t < 10) (kx155 : ∀ (w4 : List sx_C) (um : Int32), WI w4 → EM w0 w4 → sx_RP xs (d + 4) 182 155 [(0, .ref 111), (1, .int (nI g)), (2, .int (nI t)), (4, .int um)] [] w4 P) : ∀ (fz j : Nat) (w : List sx_C) (m : Int32) , 61 ≤ j + fz * 1 → j ≤ 61 → WI w → EM w0 w → sx_RP xs (d + 4) 182 63 [(0, .ref 111), (1, .int (nI g)), (2, .int (nI t)), (4, .int m), (3, .int (nI j))] [] w P
  | 0, j, w, m, h, hj, hI, hE => s182bB hg ht hI hE hj m  (fun w4 um hI4 hE4 hlt  => absurd hlt (by omega)) kx155
  | fz + 1, j, w, m, h, hj, hI, hE => s182bB hg ht hI hE hj m  (fun w4 um hI4 hE4 hlt  => s182bL hg ht kx155 fz (j + 1) w4 um (by omega) hlt hI4 hE4 ) kx155
set_option maxRecDepth 20000 in
set_option maxHeartbeats 4000000 in
theorem s182 {xs : Option (List Int32)} {d : Nat} {w : List sx_C} (hI : WI w) {g t : Nat} (hg : g < 10) (ht : t < 10) : sx_RP xs (d + 4) 182 0 (lv_args 0 [.ref 111, .int (nI g), .int (nI t)]) [] w (fun r w2 => (∃ v : Int32, r = some (.int v)) ∧ WI w2 ∧ EM w w2) := by
  have hE : EM w w := EM.rf
  refine sx_RP.step (pc2 := 1) (ls2 := [(0, .ref 111), (1, .int (nI g)), (2, .int (nI t))]) (st2 := [.ref 111]) (w3 := w) rfl rfl ?_
  refine sx_RP.step (pc2 := 2) (ls2 := [(0, .ref 111), (1, .int (nI g)), (2, .int (nI t))]) (st2 := [.ref 111, .ref 111]) (w3 := w) rfl rfl ?_
  refine sx_RP.step (pc2 := 3) (ls2 := [(0, .ref 111), (1, .int (nI g)), (2, .int (nI t))]) (st2 := [.int (nI g), .ref 111, .ref 111]) (w3 := w) rfl rfl ?_
  refine sx_RP.step (pc2 := 4) (ls2 := [(0, .ref 111), (1, .int (nI g)), (2, .int (nI t))]) (st2 := [.int 2, .int (nI g), .ref 111, .ref 111]) (w3 := w) rfl rfl ?_
  obtain ⟨x1, hx2, c3⟩ := p138_2 hI (show g < 10 by omega)
  refine sx_RP.cu (as := [.ref 111, .int (nI g), .int 2]) (rest2 := [.ref 111]) (st3 := [.int (nI x1), .ref 111]) rfl rfl (sx_inv_v2 (mi := 182) (k := 59) (st := [.int 2, .int (nI g), .ref 111, .ref 111]) (w := w) rfl rfl hI.1.o111 rfl rfl rfl) rfl rfl (c3) rfl ?_
  refine sx_RP.step (pc2 := 8) (ls2 := [(0, .ref 111), (1, .int (nI g)), (2, .int (nI t))]) (st2 := [.int (nI g), .int (nI x1), .ref 111]) (w3 := w) rfl rfl ?_
  refine sx_RP.callp (as2 := [.ref 111, .int (nI x1), .int (nI g)]) (rest2 := []) rfl rfl (sx_inv_v2 (mi := 182) (k := 94) (st := [.int (nI g), .int (nI x1), .ref 111]) (w := w) rfl rfl hI.1.o111 rfl rfl rfl) rfl rfl rfl (s141d hI (show x1 < 48 by omega) (show g < 10 by omega)) (show _ = 11 from rfl) ?_
  rintro r4 w4 ⟨rfl, hI5, hE7⟩
  have hE6 := hE.tr (hE7)
  show sx_RP _ _ _ _ _ [] _ _
  refine sx_RP.step (pc2 := 12) (ls2 := [(0, .ref 111), (1, .int (nI g)), (2, .int (nI t))]) (st2 := [.ref 111]) (w3 := w4) rfl rfl ?_
  refine sx_RP.gf (v := .ref 112) rfl rfl hI5.1.o111 rfl rfl (show _ = 15 from rfl) ?_
  refine sx_RP.step (pc2 := 16) (ls2 := [(0, .ref 111), (1, .int (nI g)), (2, .int (nI t))]) (st2 := [.ref 111, .ref 112]) (w3 := w4) rfl rfl ?_
  refine sx_RP.gf (v := .ref 114) rfl rfl hI5.1.o111 rfl rfl (show _ = 19 from rfl) ?_
  refine sx_RP.callp (as2 := [.ref 112, .ref 114]) (rest2 := []) rfl rfl rfl rfl rfl rfl (s175 hI5 (a := 112) (b := 114) (by decide) (by decide)) (show _ = 22 from rfl) ?_
  rintro r4 w8 ⟨rfl, hI9, hE11⟩
  have hE10 := hE6.tr (hE11)
  show sx_RP _ _ _ _ _ [] _ _
  refine sx_RP.step (pc2 := 23) (ls2 := [(0, .ref 111), (1, .int (nI g)), (2, .int (nI t))]) (st2 := [.int 0]) (w3 := w8) rfl rfl ?_
  refine sx_RP.step (pc2 := 24) (ls2 := [(3, .int 0), (0, .ref 111), (1, .int (nI g)), (2, .int (nI t))]) (st2 := []) (w3 := w8) rfl rfl ?_
  refine sx_RP.ls (sx_lr.cons rfl (sx_lr.cons rfl (sx_lr.cons rfl (sx_lr.cons rfl sx_lr.nil)))) (s182aL hg ht (fun w12 hI13 hE14 => ?_) 10 0 w8  (by omega) (by omega) hI9 hE10 )
  refine sx_RP.step (pc2 := 59) (ls2 := [(0, .ref 111), (1, .int (nI g)), (2, .int (nI t))]) (st2 := [.int 0]) (w3 := w12) rfl rfl ?_
  refine sx_RP.step (pc2 := 60) (ls2 := [(3, .int 0), (0, .ref 111), (1, .int (nI g)), (2, .int (nI t))]) (st2 := []) (w3 := w12) rfl rfl ?_
  refine sx_RP.step (pc2 := 61) (ls2 := [(3, .int 0), (0, .ref 111), (1, .int (nI g)), (2, .int (nI t))]) (st2 := [.int (-1)]) (w3 := w12) rfl rfl ?_
  refine sx_RP.step (pc2 := 63) (ls2 := [(4, .int (-1)), (3, .int 0), (0, .ref 111), (1, .int (nI g)), (2, .int (nI t))]) (st2 := []) (w3 := w12) rfl rfl ?_
  refine sx_RP.ls (sx_lr.cons rfl (sx_lr.cons rfl (sx_lr.cons rfl (sx_lr.cons rfl (sx_lr.cons rfl sx_lr.nil))))) (s182bL hg ht (fun w15 u18 hI16 hE17 => ?_) 61 0 w12 (-1) (by omega) (by omega) hI13 hE14 )
  refine sx_RP.step (pc2 := 156) (ls2 := [(0, .ref 111), (1, .int (nI g)), (2, .int (nI t)), (4, .int u18)]) (st2 := [.ref 111]) (w3 := w15) rfl rfl ?_
  refine sx_RP.gf (v := .ref 114) rfl rfl hI16.1.o111 rfl rfl (show _ = 159 from rfl) ?_
  refine sx_RP.step (pc2 := 160) (ls2 := [(0, .ref 111), (1, .int (nI g)), (2, .int (nI t)), (4, .int u18)]) (st2 := [.ref 111, .ref 114]) (w3 := w15) rfl rfl ?_
  refine sx_RP.gf (v := .ref 112) rfl rfl hI16.1.o111 rfl rfl (show _ = 163 from rfl) ?_
  refine sx_RP.callp (as2 := [.ref 114, .ref 112]) (rest2 := []) rfl rfl rfl rfl rfl rfl (s175 hI16 (a := 114) (b := 112) (by decide) (by decide)) (show _ = 166 from rfl) ?_
  rintro r4 w19 ⟨rfl, hI20, hE22⟩
  have hE21 := hE17.tr (hE22)
  show sx_RP _ _ _ _ _ [] _ _
  refine sx_RP.step (pc2 := 168) (ls2 := [(0, .ref 111), (1, .int (nI g)), (2, .int (nI t)), (4, .int u18)]) (st2 := [.int u18]) (w3 := w19) rfl rfl ?_
  refine sx_RP.ret (r := (some (.int u18))) rfl rfl ?_
  exact ⟨⟨_, rfl⟩, hI20, hE21⟩
set_option maxRecDepth 20000 in
set_option maxHeartbeats 4000000 in
theorem s180 {xs : Option (List Int32)} {d : Nat} {w : List sx_C} (hI : WI w) (a1 a2 : Int32) : sx_RP xs (d + 7) 180 0 (lv_args 0 [.ref 111, .int a1, .int a2]) [] w (fun r w2 => (∃ v : Int32, r = some (.int v)) ∧ WI w2 ∧ EM w w2) := by
  have hE : EM w w := EM.rf
  refine sx_RP.step (pc2 := 1) (ls2 := [(0, .ref 111), (1, .int a1), (2, .int a2)]) (st2 := [.ref 111]) (w3 := w) rfl rfl ?_
  refine sx_RP.step (pc2 := 2) (ls2 := [(0, .ref 111), (1, .int a1), (2, .int a2)]) (st2 := [.int a1, .ref 111]) (w3 := w) rfl rfl ?_
  rcases p156 (xs := xs) hI a1 with c2 | ⟨⟨x3, hx4, rfl⟩, c2⟩
  · refine sx_RP.cu (as := [.ref 111, .int a1]) (rest2 := []) (st3 := [.int 0]) rfl rfl (sx_inv_v2 (mi := 180) (k := 124) (st := [.int a1, .ref 111]) (w := w) rfl rfl hI.1.o111 rfl rfl rfl) rfl rfl (c2) rfl ?_
    refine sx_RP.step (pc2 := 16) (ls2 := [(0, .ref 111), (1, .int a1), (2, .int a2)]) (st2 := []) (w3 := w) rfl rfl ?_
    refine sx_RP.step (pc2 := 17) (ls2 := [(0, .ref 111), (1, .int a1), (2, .int a2)]) (st2 := [.ref 111]) (w3 := w) rfl rfl ?_
    refine sx_RP.step (pc2 := 18) (ls2 := [(0, .ref 111), (1, .int a1), (2, .int a2)]) (st2 := [.int 0, .ref 111]) (w3 := w) rfl rfl ?_
    refine sx_RP.callp (as2 := [.ref 111, .int 0]) (rest2 := []) rfl rfl (sx_inv_v2 (mi := 180) (k := 70) (st := [.int 0, .ref 111]) (w := w) rfl rfl hI.1.o111 rfl rfl rfl) rfl rfl rfl (s133_0 hI) (show _ = 21 from rfl) ?_
    rintro r4 w6 ⟨rfl, hI7, hE9⟩
    have hE8 := hE.tr (hE9)
    show sx_RP _ _ _ _ _ [.int (-1000000001)] _ _
    refine sx_RP.ret (r := (some (.int (-1000000001)))) rfl rfl ?_
    exact ⟨⟨_, rfl⟩, hI7, hE8⟩
  · refine sx_RP.cu (as := [.ref 111, .int (nI x3)]) (rest2 := []) (st3 := [.int 1]) rfl rfl (sx_inv_v2 (mi := 180) (k := 124) (st := [.int (nI x3), .ref 111]) (w := w) rfl rfl hI.1.o111 rfl rfl rfl) rfl rfl (c2) rfl ?_
    refine sx_RP.step (pc2 := 8) (ls2 := [(0, .ref 111), (1, .int (nI x3)), (2, .int a2)]) (st2 := []) (w3 := w) rfl rfl ?_
    refine sx_RP.step (pc2 := 9) (ls2 := [(0, .ref 111), (1, .int (nI x3)), (2, .int a2)]) (st2 := [.ref 111]) (w3 := w) rfl rfl ?_
    refine sx_RP.step (pc2 := 10) (ls2 := [(0, .ref 111), (1, .int (nI x3)), (2, .int a2)]) (st2 := [.int a2, .ref 111]) (w3 := w) rfl rfl ?_
    rcases p156 (xs := xs) hI a2 with c11 | ⟨⟨x12, hx13, rfl⟩, c11⟩
    · refine sx_RP.cu (as := [.ref 111, .int a2]) (rest2 := []) (st3 := [.int 0]) rfl rfl (sx_inv_v2 (mi := 180) (k := 124) (st := [.int a2, .ref 111]) (w := w) rfl rfl hI.1.o111 rfl rfl rfl) rfl rfl (c11) rfl ?_
      refine sx_RP.step (pc2 := 16) (ls2 := [(0, .ref 111), (1, .int (nI x3)), (2, .int a2)]) (st2 := []) (w3 := w) rfl rfl ?_
      refine sx_RP.step (pc2 := 17) (ls2 := [(0, .ref 111), (1, .int (nI x3)), (2, .int a2)]) (st2 := [.ref 111]) (w3 := w) rfl rfl ?_
      refine sx_RP.step (pc2 := 18) (ls2 := [(0, .ref 111), (1, .int (nI x3)), (2, .int a2)]) (st2 := [.int 0, .ref 111]) (w3 := w) rfl rfl ?_
      refine sx_RP.callp (as2 := [.ref 111, .int 0]) (rest2 := []) rfl rfl (sx_inv_v2 (mi := 180) (k := 70) (st := [.int 0, .ref 111]) (w := w) rfl rfl hI.1.o111 rfl rfl rfl) rfl rfl rfl (s133_0 hI) (show _ = 21 from rfl) ?_
      rintro r4 w15 ⟨rfl, hI16, hE18⟩
      have hE17 := hE.tr (hE18)
      show sx_RP _ _ _ _ _ [.int (-1000000001)] _ _
      refine sx_RP.ret (r := (some (.int (-1000000001)))) rfl rfl ?_
      exact ⟨⟨_, rfl⟩, hI16, hE17⟩
    · refine sx_RP.cu (as := [.ref 111, .int (nI x12)]) (rest2 := []) (st3 := [.int 1]) rfl rfl (sx_inv_v2 (mi := 180) (k := 124) (st := [.int (nI x12), .ref 111]) (w := w) rfl rfl hI.1.o111 rfl rfl rfl) rfl rfl (c11) rfl ?_
      refine sx_RP.step (pc2 := 22) (ls2 := [(0, .ref 111), (1, .int (nI x3)), (2, .int (nI x12))]) (st2 := []) (w3 := w) rfl rfl ?_
      refine sx_RP.step (pc2 := 23) (ls2 := [(0, .ref 111), (1, .int (nI x3)), (2, .int (nI x12))]) (st2 := [.ref 111]) (w3 := w) rfl rfl ?_
      refine sx_RP.step (pc2 := 24) (ls2 := [(0, .ref 111), (1, .int (nI x3)), (2, .int (nI x12))]) (st2 := [.int (nI x3), .ref 111]) (w3 := w) rfl rfl ?_
      refine sx_RP.step (pc2 := 25) (ls2 := [(0, .ref 111), (1, .int (nI x3)), (2, .int (nI x12))]) (st2 := [.int 1, .int (nI x3), .ref 111]) (w3 := w) rfl rfl ?_
      obtain ⟨x19, hx20, c21⟩ := p181 hI (show x3 < 10 by omega) 1
      refine sx_RP.cu (as := [.ref 111, .int (nI x3), .int 1]) (rest2 := []) (st3 := [.int (nI x19)]) rfl rfl (sx_inv_v2 (mi := 180) (k := 165) (st := [.int 1, .int (nI x3), .ref 111]) (w := w) rfl rfl hI.1.o111 rfl rfl rfl) rfl rfl (c21) rfl ?_
      refine sx_RP.br (p1 := 49) (l1 := [(0, .ref 111), (1, .int (nI x3)), (2, .int (nI x12))]) (s1 := []) (v1 := w) (p2 := 31) (l2 := [(0, .ref 111), (1, .int (nI x3)), (2, .int (nI x12))]) (s2 := []) (v2 := w) rfl rfl (fun q22 => ?_) (fun q22 => ?_)
      · replace q22 := of_decide_eq_true q22
        replace q22 := (nI_eq (a := x19) (b := 0) (by omega) (by omega)).mp q22
        refine sx_RP.step (pc2 := 50) (ls2 := [(0, .ref 111), (1, .int (nI x3)), (2, .int (nI x12))]) (st2 := [.ref 111]) (w3 := w) rfl rfl ?_
        refine sx_RP.step (pc2 := 51) (ls2 := [(0, .ref 111), (1, .int (nI x3)), (2, .int (nI x12))]) (st2 := [.int 4, .ref 111]) (w3 := w) rfl rfl ?_
        refine sx_RP.callp (as2 := [.ref 111, .int 4]) (rest2 := []) rfl rfl (sx_inv_v2 (mi := 180) (k := 70) (st := [.int 4, .ref 111]) (w := w) rfl rfl hI.1.o111 rfl rfl rfl) rfl rfl rfl (s133_4 hI) (show _ = 54 from rfl) ?_
        rintro r4 w23 ⟨rfl, hI24, hE26⟩
        have hE25 := hE.tr (hE26)
        show sx_RP _ _ _ _ _ [.int (-1000000005)] _ _
        refine sx_RP.ret (r := (some (.int (-1000000005)))) rfl rfl ?_
        exact ⟨⟨_, rfl⟩, hI24, hE25⟩
      · replace q22 := of_decide_eq_false q22
        replace q22 := mt (nI_eq (a := x19) (b := 0) (by omega) (by omega)).mpr q22
        refine sx_RP.step (pc2 := 32) (ls2 := [(0, .ref 111), (1, .int (nI x3)), (2, .int (nI x12))]) (st2 := [.ref 111]) (w3 := w) rfl rfl ?_
        refine sx_RP.step (pc2 := 33) (ls2 := [(0, .ref 111), (1, .int (nI x3)), (2, .int (nI x12))]) (st2 := [.int (nI x12), .ref 111]) (w3 := w) rfl rfl ?_
        refine sx_RP.step (pc2 := 34) (ls2 := [(0, .ref 111), (1, .int (nI x3)), (2, .int (nI x12))]) (st2 := [.int 0, .int (nI x12), .ref 111]) (w3 := w) rfl rfl ?_
        obtain ⟨x27, hx28, c29⟩ := p181 hI (show x12 < 10 by omega) 0
        refine sx_RP.cu (as := [.ref 111, .int (nI x12), .int 0]) (rest2 := []) (st3 := [.int (nI x27)]) rfl rfl (sx_inv_v2 (mi := 180) (k := 165) (st := [.int 0, .int (nI x12), .ref 111]) (w := w) rfl rfl hI.1.o111 rfl rfl rfl) rfl rfl (c29) rfl ?_
        refine sx_RP.br (p1 := 49) (l1 := [(0, .ref 111), (1, .int (nI x3)), (2, .int (nI x12))]) (s1 := []) (v1 := w) (p2 := 40) (l2 := [(0, .ref 111), (1, .int (nI x3)), (2, .int (nI x12))]) (s2 := []) (v2 := w) rfl rfl (fun q30 => ?_) (fun q30 => ?_)
        · replace q30 := of_decide_eq_true q30
          replace q30 := (nI_eq (a := x27) (b := 0) (by omega) (by omega)).mp q30
          refine sx_RP.step (pc2 := 50) (ls2 := [(0, .ref 111), (1, .int (nI x3)), (2, .int (nI x12))]) (st2 := [.ref 111]) (w3 := w) rfl rfl ?_
          refine sx_RP.step (pc2 := 51) (ls2 := [(0, .ref 111), (1, .int (nI x3)), (2, .int (nI x12))]) (st2 := [.int 4, .ref 111]) (w3 := w) rfl rfl ?_
          refine sx_RP.callp (as2 := [.ref 111, .int 4]) (rest2 := []) rfl rfl (sx_inv_v2 (mi := 180) (k := 70) (st := [.int 4, .ref 111]) (w := w) rfl rfl hI.1.o111 rfl rfl rfl) rfl rfl rfl (s133_4 hI) (show _ = 54 from rfl) ?_
          rintro r4 w31 ⟨rfl, hI32, hE34⟩
          have hE33 := hE.tr (hE34)
          show sx_RP _ _ _ _ _ [.int (-1000000005)] _ _
          refine sx_RP.ret (r := (some (.int (-1000000005)))) rfl rfl ?_
          exact ⟨⟨_, rfl⟩, hI32, hE33⟩
        · replace q30 := of_decide_eq_false q30
          replace q30 := mt (nI_eq (a := x27) (b := 0) (by omega) (by omega)).mpr q30
          refine sx_RP.step (pc2 := 41) (ls2 := [(0, .ref 111), (1, .int (nI x3)), (2, .int (nI x12))]) (st2 := [.ref 111]) (w3 := w) rfl rfl ?_
          refine sx_RP.step (pc2 := 43) (ls2 := [(0, .ref 111), (1, .int (nI x3)), (2, .int (nI x12))]) (st2 := [.int 60, .ref 111]) (w3 := w) rfl rfl ?_
          obtain ⟨x35, hx36, c37⟩ := p165 hI 60
          refine sx_RP.cu (as := [.ref 111, .int 60]) (rest2 := []) (st3 := [.int (nI x35)]) rfl rfl (sx_inv_v2 (mi := 180) (k := 149) (st := [.int 60, .ref 111]) (w := w) rfl rfl hI.1.o111 rfl rfl rfl) rfl rfl (c37) rfl ?_
          refine sx_RP.br (p1 := 55) (l1 := [(0, .ref 111), (1, .int (nI x3)), (2, .int (nI x12))]) (s1 := []) (v1 := w) (p2 := 49) (l2 := [(0, .ref 111), (1, .int (nI x3)), (2, .int (nI x12))]) (s2 := []) (v2 := w) rfl rfl (fun q38 => ?_) (fun q38 => ?_)
          · replace q38 := of_decide_eq_true q38
            replace q38 := (nI_eq (a := x35) (b := 0) (by omega) (by omega)).mp q38
            refine sx_RP.step (pc2 := 56) (ls2 := [(0, .ref 111), (1, .int (nI x3)), (2, .int (nI x12))]) (st2 := [.ref 111]) (w3 := w) rfl rfl ?_
            refine sx_RP.step (pc2 := 57) (ls2 := [(0, .ref 111), (1, .int (nI x3)), (2, .int (nI x12))]) (st2 := [.int (nI x3), .ref 111]) (w3 := w) rfl rfl ?_
            refine sx_RP.step (pc2 := 58) (ls2 := [(0, .ref 111), (1, .int (nI x3)), (2, .int (nI x12))]) (st2 := [.int (nI x12), .int (nI x3), .ref 111]) (w3 := w) rfl rfl ?_
            refine sx_RP.callp (as2 := [.ref 111, .int (nI x3), .int (nI x12)]) (rest2 := []) rfl rfl (sx_inv_v2 (mi := 180) (k := 168) (st := [.int (nI x12), .int (nI x3), .ref 111]) (w := w) rfl rfl hI.1.o111 rfl rfl rfl) rfl rfl rfl (s182 hI (show x3 < 10 by omega) (show x12 < 10 by omega)) (show _ = 61 from rfl) ?_
            rintro r4 w40 ⟨⟨v39, rfl⟩, hI41, hE43⟩
            have hE42 := hE.tr (hE43)
            show sx_RP _ _ _ _ _ [.int v39] _ _
            refine sx_RP.step (pc2 := 62) (ls2 := [(3, .int v39), (0, .ref 111), (1, .int (nI x3)), (2, .int (nI x12))]) (st2 := []) (w3 := w40) rfl rfl ?_
            refine sx_RP.step (pc2 := 63) (ls2 := [(3, .int v39), (0, .ref 111), (1, .int (nI x3)), (2, .int (nI x12))]) (st2 := [.int v39]) (w3 := w40) rfl rfl ?_
            refine sx_RP.br (p1 := 74) (l1 := [(3, .int v39), (0, .ref 111), (1, .int (nI x3)), (2, .int (nI x12))]) (s1 := []) (v1 := w40) (p2 := 66) (l2 := [(3, .int v39), (0, .ref 111), (1, .int (nI x3)), (2, .int (nI x12))]) (s2 := []) (v2 := w40) rfl rfl (fun q44 => ?_) (fun q44 => ?_)
            · replace q44 := of_decide_eq_true q44
              refine sx_RP.step (pc2 := 75) (ls2 := [(3, .int v39), (0, .ref 111), (1, .int (nI x3)), (2, .int (nI x12))]) (st2 := [.int v39]) (w3 := w40) rfl rfl ?_
              refine sx_RP.ret (r := (some (.int v39))) rfl rfl ?_
              exact ⟨⟨_, rfl⟩, hI41, hE42⟩
            · replace q44 := of_decide_eq_false q44
              refine sx_RP.step (pc2 := 67) (ls2 := [(3, .int v39), (0, .ref 111), (1, .int (nI x3)), (2, .int (nI x12))]) (st2 := [.ref 111]) (w3 := w40) rfl rfl ?_
              refine sx_RP.step (pc2 := 68) (ls2 := [(3, .int v39), (0, .ref 111), (1, .int (nI x3)), (2, .int (nI x12))]) (st2 := [.int 3, .ref 111]) (w3 := w40) rfl rfl ?_
              refine sx_RP.callp (as2 := [.ref 111, .int 3]) (rest2 := []) rfl rfl (sx_inv_v2 (mi := 180) (k := 70) (st := [.int 3, .ref 111]) (w := w40) rfl rfl hI41.1.o111 rfl rfl rfl) rfl rfl rfl (s133_3 hI41) (show _ = 71 from rfl) ?_
              rintro r4 w45 ⟨rfl, hI46, hE48⟩
              have hE47 := hE42.tr (hE48)
              show sx_RP _ _ _ _ _ [.int (-1000000004)] _ _
              refine sx_RP.step (pc2 := 75) (ls2 := [(3, .int v39), (0, .ref 111), (1, .int (nI x3)), (2, .int (nI x12))]) (st2 := [.int (-1000000004)]) (w3 := w45) rfl rfl ?_
              refine sx_RP.ret (r := (some (.int (-1000000004)))) rfl rfl ?_
              exact ⟨⟨_, rfl⟩, hI46, hE47⟩
          · replace q38 := of_decide_eq_false q38
            replace q38 := mt (nI_eq (a := x35) (b := 0) (by omega) (by omega)).mpr q38
            refine sx_RP.step (pc2 := 50) (ls2 := [(0, .ref 111), (1, .int (nI x3)), (2, .int (nI x12))]) (st2 := [.ref 111]) (w3 := w) rfl rfl ?_
            refine sx_RP.step (pc2 := 51) (ls2 := [(0, .ref 111), (1, .int (nI x3)), (2, .int (nI x12))]) (st2 := [.int 4, .ref 111]) (w3 := w) rfl rfl ?_
            refine sx_RP.callp (as2 := [.ref 111, .int 4]) (rest2 := []) rfl rfl (sx_inv_v2 (mi := 180) (k := 70) (st := [.int 4, .ref 111]) (w := w) rfl rfl hI.1.o111 rfl rfl rfl) rfl rfl rfl (s133_4 hI) (show _ = 54 from rfl) ?_
            rintro r4 w49 ⟨rfl, hI50, hE52⟩
            have hE51 := hE.tr (hE52)
            show sx_RP _ _ _ _ _ [.int (-1000000005)] _ _
            refine sx_RP.ret (r := (some (.int (-1000000005)))) rfl rfl ?_
            exact ⟨⟨_, rfl⟩, hI50, hE51⟩
set_option maxRecDepth 20000 in
set_option maxHeartbeats 4000000 in
theorem s183B {xs : Option (List Int32)} {d : Nat} {w w0 : List sx_C} {t : Nat} (ht : t < 10) (hI : WI w) (hE : EM w0 w) {j : Nat} (hj : j ≤ 10) (m : Int32) (l : Int32) (kk : ∀ (w4 : List sx_C) (um : Int32) (ul : Int32), WI w4 → EM w0 w4 → j + 1 ≤ 10 → sx_RP xs (d + 7) 183 46 [(0, .ref 111), (1, .int (nI t)), (2, .int um), (3, .int ul), (4, .int (nI (j + 1)))] [] w4 (fun r w2 => (∃ v : Int32, r = some (.int v)) ∧ WI w2 ∧ EM w0 w2)) : sx_RP xs (d + 7) 183 46 [(0, .ref 111), (1, .int (nI t)), (2, .int m), (3, .int l), (4, .int (nI j))] [] w (fun r w2 => (∃ v : Int32, r = some (.int v)) ∧ WI w2 ∧ EM w0 w2) := by
  refine sx_RP.step (pc2 := 48) (ls2 := [(0, .ref 111), (1, .int (nI t)), (2, .int m), (3, .int l), (4, .int (nI j))]) (st2 := [.int (nI j)]) (w3 := w) rfl rfl ?_
  refine sx_RP.step (pc2 := 49) (ls2 := [(0, .ref 111), (1, .int (nI t)), (2, .int m), (3, .int l), (4, .int (nI j))]) (st2 := [.ref 111, .int (nI j)]) (w3 := w) rfl rfl ?_
  refine sx_RP.gf (v := .ref 112) rfl rfl hI.1.o111 rfl rfl (show _ = 52 from rfl) ?_
  refine sx_RP.step (pc2 := 53) (ls2 := [(0, .ref 111), (1, .int (nI t)), (2, .int m), (3, .int l), (4, .int (nI j))]) (st2 := [.int 1, .ref 112, .int (nI j)]) (w3 := w) rfl rfl ?_
  refine sx_RP.ild (c := 1) rfl hI.1.a112.1 hI.1.a112.2 (sx_in_nI (show 1 < 172 by omega) (by decide)) (show (nI 1).toNatClampNeg = 1 from nI_clamp (by omega)) (show _ = 54 from rfl) ?_
  obtain ⟨x1, hx2, ex3⟩ : inR ((ia w 112).getD 1 0) 10 := (hI.s (1) (by omega)).1 rfl
  rw [ex3]
  refine sx_RP.br (p1 := 103) (l1 := [(0, .ref 111), (1, .int (nI t)), (2, .int m), (3, .int l), (4, .int (nI j))]) (s1 := []) (v1 := w) (p2 := 57) (l2 := [(0, .ref 111), (1, .int (nI t)), (2, .int m), (3, .int l), (4, .int (nI j))]) (s2 := []) (v2 := w) rfl rfl (fun q4 => ?_) (fun q4 => ?_)
  · replace q4 := of_decide_eq_true q4
    replace q4 := (nI_leI (a := x1) (b := j) (by omega) (by omega)).mp q4
    refine sx_RP.step (pc2 := 104) (ls2 := [(0, .ref 111), (1, .int (nI t)), (2, .int m), (3, .int l), (4, .int (nI j))]) (st2 := [.int m]) (w3 := w) rfl rfl ?_
    refine sx_RP.br (p1 := 115) (l1 := [(0, .ref 111), (1, .int (nI t)), (2, .int m), (3, .int l), (4, .int (nI j))]) (s1 := []) (v1 := w) (p2 := 107) (l2 := [(0, .ref 111), (1, .int (nI t)), (2, .int m), (3, .int l), (4, .int (nI j))]) (s2 := []) (v2 := w) rfl rfl (fun q5 => ?_) (fun q5 => ?_)
    · replace q5 := of_decide_eq_true q5
      refine sx_RP.step (pc2 := 116) (ls2 := [(0, .ref 111), (1, .int (nI t)), (2, .int m), (3, .int l), (4, .int (nI j))]) (st2 := [.int m]) (w3 := w) rfl rfl ?_
      refine sx_RP.ret (r := (some (.int m))) rfl rfl ?_
      exact ⟨⟨_, rfl⟩, hI, hE⟩
    · replace q5 := of_decide_eq_false q5
      refine sx_RP.step (pc2 := 108) (ls2 := [(0, .ref 111), (1, .int (nI t)), (2, .int m), (3, .int l), (4, .int (nI j))]) (st2 := [.ref 111]) (w3 := w) rfl rfl ?_
      refine sx_RP.step (pc2 := 109) (ls2 := [(0, .ref 111), (1, .int (nI t)), (2, .int m), (3, .int l), (4, .int (nI j))]) (st2 := [.int 3, .ref 111]) (w3 := w) rfl rfl ?_
      refine sx_RP.callp (as2 := [.ref 111, .int 3]) (rest2 := []) rfl rfl (sx_inv_v2 (mi := 183) (k := 70) (st := [.int 3, .ref 111]) (w := w) rfl rfl hI.1.o111 rfl rfl rfl) rfl rfl rfl (s133_3 hI) (show _ = 112 from rfl) ?_
      rintro r4 w6 ⟨rfl, hI7, hE9⟩
      have hE8 := hE.tr (hE9)
      show sx_RP _ _ _ _ _ [.int (-1000000004)] _ _
      refine sx_RP.step (pc2 := 116) (ls2 := [(0, .ref 111), (1, .int (nI t)), (2, .int m), (3, .int l), (4, .int (nI j))]) (st2 := [.int (-1000000004)]) (w3 := w6) rfl rfl ?_
      refine sx_RP.ret (r := (some (.int (-1000000004)))) rfl rfl ?_
      exact ⟨⟨_, rfl⟩, hI7, hE8⟩
  · replace q4 := of_decide_eq_false q4
    replace q4 := mt (nI_leI (a := x1) (b := j) (by omega) (by omega)).mpr q4
    refine sx_RP.step (pc2 := 58) (ls2 := [(0, .ref 111), (1, .int (nI t)), (2, .int m), (3, .int l), (4, .int (nI j))]) (st2 := [.ref 111]) (w3 := w) rfl rfl ?_
    refine sx_RP.step (pc2 := 60) (ls2 := [(0, .ref 111), (1, .int (nI t)), (2, .int m), (3, .int l), (4, .int (nI j))]) (st2 := [.int (nI j), .ref 111]) (w3 := w) rfl rfl ?_
    refine sx_RP.step (pc2 := 61) (ls2 := [(0, .ref 111), (1, .int (nI t)), (2, .int m), (3, .int l), (4, .int (nI j))]) (st2 := [.int 1, .int (nI j), .ref 111]) (w3 := w) rfl rfl ?_
    obtain ⟨x10, hx11, c12⟩ := p181 hI (show j < 10 by omega) 1
    refine sx_RP.cu (as := [.ref 111, .int (nI j), .int 1]) (rest2 := []) (st3 := [.int (nI x10)]) rfl rfl (sx_inv_v2 (mi := 183) (k := 165) (st := [.int 1, .int (nI j), .ref 111]) (w := w) rfl rfl hI.1.o111 rfl rfl rfl) rfl rfl (c12) rfl ?_
    refine sx_RP.br (p1 := 77) (l1 := [(0, .ref 111), (1, .int (nI t)), (2, .int m), (3, .int l), (4, .int (nI j))]) (s1 := []) (v1 := w) (p2 := 67) (l2 := [(0, .ref 111), (1, .int (nI t)), (2, .int m), (3, .int l), (4, .int (nI j))]) (s2 := []) (v2 := w) rfl rfl (fun q13 => ?_) (fun q13 => ?_)
    · replace q13 := of_decide_eq_true q13
      replace q13 := (nI_eq (a := x10) (b := 0) (by omega) (by omega)).mp q13
      refine sx_RP.step (pc2 := 78) (ls2 := [(0, .ref 111), (1, .int (nI t)), (2, .int m), (3, .int l), (4, .int (nI j))]) (st2 := [.int (-1)]) (w3 := w) rfl rfl ?_
      refine sx_RP.step (pc2 := 80) (ls2 := [(5, .int (-1)), (0, .ref 111), (1, .int (nI t)), (2, .int m), (3, .int l), (4, .int (nI j))]) (st2 := []) (w3 := w) rfl rfl ?_
      refine sx_RP.step (pc2 := 82) (ls2 := [(5, .int (-1)), (0, .ref 111), (1, .int (nI t)), (2, .int m), (3, .int l), (4, .int (nI j))]) (st2 := [.int (-1)]) (w3 := w) rfl rfl ?_
      refine sx_RP.step (pc2 := 97) (ls2 := [(5, .int (-1)), (0, .ref 111), (1, .int (nI t)), (2, .int m), (3, .int l), (4, .int (nI j))]) (st2 := []) (w3 := w) rfl rfl ?_
      refine sx_RP.step (pc2 := 100) (ls2 := [(4, .int ((nI j) + 1)), (5, .int (-1)), (0, .ref 111), (1, .int (nI t)), (2, .int m), (3, .int l)]) (st2 := []) (w3 := w) rfl rfl ?_
      rw [nI_1 j]
      refine sx_RP.step (pc2 := 46) (ls2 := [(4, .int (nI (j + 1))), (5, .int (-1)), (0, .ref 111), (1, .int (nI t)), (2, .int m), (3, .int l)]) (st2 := []) (w3 := w) rfl rfl ?_
      exact sx_RP.ls (sx_lr.cons rfl (sx_lr.cons rfl (sx_lr.cons rfl (sx_lr.cons rfl (sx_lr.cons rfl sx_lr.nil))))) (kk w m l hI hE (by omega))
    · replace q13 := of_decide_eq_false q13
      replace q13 := mt (nI_eq (a := x10) (b := 0) (by omega) (by omega)).mpr q13
      refine sx_RP.step (pc2 := 68) (ls2 := [(0, .ref 111), (1, .int (nI t)), (2, .int m), (3, .int l), (4, .int (nI j))]) (st2 := [.ref 111]) (w3 := w) rfl rfl ?_
      refine sx_RP.step (pc2 := 70) (ls2 := [(0, .ref 111), (1, .int (nI t)), (2, .int m), (3, .int l), (4, .int (nI j))]) (st2 := [.int (nI j), .ref 111]) (w3 := w) rfl rfl ?_
      refine sx_RP.step (pc2 := 71) (ls2 := [(0, .ref 111), (1, .int (nI t)), (2, .int m), (3, .int l), (4, .int (nI j))]) (st2 := [.int (nI t), .int (nI j), .ref 111]) (w3 := w) rfl rfl ?_
      refine sx_RP.callp (as2 := [.ref 111, .int (nI j), .int (nI t)]) (rest2 := []) rfl rfl (sx_inv_v2 (mi := 183) (k := 168) (st := [.int (nI t), .int (nI j), .ref 111]) (w := w) rfl rfl hI.1.o111 rfl rfl rfl) rfl rfl rfl (s182 hI (show j < 10 by omega) (show t < 10 by omega)) (show _ = 74 from rfl) ?_
      rintro r4 w15 ⟨⟨v14, rfl⟩, hI16, hE18⟩
      have hE17 := hE.tr (hE18)
      show sx_RP _ _ _ _ _ [.int v14] _ _
      refine sx_RP.step (pc2 := 78) (ls2 := [(0, .ref 111), (1, .int (nI t)), (2, .int m), (3, .int l), (4, .int (nI j))]) (st2 := [.int v14]) (w3 := w15) rfl rfl ?_
      refine sx_RP.step (pc2 := 80) (ls2 := [(5, .int v14), (0, .ref 111), (1, .int (nI t)), (2, .int m), (3, .int l), (4, .int (nI j))]) (st2 := []) (w3 := w15) rfl rfl ?_
      refine sx_RP.step (pc2 := 82) (ls2 := [(5, .int v14), (0, .ref 111), (1, .int (nI t)), (2, .int m), (3, .int l), (4, .int (nI j))]) (st2 := [.int v14]) (w3 := w15) rfl rfl ?_
      refine sx_RP.br (p1 := 97) (l1 := [(5, .int v14), (0, .ref 111), (1, .int (nI t)), (2, .int m), (3, .int l), (4, .int (nI j))]) (s1 := []) (v1 := w15) (p2 := 85) (l2 := [(5, .int v14), (0, .ref 111), (1, .int (nI t)), (2, .int m), (3, .int l), (4, .int (nI j))]) (s2 := []) (v2 := w15) rfl rfl (fun q19 => ?_) (fun q19 => ?_)
      · replace q19 := of_decide_eq_true q19
        refine sx_RP.step (pc2 := 100) (ls2 := [(4, .int ((nI j) + 1)), (5, .int v14), (0, .ref 111), (1, .int (nI t)), (2, .int m), (3, .int l)]) (st2 := []) (w3 := w15) rfl rfl ?_
        rw [nI_1 j]
        refine sx_RP.step (pc2 := 46) (ls2 := [(4, .int (nI (j + 1))), (5, .int v14), (0, .ref 111), (1, .int (nI t)), (2, .int m), (3, .int l)]) (st2 := []) (w3 := w15) rfl rfl ?_
        exact sx_RP.ls (sx_lr.cons rfl (sx_lr.cons rfl (sx_lr.cons rfl (sx_lr.cons rfl (sx_lr.cons rfl sx_lr.nil))))) (kk w15 m l hI16 hE17 (by omega))
      · replace q19 := of_decide_eq_false q19
        refine sx_RP.step (pc2 := 87) (ls2 := [(5, .int v14), (0, .ref 111), (1, .int (nI t)), (2, .int m), (3, .int l), (4, .int (nI j))]) (st2 := [.int v14]) (w3 := w15) rfl rfl ?_
        refine sx_RP.step (pc2 := 88) (ls2 := [(5, .int v14), (0, .ref 111), (1, .int (nI t)), (2, .int m), (3, .int l), (4, .int (nI j))]) (st2 := [.int l, .int v14]) (w3 := w15) rfl rfl ?_
        refine sx_RP.br (p1 := 97) (l1 := [(5, .int v14), (0, .ref 111), (1, .int (nI t)), (2, .int m), (3, .int l), (4, .int (nI j))]) (s1 := []) (v1 := w15) (p2 := 91) (l2 := [(5, .int v14), (0, .ref 111), (1, .int (nI t)), (2, .int m), (3, .int l), (4, .int (nI j))]) (s2 := []) (v2 := w15) rfl rfl (fun q20 => ?_) (fun q20 => ?_)
        · replace q20 := of_decide_eq_true q20
          refine sx_RP.step (pc2 := 100) (ls2 := [(4, .int ((nI j) + 1)), (5, .int v14), (0, .ref 111), (1, .int (nI t)), (2, .int m), (3, .int l)]) (st2 := []) (w3 := w15) rfl rfl ?_
          rw [nI_1 j]
          refine sx_RP.step (pc2 := 46) (ls2 := [(4, .int (nI (j + 1))), (5, .int v14), (0, .ref 111), (1, .int (nI t)), (2, .int m), (3, .int l)]) (st2 := []) (w3 := w15) rfl rfl ?_
          exact sx_RP.ls (sx_lr.cons rfl (sx_lr.cons rfl (sx_lr.cons rfl (sx_lr.cons rfl (sx_lr.cons rfl sx_lr.nil))))) (kk w15 m l hI16 hE17 (by omega))
        · replace q20 := of_decide_eq_false q20
          refine sx_RP.step (pc2 := 93) (ls2 := [(5, .int v14), (0, .ref 111), (1, .int (nI t)), (2, .int m), (3, .int l), (4, .int (nI j))]) (st2 := [.int (nI j)]) (w3 := w15) rfl rfl ?_
          refine sx_RP.step (pc2 := 94) (ls2 := [(2, .int (nI j)), (5, .int v14), (0, .ref 111), (1, .int (nI t)), (3, .int l), (4, .int (nI j))]) (st2 := []) (w3 := w15) rfl rfl ?_
          refine sx_RP.step (pc2 := 96) (ls2 := [(2, .int (nI j)), (5, .int v14), (0, .ref 111), (1, .int (nI t)), (3, .int l), (4, .int (nI j))]) (st2 := [.int v14]) (w3 := w15) rfl rfl ?_
          refine sx_RP.step (pc2 := 97) (ls2 := [(3, .int v14), (2, .int (nI j)), (5, .int v14), (0, .ref 111), (1, .int (nI t)), (4, .int (nI j))]) (st2 := []) (w3 := w15) rfl rfl ?_
          refine sx_RP.step (pc2 := 100) (ls2 := [(4, .int ((nI j) + 1)), (3, .int v14), (2, .int (nI j)), (5, .int v14), (0, .ref 111), (1, .int (nI t))]) (st2 := []) (w3 := w15) rfl rfl ?_
          rw [nI_1 j]
          refine sx_RP.step (pc2 := 46) (ls2 := [(4, .int (nI (j + 1))), (3, .int v14), (2, .int (nI j)), (5, .int v14), (0, .ref 111), (1, .int (nI t))]) (st2 := []) (w3 := w15) rfl rfl ?_
          exact sx_RP.ls (sx_lr.cons rfl (sx_lr.cons rfl (sx_lr.cons rfl (sx_lr.cons rfl (sx_lr.cons rfl sx_lr.nil))))) (kk w15 (nI j) v14 hI16 hE17 (by omega))
set_option maxRecDepth 20000 in
set_option maxHeartbeats 4000000 in
theorem s183L {xs : Option (List Int32)} {d : Nat} {w0 : List sx_C} {t : Nat} (ht : t < 10) : ∀ (fz j : Nat) (w : List sx_C) (m : Int32) (l : Int32) , 10 ≤ j + fz * 1 → j ≤ 10 → WI w → EM w0 w → sx_RP xs (d + 7) 183 46 [(0, .ref 111), (1, .int (nI t)), (2, .int m), (3, .int l), (4, .int (nI j))] [] w (fun r w2 => (∃ v : Int32, r = some (.int v)) ∧ WI w2 ∧ EM w0 w2)
  | 0, j, w, m, l, h, hj, hI, hE => s183B ht hI hE hj m l  (fun w4 um ul hI4 hE4 hlt  => absurd hlt (by omega)) 
  | fz + 1, j, w, m, l, h, hj, hI, hE => s183B ht hI hE hj m l  (fun w4 um ul hI4 hE4 hlt  => s183L ht  fz (j + 1) w4 um ul (by omega) hlt hI4 hE4 ) 
set_option maxRecDepth 20000 in
set_option maxHeartbeats 4000000 in
theorem s183 {xs : Option (List Int32)} {d : Nat} {w : List sx_C} (hI : WI w) (a1 : Int32) : sx_RP xs (d + 7) 183 0 (lv_args 0 [.ref 111, .int a1]) [] w (fun r w2 => (∃ v : Int32, r = some (.int v)) ∧ WI w2 ∧ EM w w2) := by
  have hE : EM w w := EM.rf
  refine sx_RP.step (pc2 := 1) (ls2 := [(0, .ref 111), (1, .int a1)]) (st2 := [.ref 111]) (w3 := w) rfl rfl ?_
  refine sx_RP.step (pc2 := 2) (ls2 := [(0, .ref 111), (1, .int a1)]) (st2 := [.int a1, .ref 111]) (w3 := w) rfl rfl ?_
  rcases p156 (xs := xs) hI a1 with c2 | ⟨⟨x3, hx4, rfl⟩, c2⟩
  · refine sx_RP.cu (as := [.ref 111, .int a1]) (rest2 := []) (st3 := [.int 0]) rfl rfl (sx_inv_v2 (mi := 183) (k := 124) (st := [.int a1, .ref 111]) (w := w) rfl rfl hI.1.o111 rfl rfl rfl) rfl rfl (c2) rfl ?_
    refine sx_RP.step (pc2 := 8) (ls2 := [(0, .ref 111), (1, .int a1)]) (st2 := []) (w3 := w) rfl rfl ?_
    refine sx_RP.step (pc2 := 9) (ls2 := [(0, .ref 111), (1, .int a1)]) (st2 := [.ref 111]) (w3 := w) rfl rfl ?_
    refine sx_RP.step (pc2 := 10) (ls2 := [(0, .ref 111), (1, .int a1)]) (st2 := [.int 0, .ref 111]) (w3 := w) rfl rfl ?_
    refine sx_RP.callp (as2 := [.ref 111, .int 0]) (rest2 := []) rfl rfl (sx_inv_v2 (mi := 183) (k := 70) (st := [.int 0, .ref 111]) (w := w) rfl rfl hI.1.o111 rfl rfl rfl) rfl rfl rfl (s133_0 hI) (show _ = 13 from rfl) ?_
    rintro r4 w6 ⟨rfl, hI7, hE9⟩
    have hE8 := hE.tr (hE9)
    show sx_RP _ _ _ _ _ [.int (-1000000001)] _ _
    refine sx_RP.ret (r := (some (.int (-1000000001)))) rfl rfl ?_
    exact ⟨⟨_, rfl⟩, hI7, hE8⟩
  · refine sx_RP.cu (as := [.ref 111, .int (nI x3)]) (rest2 := []) (st3 := [.int 1]) rfl rfl (sx_inv_v2 (mi := 183) (k := 124) (st := [.int (nI x3), .ref 111]) (w := w) rfl rfl hI.1.o111 rfl rfl rfl) rfl rfl (c2) rfl ?_
    refine sx_RP.step (pc2 := 14) (ls2 := [(0, .ref 111), (1, .int (nI x3))]) (st2 := []) (w3 := w) rfl rfl ?_
    refine sx_RP.step (pc2 := 15) (ls2 := [(0, .ref 111), (1, .int (nI x3))]) (st2 := [.ref 111]) (w3 := w) rfl rfl ?_
    refine sx_RP.step (pc2 := 16) (ls2 := [(0, .ref 111), (1, .int (nI x3))]) (st2 := [.int (nI x3), .ref 111]) (w3 := w) rfl rfl ?_
    refine sx_RP.step (pc2 := 17) (ls2 := [(0, .ref 111), (1, .int (nI x3))]) (st2 := [.int 0, .int (nI x3), .ref 111]) (w3 := w) rfl rfl ?_
    obtain ⟨x10, hx11, c12⟩ := p181 hI (show x3 < 10 by omega) 0
    refine sx_RP.cu (as := [.ref 111, .int (nI x3), .int 0]) (rest2 := []) (st3 := [.int (nI x10)]) rfl rfl (sx_inv_v2 (mi := 183) (k := 165) (st := [.int 0, .int (nI x3), .ref 111]) (w := w) rfl rfl hI.1.o111 rfl rfl rfl) rfl rfl (c12) rfl ?_
    refine sx_RP.br (p1 := 32) (l1 := [(0, .ref 111), (1, .int (nI x3))]) (s1 := []) (v1 := w) (p2 := 23) (l2 := [(0, .ref 111), (1, .int (nI x3))]) (s2 := []) (v2 := w) rfl rfl (fun q13 => ?_) (fun q13 => ?_)
    · replace q13 := of_decide_eq_true q13
      replace q13 := (nI_eq (a := x10) (b := 0) (by omega) (by omega)).mp q13
      refine sx_RP.step (pc2 := 33) (ls2 := [(0, .ref 111), (1, .int (nI x3))]) (st2 := [.ref 111]) (w3 := w) rfl rfl ?_
      refine sx_RP.step (pc2 := 34) (ls2 := [(0, .ref 111), (1, .int (nI x3))]) (st2 := [.int 4, .ref 111]) (w3 := w) rfl rfl ?_
      refine sx_RP.callp (as2 := [.ref 111, .int 4]) (rest2 := []) rfl rfl (sx_inv_v2 (mi := 183) (k := 70) (st := [.int 4, .ref 111]) (w := w) rfl rfl hI.1.o111 rfl rfl rfl) rfl rfl rfl (s133_4 hI) (show _ = 37 from rfl) ?_
      rintro r4 w14 ⟨rfl, hI15, hE17⟩
      have hE16 := hE.tr (hE17)
      show sx_RP _ _ _ _ _ [.int (-1000000005)] _ _
      refine sx_RP.ret (r := (some (.int (-1000000005)))) rfl rfl ?_
      exact ⟨⟨_, rfl⟩, hI15, hE16⟩
    · replace q13 := of_decide_eq_false q13
      replace q13 := mt (nI_eq (a := x10) (b := 0) (by omega) (by omega)).mpr q13
      refine sx_RP.step (pc2 := 24) (ls2 := [(0, .ref 111), (1, .int (nI x3))]) (st2 := [.ref 111]) (w3 := w) rfl rfl ?_
      refine sx_RP.step (pc2 := 26) (ls2 := [(0, .ref 111), (1, .int (nI x3))]) (st2 := [.int 60, .ref 111]) (w3 := w) rfl rfl ?_
      obtain ⟨x18, hx19, c20⟩ := p165 hI 60
      refine sx_RP.cu (as := [.ref 111, .int 60]) (rest2 := []) (st3 := [.int (nI x18)]) rfl rfl (sx_inv_v2 (mi := 183) (k := 149) (st := [.int 60, .ref 111]) (w := w) rfl rfl hI.1.o111 rfl rfl rfl) rfl rfl (c20) rfl ?_
      refine sx_RP.br (p1 := 38) (l1 := [(0, .ref 111), (1, .int (nI x3))]) (s1 := []) (v1 := w) (p2 := 32) (l2 := [(0, .ref 111), (1, .int (nI x3))]) (s2 := []) (v2 := w) rfl rfl (fun q21 => ?_) (fun q21 => ?_)
      · replace q21 := of_decide_eq_true q21
        replace q21 := (nI_eq (a := x18) (b := 0) (by omega) (by omega)).mp q21
        refine sx_RP.step (pc2 := 39) (ls2 := [(0, .ref 111), (1, .int (nI x3))]) (st2 := [.int (-1)]) (w3 := w) rfl rfl ?_
        refine sx_RP.step (pc2 := 40) (ls2 := [(2, .int (-1)), (0, .ref 111), (1, .int (nI x3))]) (st2 := []) (w3 := w) rfl rfl ?_
        refine sx_RP.step (pc2 := 42) (ls2 := [(2, .int (-1)), (0, .ref 111), (1, .int (nI x3))]) (st2 := [.int 61]) (w3 := w) rfl rfl ?_
        refine sx_RP.step (pc2 := 43) (ls2 := [(3, .int 61), (2, .int (-1)), (0, .ref 111), (1, .int (nI x3))]) (st2 := []) (w3 := w) rfl rfl ?_
        refine sx_RP.step (pc2 := 44) (ls2 := [(3, .int 61), (2, .int (-1)), (0, .ref 111), (1, .int (nI x3))]) (st2 := [.int 0]) (w3 := w) rfl rfl ?_
        refine sx_RP.step (pc2 := 46) (ls2 := [(4, .int 0), (3, .int 61), (2, .int (-1)), (0, .ref 111), (1, .int (nI x3))]) (st2 := []) (w3 := w) rfl rfl ?_
        exact sx_RP.ls (sx_lr.cons rfl (sx_lr.cons rfl (sx_lr.cons rfl (sx_lr.cons rfl (sx_lr.cons rfl sx_lr.nil))))) (s183L (show x3 < 10 by omega) 10 0 w (-1) 61 (by omega) (by omega) hI hE )
      · replace q21 := of_decide_eq_false q21
        replace q21 := mt (nI_eq (a := x18) (b := 0) (by omega) (by omega)).mpr q21
        refine sx_RP.step (pc2 := 33) (ls2 := [(0, .ref 111), (1, .int (nI x3))]) (st2 := [.ref 111]) (w3 := w) rfl rfl ?_
        refine sx_RP.step (pc2 := 34) (ls2 := [(0, .ref 111), (1, .int (nI x3))]) (st2 := [.int 4, .ref 111]) (w3 := w) rfl rfl ?_
        refine sx_RP.callp (as2 := [.ref 111, .int 4]) (rest2 := []) rfl rfl (sx_inv_v2 (mi := 183) (k := 70) (st := [.int 4, .ref 111]) (w := w) rfl rfl hI.1.o111 rfl rfl rfl) rfl rfl rfl (s133_4 hI) (show _ = 37 from rfl) ?_
        rintro r4 w22 ⟨rfl, hI23, hE25⟩
        have hE24 := hE.tr (hE25)
        show sx_RP _ _ _ _ _ [.int (-1000000005)] _ _
        refine sx_RP.ret (r := (some (.int (-1000000005)))) rfl rfl ?_
        exact ⟨⟨_, rfl⟩, hI23, hE24⟩
