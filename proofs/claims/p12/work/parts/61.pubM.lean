-- safety: the reference, more
set_option maxRecDepth 20000 in
set_option maxHeartbeats 4000000 in
theorem s176B {xs : Option (List Int32)} {d : Nat} {w w0 : List sx_C} {g : Nat} (hg : g < 10) (hI : WI w) (hE : EM w0 w) {j : Nat} (hj : j ≤ 100) (kk : ∀ (w4 : List sx_C), WI w4 → EM w0 w4 → j + 1 ≤ 100 → sx_RP xs (d + 7) 176 50 [(0, .ref 111), (1, .int (nI g)), (2, .int (nI (j + 1)))] [] w4 (fun r w2 => (∃ v : Int32, r = some (.int v)) ∧ WI w2 ∧ EM w0 w2)) : sx_RP xs (d + 7) 176 50 [(0, .ref 111), (1, .int (nI g)), (2, .int (nI j))] [] w (fun r w2 => (∃ v : Int32, r = some (.int v)) ∧ WI w2 ∧ EM w0 w2) := by
  refine sx_RP.step (pc2 := 51) (ls2 := [(0, .ref 111), (1, .int (nI g)), (2, .int (nI j))]) (st2 := [.int (nI j)]) (w3 := w) rfl rfl ?_
  refine sx_RP.step (pc2 := 53) (ls2 := [(0, .ref 111), (1, .int (nI g)), (2, .int (nI j))]) (st2 := [.int 99, .int (nI j)]) (w3 := w) rfl rfl ?_
  refine sx_RP.br (p1 := 74) (l1 := [(0, .ref 111), (1, .int (nI g)), (2, .int (nI j))]) (s1 := []) (v1 := w) (p2 := 56) (l2 := [(0, .ref 111), (1, .int (nI g)), (2, .int (nI j))]) (s2 := []) (v2 := w) rfl rfl (fun q1 => ?_) (fun q1 => ?_)
  · replace q1 := of_decide_eq_true q1
    replace q1 := (nI_ltI (a := 99) (b := j) (by omega) (by omega)).mp q1
    refine sx_RP.step (pc2 := 75) (ls2 := [(0, .ref 111), (1, .int (nI g)), (2, .int (nI j))]) (st2 := [.ref 111]) (w3 := w) rfl rfl ?_
    refine sx_RP.gf (v := .ref 114) rfl rfl hI.1.o111 rfl rfl (show _ = 78 from rfl) ?_
    refine sx_RP.step (pc2 := 79) (ls2 := [(0, .ref 111), (1, .int (nI g)), (2, .int (nI j))]) (st2 := [.ref 111, .ref 114]) (w3 := w) rfl rfl ?_
    refine sx_RP.gf (v := .ref 112) rfl rfl hI.1.o111 rfl rfl (show _ = 82 from rfl) ?_
    refine sx_RP.callp (as2 := [.ref 114, .ref 112]) (rest2 := []) rfl rfl rfl rfl rfl rfl (s175 hI (a := 114) (b := 112) (by decide) (by decide)) (show _ = 85 from rfl) ?_
    rintro r4 w2 ⟨rfl, hI3, hE5⟩
    have hE4 := hE.tr (hE5)
    show sx_RP _ _ _ _ _ [] _ _
    refine sx_RP.step (pc2 := 86) (ls2 := [(0, .ref 111), (1, .int (nI g)), (2, .int (nI j))]) (st2 := [.int (nI j)]) (w3 := w2) rfl rfl ?_
    refine sx_RP.step (pc2 := 88) (ls2 := [(0, .ref 111), (1, .int (nI g)), (2, .int (nI j))]) (st2 := [.int 99, .int (nI j)]) (w3 := w2) rfl rfl ?_
    refine sx_RP.br (p1 := 95) (l1 := [(0, .ref 111), (1, .int (nI g)), (2, .int (nI j))]) (s1 := []) (v1 := w2) (p2 := 91) (l2 := [(0, .ref 111), (1, .int (nI g)), (2, .int (nI j))]) (s2 := []) (v2 := w2) rfl rfl (fun q6 => ?_) (fun q6 => ?_)
    · replace q6 := of_decide_eq_true q6
      replace q6 := (nI_ltI (a := 99) (b := j) (by omega) (by omega)).mp q6
      refine sx_RP.step (pc2 := 96) (ls2 := [(0, .ref 111), (1, .int (nI g)), (2, .int (nI j))]) (st2 := [.ref 111]) (w3 := w2) rfl rfl ?_
      refine sx_RP.step (pc2 := 97) (ls2 := [(0, .ref 111), (1, .int (nI g)), (2, .int (nI j))]) (st2 := [.int 3, .ref 111]) (w3 := w2) rfl rfl ?_
      refine sx_RP.callp (as2 := [.ref 111, .int 3]) (rest2 := []) rfl rfl (sx_inv_v2 (mi := 176) (k := 70) (st := [.int 3, .ref 111]) (w := w2) rfl rfl hI3.1.o111 rfl rfl rfl) rfl rfl rfl (s133_3 hI3) (show _ = 100 from rfl) ?_
      rintro r4 w7 ⟨rfl, hI8, hE10⟩
      have hE9 := hE4.tr (hE10)
      show sx_RP _ _ _ _ _ [.int (-1000000004)] _ _
      refine sx_RP.ret (r := (some (.int (-1000000004)))) rfl rfl ?_
      exact ⟨⟨_, rfl⟩, hI8, hE9⟩
    · replace q6 := of_decide_eq_false q6
      replace q6 := mt (nI_ltI (a := 99) (b := j) (by omega) (by omega)).mpr q6
      refine sx_RP.step (pc2 := 92) (ls2 := [(0, .ref 111), (1, .int (nI g)), (2, .int (nI j))]) (st2 := [.int (nI j)]) (w3 := w2) rfl rfl ?_
      refine sx_RP.step (pc2 := 100) (ls2 := [(0, .ref 111), (1, .int (nI g)), (2, .int (nI j))]) (st2 := [.int (nI j)]) (w3 := w2) rfl rfl ?_
      refine sx_RP.ret (r := (some (.int (nI j)))) rfl rfl ?_
      exact ⟨⟨_, rfl⟩, hI3, hE4⟩
  · replace q1 := of_decide_eq_false q1
    replace q1 := mt (nI_ltI (a := 99) (b := j) (by omega) (by omega)).mpr q1
    refine sx_RP.step (pc2 := 57) (ls2 := [(0, .ref 111), (1, .int (nI g)), (2, .int (nI j))]) (st2 := [.ref 111]) (w3 := w) rfl rfl ?_
    refine sx_RP.step (pc2 := 58) (ls2 := [(0, .ref 111), (1, .int (nI g)), (2, .int (nI j))]) (st2 := [.int (nI g), .ref 111]) (w3 := w) rfl rfl ?_
    obtain ⟨x11, hx12, c13⟩ := p137 hI (show g < 10 by omega)
    refine sx_RP.cu (as := [.ref 111, .int (nI g)]) (rest2 := []) (st3 := [.int (nI x11)]) rfl rfl (sx_inv_v2 (mi := 176) (k := 74) (st := [.int (nI g), .ref 111]) (w := w) rfl rfl hI.1.o111 rfl rfl rfl) rfl rfl (c13) rfl ?_
    refine sx_RP.br (p1 := 74) (l1 := [(0, .ref 111), (1, .int (nI g)), (2, .int (nI j))]) (s1 := []) (v1 := w) (p2 := 64) (l2 := [(0, .ref 111), (1, .int (nI g)), (2, .int (nI j))]) (s2 := []) (v2 := w) rfl rfl (fun q14 => ?_) (fun q14 => ?_)
    · replace q14 := of_decide_eq_true q14
      replace q14 := (nI_eq (a := x11) (b := 0) (by omega) (by omega)).mp q14
      refine sx_RP.step (pc2 := 75) (ls2 := [(0, .ref 111), (1, .int (nI g)), (2, .int (nI j))]) (st2 := [.ref 111]) (w3 := w) rfl rfl ?_
      refine sx_RP.gf (v := .ref 114) rfl rfl hI.1.o111 rfl rfl (show _ = 78 from rfl) ?_
      refine sx_RP.step (pc2 := 79) (ls2 := [(0, .ref 111), (1, .int (nI g)), (2, .int (nI j))]) (st2 := [.ref 111, .ref 114]) (w3 := w) rfl rfl ?_
      refine sx_RP.gf (v := .ref 112) rfl rfl hI.1.o111 rfl rfl (show _ = 82 from rfl) ?_
      refine sx_RP.callp (as2 := [.ref 114, .ref 112]) (rest2 := []) rfl rfl rfl rfl rfl rfl (s175 hI (a := 114) (b := 112) (by decide) (by decide)) (show _ = 85 from rfl) ?_
      rintro r4 w15 ⟨rfl, hI16, hE18⟩
      have hE17 := hE.tr (hE18)
      show sx_RP _ _ _ _ _ [] _ _
      refine sx_RP.step (pc2 := 86) (ls2 := [(0, .ref 111), (1, .int (nI g)), (2, .int (nI j))]) (st2 := [.int (nI j)]) (w3 := w15) rfl rfl ?_
      refine sx_RP.step (pc2 := 88) (ls2 := [(0, .ref 111), (1, .int (nI g)), (2, .int (nI j))]) (st2 := [.int 99, .int (nI j)]) (w3 := w15) rfl rfl ?_
      refine sx_RP.br (p1 := 95) (l1 := [(0, .ref 111), (1, .int (nI g)), (2, .int (nI j))]) (s1 := []) (v1 := w15) (p2 := 91) (l2 := [(0, .ref 111), (1, .int (nI g)), (2, .int (nI j))]) (s2 := []) (v2 := w15) rfl rfl (fun q19 => ?_) (fun q19 => ?_)
      · replace q19 := of_decide_eq_true q19
        replace q19 := (nI_ltI (a := 99) (b := j) (by omega) (by omega)).mp q19
        refine sx_RP.step (pc2 := 96) (ls2 := [(0, .ref 111), (1, .int (nI g)), (2, .int (nI j))]) (st2 := [.ref 111]) (w3 := w15) rfl rfl ?_
        refine sx_RP.step (pc2 := 97) (ls2 := [(0, .ref 111), (1, .int (nI g)), (2, .int (nI j))]) (st2 := [.int 3, .ref 111]) (w3 := w15) rfl rfl ?_
        refine sx_RP.callp (as2 := [.ref 111, .int 3]) (rest2 := []) rfl rfl (sx_inv_v2 (mi := 176) (k := 70) (st := [.int 3, .ref 111]) (w := w15) rfl rfl hI16.1.o111 rfl rfl rfl) rfl rfl rfl (s133_3 hI16) (show _ = 100 from rfl) ?_
        rintro r4 w20 ⟨rfl, hI21, hE23⟩
        have hE22 := hE17.tr (hE23)
        show sx_RP _ _ _ _ _ [.int (-1000000004)] _ _
        refine sx_RP.ret (r := (some (.int (-1000000004)))) rfl rfl ?_
        exact ⟨⟨_, rfl⟩, hI21, hE22⟩
      · replace q19 := of_decide_eq_false q19
        replace q19 := mt (nI_ltI (a := 99) (b := j) (by omega) (by omega)).mpr q19
        refine sx_RP.step (pc2 := 92) (ls2 := [(0, .ref 111), (1, .int (nI g)), (2, .int (nI j))]) (st2 := [.int (nI j)]) (w3 := w15) rfl rfl ?_
        refine sx_RP.step (pc2 := 100) (ls2 := [(0, .ref 111), (1, .int (nI g)), (2, .int (nI j))]) (st2 := [.int (nI j)]) (w3 := w15) rfl rfl ?_
        refine sx_RP.ret (r := (some (.int (nI j)))) rfl rfl ?_
        exact ⟨⟨_, rfl⟩, hI16, hE17⟩
    · replace q14 := of_decide_eq_false q14
      replace q14 := mt (nI_eq (a := x11) (b := 0) (by omega) (by omega)).mpr q14
      refine sx_RP.step (pc2 := 65) (ls2 := [(0, .ref 111), (1, .int (nI g)), (2, .int (nI j))]) (st2 := [.ref 111]) (w3 := w) rfl rfl ?_
      refine sx_RP.callp (as2 := [.ref 111]) (rest2 := []) rfl rfl (sx_inv_v2 (mi := 176) (k := 143) (st := [.ref 111]) (w := w) rfl rfl hI.1.o111 rfl rfl rfl) rfl rfl rfl (s169 hI ) (show _ = 68 from rfl) ?_
      rintro r4 w24 ⟨rfl, hI25, hE27⟩
      have hE26 := hE.tr (hE27)
      show sx_RP _ _ _ _ _ [] _ _
      refine sx_RP.step (pc2 := 71) (ls2 := [(2, .int ((nI j) + 1)), (0, .ref 111), (1, .int (nI g))]) (st2 := []) (w3 := w24) rfl rfl ?_
      rw [nI_1 j]
      refine sx_RP.step (pc2 := 50) (ls2 := [(2, .int (nI (j + 1))), (0, .ref 111), (1, .int (nI g))]) (st2 := []) (w3 := w24) rfl rfl ?_
      exact sx_RP.ls (sx_lr.cons rfl (sx_lr.cons rfl (sx_lr.cons rfl sx_lr.nil))) (kk w24 hI25 hE26 (by omega))
set_option maxRecDepth 20000 in
set_option maxHeartbeats 4000000 in
theorem s176L {xs : Option (List Int32)} {d : Nat} {w0 : List sx_C} {g : Nat} (hg : g < 10) : ∀ (fz j : Nat) (w : List sx_C) , 100 ≤ j + fz * 1 → j ≤ 100 → WI w → EM w0 w → sx_RP xs (d + 7) 176 50 [(0, .ref 111), (1, .int (nI g)), (2, .int (nI j))] [] w (fun r w2 => (∃ v : Int32, r = some (.int v)) ∧ WI w2 ∧ EM w0 w2)
  | 0, j, w, h, hj, hI, hE => s176B hg hI hE hj   (fun w4  hI4 hE4 hlt  => absurd hlt (by omega)) 
  | fz + 1, j, w, h, hj, hI, hE => s176B hg hI hE hj   (fun w4  hI4 hE4 hlt  => s176L hg  fz (j + 1) w4  (by omega) hlt hI4 hE4 ) 
set_option maxRecDepth 20000 in
set_option maxHeartbeats 4000000 in
theorem s176 {xs : Option (List Int32)} {d : Nat} {w : List sx_C} (hI : WI w) (a1 : Int32) : sx_RP xs (d + 7) 176 0 (lv_args 0 [.ref 111, .int a1]) [] w (fun r w2 => (∃ v : Int32, r = some (.int v)) ∧ WI w2 ∧ EM w w2) := by
  have hE : EM w w := EM.rf
  refine sx_RP.step (pc2 := 1) (ls2 := [(0, .ref 111), (1, .int a1)]) (st2 := [.ref 111]) (w3 := w) rfl rfl ?_
  refine sx_RP.step (pc2 := 2) (ls2 := [(0, .ref 111), (1, .int a1)]) (st2 := [.int a1, .ref 111]) (w3 := w) rfl rfl ?_
  rcases p156 (xs := xs) hI a1 with c2 | ⟨⟨x3, hx4, rfl⟩, c2⟩
  · refine sx_RP.cu (as := [.ref 111, .int a1]) (rest2 := []) (st3 := [.int 0]) rfl rfl (sx_inv_v2 (mi := 176) (k := 124) (st := [.int a1, .ref 111]) (w := w) rfl rfl hI.1.o111 rfl rfl rfl) rfl rfl (c2) rfl ?_
    refine sx_RP.step (pc2 := 8) (ls2 := [(0, .ref 111), (1, .int a1)]) (st2 := []) (w3 := w) rfl rfl ?_
    refine sx_RP.step (pc2 := 9) (ls2 := [(0, .ref 111), (1, .int a1)]) (st2 := [.ref 111]) (w3 := w) rfl rfl ?_
    refine sx_RP.step (pc2 := 10) (ls2 := [(0, .ref 111), (1, .int a1)]) (st2 := [.int 0, .ref 111]) (w3 := w) rfl rfl ?_
    refine sx_RP.callp (as2 := [.ref 111, .int 0]) (rest2 := []) rfl rfl (sx_inv_v2 (mi := 176) (k := 70) (st := [.int 0, .ref 111]) (w := w) rfl rfl hI.1.o111 rfl rfl rfl) rfl rfl rfl (s133_0 hI) (show _ = 13 from rfl) ?_
    rintro r4 w6 ⟨rfl, hI7, hE9⟩
    have hE8 := hE.tr (hE9)
    show sx_RP _ _ _ _ _ [.int (-1000000001)] _ _
    refine sx_RP.ret (r := (some (.int (-1000000001)))) rfl rfl ?_
    exact ⟨⟨_, rfl⟩, hI7, hE8⟩
  · refine sx_RP.cu (as := [.ref 111, .int (nI x3)]) (rest2 := []) (st3 := [.int 1]) rfl rfl (sx_inv_v2 (mi := 176) (k := 124) (st := [.int (nI x3), .ref 111]) (w := w) rfl rfl hI.1.o111 rfl rfl rfl) rfl rfl (c2) rfl ?_
    refine sx_RP.step (pc2 := 14) (ls2 := [(0, .ref 111), (1, .int (nI x3))]) (st2 := []) (w3 := w) rfl rfl ?_
    refine sx_RP.step (pc2 := 15) (ls2 := [(0, .ref 111), (1, .int (nI x3))]) (st2 := [.ref 111]) (w3 := w) rfl rfl ?_
    refine sx_RP.step (pc2 := 16) (ls2 := [(0, .ref 111), (1, .int (nI x3))]) (st2 := [.int (nI x3), .ref 111]) (w3 := w) rfl rfl ?_
    obtain ⟨x10, hx11, c12⟩ := p137 hI (show x3 < 10 by omega)
    refine sx_RP.cu (as := [.ref 111, .int (nI x3)]) (rest2 := []) (st3 := [.int (nI x10)]) rfl rfl (sx_inv_v2 (mi := 176) (k := 74) (st := [.int (nI x3), .ref 111]) (w := w) rfl rfl hI.1.o111 rfl rfl rfl) rfl rfl (c12) rfl ?_
    refine sx_RP.br (p1 := 31) (l1 := [(0, .ref 111), (1, .int (nI x3))]) (s1 := []) (v1 := w) (p2 := 22) (l2 := [(0, .ref 111), (1, .int (nI x3))]) (s2 := []) (v2 := w) rfl rfl (fun q13 => ?_) (fun q13 => ?_)
    · replace q13 := of_decide_eq_true q13
      replace q13 := (nI_eq (a := x10) (b := 0) (by omega) (by omega)).mp q13
      refine sx_RP.step (pc2 := 32) (ls2 := [(0, .ref 111), (1, .int (nI x3))]) (st2 := [.ref 111]) (w3 := w) rfl rfl ?_
      refine sx_RP.step (pc2 := 33) (ls2 := [(0, .ref 111), (1, .int (nI x3))]) (st2 := [.int 4, .ref 111]) (w3 := w) rfl rfl ?_
      refine sx_RP.callp (as2 := [.ref 111, .int 4]) (rest2 := []) rfl rfl (sx_inv_v2 (mi := 176) (k := 70) (st := [.int 4, .ref 111]) (w := w) rfl rfl hI.1.o111 rfl rfl rfl) rfl rfl rfl (s133_4 hI) (show _ = 36 from rfl) ?_
      rintro r4 w14 ⟨rfl, hI15, hE17⟩
      have hE16 := hE.tr (hE17)
      show sx_RP _ _ _ _ _ [.int (-1000000005)] _ _
      refine sx_RP.ret (r := (some (.int (-1000000005)))) rfl rfl ?_
      exact ⟨⟨_, rfl⟩, hI15, hE16⟩
    · replace q13 := of_decide_eq_false q13
      replace q13 := mt (nI_eq (a := x10) (b := 0) (by omega) (by omega)).mpr q13
      refine sx_RP.step (pc2 := 23) (ls2 := [(0, .ref 111), (1, .int (nI x3))]) (st2 := [.ref 111]) (w3 := w) rfl rfl ?_
      refine sx_RP.step (pc2 := 25) (ls2 := [(0, .ref 111), (1, .int (nI x3))]) (st2 := [.int 99, .ref 111]) (w3 := w) rfl rfl ?_
      obtain ⟨x18, hx19, c20⟩ := p165 hI 99
      refine sx_RP.cu (as := [.ref 111, .int 99]) (rest2 := []) (st3 := [.int (nI x18)]) rfl rfl (sx_inv_v2 (mi := 176) (k := 149) (st := [.int 99, .ref 111]) (w := w) rfl rfl hI.1.o111 rfl rfl rfl) rfl rfl (c20) rfl ?_
      refine sx_RP.br (p1 := 37) (l1 := [(0, .ref 111), (1, .int (nI x3))]) (s1 := []) (v1 := w) (p2 := 31) (l2 := [(0, .ref 111), (1, .int (nI x3))]) (s2 := []) (v2 := w) rfl rfl (fun q21 => ?_) (fun q21 => ?_)
      · replace q21 := of_decide_eq_true q21
        replace q21 := (nI_eq (a := x18) (b := 0) (by omega) (by omega)).mp q21
        refine sx_RP.step (pc2 := 38) (ls2 := [(0, .ref 111), (1, .int (nI x3))]) (st2 := [.ref 111]) (w3 := w) rfl rfl ?_
        refine sx_RP.gf (v := .ref 112) rfl rfl hI.1.o111 rfl rfl (show _ = 41 from rfl) ?_
        refine sx_RP.step (pc2 := 42) (ls2 := [(0, .ref 111), (1, .int (nI x3))]) (st2 := [.ref 111, .ref 112]) (w3 := w) rfl rfl ?_
        refine sx_RP.gf (v := .ref 114) rfl rfl hI.1.o111 rfl rfl (show _ = 45 from rfl) ?_
        refine sx_RP.callp (as2 := [.ref 112, .ref 114]) (rest2 := []) rfl rfl rfl rfl rfl rfl (s175 hI (a := 112) (b := 114) (by decide) (by decide)) (show _ = 48 from rfl) ?_
        rintro r4 w22 ⟨rfl, hI23, hE25⟩
        have hE24 := hE.tr (hE25)
        show sx_RP _ _ _ _ _ [] _ _
        refine sx_RP.step (pc2 := 49) (ls2 := [(0, .ref 111), (1, .int (nI x3))]) (st2 := [.int 0]) (w3 := w22) rfl rfl ?_
        refine sx_RP.step (pc2 := 50) (ls2 := [(2, .int 0), (0, .ref 111), (1, .int (nI x3))]) (st2 := []) (w3 := w22) rfl rfl ?_
        exact sx_RP.ls (sx_lr.cons rfl (sx_lr.cons rfl (sx_lr.cons rfl sx_lr.nil))) (s176L (show x3 < 10 by omega) 100 0 w22  (by omega) (by omega) hI23 hE24 )
      · replace q21 := of_decide_eq_false q21
        replace q21 := mt (nI_eq (a := x18) (b := 0) (by omega) (by omega)).mpr q21
        refine sx_RP.step (pc2 := 32) (ls2 := [(0, .ref 111), (1, .int (nI x3))]) (st2 := [.ref 111]) (w3 := w) rfl rfl ?_
        refine sx_RP.step (pc2 := 33) (ls2 := [(0, .ref 111), (1, .int (nI x3))]) (st2 := [.int 4, .ref 111]) (w3 := w) rfl rfl ?_
        refine sx_RP.callp (as2 := [.ref 111, .int 4]) (rest2 := []) rfl rfl (sx_inv_v2 (mi := 176) (k := 70) (st := [.int 4, .ref 111]) (w := w) rfl rfl hI.1.o111 rfl rfl rfl) rfl rfl rfl (s133_4 hI) (show _ = 36 from rfl) ?_
        rintro r4 w26 ⟨rfl, hI27, hE29⟩
        have hE28 := hE.tr (hE29)
        show sx_RP _ _ _ _ _ [.int (-1000000005)] _ _
        refine sx_RP.ret (r := (some (.int (-1000000005)))) rfl rfl ?_
        exact ⟨⟨_, rfl⟩, hI27, hE28⟩
set_option maxRecDepth 20000 in
set_option maxHeartbeats 4000000 in
theorem s177B {xs : Option (List Int32)} {d : Nat} {w w0 : List sx_C} (hI : WI w) (hE : EM w0 w) {j : Nat} (hj : j ≤ 99) (n : Int32) (kk : ∀ (w4 : List sx_C) (un : Int32), WI w4 → EM w0 w4 → j + 1 ≤ 99 → sx_RP xs (d + 7) 177 33 [(0, .ref 111), (2, .int un), (1, .int (nI (j + 1)))] [] w4 (fun r w2 => (∃ v : Int32, r = some (.int v)) ∧ WI w2 ∧ EM w0 w2)) : sx_RP xs (d + 7) 177 33 [(0, .ref 111), (2, .int n), (1, .int (nI j))] [] w (fun r w2 => (∃ v : Int32, r = some (.int v)) ∧ WI w2 ∧ EM w0 w2) := by
  refine sx_RP.step (pc2 := 34) (ls2 := [(0, .ref 111), (2, .int n), (1, .int (nI j))]) (st2 := [.int (nI j)]) (w3 := w) rfl rfl ?_
  refine sx_RP.step (pc2 := 36) (ls2 := [(0, .ref 111), (2, .int n), (1, .int (nI j))]) (st2 := [.int 99, .int (nI j)]) (w3 := w) rfl rfl ?_
  refine sx_RP.br (p1 := 58) (l1 := [(0, .ref 111), (2, .int n), (1, .int (nI j))]) (s1 := []) (v1 := w) (p2 := 39) (l2 := [(0, .ref 111), (2, .int n), (1, .int (nI j))]) (s2 := []) (v2 := w) rfl rfl (fun q1 => ?_) (fun q1 => ?_)
  · replace q1 := of_decide_eq_true q1
    replace q1 := (nI_leI (a := 99) (b := j) (by omega) (by omega)).mp q1
    refine sx_RP.step (pc2 := 59) (ls2 := [(0, .ref 111), (2, .int n), (1, .int (nI j))]) (st2 := [.ref 111]) (w3 := w) rfl rfl ?_
    refine sx_RP.gf (v := .ref 114) rfl rfl hI.1.o111 rfl rfl (show _ = 62 from rfl) ?_
    refine sx_RP.step (pc2 := 63) (ls2 := [(0, .ref 111), (2, .int n), (1, .int (nI j))]) (st2 := [.ref 111, .ref 114]) (w3 := w) rfl rfl ?_
    refine sx_RP.gf (v := .ref 112) rfl rfl hI.1.o111 rfl rfl (show _ = 66 from rfl) ?_
    refine sx_RP.callp (as2 := [.ref 114, .ref 112]) (rest2 := []) rfl rfl rfl rfl rfl rfl (s175 hI (a := 114) (b := 112) (by decide) (by decide)) (show _ = 69 from rfl) ?_
    rintro r4 w2 ⟨rfl, hI3, hE5⟩
    have hE4 := hE.tr (hE5)
    show sx_RP _ _ _ _ _ [] _ _
    refine sx_RP.step (pc2 := 70) (ls2 := [(0, .ref 111), (2, .int n), (1, .int (nI j))]) (st2 := [.int n]) (w3 := w2) rfl rfl ?_
    refine sx_RP.br (p1 := 81) (l1 := [(0, .ref 111), (2, .int n), (1, .int (nI j))]) (s1 := []) (v1 := w2) (p2 := 73) (l2 := [(0, .ref 111), (2, .int n), (1, .int (nI j))]) (s2 := []) (v2 := w2) rfl rfl (fun q6 => ?_) (fun q6 => ?_)
    · replace q6 := of_decide_eq_true q6
      refine sx_RP.step (pc2 := 82) (ls2 := [(0, .ref 111), (2, .int n), (1, .int (nI j))]) (st2 := [.int n]) (w3 := w2) rfl rfl ?_
      refine sx_RP.ret (r := (some (.int n))) rfl rfl ?_
      exact ⟨⟨_, rfl⟩, hI3, hE4⟩
    · replace q6 := of_decide_eq_false q6
      refine sx_RP.step (pc2 := 74) (ls2 := [(0, .ref 111), (2, .int n), (1, .int (nI j))]) (st2 := [.ref 111]) (w3 := w2) rfl rfl ?_
      refine sx_RP.step (pc2 := 75) (ls2 := [(0, .ref 111), (2, .int n), (1, .int (nI j))]) (st2 := [.int 3, .ref 111]) (w3 := w2) rfl rfl ?_
      refine sx_RP.callp (as2 := [.ref 111, .int 3]) (rest2 := []) rfl rfl (sx_inv_v2 (mi := 177) (k := 70) (st := [.int 3, .ref 111]) (w := w2) rfl rfl hI3.1.o111 rfl rfl rfl) rfl rfl rfl (s133_3 hI3) (show _ = 78 from rfl) ?_
      rintro r4 w7 ⟨rfl, hI8, hE10⟩
      have hE9 := hE4.tr (hE10)
      show sx_RP _ _ _ _ _ [.int (-1000000004)] _ _
      refine sx_RP.step (pc2 := 82) (ls2 := [(0, .ref 111), (2, .int n), (1, .int (nI j))]) (st2 := [.int (-1000000004)]) (w3 := w7) rfl rfl ?_
      refine sx_RP.ret (r := (some (.int (-1000000004)))) rfl rfl ?_
      exact ⟨⟨_, rfl⟩, hI8, hE9⟩
  · replace q1 := of_decide_eq_false q1
    replace q1 := mt (nI_leI (a := 99) (b := j) (by omega) (by omega)).mpr q1
    refine sx_RP.step (pc2 := 40) (ls2 := [(0, .ref 111), (2, .int n), (1, .int (nI j))]) (st2 := [.int n]) (w3 := w) rfl rfl ?_
    refine sx_RP.br (p1 := 58) (l1 := [(0, .ref 111), (2, .int n), (1, .int (nI j))]) (s1 := []) (v1 := w) (p2 := 43) (l2 := [(0, .ref 111), (2, .int n), (1, .int (nI j))]) (s2 := []) (v2 := w) rfl rfl (fun q11 => ?_) (fun q11 => ?_)
    · replace q11 := of_decide_eq_true q11
      refine sx_RP.step (pc2 := 59) (ls2 := [(0, .ref 111), (2, .int n), (1, .int (nI j))]) (st2 := [.ref 111]) (w3 := w) rfl rfl ?_
      refine sx_RP.gf (v := .ref 114) rfl rfl hI.1.o111 rfl rfl (show _ = 62 from rfl) ?_
      refine sx_RP.step (pc2 := 63) (ls2 := [(0, .ref 111), (2, .int n), (1, .int (nI j))]) (st2 := [.ref 111, .ref 114]) (w3 := w) rfl rfl ?_
      refine sx_RP.gf (v := .ref 112) rfl rfl hI.1.o111 rfl rfl (show _ = 66 from rfl) ?_
      refine sx_RP.callp (as2 := [.ref 114, .ref 112]) (rest2 := []) rfl rfl rfl rfl rfl rfl (s175 hI (a := 114) (b := 112) (by decide) (by decide)) (show _ = 69 from rfl) ?_
      rintro r4 w12 ⟨rfl, hI13, hE15⟩
      have hE14 := hE.tr (hE15)
      show sx_RP _ _ _ _ _ [] _ _
      refine sx_RP.step (pc2 := 70) (ls2 := [(0, .ref 111), (2, .int n), (1, .int (nI j))]) (st2 := [.int n]) (w3 := w12) rfl rfl ?_
      refine sx_RP.br (p1 := 81) (l1 := [(0, .ref 111), (2, .int n), (1, .int (nI j))]) (s1 := []) (v1 := w12) (p2 := 73) (l2 := [(0, .ref 111), (2, .int n), (1, .int (nI j))]) (s2 := []) (v2 := w12) rfl rfl (fun q16 => ?_) (fun q16 => ?_)
      · replace q16 := of_decide_eq_true q16
        refine sx_RP.step (pc2 := 82) (ls2 := [(0, .ref 111), (2, .int n), (1, .int (nI j))]) (st2 := [.int n]) (w3 := w12) rfl rfl ?_
        refine sx_RP.ret (r := (some (.int n))) rfl rfl ?_
        exact ⟨⟨_, rfl⟩, hI13, hE14⟩
      · replace q16 := of_decide_eq_false q16
        refine sx_RP.step (pc2 := 74) (ls2 := [(0, .ref 111), (2, .int n), (1, .int (nI j))]) (st2 := [.ref 111]) (w3 := w12) rfl rfl ?_
        refine sx_RP.step (pc2 := 75) (ls2 := [(0, .ref 111), (2, .int n), (1, .int (nI j))]) (st2 := [.int 3, .ref 111]) (w3 := w12) rfl rfl ?_
        refine sx_RP.callp (as2 := [.ref 111, .int 3]) (rest2 := []) rfl rfl (sx_inv_v2 (mi := 177) (k := 70) (st := [.int 3, .ref 111]) (w := w12) rfl rfl hI13.1.o111 rfl rfl rfl) rfl rfl rfl (s133_3 hI13) (show _ = 78 from rfl) ?_
        rintro r4 w17 ⟨rfl, hI18, hE20⟩
        have hE19 := hE14.tr (hE20)
        show sx_RP _ _ _ _ _ [.int (-1000000004)] _ _
        refine sx_RP.step (pc2 := 82) (ls2 := [(0, .ref 111), (2, .int n), (1, .int (nI j))]) (st2 := [.int (-1000000004)]) (w3 := w17) rfl rfl ?_
        refine sx_RP.ret (r := (some (.int (-1000000004)))) rfl rfl ?_
        exact ⟨⟨_, rfl⟩, hI18, hE19⟩
    · replace q11 := of_decide_eq_false q11
      refine sx_RP.step (pc2 := 44) (ls2 := [(0, .ref 111), (2, .int n), (1, .int (nI j))]) (st2 := [.ref 111]) (w3 := w) rfl rfl ?_
      refine sx_RP.callp (as2 := [.ref 111]) (rest2 := []) rfl rfl (sx_inv_v2 (mi := 177) (k := 143) (st := [.ref 111]) (w := w) rfl rfl hI.1.o111 rfl rfl rfl) rfl rfl rfl (s169 hI ) (show _ = 47 from rfl) ?_
      rintro r4 w21 ⟨rfl, hI22, hE24⟩
      have hE23 := hE.tr (hE24)
      show sx_RP _ _ _ _ _ [] _ _
      refine sx_RP.step (pc2 := 50) (ls2 := [(1, .int ((nI j) + 1)), (0, .ref 111), (2, .int n)]) (st2 := []) (w3 := w21) rfl rfl ?_
      rw [nI_1 j]
      refine sx_RP.step (pc2 := 51) (ls2 := [(1, .int (nI (j + 1))), (0, .ref 111), (2, .int n)]) (st2 := [.ref 111]) (w3 := w21) rfl rfl ?_
      obtain ⟨v25, c26⟩ := p178 hI22 
      refine sx_RP.cu (as := [.ref 111]) (rest2 := []) (st3 := [.int v25]) rfl rfl (sx_inv_v2 (mi := 177) (k := 162) (st := [.ref 111]) (w := w21) rfl rfl hI22.1.o111 rfl rfl rfl) rfl rfl (c26) rfl ?_
      refine sx_RP.step (pc2 := 55) (ls2 := [(2, .int v25), (1, .int (nI (j + 1))), (0, .ref 111)]) (st2 := []) (w3 := w21) rfl rfl ?_
      refine sx_RP.step (pc2 := 33) (ls2 := [(2, .int v25), (1, .int (nI (j + 1))), (0, .ref 111)]) (st2 := []) (w3 := w21) rfl rfl ?_
      exact sx_RP.ls (sx_lr.cons rfl (sx_lr.cons rfl (sx_lr.cons rfl sx_lr.nil))) (kk w21 v25 hI22 hE23 (by omega))
set_option maxRecDepth 20000 in
set_option maxHeartbeats 4000000 in
theorem s177L {xs : Option (List Int32)} {d : Nat} {w0 : List sx_C} : ∀ (fz j : Nat) (w : List sx_C) (n : Int32) , 99 ≤ j + fz * 1 → j ≤ 99 → WI w → EM w0 w → sx_RP xs (d + 7) 177 33 [(0, .ref 111), (2, .int n), (1, .int (nI j))] [] w (fun r w2 => (∃ v : Int32, r = some (.int v)) ∧ WI w2 ∧ EM w0 w2)
  | 0, j, w, n, h, hj, hI, hE => s177B  hI hE hj n  (fun w4 un hI4 hE4 hlt  => absurd hlt (by omega)) 
  | fz + 1, j, w, n, h, hj, hI, hE => s177B  hI hE hj n  (fun w4 un hI4 hE4 hlt  => s177L   fz (j + 1) w4 un (by omega) hlt hI4 hE4 ) 
set_option maxRecDepth 20000 in
set_option maxHeartbeats 4000000 in
theorem s177 {xs : Option (List Int32)} {d : Nat} {w : List sx_C} (hI : WI w) : sx_RP xs (d + 7) 177 0 (lv_args 0 [.ref 111]) [] w (fun r w2 => (∃ v : Int32, r = some (.int v)) ∧ WI w2 ∧ EM w w2) := by
  have hE : EM w w := EM.rf
  refine sx_RP.step (pc2 := 1) (ls2 := [(0, .ref 111)]) (st2 := [.ref 111]) (w3 := w) rfl rfl ?_
  refine sx_RP.step (pc2 := 3) (ls2 := [(0, .ref 111)]) (st2 := [.int 99, .ref 111]) (w3 := w) rfl rfl ?_
  obtain ⟨x1, hx2, c3⟩ := p165 hI 99
  refine sx_RP.cu (as := [.ref 111, .int 99]) (rest2 := []) (st3 := [.int (nI x1)]) rfl rfl (sx_inv_v2 (mi := 177) (k := 149) (st := [.int 99, .ref 111]) (w := w) rfl rfl hI.1.o111 rfl rfl rfl) rfl rfl (c3) rfl ?_
  refine sx_RP.br (p1 := 15) (l1 := [(0, .ref 111)]) (s1 := []) (v1 := w) (p2 := 9) (l2 := [(0, .ref 111)]) (s2 := []) (v2 := w) rfl rfl (fun q4 => ?_) (fun q4 => ?_)
  · replace q4 := of_decide_eq_true q4
    replace q4 := (nI_eq (a := x1) (b := 0) (by omega) (by omega)).mp q4
    refine sx_RP.step (pc2 := 16) (ls2 := [(0, .ref 111)]) (st2 := [.ref 111]) (w3 := w) rfl rfl ?_
    refine sx_RP.gf (v := .ref 112) rfl rfl hI.1.o111 rfl rfl (show _ = 19 from rfl) ?_
    refine sx_RP.step (pc2 := 20) (ls2 := [(0, .ref 111)]) (st2 := [.ref 111, .ref 112]) (w3 := w) rfl rfl ?_
    refine sx_RP.gf (v := .ref 114) rfl rfl hI.1.o111 rfl rfl (show _ = 23 from rfl) ?_
    refine sx_RP.callp (as2 := [.ref 112, .ref 114]) (rest2 := []) rfl rfl rfl rfl rfl rfl (s175 hI (a := 112) (b := 114) (by decide) (by decide)) (show _ = 26 from rfl) ?_
    rintro r4 w5 ⟨rfl, hI6, hE8⟩
    have hE7 := hE.tr (hE8)
    show sx_RP _ _ _ _ _ [] _ _
    refine sx_RP.step (pc2 := 27) (ls2 := [(0, .ref 111)]) (st2 := [.int 0]) (w3 := w5) rfl rfl ?_
    refine sx_RP.step (pc2 := 28) (ls2 := [(1, .int 0), (0, .ref 111)]) (st2 := []) (w3 := w5) rfl rfl ?_
    refine sx_RP.step (pc2 := 29) (ls2 := [(1, .int 0), (0, .ref 111)]) (st2 := [.ref 111]) (w3 := w5) rfl rfl ?_
    obtain ⟨v9, c10⟩ := p178 hI6 
    refine sx_RP.cu (as := [.ref 111]) (rest2 := []) (st3 := [.int v9]) rfl rfl (sx_inv_v2 (mi := 177) (k := 162) (st := [.ref 111]) (w := w5) rfl rfl hI6.1.o111 rfl rfl rfl) rfl rfl (c10) rfl ?_
    refine sx_RP.step (pc2 := 33) (ls2 := [(2, .int v9), (1, .int 0), (0, .ref 111)]) (st2 := []) (w3 := w5) rfl rfl ?_
    exact sx_RP.ls (sx_lr.cons rfl (sx_lr.cons rfl (sx_lr.cons rfl sx_lr.nil))) (s177L  99 0 w5 v9 (by omega) (by omega) hI6 hE7 )
  · replace q4 := of_decide_eq_false q4
    replace q4 := mt (nI_eq (a := x1) (b := 0) (by omega) (by omega)).mpr q4
    refine sx_RP.step (pc2 := 10) (ls2 := [(0, .ref 111)]) (st2 := [.ref 111]) (w3 := w) rfl rfl ?_
    refine sx_RP.step (pc2 := 11) (ls2 := [(0, .ref 111)]) (st2 := [.int 4, .ref 111]) (w3 := w) rfl rfl ?_
    refine sx_RP.callp (as2 := [.ref 111, .int 4]) (rest2 := []) rfl rfl (sx_inv_v2 (mi := 177) (k := 70) (st := [.int 4, .ref 111]) (w := w) rfl rfl hI.1.o111 rfl rfl rfl) rfl rfl rfl (s133_4 hI) (show _ = 14 from rfl) ?_
    rintro r4 w11 ⟨rfl, hI12, hE14⟩
    have hE13 := hE.tr (hE14)
    show sx_RP _ _ _ _ _ [.int (-1000000005)] _ _
    refine sx_RP.ret (r := (some (.int (-1000000005)))) rfl rfl ?_
    exact ⟨⟨_, rfl⟩, hI12, hE13⟩
set_option maxRecDepth 20000 in
set_option maxHeartbeats 4000000 in
theorem s202B {xs : Option (List Int32)} {d : Nat} {w w0 : List sx_C} {n : Nat} (hI : WI w) (hE : EM w0 w) {j : Nat} (hj : j ≤ 48) (m : Int32) (l : Int32) (kk : ∀ (w4 : List sx_C) (um : Int32) (ul : Int32), WI w4 → EM w0 w4 → j + 1 ≤ 48 → sx_RP xs (d + 7) 202 20 [(0, .ref 111), (1, .int (nI n)), (2, .int um), (3, .int ul), (4, .int (nI (j + 1)))] [] w4 (fun r w2 => (∃ v : Int32, r = some (.int v)) ∧ WI w2 ∧ EM w0 w2)) : sx_RP xs (d + 7) 202 20 [(0, .ref 111), (1, .int (nI n)), (2, .int m), (3, .int l), (4, .int (nI j))] [] w (fun r w2 => (∃ v : Int32, r = some (.int v)) ∧ WI w2 ∧ EM w0 w2) := by
  refine sx_RP.step (pc2 := 22) (ls2 := [(0, .ref 111), (1, .int (nI n)), (2, .int m), (3, .int l), (4, .int (nI j))]) (st2 := [.int (nI j)]) (w3 := w) rfl rfl ?_
  refine sx_RP.step (pc2 := 24) (ls2 := [(0, .ref 111), (1, .int (nI n)), (2, .int m), (3, .int l), (4, .int (nI j))]) (st2 := [.int 48, .int (nI j)]) (w3 := w) rfl rfl ?_
  refine sx_RP.br (p1 := 86) (l1 := [(0, .ref 111), (1, .int (nI n)), (2, .int m), (3, .int l), (4, .int (nI j))]) (s1 := []) (v1 := w) (p2 := 27) (l2 := [(0, .ref 111), (1, .int (nI n)), (2, .int m), (3, .int l), (4, .int (nI j))]) (s2 := []) (v2 := w) rfl rfl (fun q1 => ?_) (fun q1 => ?_)
  · replace q1 := of_decide_eq_true q1
    replace q1 := (nI_leI (a := 48) (b := j) (by omega) (by omega)).mp q1
    refine sx_RP.step (pc2 := 87) (ls2 := [(0, .ref 111), (1, .int (nI n)), (2, .int m), (3, .int l), (4, .int (nI j))]) (st2 := [.int m]) (w3 := w) rfl rfl ?_
    refine sx_RP.br (p1 := 98) (l1 := [(0, .ref 111), (1, .int (nI n)), (2, .int m), (3, .int l), (4, .int (nI j))]) (s1 := []) (v1 := w) (p2 := 90) (l2 := [(0, .ref 111), (1, .int (nI n)), (2, .int m), (3, .int l), (4, .int (nI j))]) (s2 := []) (v2 := w) rfl rfl (fun q2 => ?_) (fun q2 => ?_)
    · replace q2 := of_decide_eq_true q2
      refine sx_RP.step (pc2 := 99) (ls2 := [(0, .ref 111), (1, .int (nI n)), (2, .int m), (3, .int l), (4, .int (nI j))]) (st2 := [.int m]) (w3 := w) rfl rfl ?_
      refine sx_RP.ret (r := (some (.int m))) rfl rfl ?_
      exact ⟨⟨_, rfl⟩, hI, hE⟩
    · replace q2 := of_decide_eq_false q2
      refine sx_RP.step (pc2 := 91) (ls2 := [(0, .ref 111), (1, .int (nI n)), (2, .int m), (3, .int l), (4, .int (nI j))]) (st2 := [.ref 111]) (w3 := w) rfl rfl ?_
      refine sx_RP.step (pc2 := 92) (ls2 := [(0, .ref 111), (1, .int (nI n)), (2, .int m), (3, .int l), (4, .int (nI j))]) (st2 := [.int 3, .ref 111]) (w3 := w) rfl rfl ?_
      refine sx_RP.callp (as2 := [.ref 111, .int 3]) (rest2 := []) rfl rfl (sx_inv_v2 (mi := 202) (k := 70) (st := [.int 3, .ref 111]) (w := w) rfl rfl hI.1.o111 rfl rfl rfl) rfl rfl rfl (s133_3 hI) (show _ = 95 from rfl) ?_
      rintro r4 w3 ⟨rfl, hI4, hE6⟩
      have hE5 := hE.tr (hE6)
      show sx_RP _ _ _ _ _ [.int (-1000000004)] _ _
      refine sx_RP.step (pc2 := 99) (ls2 := [(0, .ref 111), (1, .int (nI n)), (2, .int m), (3, .int l), (4, .int (nI j))]) (st2 := [.int (-1000000004)]) (w3 := w3) rfl rfl ?_
      refine sx_RP.ret (r := (some (.int (-1000000004)))) rfl rfl ?_
      exact ⟨⟨_, rfl⟩, hI4, hE5⟩
  · replace q1 := of_decide_eq_false q1
    replace q1 := mt (nI_leI (a := 48) (b := j) (by omega) (by omega)).mpr q1
    refine sx_RP.step (pc2 := 28) (ls2 := [(0, .ref 111), (1, .int (nI n)), (2, .int m), (3, .int l), (4, .int (nI j))]) (st2 := [.ref 111]) (w3 := w) rfl rfl ?_
    refine sx_RP.gf (v := .ref 112) rfl rfl hI.1.o111 rfl rfl (show _ = 31 from rfl) ?_
    refine sx_RP.step (pc2 := 33) (ls2 := [(0, .ref 111), (1, .int (nI n)), (2, .int m), (3, .int l), (4, .int (nI j))]) (st2 := [.int 7, .ref 112]) (w3 := w) rfl rfl ?_
    refine sx_RP.step (pc2 := 35) (ls2 := [(0, .ref 111), (1, .int (nI n)), (2, .int m), (3, .int l), (4, .int (nI j))]) (st2 := [.int (nI j), .int 7, .ref 112]) (w3 := w) rfl rfl ?_
    refine sx_RP.step (pc2 := 36) (ls2 := [(0, .ref 111), (1, .int (nI n)), (2, .int m), (3, .int l), (4, .int (nI j))]) (st2 := [.int (7 + (nI j)), .ref 112]) (w3 := w) rfl rfl ?_
    rw [show (7 + (nI j) : Int32) = nI (7 + j) from nI_add 7 j]
    refine sx_RP.ild (c := (7 + j)) rfl hI.1.a112.1 hI.1.a112.2 (sx_in_nI (show (7 + j) < 172 by omega) (by decide)) (show (nI (7 + j)).toNatClampNeg = (7 + j) from nI_clamp (by omega)) (show _ = 37 from rfl) ?_
    obtain ⟨x7, hx8, ex9⟩ : inR ((ia w 112).getD (7 + j) 0) 3 := (hI.s ((7 + j)) (by omega)).2.2.1 (by omega)
    rw [ex9]
    refine sx_RP.step (pc2 := 38) (ls2 := [(0, .ref 111), (1, .int (nI n)), (2, .int m), (3, .int l), (4, .int (nI j))]) (st2 := [.int 3, .int (nI x7)]) (w3 := w) rfl rfl ?_
    refine sx_RP.br (p1 := 45) (l1 := [(0, .ref 111), (1, .int (nI n)), (2, .int m), (3, .int l), (4, .int (nI j))]) (s1 := []) (v1 := w) (p2 := 41) (l2 := [(0, .ref 111), (1, .int (nI n)), (2, .int m), (3, .int l), (4, .int (nI j))]) (s2 := []) (v2 := w) rfl rfl (fun q10 => ?_) (fun q10 => ?_)
    · replace q10 := of_decide_eq_true q10
      replace q10 := mt (nI_eq (a := x7) (b := 3) (by omega) (by omega)).mpr q10
      refine sx_RP.step (pc2 := 46) (ls2 := [(0, .ref 111), (1, .int (nI n)), (2, .int m), (3, .int l), (4, .int (nI j))]) (st2 := [.ref 111]) (w3 := w) rfl rfl ?_
      refine sx_RP.step (pc2 := 48) (ls2 := [(0, .ref 111), (1, .int (nI n)), (2, .int m), (3, .int l), (4, .int (nI j))]) (st2 := [.int (nI j), .ref 111]) (w3 := w) rfl rfl ?_
      refine sx_RP.step (pc2 := 49) (ls2 := [(0, .ref 111), (1, .int (nI n)), (2, .int m), (3, .int l), (4, .int (nI j))]) (st2 := [.int (nI n), .int (nI j), .ref 111]) (w3 := w) rfl rfl ?_
      obtain ⟨v11, c12⟩ := p198 hI (nI j) (nI n)
      refine sx_RP.cu (as := [.ref 111, .int (nI j), .int (nI n)]) (rest2 := []) (st3 := [.int v11]) rfl rfl (sx_inv_v2 (mi := 202) (k := 198) (st := [.int (nI n), .int (nI j), .ref 111]) (w := w) rfl rfl hI.1.o111 rfl rfl rfl) rfl rfl (c12) rfl ?_
      refine sx_RP.step (pc2 := 54) (ls2 := [(5, .int v11), (0, .ref 111), (1, .int (nI n)), (2, .int m), (3, .int l), (4, .int (nI j))]) (st2 := []) (w3 := w) rfl rfl ?_
      refine sx_RP.step (pc2 := 56) (ls2 := [(5, .int v11), (0, .ref 111), (1, .int (nI n)), (2, .int m), (3, .int l), (4, .int (nI j))]) (st2 := [.int v11]) (w3 := w) rfl rfl ?_
      refine sx_RP.step (pc2 := 57) (ls2 := [(5, .int v11), (0, .ref 111), (1, .int (nI n)), (2, .int m), (3, .int l), (4, .int (nI j))]) (st2 := [.int l, .int v11]) (w3 := w) rfl rfl ?_
      refine sx_RP.br (p1 := 65) (l1 := [(5, .int v11), (0, .ref 111), (1, .int (nI n)), (2, .int m), (3, .int l), (4, .int (nI j))]) (s1 := []) (v1 := w) (p2 := 60) (l2 := [(5, .int v11), (0, .ref 111), (1, .int (nI n)), (2, .int m), (3, .int l), (4, .int (nI j))]) (s2 := []) (v2 := w) rfl rfl (fun q13 => ?_) (fun q13 => ?_)
      · replace q13 := of_decide_eq_true q13
        refine sx_RP.step (pc2 := 66) (ls2 := [(5, .int v11), (0, .ref 111), (1, .int (nI n)), (2, .int m), (3, .int l), (4, .int (nI j))]) (st2 := [.int m]) (w3 := w) rfl rfl ?_
        refine sx_RP.step (pc2 := 67) (ls2 := [(2, .int m), (5, .int v11), (0, .ref 111), (1, .int (nI n)), (3, .int l), (4, .int (nI j))]) (st2 := []) (w3 := w) rfl rfl ?_
        refine sx_RP.step (pc2 := 69) (ls2 := [(2, .int m), (5, .int v11), (0, .ref 111), (1, .int (nI n)), (3, .int l), (4, .int (nI j))]) (st2 := [.int v11]) (w3 := w) rfl rfl ?_
        refine sx_RP.step (pc2 := 70) (ls2 := [(2, .int m), (5, .int v11), (0, .ref 111), (1, .int (nI n)), (3, .int l), (4, .int (nI j))]) (st2 := [.int l, .int v11]) (w3 := w) rfl rfl ?_
        refine sx_RP.br (p1 := 78) (l1 := [(2, .int m), (5, .int v11), (0, .ref 111), (1, .int (nI n)), (3, .int l), (4, .int (nI j))]) (s1 := []) (v1 := w) (p2 := 73) (l2 := [(2, .int m), (5, .int v11), (0, .ref 111), (1, .int (nI n)), (3, .int l), (4, .int (nI j))]) (s2 := []) (v2 := w) rfl rfl (fun q14 => ?_) (fun q14 => ?_)
        · replace q14 := of_decide_eq_true q14
          refine sx_RP.step (pc2 := 79) (ls2 := [(2, .int m), (5, .int v11), (0, .ref 111), (1, .int (nI n)), (3, .int l), (4, .int (nI j))]) (st2 := [.int l]) (w3 := w) rfl rfl ?_
          refine sx_RP.step (pc2 := 80) (ls2 := [(3, .int l), (2, .int m), (5, .int v11), (0, .ref 111), (1, .int (nI n)), (4, .int (nI j))]) (st2 := []) (w3 := w) rfl rfl ?_
          refine sx_RP.step (pc2 := 83) (ls2 := [(4, .int ((nI j) + 1)), (3, .int l), (2, .int m), (5, .int v11), (0, .ref 111), (1, .int (nI n))]) (st2 := []) (w3 := w) rfl rfl ?_
          rw [nI_1 j]
          refine sx_RP.step (pc2 := 20) (ls2 := [(4, .int (nI (j + 1))), (3, .int l), (2, .int m), (5, .int v11), (0, .ref 111), (1, .int (nI n))]) (st2 := []) (w3 := w) rfl rfl ?_
          exact sx_RP.ls (sx_lr.cons rfl (sx_lr.cons rfl (sx_lr.cons rfl (sx_lr.cons rfl (sx_lr.cons rfl sx_lr.nil))))) (kk w m l hI hE (by omega))
        · replace q14 := of_decide_eq_false q14
          refine sx_RP.step (pc2 := 75) (ls2 := [(2, .int m), (5, .int v11), (0, .ref 111), (1, .int (nI n)), (3, .int l), (4, .int (nI j))]) (st2 := [.int v11]) (w3 := w) rfl rfl ?_
          refine sx_RP.step (pc2 := 79) (ls2 := [(2, .int m), (5, .int v11), (0, .ref 111), (1, .int (nI n)), (3, .int l), (4, .int (nI j))]) (st2 := [.int v11]) (w3 := w) rfl rfl ?_
          refine sx_RP.step (pc2 := 80) (ls2 := [(3, .int v11), (2, .int m), (5, .int v11), (0, .ref 111), (1, .int (nI n)), (4, .int (nI j))]) (st2 := []) (w3 := w) rfl rfl ?_
          refine sx_RP.step (pc2 := 83) (ls2 := [(4, .int ((nI j) + 1)), (3, .int v11), (2, .int m), (5, .int v11), (0, .ref 111), (1, .int (nI n))]) (st2 := []) (w3 := w) rfl rfl ?_
          rw [nI_1 j]
          refine sx_RP.step (pc2 := 20) (ls2 := [(4, .int (nI (j + 1))), (3, .int v11), (2, .int m), (5, .int v11), (0, .ref 111), (1, .int (nI n))]) (st2 := []) (w3 := w) rfl rfl ?_
          exact sx_RP.ls (sx_lr.cons rfl (sx_lr.cons rfl (sx_lr.cons rfl (sx_lr.cons rfl (sx_lr.cons rfl sx_lr.nil))))) (kk w m v11 hI hE (by omega))
      · replace q13 := of_decide_eq_false q13
        refine sx_RP.step (pc2 := 62) (ls2 := [(5, .int v11), (0, .ref 111), (1, .int (nI n)), (2, .int m), (3, .int l), (4, .int (nI j))]) (st2 := [.int (nI j)]) (w3 := w) rfl rfl ?_
        refine sx_RP.step (pc2 := 66) (ls2 := [(5, .int v11), (0, .ref 111), (1, .int (nI n)), (2, .int m), (3, .int l), (4, .int (nI j))]) (st2 := [.int (nI j)]) (w3 := w) rfl rfl ?_
        refine sx_RP.step (pc2 := 67) (ls2 := [(2, .int (nI j)), (5, .int v11), (0, .ref 111), (1, .int (nI n)), (3, .int l), (4, .int (nI j))]) (st2 := []) (w3 := w) rfl rfl ?_
        refine sx_RP.step (pc2 := 69) (ls2 := [(2, .int (nI j)), (5, .int v11), (0, .ref 111), (1, .int (nI n)), (3, .int l), (4, .int (nI j))]) (st2 := [.int v11]) (w3 := w) rfl rfl ?_
        refine sx_RP.step (pc2 := 70) (ls2 := [(2, .int (nI j)), (5, .int v11), (0, .ref 111), (1, .int (nI n)), (3, .int l), (4, .int (nI j))]) (st2 := [.int l, .int v11]) (w3 := w) rfl rfl ?_
        refine sx_RP.br (p1 := 78) (l1 := [(2, .int (nI j)), (5, .int v11), (0, .ref 111), (1, .int (nI n)), (3, .int l), (4, .int (nI j))]) (s1 := []) (v1 := w) (p2 := 73) (l2 := [(2, .int (nI j)), (5, .int v11), (0, .ref 111), (1, .int (nI n)), (3, .int l), (4, .int (nI j))]) (s2 := []) (v2 := w) rfl rfl (fun q15 => ?_) (fun q15 => ?_)
        · replace q15 := of_decide_eq_true q15
          refine sx_RP.step (pc2 := 79) (ls2 := [(2, .int (nI j)), (5, .int v11), (0, .ref 111), (1, .int (nI n)), (3, .int l), (4, .int (nI j))]) (st2 := [.int l]) (w3 := w) rfl rfl ?_
          refine sx_RP.step (pc2 := 80) (ls2 := [(3, .int l), (2, .int (nI j)), (5, .int v11), (0, .ref 111), (1, .int (nI n)), (4, .int (nI j))]) (st2 := []) (w3 := w) rfl rfl ?_
          refine sx_RP.step (pc2 := 83) (ls2 := [(4, .int ((nI j) + 1)), (3, .int l), (2, .int (nI j)), (5, .int v11), (0, .ref 111), (1, .int (nI n))]) (st2 := []) (w3 := w) rfl rfl ?_
          rw [nI_1 j]
          refine sx_RP.step (pc2 := 20) (ls2 := [(4, .int (nI (j + 1))), (3, .int l), (2, .int (nI j)), (5, .int v11), (0, .ref 111), (1, .int (nI n))]) (st2 := []) (w3 := w) rfl rfl ?_
          exact sx_RP.ls (sx_lr.cons rfl (sx_lr.cons rfl (sx_lr.cons rfl (sx_lr.cons rfl (sx_lr.cons rfl sx_lr.nil))))) (kk w (nI j) l hI hE (by omega))
        · replace q15 := of_decide_eq_false q15
          refine sx_RP.step (pc2 := 75) (ls2 := [(2, .int (nI j)), (5, .int v11), (0, .ref 111), (1, .int (nI n)), (3, .int l), (4, .int (nI j))]) (st2 := [.int v11]) (w3 := w) rfl rfl ?_
          refine sx_RP.step (pc2 := 79) (ls2 := [(2, .int (nI j)), (5, .int v11), (0, .ref 111), (1, .int (nI n)), (3, .int l), (4, .int (nI j))]) (st2 := [.int v11]) (w3 := w) rfl rfl ?_
          refine sx_RP.step (pc2 := 80) (ls2 := [(3, .int v11), (2, .int (nI j)), (5, .int v11), (0, .ref 111), (1, .int (nI n)), (4, .int (nI j))]) (st2 := []) (w3 := w) rfl rfl ?_
          refine sx_RP.step (pc2 := 83) (ls2 := [(4, .int ((nI j) + 1)), (3, .int v11), (2, .int (nI j)), (5, .int v11), (0, .ref 111), (1, .int (nI n))]) (st2 := []) (w3 := w) rfl rfl ?_
          rw [nI_1 j]
          refine sx_RP.step (pc2 := 20) (ls2 := [(4, .int (nI (j + 1))), (3, .int v11), (2, .int (nI j)), (5, .int v11), (0, .ref 111), (1, .int (nI n))]) (st2 := []) (w3 := w) rfl rfl ?_
          exact sx_RP.ls (sx_lr.cons rfl (sx_lr.cons rfl (sx_lr.cons rfl (sx_lr.cons rfl (sx_lr.cons rfl sx_lr.nil))))) (kk w (nI j) v11 hI hE (by omega))
    · replace q10 := Decidable.not_not.mp (of_decide_eq_false q10)
      replace q10 := (nI_eq (a := x7) (b := 3) (by omega) (by omega)).mp q10
      refine sx_RP.step (pc2 := 42) (ls2 := [(0, .ref 111), (1, .int (nI n)), (2, .int m), (3, .int l), (4, .int (nI j))]) (st2 := [.int 0]) (w3 := w) rfl rfl ?_
      refine sx_RP.step (pc2 := 52) (ls2 := [(0, .ref 111), (1, .int (nI n)), (2, .int m), (3, .int l), (4, .int (nI j))]) (st2 := [.int 0]) (w3 := w) rfl rfl ?_
      refine sx_RP.step (pc2 := 54) (ls2 := [(5, .int 0), (0, .ref 111), (1, .int (nI n)), (2, .int m), (3, .int l), (4, .int (nI j))]) (st2 := []) (w3 := w) rfl rfl ?_
      refine sx_RP.step (pc2 := 56) (ls2 := [(5, .int 0), (0, .ref 111), (1, .int (nI n)), (2, .int m), (3, .int l), (4, .int (nI j))]) (st2 := [.int 0]) (w3 := w) rfl rfl ?_
      refine sx_RP.step (pc2 := 57) (ls2 := [(5, .int 0), (0, .ref 111), (1, .int (nI n)), (2, .int m), (3, .int l), (4, .int (nI j))]) (st2 := [.int l, .int 0]) (w3 := w) rfl rfl ?_
      refine sx_RP.br (p1 := 65) (l1 := [(5, .int 0), (0, .ref 111), (1, .int (nI n)), (2, .int m), (3, .int l), (4, .int (nI j))]) (s1 := []) (v1 := w) (p2 := 60) (l2 := [(5, .int 0), (0, .ref 111), (1, .int (nI n)), (2, .int m), (3, .int l), (4, .int (nI j))]) (s2 := []) (v2 := w) rfl rfl (fun q16 => ?_) (fun q16 => ?_)
      · replace q16 := of_decide_eq_true q16
        refine sx_RP.step (pc2 := 66) (ls2 := [(5, .int 0), (0, .ref 111), (1, .int (nI n)), (2, .int m), (3, .int l), (4, .int (nI j))]) (st2 := [.int m]) (w3 := w) rfl rfl ?_
        refine sx_RP.step (pc2 := 67) (ls2 := [(2, .int m), (5, .int 0), (0, .ref 111), (1, .int (nI n)), (3, .int l), (4, .int (nI j))]) (st2 := []) (w3 := w) rfl rfl ?_
        refine sx_RP.step (pc2 := 69) (ls2 := [(2, .int m), (5, .int 0), (0, .ref 111), (1, .int (nI n)), (3, .int l), (4, .int (nI j))]) (st2 := [.int 0]) (w3 := w) rfl rfl ?_
        refine sx_RP.step (pc2 := 70) (ls2 := [(2, .int m), (5, .int 0), (0, .ref 111), (1, .int (nI n)), (3, .int l), (4, .int (nI j))]) (st2 := [.int l, .int 0]) (w3 := w) rfl rfl ?_
        refine sx_RP.br (p1 := 78) (l1 := [(2, .int m), (5, .int 0), (0, .ref 111), (1, .int (nI n)), (3, .int l), (4, .int (nI j))]) (s1 := []) (v1 := w) (p2 := 73) (l2 := [(2, .int m), (5, .int 0), (0, .ref 111), (1, .int (nI n)), (3, .int l), (4, .int (nI j))]) (s2 := []) (v2 := w) rfl rfl (fun q17 => ?_) (fun q17 => ?_)
        · replace q17 := of_decide_eq_true q17
          refine sx_RP.step (pc2 := 79) (ls2 := [(2, .int m), (5, .int 0), (0, .ref 111), (1, .int (nI n)), (3, .int l), (4, .int (nI j))]) (st2 := [.int l]) (w3 := w) rfl rfl ?_
          refine sx_RP.step (pc2 := 80) (ls2 := [(3, .int l), (2, .int m), (5, .int 0), (0, .ref 111), (1, .int (nI n)), (4, .int (nI j))]) (st2 := []) (w3 := w) rfl rfl ?_
          refine sx_RP.step (pc2 := 83) (ls2 := [(4, .int ((nI j) + 1)), (3, .int l), (2, .int m), (5, .int 0), (0, .ref 111), (1, .int (nI n))]) (st2 := []) (w3 := w) rfl rfl ?_
          rw [nI_1 j]
          refine sx_RP.step (pc2 := 20) (ls2 := [(4, .int (nI (j + 1))), (3, .int l), (2, .int m), (5, .int 0), (0, .ref 111), (1, .int (nI n))]) (st2 := []) (w3 := w) rfl rfl ?_
          exact sx_RP.ls (sx_lr.cons rfl (sx_lr.cons rfl (sx_lr.cons rfl (sx_lr.cons rfl (sx_lr.cons rfl sx_lr.nil))))) (kk w m l hI hE (by omega))
        · replace q17 := of_decide_eq_false q17
          refine sx_RP.step (pc2 := 75) (ls2 := [(2, .int m), (5, .int 0), (0, .ref 111), (1, .int (nI n)), (3, .int l), (4, .int (nI j))]) (st2 := [.int 0]) (w3 := w) rfl rfl ?_
          refine sx_RP.step (pc2 := 79) (ls2 := [(2, .int m), (5, .int 0), (0, .ref 111), (1, .int (nI n)), (3, .int l), (4, .int (nI j))]) (st2 := [.int 0]) (w3 := w) rfl rfl ?_
          refine sx_RP.step (pc2 := 80) (ls2 := [(3, .int 0), (2, .int m), (5, .int 0), (0, .ref 111), (1, .int (nI n)), (4, .int (nI j))]) (st2 := []) (w3 := w) rfl rfl ?_
          refine sx_RP.step (pc2 := 83) (ls2 := [(4, .int ((nI j) + 1)), (3, .int 0), (2, .int m), (5, .int 0), (0, .ref 111), (1, .int (nI n))]) (st2 := []) (w3 := w) rfl rfl ?_
          rw [nI_1 j]
          refine sx_RP.step (pc2 := 20) (ls2 := [(4, .int (nI (j + 1))), (3, .int 0), (2, .int m), (5, .int 0), (0, .ref 111), (1, .int (nI n))]) (st2 := []) (w3 := w) rfl rfl ?_
          exact sx_RP.ls (sx_lr.cons rfl (sx_lr.cons rfl (sx_lr.cons rfl (sx_lr.cons rfl (sx_lr.cons rfl sx_lr.nil))))) (kk w m 0 hI hE (by omega))
      · replace q16 := of_decide_eq_false q16
        refine sx_RP.step (pc2 := 62) (ls2 := [(5, .int 0), (0, .ref 111), (1, .int (nI n)), (2, .int m), (3, .int l), (4, .int (nI j))]) (st2 := [.int (nI j)]) (w3 := w) rfl rfl ?_
        refine sx_RP.step (pc2 := 66) (ls2 := [(5, .int 0), (0, .ref 111), (1, .int (nI n)), (2, .int m), (3, .int l), (4, .int (nI j))]) (st2 := [.int (nI j)]) (w3 := w) rfl rfl ?_
        refine sx_RP.step (pc2 := 67) (ls2 := [(2, .int (nI j)), (5, .int 0), (0, .ref 111), (1, .int (nI n)), (3, .int l), (4, .int (nI j))]) (st2 := []) (w3 := w) rfl rfl ?_
        refine sx_RP.step (pc2 := 69) (ls2 := [(2, .int (nI j)), (5, .int 0), (0, .ref 111), (1, .int (nI n)), (3, .int l), (4, .int (nI j))]) (st2 := [.int 0]) (w3 := w) rfl rfl ?_
        refine sx_RP.step (pc2 := 70) (ls2 := [(2, .int (nI j)), (5, .int 0), (0, .ref 111), (1, .int (nI n)), (3, .int l), (4, .int (nI j))]) (st2 := [.int l, .int 0]) (w3 := w) rfl rfl ?_
        refine sx_RP.br (p1 := 78) (l1 := [(2, .int (nI j)), (5, .int 0), (0, .ref 111), (1, .int (nI n)), (3, .int l), (4, .int (nI j))]) (s1 := []) (v1 := w) (p2 := 73) (l2 := [(2, .int (nI j)), (5, .int 0), (0, .ref 111), (1, .int (nI n)), (3, .int l), (4, .int (nI j))]) (s2 := []) (v2 := w) rfl rfl (fun q18 => ?_) (fun q18 => ?_)
        · replace q18 := of_decide_eq_true q18
          refine sx_RP.step (pc2 := 79) (ls2 := [(2, .int (nI j)), (5, .int 0), (0, .ref 111), (1, .int (nI n)), (3, .int l), (4, .int (nI j))]) (st2 := [.int l]) (w3 := w) rfl rfl ?_
          refine sx_RP.step (pc2 := 80) (ls2 := [(3, .int l), (2, .int (nI j)), (5, .int 0), (0, .ref 111), (1, .int (nI n)), (4, .int (nI j))]) (st2 := []) (w3 := w) rfl rfl ?_
          refine sx_RP.step (pc2 := 83) (ls2 := [(4, .int ((nI j) + 1)), (3, .int l), (2, .int (nI j)), (5, .int 0), (0, .ref 111), (1, .int (nI n))]) (st2 := []) (w3 := w) rfl rfl ?_
          rw [nI_1 j]
          refine sx_RP.step (pc2 := 20) (ls2 := [(4, .int (nI (j + 1))), (3, .int l), (2, .int (nI j)), (5, .int 0), (0, .ref 111), (1, .int (nI n))]) (st2 := []) (w3 := w) rfl rfl ?_
          exact sx_RP.ls (sx_lr.cons rfl (sx_lr.cons rfl (sx_lr.cons rfl (sx_lr.cons rfl (sx_lr.cons rfl sx_lr.nil))))) (kk w (nI j) l hI hE (by omega))
        · replace q18 := of_decide_eq_false q18
          refine sx_RP.step (pc2 := 75) (ls2 := [(2, .int (nI j)), (5, .int 0), (0, .ref 111), (1, .int (nI n)), (3, .int l), (4, .int (nI j))]) (st2 := [.int 0]) (w3 := w) rfl rfl ?_
          refine sx_RP.step (pc2 := 79) (ls2 := [(2, .int (nI j)), (5, .int 0), (0, .ref 111), (1, .int (nI n)), (3, .int l), (4, .int (nI j))]) (st2 := [.int 0]) (w3 := w) rfl rfl ?_
          refine sx_RP.step (pc2 := 80) (ls2 := [(3, .int 0), (2, .int (nI j)), (5, .int 0), (0, .ref 111), (1, .int (nI n)), (4, .int (nI j))]) (st2 := []) (w3 := w) rfl rfl ?_
          refine sx_RP.step (pc2 := 83) (ls2 := [(4, .int ((nI j) + 1)), (3, .int 0), (2, .int (nI j)), (5, .int 0), (0, .ref 111), (1, .int (nI n))]) (st2 := []) (w3 := w) rfl rfl ?_
          rw [nI_1 j]
          refine sx_RP.step (pc2 := 20) (ls2 := [(4, .int (nI (j + 1))), (3, .int 0), (2, .int (nI j)), (5, .int 0), (0, .ref 111), (1, .int (nI n))]) (st2 := []) (w3 := w) rfl rfl ?_
          exact sx_RP.ls (sx_lr.cons rfl (sx_lr.cons rfl (sx_lr.cons rfl (sx_lr.cons rfl (sx_lr.cons rfl sx_lr.nil))))) (kk w (nI j) 0 hI hE (by omega))
set_option maxRecDepth 20000 in
set_option maxHeartbeats 4000000 in
theorem s202L {xs : Option (List Int32)} {d : Nat} {w0 : List sx_C} {n : Nat} : ∀ (fz j : Nat) (w : List sx_C) (m : Int32) (l : Int32) , 48 ≤ j + fz * 1 → j ≤ 48 → WI w → EM w0 w → sx_RP xs (d + 7) 202 20 [(0, .ref 111), (1, .int (nI n)), (2, .int m), (3, .int l), (4, .int (nI j))] [] w (fun r w2 => (∃ v : Int32, r = some (.int v)) ∧ WI w2 ∧ EM w0 w2)
  | 0, j, w, m, l, h, hj, hI, hE => s202B (n := n) hI hE hj m l  (fun w4 um ul hI4 hE4 hlt  => absurd hlt (by omega)) 
  | fz + 1, j, w, m, l, h, hj, hI, hE => s202B (n := n) hI hE hj m l  (fun w4 um ul hI4 hE4 hlt  => s202L (n := n)  fz (j + 1) w4 um ul (by omega) hlt hI4 hE4 ) 
set_option maxRecDepth 20000 in
set_option maxHeartbeats 4000000 in
theorem s202 {xs : Option (List Int32)} {d : Nat} {w : List sx_C} (hI : WI w) (a1 : Int32) : sx_RP xs (d + 7) 202 0 (lv_args 0 [.ref 111, .int a1]) [] w (fun r w2 => (∃ v : Int32, r = some (.int v)) ∧ WI w2 ∧ EM w w2) := by
  have hE : EM w w := EM.rf
  refine sx_RP.step (pc2 := 1) (ls2 := [(0, .ref 111), (1, .int a1)]) (st2 := [.int a1]) (w3 := w) rfl rfl ?_
  rcases in_cases a1 1 30 (m := 1) (n := 30) rfl rfl (by decide) (by decide) with q1 | ⟨x2, hx3, hx4, rfl⟩
  · refine sx_RP.cu (as := [.int a1]) (rest2 := []) (st3 := [.int 0]) rfl rfl rfl rfl rfl (cx_197n q1) rfl ?_
    refine sx_RP.step (pc2 := 7) (ls2 := [(0, .ref 111), (1, .int a1)]) (st2 := []) (w3 := w) rfl rfl ?_
    refine sx_RP.step (pc2 := 8) (ls2 := [(0, .ref 111), (1, .int a1)]) (st2 := [.ref 111]) (w3 := w) rfl rfl ?_
    refine sx_RP.step (pc2 := 9) (ls2 := [(0, .ref 111), (1, .int a1)]) (st2 := [.int 0, .ref 111]) (w3 := w) rfl rfl ?_
    refine sx_RP.callp (as2 := [.ref 111, .int 0]) (rest2 := []) rfl rfl (sx_inv_v2 (mi := 202) (k := 70) (st := [.int 0, .ref 111]) (w := w) rfl rfl hI.1.o111 rfl rfl rfl) rfl rfl rfl (s133_0 hI) (show _ = 12 from rfl) ?_
    rintro r4 w6 ⟨rfl, hI7, hE9⟩
    have hE8 := hE.tr (hE9)
    show sx_RP _ _ _ _ _ [.int (-1000000001)] _ _
    refine sx_RP.ret (r := (some (.int (-1000000001)))) rfl rfl ?_
    exact ⟨⟨_, rfl⟩, hI7, hE8⟩
  · refine sx_RP.cu (as := [.int (nI x2)]) (rest2 := []) (st3 := [.int 1]) rfl rfl rfl rfl rfl (cx_197p ⟨nI_le (a := 1) hx3 (by omega), nI_le (b := 30) hx4 (by decide)⟩) rfl ?_
    refine sx_RP.step (pc2 := 13) (ls2 := [(0, .ref 111), (1, .int (nI x2))]) (st2 := []) (w3 := w) rfl rfl ?_
    refine sx_RP.step (pc2 := 14) (ls2 := [(0, .ref 111), (1, .int (nI x2))]) (st2 := [.int (-1)]) (w3 := w) rfl rfl ?_
    refine sx_RP.step (pc2 := 15) (ls2 := [(2, .int (-1)), (0, .ref 111), (1, .int (nI x2))]) (st2 := []) (w3 := w) rfl rfl ?_
    refine sx_RP.step (pc2 := 16) (ls2 := [(2, .int (-1)), (0, .ref 111), (1, .int (nI x2))]) (st2 := [.int 0]) (w3 := w) rfl rfl ?_
    refine sx_RP.step (pc2 := 17) (ls2 := [(3, .int 0), (2, .int (-1)), (0, .ref 111), (1, .int (nI x2))]) (st2 := []) (w3 := w) rfl rfl ?_
    refine sx_RP.step (pc2 := 18) (ls2 := [(3, .int 0), (2, .int (-1)), (0, .ref 111), (1, .int (nI x2))]) (st2 := [.int 0]) (w3 := w) rfl rfl ?_
    refine sx_RP.step (pc2 := 20) (ls2 := [(4, .int 0), (3, .int 0), (2, .int (-1)), (0, .ref 111), (1, .int (nI x2))]) (st2 := []) (w3 := w) rfl rfl ?_
    exact sx_RP.ls (sx_lr.cons rfl (sx_lr.cons rfl (sx_lr.cons rfl (sx_lr.cons rfl (sx_lr.cons rfl sx_lr.nil))))) (s202L  48 0 w (-1) 0 (by omega) (by omega) hI hE )
set_option maxRecDepth 20000 in
set_option maxHeartbeats 4000000 in
theorem s245B {xs : Option (List Int32)} {d : Nat} {w w0 : List sx_C} (a1 : Int32) (hI : WI w) (hE : EM w0 w) {j : Nat} (hj : j ≤ 7) (m : Int32) (kk : ∀ (w4 : List sx_C) (um : Int32), WI w4 → EM w0 w4 → j + 1 ≤ 7 → sx_RP xs (d + 7) 245 20 [(0, .ref 111), (1, .int a1), (2, .int um), (3, .int (nI (j + 1)))] [] w4 (fun r w2 => (∃ v : Int32, r = some (.int v)) ∧ WI w2 ∧ EM w0 w2)) : sx_RP xs (d + 7) 245 20 [(0, .ref 111), (1, .int a1), (2, .int m), (3, .int (nI j))] [] w (fun r w2 => (∃ v : Int32, r = some (.int v)) ∧ WI w2 ∧ EM w0 w2) := by
  refine sx_RP.step (pc2 := 21) (ls2 := [(0, .ref 111), (1, .int a1), (2, .int m), (3, .int (nI j))]) (st2 := [.int (nI j)]) (w3 := w) rfl rfl ?_
  refine sx_RP.step (pc2 := 23) (ls2 := [(0, .ref 111), (1, .int a1), (2, .int m), (3, .int (nI j))]) (st2 := [.int 7, .int (nI j)]) (w3 := w) rfl rfl ?_
  refine sx_RP.br (p1 := 55) (l1 := [(0, .ref 111), (1, .int a1), (2, .int m), (3, .int (nI j))]) (s1 := []) (v1 := w) (p2 := 26) (l2 := [(0, .ref 111), (1, .int a1), (2, .int m), (3, .int (nI j))]) (s2 := []) (v2 := w) rfl rfl (fun q1 => ?_) (fun q1 => ?_)
  · replace q1 := of_decide_eq_true q1
    replace q1 := (nI_leI (a := 7) (b := j) (by omega) (by omega)).mp q1
    refine sx_RP.step (pc2 := 56) (ls2 := [(0, .ref 111), (1, .int a1), (2, .int m), (3, .int (nI j))]) (st2 := [.int m]) (w3 := w) rfl rfl ?_
    refine sx_RP.ret (r := (some (.int m))) rfl rfl ?_
    exact ⟨⟨_, rfl⟩, hI, hE⟩
  · replace q1 := of_decide_eq_false q1
    replace q1 := mt (nI_leI (a := 7) (b := j) (by omega) (by omega)).mpr q1
    refine sx_RP.step (pc2 := 27) (ls2 := [(0, .ref 111), (1, .int a1), (2, .int m), (3, .int (nI j))]) (st2 := [.int m]) (w3 := w) rfl rfl ?_
    refine sx_RP.step (pc2 := 28) (ls2 := [(0, .ref 111), (1, .int a1), (2, .int m), (3, .int (nI j))]) (st2 := [.int a1, .int m]) (w3 := w) rfl rfl ?_
    refine sx_RP.step (pc2 := 29) (ls2 := [(0, .ref 111), (1, .int a1), (2, .int m), (3, .int (nI j))]) (st2 := [.int (-1), .int a1, .int m]) (w3 := w) rfl rfl ?_
    refine sx_RP.br (p1 := 37) (l1 := [(0, .ref 111), (1, .int a1), (2, .int m), (3, .int (nI j))]) (s1 := [.int m]) (v1 := w) (p2 := 32) (l2 := [(0, .ref 111), (1, .int a1), (2, .int m), (3, .int (nI j))]) (s2 := [.int m]) (v2 := w) rfl rfl (fun q2 => ?_) (fun q2 => ?_)
    · replace q2 := of_decide_eq_true q2
      refine sx_RP.step (pc2 := 38) (ls2 := [(0, .ref 111), (1, .int a1), (2, .int m), (3, .int (nI j))]) (st2 := [.ref 111, .int m]) (w3 := w) rfl rfl ?_
      refine sx_RP.gf (v := .ref 116) rfl rfl hI.1.o111 rfl rfl (show _ = 41 from rfl) ?_
      refine sx_RP.step (pc2 := 42) (ls2 := [(0, .ref 111), (1, .int a1), (2, .int m), (3, .int (nI j))]) (st2 := [.int (nI j), .ref 116, .int m]) (w3 := w) rfl rfl ?_
      refine sx_RP.ild (c := j) rfl hI.1.a116.1 hI.1.a116.2 (sx_in_nI (show j < 7 by omega) (by decide)) (show (nI j).toNatClampNeg = j from nI_clamp (by omega)) (show _ = 43 from rfl) ?_
      refine sx_RP.step (pc2 := 47) (ls2 := [(0, .ref 111), (1, .int a1), (2, .int m), (3, .int (nI j))]) (st2 := [.int ((ia w 116).getD j 0), .int m]) (w3 := w) rfl rfl ?_
      refine sx_RP.step (pc2 := 48) (ls2 := [(0, .ref 111), (1, .int a1), (2, .int m), (3, .int (nI j))]) (st2 := [.int (m + ((ia w 116).getD j 0))]) (w3 := w) rfl rfl ?_
      refine sx_RP.step (pc2 := 49) (ls2 := [(2, .int (m + ((ia w 116).getD j 0))), (0, .ref 111), (1, .int a1), (3, .int (nI j))]) (st2 := []) (w3 := w) rfl rfl ?_
      refine sx_RP.step (pc2 := 52) (ls2 := [(3, .int ((nI j) + 1)), (2, .int (m + ((ia w 116).getD j 0))), (0, .ref 111), (1, .int a1)]) (st2 := []) (w3 := w) rfl rfl ?_
      rw [nI_1 j]
      refine sx_RP.step (pc2 := 20) (ls2 := [(3, .int (nI (j + 1))), (2, .int (m + ((ia w 116).getD j 0))), (0, .ref 111), (1, .int a1)]) (st2 := []) (w3 := w) rfl rfl ?_
      exact sx_RP.ls (sx_lr.cons rfl (sx_lr.cons rfl (sx_lr.cons rfl (sx_lr.cons rfl sx_lr.nil)))) (kk w (m + ((ia w 116).getD j 0)) hI hE (by omega))
    · replace q2 := of_decide_eq_false q2
      refine sx_RP.step (pc2 := 33) (ls2 := [(0, .ref 111), (1, .int a1), (2, .int m), (3, .int (nI j))]) (st2 := [.int a1, .int m]) (w3 := w) rfl rfl ?_
      refine sx_RP.step (pc2 := 34) (ls2 := [(0, .ref 111), (1, .int a1), (2, .int m), (3, .int (nI j))]) (st2 := [.int (nI j), .int a1, .int m]) (w3 := w) rfl rfl ?_
      refine sx_RP.br (p1 := 46) (l1 := [(0, .ref 111), (1, .int a1), (2, .int m), (3, .int (nI j))]) (s1 := [.int m]) (v1 := w) (p2 := 37) (l2 := [(0, .ref 111), (1, .int a1), (2, .int m), (3, .int (nI j))]) (s2 := [.int m]) (v2 := w) rfl rfl (fun q3 => ?_) (fun q3 => ?_)
      · replace q3 := of_decide_eq_true q3
        refine sx_RP.step (pc2 := 47) (ls2 := [(0, .ref 111), (1, .int a1), (2, .int m), (3, .int (nI j))]) (st2 := [.int 0, .int m]) (w3 := w) rfl rfl ?_
        refine sx_RP.step (pc2 := 48) (ls2 := [(0, .ref 111), (1, .int a1), (2, .int m), (3, .int (nI j))]) (st2 := [.int (m + 0)]) (w3 := w) rfl rfl ?_
        refine sx_RP.step (pc2 := 49) (ls2 := [(2, .int (m + 0)), (0, .ref 111), (1, .int a1), (3, .int (nI j))]) (st2 := []) (w3 := w) rfl rfl ?_
        refine sx_RP.step (pc2 := 52) (ls2 := [(3, .int ((nI j) + 1)), (2, .int (m + 0)), (0, .ref 111), (1, .int a1)]) (st2 := []) (w3 := w) rfl rfl ?_
        rw [nI_1 j]
        refine sx_RP.step (pc2 := 20) (ls2 := [(3, .int (nI (j + 1))), (2, .int (m + 0)), (0, .ref 111), (1, .int a1)]) (st2 := []) (w3 := w) rfl rfl ?_
        exact sx_RP.ls (sx_lr.cons rfl (sx_lr.cons rfl (sx_lr.cons rfl (sx_lr.cons rfl sx_lr.nil)))) (kk w (m + 0) hI hE (by omega))
      · replace q3 := Decidable.not_not.mp (of_decide_eq_false q3)
        refine sx_RP.step (pc2 := 38) (ls2 := [(0, .ref 111), (1, .int a1), (2, .int m), (3, .int (nI j))]) (st2 := [.ref 111, .int m]) (w3 := w) rfl rfl ?_
        refine sx_RP.gf (v := .ref 116) rfl rfl hI.1.o111 rfl rfl (show _ = 41 from rfl) ?_
        refine sx_RP.step (pc2 := 42) (ls2 := [(0, .ref 111), (1, .int a1), (2, .int m), (3, .int (nI j))]) (st2 := [.int (nI j), .ref 116, .int m]) (w3 := w) rfl rfl ?_
        refine sx_RP.ild (c := j) rfl hI.1.a116.1 hI.1.a116.2 (sx_in_nI (show j < 7 by omega) (by decide)) (show (nI j).toNatClampNeg = j from nI_clamp (by omega)) (show _ = 43 from rfl) ?_
        refine sx_RP.step (pc2 := 47) (ls2 := [(0, .ref 111), (1, .int a1), (2, .int m), (3, .int (nI j))]) (st2 := [.int ((ia w 116).getD j 0), .int m]) (w3 := w) rfl rfl ?_
        refine sx_RP.step (pc2 := 48) (ls2 := [(0, .ref 111), (1, .int a1), (2, .int m), (3, .int (nI j))]) (st2 := [.int (m + ((ia w 116).getD j 0))]) (w3 := w) rfl rfl ?_
        refine sx_RP.step (pc2 := 49) (ls2 := [(2, .int (m + ((ia w 116).getD j 0))), (0, .ref 111), (1, .int a1), (3, .int (nI j))]) (st2 := []) (w3 := w) rfl rfl ?_
        refine sx_RP.step (pc2 := 52) (ls2 := [(3, .int ((nI j) + 1)), (2, .int (m + ((ia w 116).getD j 0))), (0, .ref 111), (1, .int a1)]) (st2 := []) (w3 := w) rfl rfl ?_
        rw [nI_1 j]
        refine sx_RP.step (pc2 := 20) (ls2 := [(3, .int (nI (j + 1))), (2, .int (m + ((ia w 116).getD j 0))), (0, .ref 111), (1, .int a1)]) (st2 := []) (w3 := w) rfl rfl ?_
        exact sx_RP.ls (sx_lr.cons rfl (sx_lr.cons rfl (sx_lr.cons rfl (sx_lr.cons rfl sx_lr.nil)))) (kk w (m + ((ia w 116).getD j 0)) hI hE (by omega))
set_option maxRecDepth 20000 in
set_option maxHeartbeats 4000000 in
theorem s245L {xs : Option (List Int32)} {d : Nat} {w0 : List sx_C} (a1 : Int32) : ∀ (fz j : Nat) (w : List sx_C) (m : Int32) , 7 ≤ j + fz * 1 → j ≤ 7 → WI w → EM w0 w → sx_RP xs (d + 7) 245 20 [(0, .ref 111), (1, .int a1), (2, .int m), (3, .int (nI j))] [] w (fun r w2 => (∃ v : Int32, r = some (.int v)) ∧ WI w2 ∧ EM w0 w2)
  | 0, j, w, m, h, hj, hI, hE => s245B a1 hI hE hj m  (fun w4 um hI4 hE4 hlt  => absurd hlt (by omega)) 
  | fz + 1, j, w, m, h, hj, hI, hE => s245B a1 hI hE hj m  (fun w4 um hI4 hE4 hlt  => s245L a1  fz (j + 1) w4 um (by omega) hlt hI4 hE4 ) 
set_option maxRecDepth 20000 in
set_option maxHeartbeats 4000000 in
theorem s245 {xs : Option (List Int32)} {d : Nat} {w : List sx_C} (hI : WI w) (a1 : Int32) : sx_RP xs (d + 7) 245 0 (lv_args 0 [.ref 111, .int a1]) [] w (fun r w2 => (∃ v : Int32, r = some (.int v)) ∧ WI w2 ∧ EM w w2) := by
  have hE : EM w w := EM.rf
  refine sx_RP.step (pc2 := 1) (ls2 := [(0, .ref 111), (1, .int a1)]) (st2 := [.int a1]) (w3 := w) rfl rfl ?_
  refine sx_RP.step (pc2 := 2) (ls2 := [(0, .ref 111), (1, .int a1)]) (st2 := [.int (-1), .int a1]) (w3 := w) rfl rfl ?_
  refine sx_RP.step (pc2 := 4) (ls2 := [(0, .ref 111), (1, .int a1)]) (st2 := [.int 6, .int (-1), .int a1]) (w3 := w) rfl rfl ?_
  rcases in_casesM a1 (n := 6) (by decide) with q1 | rfl | ⟨x2, hx3, rfl⟩
  · refine sx_RP.cu (as := [.int a1, .int (-1), .int 6]) (rest2 := []) (st3 := [.int 0]) rfl rfl rfl rfl rfl (cx_132o q1) rfl ?_
    refine sx_RP.step (pc2 := 10) (ls2 := [(0, .ref 111), (1, .int a1)]) (st2 := []) (w3 := w) rfl rfl ?_
    refine sx_RP.step (pc2 := 11) (ls2 := [(0, .ref 111), (1, .int a1)]) (st2 := [.ref 111]) (w3 := w) rfl rfl ?_
    refine sx_RP.step (pc2 := 12) (ls2 := [(0, .ref 111), (1, .int a1)]) (st2 := [.int 0, .ref 111]) (w3 := w) rfl rfl ?_
    refine sx_RP.callp (as2 := [.ref 111, .int 0]) (rest2 := []) rfl rfl (sx_inv_v2 (mi := 245) (k := 70) (st := [.int 0, .ref 111]) (w := w) rfl rfl hI.1.o111 rfl rfl rfl) rfl rfl rfl (s133_0 hI) (show _ = 15 from rfl) ?_
    rintro r4 w4 ⟨rfl, hI5, hE7⟩
    have hE6 := hE.tr (hE7)
    show sx_RP _ _ _ _ _ [.int (-1000000001)] _ _
    refine sx_RP.ret (r := (some (.int (-1000000001)))) rfl rfl ?_
    exact ⟨⟨_, rfl⟩, hI5, hE6⟩
  · refine sx_RP.cu (as := [.int (-1), .int (-1), .int 6]) (rest2 := []) (st3 := [.int 1]) rfl rfl rfl rfl rfl (cx_132p (by decide)) rfl ?_
    refine sx_RP.step (pc2 := 16) (ls2 := [(0, .ref 111), (1, .int (-1))]) (st2 := []) (w3 := w) rfl rfl ?_
    refine sx_RP.step (pc2 := 17) (ls2 := [(0, .ref 111), (1, .int (-1))]) (st2 := [.int 0]) (w3 := w) rfl rfl ?_
    refine sx_RP.step (pc2 := 18) (ls2 := [(2, .int 0), (0, .ref 111), (1, .int (-1))]) (st2 := []) (w3 := w) rfl rfl ?_
    refine sx_RP.step (pc2 := 19) (ls2 := [(2, .int 0), (0, .ref 111), (1, .int (-1))]) (st2 := [.int 0]) (w3 := w) rfl rfl ?_
    refine sx_RP.step (pc2 := 20) (ls2 := [(3, .int 0), (2, .int 0), (0, .ref 111), (1, .int (-1))]) (st2 := []) (w3 := w) rfl rfl ?_
    exact sx_RP.ls (sx_lr.cons rfl (sx_lr.cons rfl (sx_lr.cons rfl (sx_lr.cons rfl sx_lr.nil)))) (s245L (-1) 7 0 w 0 (by omega) (by omega) hI hE )
  · refine sx_RP.cu (as := [.int (nI x2), .int (-1), .int 6]) (rest2 := []) (st3 := [.int 1]) rfl rfl rfl rfl rfl (cx_132p ⟨Int32.le_iff_toInt_le.mpr (by rw [nI_toInt (by omega)]; exact Int.le_trans (by decide) (Int.natCast_nonneg _)), nI_le (b := 6) hx3 (by decide)⟩) rfl ?_
    refine sx_RP.step (pc2 := 16) (ls2 := [(0, .ref 111), (1, .int (nI x2))]) (st2 := []) (w3 := w) rfl rfl ?_
    refine sx_RP.step (pc2 := 17) (ls2 := [(0, .ref 111), (1, .int (nI x2))]) (st2 := [.int 0]) (w3 := w) rfl rfl ?_
    refine sx_RP.step (pc2 := 18) (ls2 := [(2, .int 0), (0, .ref 111), (1, .int (nI x2))]) (st2 := []) (w3 := w) rfl rfl ?_
    refine sx_RP.step (pc2 := 19) (ls2 := [(2, .int 0), (0, .ref 111), (1, .int (nI x2))]) (st2 := [.int 0]) (w3 := w) rfl rfl ?_
    refine sx_RP.step (pc2 := 20) (ls2 := [(3, .int 0), (2, .int 0), (0, .ref 111), (1, .int (nI x2))]) (st2 := []) (w3 := w) rfl rfl ?_
    exact sx_RP.ls (sx_lr.cons rfl (sx_lr.cons rfl (sx_lr.cons rfl (sx_lr.cons rfl sx_lr.nil)))) (s245L (nI x2) 7 0 w 0 (by omega) (by omega) hI hE )
theorem nI_m1 {v : Nat} (h : 0 < v) : nI v + (-1) = nI (v - 1) := by
  obtain ⟨k, rfl⟩ : ∃ k, v = k + 1 := ⟨v - 1, by omega⟩
  rw [Nat.add_sub_cancel, ← nI_pred k, Int32.sub_eq_add_neg]
set_option maxRecDepth 20000 in
set_option maxHeartbeats 4000000 in
theorem s207B {xs : Option (List Int32)} {d n v : Nat} {w w0 : List sx_C} (hn : n ≤ 999) (hv : v ≤ 99) (hI : WI w) (hE : EM w0 w) (kk : 1 ≤ v → sx_RP xs (d + 7) 207 20 [(0, .ref 111), (1, .int (nI n)), (2, .int (nI (v - 1)))] [] w (fun r w2 => (∃ v : Int32, r = some (.int v)) ∧ WI w2 ∧ EM w0 w2)) : sx_RP xs (d + 7) 207 20 [(0, .ref 111), (1, .int (nI n)), (2, .int (nI v))] [] w (fun r w2 => (∃ v : Int32, r = some (.int v)) ∧ WI w2 ∧ EM w0 w2) := by
  refine sx_RP.step (pc2 := 21) (ls2 := [(0, .ref 111), (1, .int (nI n)), (2, .int (nI v))]) (st2 := [.int (nI v)]) (w3 := w) rfl rfl ?_
  refine sx_RP.br (p1 := 39) (l1 := [(0, .ref 111), (1, .int (nI n)), (2, .int (nI v))]) (s1 := []) (v1 := w) (p2 := 24) (l2 := [(0, .ref 111), (1, .int (nI n)), (2, .int (nI v))]) (s2 := []) (v2 := w) rfl rfl (fun q1 => ?_) (fun q1 => ?_)
  · replace q1 := of_decide_eq_true q1
    replace q1 := (nI_leI (a := v) (b := 0) (by omega) (by omega)).mp q1
    refine sx_RP.step (pc2 := 40) (ls2 := [(0, .ref 111), (1, .int (nI n)), (2, .int (nI v))]) (st2 := [.int (nI v)]) (w3 := w) rfl rfl ?_
    refine sx_RP.br (p1 := 47) (l1 := [(0, .ref 111), (1, .int (nI n)), (2, .int (nI v))]) (s1 := []) (v1 := w) (p2 := 43) (l2 := [(0, .ref 111), (1, .int (nI n)), (2, .int (nI v))]) (s2 := []) (v2 := w) rfl rfl (fun q2 => ?_) (fun q2 => ?_)
    · replace q2 := of_decide_eq_true q2
      replace q2 := (nI_leI (a := v) (b := 0) (by omega) (by omega)).mp q2
      refine sx_RP.step (pc2 := 48) (ls2 := [(0, .ref 111), (1, .int (nI n)), (2, .int (nI v))]) (st2 := [.ref 111]) (w3 := w) rfl rfl ?_
      refine sx_RP.step (pc2 := 49) (ls2 := [(0, .ref 111), (1, .int (nI n)), (2, .int (nI v))]) (st2 := [.int 3, .ref 111]) (w3 := w) rfl rfl ?_
      refine sx_RP.callp (as2 := [.ref 111, .int 3]) (rest2 := []) rfl rfl (sx_inv_v2 (mi := 207) (k := 70) (st := [.int 3, .ref 111]) (w := w) rfl rfl hI.1.o111 rfl rfl rfl) rfl rfl rfl (s133_3 hI) (show _ = 52 from rfl) ?_
      rintro r4 w3 ⟨rfl, hI4, hE6⟩
      have hE5 := hE.tr (hE6)
      show sx_RP _ _ _ _ _ [.int (-1000000004)] _ _
      refine sx_RP.ret (r := (some (.int (-1000000004)))) rfl rfl ?_
      exact ⟨⟨_, rfl⟩, hI4, hE5⟩
    · replace q2 := of_decide_eq_false q2
      replace q2 := mt (nI_leI (a := v) (b := 0) (by omega) (by omega)).mpr q2
      refine sx_RP.step (pc2 := 44) (ls2 := [(0, .ref 111), (1, .int (nI n)), (2, .int (nI v))]) (st2 := [.int (nI v)]) (w3 := w) rfl rfl ?_
      refine sx_RP.step (pc2 := 52) (ls2 := [(0, .ref 111), (1, .int (nI n)), (2, .int (nI v))]) (st2 := [.int (nI v)]) (w3 := w) rfl rfl ?_
      refine sx_RP.ret (r := (some (.int (nI v)))) rfl rfl ?_
      exact ⟨⟨_, rfl⟩, hI, hE⟩
  · replace q1 := of_decide_eq_false q1
    replace q1 := mt (nI_leI (a := v) (b := 0) (by omega) (by omega)).mpr q1
    refine sx_RP.step (pc2 := 25) (ls2 := [(0, .ref 111), (1, .int (nI n)), (2, .int (nI v))]) (st2 := [.ref 111]) (w3 := w) rfl rfl ?_
    refine sx_RP.step (pc2 := 26) (ls2 := [(0, .ref 111), (1, .int (nI n)), (2, .int (nI v))]) (st2 := [.int (nI v), .ref 111]) (w3 := w) rfl rfl ?_
    obtain ⟨v7, c8⟩ := q206 hI (nI v)
    refine sx_RP.cu (as := [.ref 111, .int (nI v)]) (rest2 := []) (st3 := [.int v7]) rfl rfl (sx_inv_v2 (mi := 207) (k := 205) (st := [.int (nI v), .ref 111]) (w := w) rfl rfl hI.1.o111 rfl rfl rfl) rfl rfl (c8) rfl ?_
    refine sx_RP.step (pc2 := 30) (ls2 := [(0, .ref 111), (1, .int (nI n)), (2, .int (nI v))]) (st2 := [.int (nI n), .int v7]) (w3 := w) rfl rfl ?_
    refine sx_RP.br (p1 := 39) (l1 := [(0, .ref 111), (1, .int (nI n)), (2, .int (nI v))]) (s1 := []) (v1 := w) (p2 := 33) (l2 := [(0, .ref 111), (1, .int (nI n)), (2, .int (nI v))]) (s2 := []) (v2 := w) rfl rfl (fun q9 => ?_) (fun q9 => ?_)
    · replace q9 := of_decide_eq_true q9
      refine sx_RP.step (pc2 := 40) (ls2 := [(0, .ref 111), (1, .int (nI n)), (2, .int (nI v))]) (st2 := [.int (nI v)]) (w3 := w) rfl rfl ?_
      refine sx_RP.br (p1 := 47) (l1 := [(0, .ref 111), (1, .int (nI n)), (2, .int (nI v))]) (s1 := []) (v1 := w) (p2 := 43) (l2 := [(0, .ref 111), (1, .int (nI n)), (2, .int (nI v))]) (s2 := []) (v2 := w) rfl rfl (fun q10 => ?_) (fun q10 => ?_)
      · replace q10 := of_decide_eq_true q10
        replace q10 := (nI_leI (a := v) (b := 0) (by omega) (by omega)).mp q10
        refine sx_RP.step (pc2 := 48) (ls2 := [(0, .ref 111), (1, .int (nI n)), (2, .int (nI v))]) (st2 := [.ref 111]) (w3 := w) rfl rfl ?_
        refine sx_RP.step (pc2 := 49) (ls2 := [(0, .ref 111), (1, .int (nI n)), (2, .int (nI v))]) (st2 := [.int 3, .ref 111]) (w3 := w) rfl rfl ?_
        refine sx_RP.callp (as2 := [.ref 111, .int 3]) (rest2 := []) rfl rfl (sx_inv_v2 (mi := 207) (k := 70) (st := [.int 3, .ref 111]) (w := w) rfl rfl hI.1.o111 rfl rfl rfl) rfl rfl rfl (s133_3 hI) (show _ = 52 from rfl) ?_
        rintro r4 w11 ⟨rfl, hI12, hE14⟩
        have hE13 := hE.tr (hE14)
        show sx_RP _ _ _ _ _ [.int (-1000000004)] _ _
        refine sx_RP.ret (r := (some (.int (-1000000004)))) rfl rfl ?_
        exact ⟨⟨_, rfl⟩, hI12, hE13⟩
      · replace q10 := of_decide_eq_false q10
        replace q10 := mt (nI_leI (a := v) (b := 0) (by omega) (by omega)).mpr q10
        refine sx_RP.step (pc2 := 44) (ls2 := [(0, .ref 111), (1, .int (nI n)), (2, .int (nI v))]) (st2 := [.int (nI v)]) (w3 := w) rfl rfl ?_
        refine sx_RP.step (pc2 := 52) (ls2 := [(0, .ref 111), (1, .int (nI n)), (2, .int (nI v))]) (st2 := [.int (nI v)]) (w3 := w) rfl rfl ?_
        refine sx_RP.ret (r := (some (.int (nI v)))) rfl rfl ?_
        exact ⟨⟨_, rfl⟩, hI, hE⟩
    · replace q9 := of_decide_eq_false q9
      refine sx_RP.step (pc2 := 36) (ls2 := [(2, .int (nI v + (-1))), (0, .ref 111), (1, .int (nI n))]) (st2 := []) (w3 := w) rfl rfl ?_
      rw [show nI v + (-1) = nI (v - 1) from nI_m1 (by omega)]
      refine sx_RP.step (pc2 := 20) (ls2 := [(2, .int (nI (v - 1))), (0, .ref 111), (1, .int (nI n))]) (st2 := []) (w3 := w) rfl rfl ?_
      exact sx_RP.ls (sx_lr.cons rfl (sx_lr.cons rfl (sx_lr.cons rfl sx_lr.nil))) (kk (by omega))
theorem s207L {xs : Option (List Int32)} {d n : Nat} {w w0 : List sx_C} (hn : n ≤ 999) (hI : WI w) (hE : EM w0 w) : ∀ v, v ≤ 99 → sx_RP xs (d + 7) 207 20 [(0, .ref 111), (1, .int (nI n)), (2, .int (nI v))] [] w (fun r w2 => (∃ v : Int32, r = some (.int v)) ∧ WI w2 ∧ EM w0 w2)
  | 0, hv => s207B hn hv hI hE (fun h => absurd h (by decide))
  | v + 1, hv => s207B hn hv hI hE (fun _ => s207L hn hI hE v (by omega))
set_option maxRecDepth 20000 in
set_option maxHeartbeats 4000000 in
theorem s207 {xs : Option (List Int32)} {d : Nat} {w : List sx_C} (hI : WI w) (a1 : Int32) : sx_RP xs (d + 7) 207 0 (lv_args 0 [.ref 111, .int a1]) [] w (fun r w2 => (∃ v : Int32, r = some (.int v)) ∧ WI w2 ∧ EM w w2) := by
  have hE : EM w w := EM.rf
  refine sx_RP.step (pc2 := 1) (ls2 := [(0, .ref 111), (1, .int a1)]) (st2 := [.int a1]) (w3 := w) rfl rfl ?_
  refine sx_RP.step (pc2 := 2) (ls2 := [(0, .ref 111), (1, .int a1)]) (st2 := [.int 1, .int a1]) (w3 := w) rfl rfl ?_
  refine sx_RP.step (pc2 := 5) (ls2 := [(0, .ref 111), (1, .int a1)]) (st2 := [.int 999, .int 1, .int a1]) (w3 := w) rfl rfl ?_
  rcases in_cases a1 1 999 (m := 1) (n := 999) rfl rfl (by decide) (by decide) with q1 | ⟨x2, hx3, hx4, rfl⟩
  · refine sx_RP.cu (as := [.int a1, .int 1, .int 999]) (rest2 := []) (st3 := [.int 0]) rfl rfl rfl rfl rfl (cx_132o q1) rfl ?_
    refine sx_RP.step (pc2 := 11) (ls2 := [(0, .ref 111), (1, .int a1)]) (st2 := []) (w3 := w) rfl rfl ?_
    refine sx_RP.step (pc2 := 12) (ls2 := [(0, .ref 111), (1, .int a1)]) (st2 := [.ref 111]) (w3 := w) rfl rfl ?_
    refine sx_RP.step (pc2 := 13) (ls2 := [(0, .ref 111), (1, .int a1)]) (st2 := [.int 0, .ref 111]) (w3 := w) rfl rfl ?_
    refine sx_RP.callp (as2 := [.ref 111, .int 0]) (rest2 := []) rfl rfl (sx_inv_v2 (mi := 207) (k := 70) (st := [.int 0, .ref 111]) (w := w) rfl rfl hI.1.o111 rfl rfl rfl) rfl rfl rfl (s133_0 hI) (show _ = 16 from rfl) ?_
    rintro r4 w6 ⟨rfl, hI7, hE9⟩
    have hE8 := hE.tr (hE9)
    show sx_RP _ _ _ _ _ [.int (-1000000001)] _ _
    refine sx_RP.ret (r := (some (.int (-1000000001)))) rfl rfl ?_
    exact ⟨⟨_, rfl⟩, hI7, hE8⟩
  · refine sx_RP.cu (as := [.int (nI x2), .int 1, .int 999]) (rest2 := []) (st3 := [.int 1]) rfl rfl rfl rfl rfl (cx_132p ⟨nI_le (a := 1) hx3 (by omega), nI_le (b := 999) hx4 (by decide)⟩) rfl ?_
    refine sx_RP.step (pc2 := 17) (ls2 := [(0, .ref 111), (1, .int (nI x2))]) (st2 := []) (w3 := w) rfl rfl ?_
    refine sx_RP.step (pc2 := 19) (ls2 := [(0, .ref 111), (1, .int (nI x2))]) (st2 := [.int 99]) (w3 := w) rfl rfl ?_
    refine sx_RP.step (pc2 := 20) (ls2 := [(2, .int 99), (0, .ref 111), (1, .int (nI x2))]) (st2 := []) (w3 := w) rfl rfl ?_
    exact sx_RP.ls (sx_lr.cons rfl (sx_lr.cons rfl (sx_lr.cons rfl sx_lr.nil))) (s207L (n := x2) (by omega) hI hE 99 (by decide))
set_option maxRecDepth 20000 in
set_option maxHeartbeats 4000000 in
theorem s201iB {xs : Option (List Int32)} {d : Nat} {w w0 : List sx_C} {c p i : Nat} (hc : c < 48) (hp : p ≤ 30) (hi : i < 48) (hI : WI w) (hE : EM w0 w) {j : Nat} (hj : j ≤ 10) (n : Int32) (kk : ∀ (w4 : List sx_C) (un : Int32), WI w4 → EM w0 w4 → j + 1 ≤ 10 → sx_RP xs (d + 7) 201 95 [(0, .ref 111), (1, .int (nI c)), (2, .int (nI p)), (3, .int un), (4, .int (nI i)), (5, .int (nI (j + 1)))] [] w4 (fun r w2 => (∃ v : Int32, r = some (.int v)) ∧ WI w2 ∧ EM w0 w2)) (kx143 : ∀ (w4 : List sx_C) (un : Int32), WI w4 → EM w0 w4 → sx_RP xs (d + 7) 201 143 [(0, .ref 111), (1, .int (nI c)), (2, .int (nI p)), (3, .int un), (4, .int (nI i))] [] w4 (fun r w2 => (∃ v : Int32, r = some (.int v)) ∧ WI w2 ∧ EM w0 w2)) : sx_RP xs (d + 7) 201 95 [(0, .ref 111), (1, .int (nI c)), (2, .int (nI p)), (3, .int n), (4, .int (nI i)), (5, .int (nI j))] [] w (fun r w2 => (∃ v : Int32, r = some (.int v)) ∧ WI w2 ∧ EM w0 w2) := by
  refine sx_RP.step (pc2 := 97) (ls2 := [(0, .ref 111), (1, .int (nI c)), (2, .int (nI p)), (3, .int n), (4, .int (nI i)), (5, .int (nI j))]) (st2 := [.int (nI j)]) (w3 := w) rfl rfl ?_
  refine sx_RP.step (pc2 := 98) (ls2 := [(0, .ref 111), (1, .int (nI c)), (2, .int (nI p)), (3, .int n), (4, .int (nI i)), (5, .int (nI j))]) (st2 := [.ref 111, .int (nI j)]) (w3 := w) rfl rfl ?_
  refine sx_RP.gf (v := .ref 112) rfl rfl hI.1.o111 rfl rfl (show _ = 101 from rfl) ?_
  refine sx_RP.step (pc2 := 102) (ls2 := [(0, .ref 111), (1, .int (nI c)), (2, .int (nI p)), (3, .int n), (4, .int (nI i)), (5, .int (nI j))]) (st2 := [.int 1, .ref 112, .int (nI j)]) (w3 := w) rfl rfl ?_
  refine sx_RP.ild (c := 1) rfl hI.1.a112.1 hI.1.a112.2 (sx_in_nI (show 1 < 172 by omega) (by decide)) (show (nI 1).toNatClampNeg = 1 from nI_clamp (by omega)) (show _ = 103 from rfl) ?_
  obtain ⟨x1, hx2, ex3⟩ : inR ((ia w 112).getD 1 0) 10 := (hI.s (1) (by omega)).1 rfl
  rw [ex3]
  refine sx_RP.br (p1 := 143) (l1 := [(0, .ref 111), (1, .int (nI c)), (2, .int (nI p)), (3, .int n), (4, .int (nI i)), (5, .int (nI j))]) (s1 := []) (v1 := w) (p2 := 106) (l2 := [(0, .ref 111), (1, .int (nI c)), (2, .int (nI p)), (3, .int n), (4, .int (nI i)), (5, .int (nI j))]) (s2 := []) (v2 := w) rfl rfl (fun q4 => ?_) (fun q4 => ?_)
  · replace q4 := of_decide_eq_true q4
    replace q4 := (nI_leI (a := x1) (b := j) (by omega) (by omega)).mp q4
    exact sx_RP.ls (sx_lr.cons rfl (sx_lr.cons rfl (sx_lr.cons rfl (sx_lr.cons rfl (sx_lr.cons rfl sx_lr.nil))))) (kx143 w n hI hE)
  · replace q4 := of_decide_eq_false q4
    replace q4 := mt (nI_leI (a := x1) (b := j) (by omega) (by omega)).mpr q4
    refine sx_RP.step (pc2 := 107) (ls2 := [(0, .ref 111), (1, .int (nI c)), (2, .int (nI p)), (3, .int n), (4, .int (nI i)), (5, .int (nI j))]) (st2 := [.int n]) (w3 := w) rfl rfl ?_
    refine sx_RP.step (pc2 := 108) (ls2 := [(0, .ref 111), (1, .int (nI c)), (2, .int (nI p)), (3, .int n), (4, .int (nI i)), (5, .int (nI j))]) (st2 := [.ref 111, .int n]) (w3 := w) rfl rfl ?_
    refine sx_RP.step (pc2 := 110) (ls2 := [(0, .ref 111), (1, .int (nI c)), (2, .int (nI p)), (3, .int n), (4, .int (nI i)), (5, .int (nI j))]) (st2 := [.int (nI j), .ref 111, .int n]) (w3 := w) rfl rfl ?_
    refine sx_RP.step (pc2 := 111) (ls2 := [(0, .ref 111), (1, .int (nI c)), (2, .int (nI p)), (3, .int n), (4, .int (nI i)), (5, .int (nI j))]) (st2 := [.int 2, .int (nI j), .ref 111, .int n]) (w3 := w) rfl rfl ?_
    obtain ⟨x5, hx6, c7⟩ := p138_2 hI (show j < 10 by omega)
    refine sx_RP.cu (as := [.ref 111, .int (nI j), .int 2]) (rest2 := [.int n]) (st3 := [.int (nI x5), .int n]) rfl rfl (sx_inv_v2 (mi := 201) (k := 59) (st := [.int 2, .int (nI j), .ref 111, .int n]) (w := w) rfl rfl hI.1.o111 rfl rfl rfl) rfl rfl (c7) rfl ?_
    refine sx_RP.step (pc2 := 116) (ls2 := [(0, .ref 111), (1, .int (nI c)), (2, .int (nI p)), (3, .int n), (4, .int (nI i)), (5, .int (nI j))]) (st2 := [.int (nI i), .int (nI x5), .int n]) (w3 := w) rfl rfl ?_
    refine sx_RP.br (p1 := 134) (l1 := [(0, .ref 111), (1, .int (nI c)), (2, .int (nI p)), (3, .int n), (4, .int (nI i)), (5, .int (nI j))]) (s1 := [.int n]) (v1 := w) (p2 := 119) (l2 := [(0, .ref 111), (1, .int (nI c)), (2, .int (nI p)), (3, .int n), (4, .int (nI i)), (5, .int (nI j))]) (s2 := [.int n]) (v2 := w) rfl rfl (fun q8 => ?_) (fun q8 => ?_)
    · replace q8 := of_decide_eq_true q8
      replace q8 := mt (nI_eq (a := x5) (b := i) (by omega) (by omega)).mpr q8
      refine sx_RP.step (pc2 := 135) (ls2 := [(0, .ref 111), (1, .int (nI c)), (2, .int (nI p)), (3, .int n), (4, .int (nI i)), (5, .int (nI j))]) (st2 := [.int 0, .int n]) (w3 := w) rfl rfl ?_
      refine sx_RP.step (pc2 := 136) (ls2 := [(0, .ref 111), (1, .int (nI c)), (2, .int (nI p)), (3, .int n), (4, .int (nI i)), (5, .int (nI j))]) (st2 := [.int (n + 0)]) (w3 := w) rfl rfl ?_
      refine sx_RP.step (pc2 := 137) (ls2 := [(3, .int (n + 0)), (0, .ref 111), (1, .int (nI c)), (2, .int (nI p)), (4, .int (nI i)), (5, .int (nI j))]) (st2 := []) (w3 := w) rfl rfl ?_
      refine sx_RP.step (pc2 := 140) (ls2 := [(5, .int ((nI j) + 1)), (3, .int (n + 0)), (0, .ref 111), (1, .int (nI c)), (2, .int (nI p)), (4, .int (nI i))]) (st2 := []) (w3 := w) rfl rfl ?_
      rw [nI_1 j]
      refine sx_RP.step (pc2 := 95) (ls2 := [(5, .int (nI (j + 1))), (3, .int (n + 0)), (0, .ref 111), (1, .int (nI c)), (2, .int (nI p)), (4, .int (nI i))]) (st2 := []) (w3 := w) rfl rfl ?_
      exact sx_RP.ls (sx_lr.cons rfl (sx_lr.cons rfl (sx_lr.cons rfl (sx_lr.cons rfl (sx_lr.cons rfl (sx_lr.cons rfl sx_lr.nil)))))) (kk w (n + 0) hI hE (by omega))
    · replace q8 := Decidable.not_not.mp (of_decide_eq_false q8)
      replace q8 := (nI_eq (a := x5) (b := i) (by omega) (by omega)).mp q8
      refine sx_RP.step (pc2 := 120) (ls2 := [(0, .ref 111), (1, .int (nI c)), (2, .int (nI p)), (3, .int n), (4, .int (nI i)), (5, .int (nI j))]) (st2 := [.ref 111, .int n]) (w3 := w) rfl rfl ?_
      refine sx_RP.step (pc2 := 122) (ls2 := [(0, .ref 111), (1, .int (nI c)), (2, .int (nI p)), (3, .int n), (4, .int (nI i)), (5, .int (nI j))]) (st2 := [.int (nI j), .ref 111, .int n]) (w3 := w) rfl rfl ?_
      refine sx_RP.step (pc2 := 123) (ls2 := [(0, .ref 111), (1, .int (nI c)), (2, .int (nI p)), (3, .int n), (4, .int (nI i)), (5, .int (nI j))]) (st2 := [.int 5, .int (nI j), .ref 111, .int n]) (w3 := w) rfl rfl ?_
      refine sx_RP.step (pc2 := 124) (ls2 := [(0, .ref 111), (1, .int (nI c)), (2, .int (nI p)), (3, .int n), (4, .int (nI i)), (5, .int (nI j))]) (st2 := [.int 1, .int 5, .int (nI j), .ref 111, .int n]) (w3 := w) rfl rfl ?_
      refine sx_RP.callp (as2 := [.ref 111, .int (nI j), .int 5, .int 1]) (rest2 := [.int n]) rfl rfl (sx_inv_v2 (mi := 201) (k := 110) (st := [.int 1, .int 5, .int (nI j), .ref 111, .int n]) (w := w) rfl rfl hI.1.o111 rfl rfl rfl) rfl rfl rfl (s154_5 hI (show j < 10 by omega) (show 1 ≤ 1 by omega)) (show _ = 127 from rfl) ?_
      rintro r4 w10 ⟨⟨v9, rfl⟩, hI11, hE13⟩
      have hE12 := hE.tr (hE13)
      show sx_RP _ _ _ _ _ [.int v9, .int n] _ _
      refine sx_RP.br (p1 := 134) (l1 := [(0, .ref 111), (1, .int (nI c)), (2, .int (nI p)), (3, .int n), (4, .int (nI i)), (5, .int (nI j))]) (s1 := [.int n]) (v1 := w10) (p2 := 130) (l2 := [(0, .ref 111), (1, .int (nI c)), (2, .int (nI p)), (3, .int n), (4, .int (nI i)), (5, .int (nI j))]) (s2 := [.int n]) (v2 := w10) rfl rfl (fun q14 => ?_) (fun q14 => ?_)
      · replace q14 := of_decide_eq_true q14
        refine sx_RP.step (pc2 := 135) (ls2 := [(0, .ref 111), (1, .int (nI c)), (2, .int (nI p)), (3, .int n), (4, .int (nI i)), (5, .int (nI j))]) (st2 := [.int 0, .int n]) (w3 := w10) rfl rfl ?_
        refine sx_RP.step (pc2 := 136) (ls2 := [(0, .ref 111), (1, .int (nI c)), (2, .int (nI p)), (3, .int n), (4, .int (nI i)), (5, .int (nI j))]) (st2 := [.int (n + 0)]) (w3 := w10) rfl rfl ?_
        refine sx_RP.step (pc2 := 137) (ls2 := [(3, .int (n + 0)), (0, .ref 111), (1, .int (nI c)), (2, .int (nI p)), (4, .int (nI i)), (5, .int (nI j))]) (st2 := []) (w3 := w10) rfl rfl ?_
        refine sx_RP.step (pc2 := 140) (ls2 := [(5, .int ((nI j) + 1)), (3, .int (n + 0)), (0, .ref 111), (1, .int (nI c)), (2, .int (nI p)), (4, .int (nI i))]) (st2 := []) (w3 := w10) rfl rfl ?_
        rw [nI_1 j]
        refine sx_RP.step (pc2 := 95) (ls2 := [(5, .int (nI (j + 1))), (3, .int (n + 0)), (0, .ref 111), (1, .int (nI c)), (2, .int (nI p)), (4, .int (nI i))]) (st2 := []) (w3 := w10) rfl rfl ?_
        exact sx_RP.ls (sx_lr.cons rfl (sx_lr.cons rfl (sx_lr.cons rfl (sx_lr.cons rfl (sx_lr.cons rfl (sx_lr.cons rfl sx_lr.nil)))))) (kk w10 (n + 0) hI11 hE12 (by omega))
      · replace q14 := Decidable.not_not.mp (of_decide_eq_false q14)
        refine sx_RP.step (pc2 := 131) (ls2 := [(0, .ref 111), (1, .int (nI c)), (2, .int (nI p)), (3, .int n), (4, .int (nI i)), (5, .int (nI j))]) (st2 := [.int 1, .int n]) (w3 := w10) rfl rfl ?_
        refine sx_RP.step (pc2 := 135) (ls2 := [(0, .ref 111), (1, .int (nI c)), (2, .int (nI p)), (3, .int n), (4, .int (nI i)), (5, .int (nI j))]) (st2 := [.int 1, .int n]) (w3 := w10) rfl rfl ?_
        refine sx_RP.step (pc2 := 136) (ls2 := [(0, .ref 111), (1, .int (nI c)), (2, .int (nI p)), (3, .int n), (4, .int (nI i)), (5, .int (nI j))]) (st2 := [.int (n + 1)]) (w3 := w10) rfl rfl ?_
        refine sx_RP.step (pc2 := 137) (ls2 := [(3, .int (n + 1)), (0, .ref 111), (1, .int (nI c)), (2, .int (nI p)), (4, .int (nI i)), (5, .int (nI j))]) (st2 := []) (w3 := w10) rfl rfl ?_
        refine sx_RP.step (pc2 := 140) (ls2 := [(5, .int ((nI j) + 1)), (3, .int (n + 1)), (0, .ref 111), (1, .int (nI c)), (2, .int (nI p)), (4, .int (nI i))]) (st2 := []) (w3 := w10) rfl rfl ?_
        rw [nI_1 j]
        refine sx_RP.step (pc2 := 95) (ls2 := [(5, .int (nI (j + 1))), (3, .int (n + 1)), (0, .ref 111), (1, .int (nI c)), (2, .int (nI p)), (4, .int (nI i))]) (st2 := []) (w3 := w10) rfl rfl ?_
        exact sx_RP.ls (sx_lr.cons rfl (sx_lr.cons rfl (sx_lr.cons rfl (sx_lr.cons rfl (sx_lr.cons rfl (sx_lr.cons rfl sx_lr.nil)))))) (kk w10 (n + 1) hI11 hE12 (by omega))
set_option maxRecDepth 20000 in
set_option maxHeartbeats 4000000 in
theorem s201iL {xs : Option (List Int32)} {d : Nat} {w0 : List sx_C} {c p i : Nat} (hc : c < 48) (hp : p ≤ 30) (hi : i < 48) (kx143 : ∀ (w4 : List sx_C) (un : Int32), WI w4 → EM w0 w4 → sx_RP xs (d + 7) 201 143 [(0, .ref 111), (1, .int (nI c)), (2, .int (nI p)), (3, .int un), (4, .int (nI i))] [] w4 (fun r w2 => (∃ v : Int32, r = some (.int v)) ∧ WI w2 ∧ EM w0 w2)) : ∀ (fz j : Nat) (w : List sx_C) (n : Int32) , 10 ≤ j + fz * 1 → j ≤ 10 → WI w → EM w0 w → sx_RP xs (d + 7) 201 95 [(0, .ref 111), (1, .int (nI c)), (2, .int (nI p)), (3, .int n), (4, .int (nI i)), (5, .int (nI j))] [] w (fun r w2 => (∃ v : Int32, r = some (.int v)) ∧ WI w2 ∧ EM w0 w2)
  | 0, j, w, n, h, hj, hI, hE => s201iB hc hp hi hI hE hj n  (fun w4 un hI4 hE4 hlt  => absurd hlt (by omega)) kx143
  | fz + 1, j, w, n, h, hj, hI, hE => s201iB hc hp hi hI hE hj n  (fun w4 un hI4 hE4 hlt  => s201iL hc hp hi kx143 fz (j + 1) w4 un (by omega) hlt hI4 hE4 ) kx143
set_option maxRecDepth 20000 in
set_option maxHeartbeats 4000000 in
theorem s201B {xs : Option (List Int32)} {d : Nat} {w w0 : List sx_C} {c p : Nat} (hc : c < 48) (hp : p ≤ 30) (hI : WI w) (hE : EM w0 w) {j : Nat} (hj : j ≤ 48) (n : Int32) (kk : ∀ (w4 : List sx_C) (un : Int32), WI w4 → EM w0 w4 → j + 1 ≤ 48 → sx_RP xs (d + 7) 201 25 [(0, .ref 111), (1, .int (nI c)), (2, .int (nI p)), (3, .int un), (4, .int (nI (j + 1)))] [] w4 (fun r w2 => (∃ v : Int32, r = some (.int v)) ∧ WI w2 ∧ EM w0 w2)) : sx_RP xs (d + 7) 201 25 [(0, .ref 111), (1, .int (nI c)), (2, .int (nI p)), (3, .int n), (4, .int (nI j))] [] w (fun r w2 => (∃ v : Int32, r = some (.int v)) ∧ WI w2 ∧ EM w0 w2) := by
  refine sx_RP.step (pc2 := 27) (ls2 := [(0, .ref 111), (1, .int (nI c)), (2, .int (nI p)), (3, .int n), (4, .int (nI j))]) (st2 := [.int (nI j)]) (w3 := w) rfl rfl ?_
  refine sx_RP.step (pc2 := 29) (ls2 := [(0, .ref 111), (1, .int (nI c)), (2, .int (nI p)), (3, .int n), (4, .int (nI j))]) (st2 := [.int 48, .int (nI j)]) (w3 := w) rfl rfl ?_
  refine sx_RP.br (p1 := 149) (l1 := [(0, .ref 111), (1, .int (nI c)), (2, .int (nI p)), (3, .int n), (4, .int (nI j))]) (s1 := []) (v1 := w) (p2 := 32) (l2 := [(0, .ref 111), (1, .int (nI c)), (2, .int (nI p)), (3, .int n), (4, .int (nI j))]) (s2 := []) (v2 := w) rfl rfl (fun q1 => ?_) (fun q1 => ?_)
  · replace q1 := of_decide_eq_true q1
    replace q1 := (nI_leI (a := 48) (b := j) (by omega) (by omega)).mp q1
    refine sx_RP.step (pc2 := 150) (ls2 := [(0, .ref 111), (1, .int (nI c)), (2, .int (nI p)), (3, .int n), (4, .int (nI j))]) (st2 := [.int n]) (w3 := w) rfl rfl ?_
    refine sx_RP.ret (r := (some (.int n))) rfl rfl ?_
    exact ⟨⟨_, rfl⟩, hI, hE⟩
  · replace q1 := of_decide_eq_false q1
    replace q1 := mt (nI_leI (a := 48) (b := j) (by omega) (by omega)).mpr q1
    refine sx_RP.step (pc2 := 33) (ls2 := [(0, .ref 111), (1, .int (nI c)), (2, .int (nI p)), (3, .int n), (4, .int (nI j))]) (st2 := [.ref 111]) (w3 := w) rfl rfl ?_
    refine sx_RP.step (pc2 := 34) (ls2 := [(0, .ref 111), (1, .int (nI c)), (2, .int (nI p)), (3, .int n), (4, .int (nI j))]) (st2 := [.int (nI c), .ref 111]) (w3 := w) rfl rfl ?_
    refine sx_RP.step (pc2 := 35) (ls2 := [(0, .ref 111), (1, .int (nI c)), (2, .int (nI p)), (3, .int n), (4, .int (nI j))]) (st2 := [.int (nI p), .int (nI c), .ref 111]) (w3 := w) rfl rfl ?_
    refine sx_RP.step (pc2 := 37) (ls2 := [(0, .ref 111), (1, .int (nI c)), (2, .int (nI p)), (3, .int n), (4, .int (nI j))]) (st2 := [.int (nI j), .int (nI p), .int (nI c), .ref 111]) (w3 := w) rfl rfl ?_
    obtain ⟨x2, hx3, c4⟩ := p199 hI (nI c) (nI p) (show j < 48 by omega)
    refine sx_RP.cu (as := [.ref 111, .int (nI c), .int (nI p), .int (nI j)]) (rest2 := []) (st3 := [.int (nI x2)]) rfl rfl (sx_inv_v2 (mi := 201) (k := 192) (st := [.int (nI j), .int (nI p), .int (nI c), .ref 111]) (w := w) rfl rfl hI.1.o111 rfl rfl rfl) rfl rfl (c4) rfl ?_
    refine sx_RP.br (p1 := 143) (l1 := [(0, .ref 111), (1, .int (nI c)), (2, .int (nI p)), (3, .int n), (4, .int (nI j))]) (s1 := []) (v1 := w) (p2 := 43) (l2 := [(0, .ref 111), (1, .int (nI c)), (2, .int (nI p)), (3, .int n), (4, .int (nI j))]) (s2 := []) (v2 := w) rfl rfl (fun q5 => ?_) (fun q5 => ?_)
    · replace q5 := of_decide_eq_true q5
      replace q5 := (nI_eq (a := x2) (b := 0) (by omega) (by omega)).mp q5
      refine sx_RP.step (pc2 := 146) (ls2 := [(4, .int ((nI j) + 1)), (0, .ref 111), (1, .int (nI c)), (2, .int (nI p)), (3, .int n)]) (st2 := []) (w3 := w) rfl rfl ?_
      rw [nI_1 j]
      refine sx_RP.step (pc2 := 25) (ls2 := [(4, .int (nI (j + 1))), (0, .ref 111), (1, .int (nI c)), (2, .int (nI p)), (3, .int n)]) (st2 := []) (w3 := w) rfl rfl ?_
      exact sx_RP.ls (sx_lr.cons rfl (sx_lr.cons rfl (sx_lr.cons rfl (sx_lr.cons rfl (sx_lr.cons rfl sx_lr.nil))))) (kk w n hI hE (by omega))
    · replace q5 := of_decide_eq_false q5
      replace q5 := mt (nI_eq (a := x2) (b := 0) (by omega) (by omega)).mpr q5
      refine sx_RP.step (pc2 := 44) (ls2 := [(0, .ref 111), (1, .int (nI c)), (2, .int (nI p)), (3, .int n), (4, .int (nI j))]) (st2 := [.ref 111]) (w3 := w) rfl rfl ?_
      refine sx_RP.gf (v := .ref 112) rfl rfl hI.1.o111 rfl rfl (show _ = 47 from rfl) ?_
      refine sx_RP.step (pc2 := 49) (ls2 := [(0, .ref 111), (1, .int (nI c)), (2, .int (nI p)), (3, .int n), (4, .int (nI j))]) (st2 := [.int 55, .ref 112]) (w3 := w) rfl rfl ?_
      refine sx_RP.step (pc2 := 51) (ls2 := [(0, .ref 111), (1, .int (nI c)), (2, .int (nI p)), (3, .int n), (4, .int (nI j))]) (st2 := [.int (nI j), .int 55, .ref 112]) (w3 := w) rfl rfl ?_
      refine sx_RP.step (pc2 := 52) (ls2 := [(0, .ref 111), (1, .int (nI c)), (2, .int (nI p)), (3, .int n), (4, .int (nI j))]) (st2 := [.int (55 + (nI j)), .ref 112]) (w3 := w) rfl rfl ?_
      rw [show (55 + (nI j) : Int32) = nI (55 + j) from nI_add 55 j]
      refine sx_RP.step (pc2 := 53) (ls2 := [(0, .ref 111), (1, .int (nI c)), (2, .int (nI p)), (3, .int n), (4, .int (nI j))]) (st2 := [.int 0, .int (nI (55 + j)), .ref 112]) (w3 := w) rfl rfl ?_
      refine sx_RP.mS (k := (55 + j)) hI hE (by decide) rfl rfl (by omega) (eOK_n (by omega)) (show _ = 54 from rfl) (fun w6 hI7 hE8 hk9 => ?_)
      refine sx_RP.step (pc2 := 55) (ls2 := [(0, .ref 111), (1, .int (nI c)), (2, .int (nI p)), (3, .int n), (4, .int (nI j))]) (st2 := [.ref 111]) (w3 := w6) rfl rfl ?_
      refine sx_RP.gf (v := .ref 112) rfl rfl hI7.1.o111 rfl rfl (show _ = 58 from rfl) ?_
      refine sx_RP.step (pc2 := 60) (ls2 := [(0, .ref 111), (1, .int (nI c)), (2, .int (nI p)), (3, .int n), (4, .int (nI j))]) (st2 := [.int 7, .ref 112]) (w3 := w6) rfl rfl ?_
      refine sx_RP.step (pc2 := 62) (ls2 := [(0, .ref 111), (1, .int (nI c)), (2, .int (nI p)), (3, .int n), (4, .int (nI j))]) (st2 := [.int (nI j), .int 7, .ref 112]) (w3 := w6) rfl rfl ?_
      refine sx_RP.step (pc2 := 63) (ls2 := [(0, .ref 111), (1, .int (nI c)), (2, .int (nI p)), (3, .int n), (4, .int (nI j))]) (st2 := [.int (7 + (nI j)), .ref 112]) (w3 := w6) rfl rfl ?_
      rw [show (7 + (nI j) : Int32) = nI (7 + j) from nI_add 7 j]
      refine sx_RP.step (pc2 := 64) (ls2 := [(0, .ref 111), (1, .int (nI c)), (2, .int (nI p)), (3, .int n), (4, .int (nI j))]) (st2 := [.ref 111, .int (nI (7 + j)), .ref 112]) (w3 := w6) rfl rfl ?_
      refine sx_RP.gf (v := .ref 112) rfl rfl hI7.1.o111 rfl rfl (show _ = 67 from rfl) ?_
      refine sx_RP.step (pc2 := 69) (ls2 := [(0, .ref 111), (1, .int (nI c)), (2, .int (nI p)), (3, .int n), (4, .int (nI j))]) (st2 := [.int 7, .ref 112, .int (nI (7 + j)), .ref 112]) (w3 := w6) rfl rfl ?_
      refine sx_RP.step (pc2 := 71) (ls2 := [(0, .ref 111), (1, .int (nI c)), (2, .int (nI p)), (3, .int n), (4, .int (nI j))]) (st2 := [.int (nI j), .int 7, .ref 112, .int (nI (7 + j)), .ref 112]) (w3 := w6) rfl rfl ?_
      refine sx_RP.step (pc2 := 72) (ls2 := [(0, .ref 111), (1, .int (nI c)), (2, .int (nI p)), (3, .int n), (4, .int (nI j))]) (st2 := [.int (7 + (nI j)), .ref 112, .int (nI (7 + j)), .ref 112]) (w3 := w6) rfl rfl ?_
      rw [show (7 + (nI j) : Int32) = nI (7 + j) from nI_add 7 j]
      refine sx_RP.ild (c := (7 + j)) rfl hI7.1.a112.1 hI7.1.a112.2 (sx_in_nI (show (7 + j) < 172 by omega) (by decide)) (show (nI (7 + j)).toNatClampNeg = (7 + j) from nI_clamp (by omega)) (show _ = 73 from rfl) ?_
      obtain ⟨x10, hx11, ex12⟩ : inR ((ia w6 112).getD (7 + j) 0) 3 := (hI7.s ((7 + j)) (by omega)).2.2.1 (by omega)
      rw [ex12]
      refine sx_RP.step (pc2 := 74) (ls2 := [(0, .ref 111), (1, .int (nI c)), (2, .int (nI p)), (3, .int n), (4, .int (nI j))]) (st2 := [.int 2, .int (nI x10), .int (nI (7 + j)), .ref 112]) (w3 := w6) rfl rfl ?_
      refine sx_RP.br (p1 := 81) (l1 := [(0, .ref 111), (1, .int (nI c)), (2, .int (nI p)), (3, .int n), (4, .int (nI j))]) (s1 := [.int (nI (7 + j)), .ref 112]) (v1 := w6) (p2 := 77) (l2 := [(0, .ref 111), (1, .int (nI c)), (2, .int (nI p)), (3, .int n), (4, .int (nI j))]) (s2 := [.int (nI (7 + j)), .ref 112]) (v2 := w6) rfl rfl (fun q13 => ?_) (fun q13 => ?_)
      · replace q13 := of_decide_eq_true q13
        replace q13 := mt (nI_eq (a := x10) (b := 2) (by omega) (by omega)).mpr q13
        refine sx_RP.step (pc2 := 82) (ls2 := [(0, .ref 111), (1, .int (nI c)), (2, .int (nI p)), (3, .int n), (4, .int (nI j))]) (st2 := [.ref 111, .int (nI (7 + j)), .ref 112]) (w3 := w6) rfl rfl ?_
        refine sx_RP.gf (v := .ref 112) rfl rfl hI7.1.o111 rfl rfl (show _ = 85 from rfl) ?_
        refine sx_RP.step (pc2 := 87) (ls2 := [(0, .ref 111), (1, .int (nI c)), (2, .int (nI p)), (3, .int n), (4, .int (nI j))]) (st2 := [.int 7, .ref 112, .int (nI (7 + j)), .ref 112]) (w3 := w6) rfl rfl ?_
        refine sx_RP.step (pc2 := 89) (ls2 := [(0, .ref 111), (1, .int (nI c)), (2, .int (nI p)), (3, .int n), (4, .int (nI j))]) (st2 := [.int (nI j), .int 7, .ref 112, .int (nI (7 + j)), .ref 112]) (w3 := w6) rfl rfl ?_
        refine sx_RP.step (pc2 := 90) (ls2 := [(0, .ref 111), (1, .int (nI c)), (2, .int (nI p)), (3, .int n), (4, .int (nI j))]) (st2 := [.int (7 + (nI j)), .ref 112, .int (nI (7 + j)), .ref 112]) (w3 := w6) rfl rfl ?_
        rw [show (7 + (nI j) : Int32) = nI (7 + j) from nI_add 7 j]
        refine sx_RP.ild (c := (7 + j)) rfl hI7.1.a112.1 hI7.1.a112.2 (sx_in_nI (show (7 + j) < 172 by omega) (by decide)) (show (nI (7 + j)).toNatClampNeg = (7 + j) from nI_clamp (by omega)) (show _ = 91 from rfl) ?_
        rw [ex12]
        refine sx_RP.mS (k := (7 + j)) hI7 hE8 (by decide) rfl rfl (by omega) (eOK_st (by omega) (inR.n (show x10 ≤ 3 by omega))) (show _ = 92 from rfl) (fun w14 hI15 hE16 hk17 => ?_)
        refine sx_RP.step (pc2 := 93) (ls2 := [(0, .ref 111), (1, .int (nI c)), (2, .int (nI p)), (3, .int n), (4, .int (nI j))]) (st2 := [.int 0]) (w3 := w14) rfl rfl ?_
        refine sx_RP.step (pc2 := 95) (ls2 := [(5, .int 0), (0, .ref 111), (1, .int (nI c)), (2, .int (nI p)), (3, .int n), (4, .int (nI j))]) (st2 := []) (w3 := w14) rfl rfl ?_
        refine sx_RP.ls (sx_lr.cons rfl (sx_lr.cons rfl (sx_lr.cons rfl (sx_lr.cons rfl (sx_lr.cons rfl (sx_lr.cons rfl sx_lr.nil)))))) (s201iL hc hp (show j < 48 by omega) (fun w18 u21 hI19 hE20 => ?_) 10 0 w14 n (by omega) (by omega) hI15 hE16 )
        refine sx_RP.step (pc2 := 146) (ls2 := [(4, .int ((nI j) + 1)), (0, .ref 111), (1, .int (nI c)), (2, .int (nI p)), (3, .int u21)]) (st2 := []) (w3 := w18) rfl rfl ?_
        rw [nI_1 j]
        refine sx_RP.step (pc2 := 25) (ls2 := [(4, .int (nI (j + 1))), (0, .ref 111), (1, .int (nI c)), (2, .int (nI p)), (3, .int u21)]) (st2 := []) (w3 := w18) rfl rfl ?_
        exact sx_RP.ls (sx_lr.cons rfl (sx_lr.cons rfl (sx_lr.cons rfl (sx_lr.cons rfl (sx_lr.cons rfl sx_lr.nil))))) (kk w18 u21 hI19 hE20 (by omega))
      · replace q13 := Decidable.not_not.mp (of_decide_eq_false q13)
        replace q13 := (nI_eq (a := x10) (b := 2) (by omega) (by omega)).mp q13
        refine sx_RP.step (pc2 := 78) (ls2 := [(0, .ref 111), (1, .int (nI c)), (2, .int (nI p)), (3, .int n), (4, .int (nI j))]) (st2 := [.int 0, .int (nI (7 + j)), .ref 112]) (w3 := w6) rfl rfl ?_
        refine sx_RP.step (pc2 := 91) (ls2 := [(0, .ref 111), (1, .int (nI c)), (2, .int (nI p)), (3, .int n), (4, .int (nI j))]) (st2 := [.int 0, .int (nI (7 + j)), .ref 112]) (w3 := w6) rfl rfl ?_
        refine sx_RP.mS (k := (7 + j)) hI7 hE8 (by decide) rfl rfl (by omega) (eOK_st (by omega) (show inR 0 3 from ⟨0, by decide, rfl⟩)) (show _ = 92 from rfl) (fun w22 hI23 hE24 hk25 => ?_)
        refine sx_RP.step (pc2 := 93) (ls2 := [(0, .ref 111), (1, .int (nI c)), (2, .int (nI p)), (3, .int n), (4, .int (nI j))]) (st2 := [.int 0]) (w3 := w22) rfl rfl ?_
        refine sx_RP.step (pc2 := 95) (ls2 := [(5, .int 0), (0, .ref 111), (1, .int (nI c)), (2, .int (nI p)), (3, .int n), (4, .int (nI j))]) (st2 := []) (w3 := w22) rfl rfl ?_
        refine sx_RP.ls (sx_lr.cons rfl (sx_lr.cons rfl (sx_lr.cons rfl (sx_lr.cons rfl (sx_lr.cons rfl (sx_lr.cons rfl sx_lr.nil)))))) (s201iL hc hp (show j < 48 by omega) (fun w26 u29 hI27 hE28 => ?_) 10 0 w22 n (by omega) (by omega) hI23 hE24 )
        refine sx_RP.step (pc2 := 146) (ls2 := [(4, .int ((nI j) + 1)), (0, .ref 111), (1, .int (nI c)), (2, .int (nI p)), (3, .int u29)]) (st2 := []) (w3 := w26) rfl rfl ?_
        rw [nI_1 j]
        refine sx_RP.step (pc2 := 25) (ls2 := [(4, .int (nI (j + 1))), (0, .ref 111), (1, .int (nI c)), (2, .int (nI p)), (3, .int u29)]) (st2 := []) (w3 := w26) rfl rfl ?_
        exact sx_RP.ls (sx_lr.cons rfl (sx_lr.cons rfl (sx_lr.cons rfl (sx_lr.cons rfl (sx_lr.cons rfl sx_lr.nil))))) (kk w26 u29 hI27 hE28 (by omega))
set_option maxRecDepth 20000 in
set_option maxHeartbeats 4000000 in
theorem s201L {xs : Option (List Int32)} {d : Nat} {w0 : List sx_C} {c p : Nat} (hc : c < 48) (hp : p ≤ 30) : ∀ (fz j : Nat) (w : List sx_C) (n : Int32) , 48 ≤ j + fz * 1 → j ≤ 48 → WI w → EM w0 w → sx_RP xs (d + 7) 201 25 [(0, .ref 111), (1, .int (nI c)), (2, .int (nI p)), (3, .int n), (4, .int (nI j))] [] w (fun r w2 => (∃ v : Int32, r = some (.int v)) ∧ WI w2 ∧ EM w0 w2)
  | 0, j, w, n, h, hj, hI, hE => s201B hc hp hI hE hj n  (fun w4 un hI4 hE4 hlt  => absurd hlt (by omega)) 
  | fz + 1, j, w, n, h, hj, hI, hE => s201B hc hp hI hE hj n  (fun w4 un hI4 hE4 hlt  => s201L hc hp  fz (j + 1) w4 un (by omega) hlt hI4 hE4 ) 
set_option maxRecDepth 20000 in
set_option maxHeartbeats 4000000 in
theorem s201 {xs : Option (List Int32)} {d : Nat} {w : List sx_C} (hI : WI w) (a1 a2 : Int32) : sx_RP xs (d + 7) 201 0 (lv_args 0 [.ref 111, .int a1, .int a2]) [] w (fun r w2 => (∃ v : Int32, r = some (.int v)) ∧ WI w2 ∧ EM w w2) := by
  have hE : EM w w := EM.rf
  refine sx_RP.step (pc2 := 1) (ls2 := [(0, .ref 111), (1, .int a1), (2, .int a2)]) (st2 := [.int a1]) (w3 := w) rfl rfl ?_
  rcases in_cases a1 0 47 (m := 0) (n := 47) rfl rfl (by decide) (by decide) with q1 | ⟨x2, hx3, hx4, rfl⟩
  · refine sx_RP.cu (as := [.int a1]) (rest2 := []) (st3 := [.int 0]) rfl rfl rfl rfl rfl (cx_131n q1) rfl ?_
    refine sx_RP.step (pc2 := 14) (ls2 := [(0, .ref 111), (1, .int a1), (2, .int a2)]) (st2 := []) (w3 := w) rfl rfl ?_
    refine sx_RP.step (pc2 := 15) (ls2 := [(0, .ref 111), (1, .int a1), (2, .int a2)]) (st2 := [.ref 111]) (w3 := w) rfl rfl ?_
    refine sx_RP.step (pc2 := 16) (ls2 := [(0, .ref 111), (1, .int a1), (2, .int a2)]) (st2 := [.int 0, .ref 111]) (w3 := w) rfl rfl ?_
    refine sx_RP.callp (as2 := [.ref 111, .int 0]) (rest2 := []) rfl rfl (sx_inv_v2 (mi := 201) (k := 70) (st := [.int 0, .ref 111]) (w := w) rfl rfl hI.1.o111 rfl rfl rfl) rfl rfl rfl (s133_0 hI) (show _ = 19 from rfl) ?_
    rintro r4 w6 ⟨rfl, hI7, hE9⟩
    have hE8 := hE.tr (hE9)
    show sx_RP _ _ _ _ _ [.int (-1000000001)] _ _
    refine sx_RP.ret (r := (some (.int (-1000000001)))) rfl rfl ?_
    exact ⟨⟨_, rfl⟩, hI7, hE8⟩
  · refine sx_RP.cu (as := [.int (nI x2)]) (rest2 := []) (st3 := [.int 1]) rfl rfl rfl rfl rfl (cx_131p ⟨nI_le (a := 0) hx3 (by omega), nI_le (b := 47) hx4 (by decide)⟩) rfl ?_
    refine sx_RP.step (pc2 := 7) (ls2 := [(0, .ref 111), (1, .int (nI x2)), (2, .int a2)]) (st2 := []) (w3 := w) rfl rfl ?_
    refine sx_RP.step (pc2 := 8) (ls2 := [(0, .ref 111), (1, .int (nI x2)), (2, .int a2)]) (st2 := [.int a2]) (w3 := w) rfl rfl ?_
    rcases in_cases a2 1 30 (m := 1) (n := 30) rfl rfl (by decide) (by decide) with q10 | ⟨x11, hx12, hx13, rfl⟩
    · refine sx_RP.cu (as := [.int a2]) (rest2 := []) (st3 := [.int 0]) rfl rfl rfl rfl rfl (cx_197n q10) rfl ?_
      refine sx_RP.step (pc2 := 14) (ls2 := [(0, .ref 111), (1, .int (nI x2)), (2, .int a2)]) (st2 := []) (w3 := w) rfl rfl ?_
      refine sx_RP.step (pc2 := 15) (ls2 := [(0, .ref 111), (1, .int (nI x2)), (2, .int a2)]) (st2 := [.ref 111]) (w3 := w) rfl rfl ?_
      refine sx_RP.step (pc2 := 16) (ls2 := [(0, .ref 111), (1, .int (nI x2)), (2, .int a2)]) (st2 := [.int 0, .ref 111]) (w3 := w) rfl rfl ?_
      refine sx_RP.callp (as2 := [.ref 111, .int 0]) (rest2 := []) rfl rfl (sx_inv_v2 (mi := 201) (k := 70) (st := [.int 0, .ref 111]) (w := w) rfl rfl hI.1.o111 rfl rfl rfl) rfl rfl rfl (s133_0 hI) (show _ = 19 from rfl) ?_
      rintro r4 w15 ⟨rfl, hI16, hE18⟩
      have hE17 := hE.tr (hE18)
      show sx_RP _ _ _ _ _ [.int (-1000000001)] _ _
      refine sx_RP.ret (r := (some (.int (-1000000001)))) rfl rfl ?_
      exact ⟨⟨_, rfl⟩, hI16, hE17⟩
    · refine sx_RP.cu (as := [.int (nI x11)]) (rest2 := []) (st3 := [.int 1]) rfl rfl rfl rfl rfl (cx_197p ⟨nI_le (a := 1) hx12 (by omega), nI_le (b := 30) hx13 (by decide)⟩) rfl ?_
      refine sx_RP.step (pc2 := 20) (ls2 := [(0, .ref 111), (1, .int (nI x2)), (2, .int (nI x11))]) (st2 := []) (w3 := w) rfl rfl ?_
      refine sx_RP.step (pc2 := 21) (ls2 := [(0, .ref 111), (1, .int (nI x2)), (2, .int (nI x11))]) (st2 := [.int 0]) (w3 := w) rfl rfl ?_
      refine sx_RP.step (pc2 := 22) (ls2 := [(3, .int 0), (0, .ref 111), (1, .int (nI x2)), (2, .int (nI x11))]) (st2 := []) (w3 := w) rfl rfl ?_
      refine sx_RP.step (pc2 := 23) (ls2 := [(3, .int 0), (0, .ref 111), (1, .int (nI x2)), (2, .int (nI x11))]) (st2 := [.int 0]) (w3 := w) rfl rfl ?_
      refine sx_RP.step (pc2 := 25) (ls2 := [(4, .int 0), (3, .int 0), (0, .ref 111), (1, .int (nI x2)), (2, .int (nI x11))]) (st2 := []) (w3 := w) rfl rfl ?_
      exact sx_RP.ls (sx_lr.cons rfl (sx_lr.cons rfl (sx_lr.cons rfl (sx_lr.cons rfl (sx_lr.cons rfl sx_lr.nil))))) (s201L (show x2 < 48 by omega) (show x11 ≤ 30 by omega) 48 0 w 0 (by omega) (by omega) hI hE )
set_option maxRecDepth 20000 in
set_option maxHeartbeats 4000000 in
theorem p237 {xs : Option (List Int32)} {d : Nat} {w : List sx_C} (hI : WI w) {k : Nat} (hk : k < 4) : ∃ j, j ≤ 9 ∧ sx_RU xs d 237 0 (lv_args 0 [.ref 111, .int (nI k)]) [] w (some (.int (nI j))) w := by
  have h : sx_RP xs d 237 0 (lv_args 0 [.ref 111, .int (nI k)]) [] w (fun r w2 => (∃ j, j ≤ 9 ∧ r = some (.int (nI j))) ∧ w2 = w) := by
    refine sx_RP.step (pc2 := 1) (ls2 := [(0, .ref 111), (1, .int (nI k))]) (st2 := [.ref 111]) (w3 := w) rfl rfl ?_
    refine sx_RP.gf (v := .ref 123) rfl rfl hI.1.o111 rfl rfl (show _ = 4 from rfl) ?_
    refine sx_RP.step (pc2 := 5) (ls2 := [(0, .ref 111), (1, .int (nI k))]) (st2 := [.int (nI k), .ref 123]) (w3 := w) rfl rfl ?_
    refine sx_RP.ild (c := k) rfl hI.1.a123.1 hI.1.a123.2 (sx_in_nI (show k < 4 by omega) (by decide)) (show (nI k).toNatClampNeg = k from nI_clamp (by omega)) (show _ = 6 from rfl) ?_
    obtain ⟨x1, hx2, ex3⟩ : inR ((ia w 123).getD k 0) 40 := hI.l (show k < 4 by omega)
    rw [ex3]
    refine sx_RP.step (pc2 := 7) (ls2 := [(0, .ref 111), (1, .int (nI k))]) (st2 := [.ref 111, .int (nI x1)]) (w3 := w) rfl rfl ?_
    refine sx_RP.gf (v := .ref 112) rfl rfl hI.1.o111 rfl rfl (show _ = 10 from rfl) ?_
    refine sx_RP.step (pc2 := 11) (ls2 := [(0, .ref 111), (1, .int (nI k))]) (st2 := [.int 2, .ref 112, .int (nI x1)]) (w3 := w) rfl rfl ?_
    refine sx_RP.ild (c := 2) rfl hI.1.a112.1 hI.1.a112.2 (sx_in_nI (show 2 < 172 by omega) (by decide)) (show (nI 2).toNatClampNeg = 2 from nI_clamp (by omega)) (show _ = 12 from rfl) ?_
    obtain ⟨x4, hx5, ex6⟩ : inR ((ia w 112).getD 2 0) 9 := (hI.s (2) (by omega)).2.1 rfl
    rw [ex6]
    refine sx_RP.br (p1 := 24) (l1 := [(0, .ref 111), (1, .int (nI k))]) (s1 := []) (v1 := w) (p2 := 15) (l2 := [(0, .ref 111), (1, .int (nI k))]) (s2 := []) (v2 := w) rfl rfl (fun q7 => ?_) (fun q7 => ?_)
    · replace q7 := of_decide_eq_true q7
      replace q7 := (nI_leI (a := x4) (b := x1) (by omega) (by omega)).mp q7
      refine sx_RP.step (pc2 := 25) (ls2 := [(0, .ref 111), (1, .int (nI k))]) (st2 := [.ref 111]) (w3 := w) rfl rfl ?_
      refine sx_RP.gf (v := .ref 112) rfl rfl hI.1.o111 rfl rfl (show _ = 28 from rfl) ?_
      refine sx_RP.step (pc2 := 29) (ls2 := [(0, .ref 111), (1, .int (nI k))]) (st2 := [.int 2, .ref 112]) (w3 := w) rfl rfl ?_
      refine sx_RP.ild (c := 2) rfl hI.1.a112.1 hI.1.a112.2 (sx_in_nI (show 2 < 172 by omega) (by decide)) (show (nI 2).toNatClampNeg = 2 from nI_clamp (by omega)) (show _ = 30 from rfl) ?_
      rw [ex6]
      refine sx_RP.ret (r := (some (.int (nI x4)))) rfl rfl ?_
      exact ⟨⟨x4, by omega, rfl⟩, rfl⟩
    · replace q7 := of_decide_eq_false q7
      replace q7 := mt (nI_leI (a := x4) (b := x1) (by omega) (by omega)).mpr q7
      refine sx_RP.step (pc2 := 16) (ls2 := [(0, .ref 111), (1, .int (nI k))]) (st2 := [.ref 111]) (w3 := w) rfl rfl ?_
      refine sx_RP.gf (v := .ref 123) rfl rfl hI.1.o111 rfl rfl (show _ = 19 from rfl) ?_
      refine sx_RP.step (pc2 := 20) (ls2 := [(0, .ref 111), (1, .int (nI k))]) (st2 := [.int (nI k), .ref 123]) (w3 := w) rfl rfl ?_
      refine sx_RP.ild (c := k) rfl hI.1.a123.1 hI.1.a123.2 (sx_in_nI (show k < 4 by omega) (by decide)) (show (nI k).toNatClampNeg = k from nI_clamp (by omega)) (show _ = 21 from rfl) ?_
      rw [ex3]
      refine sx_RP.step (pc2 := 30) (ls2 := [(0, .ref 111), (1, .int (nI k))]) (st2 := [.int (nI x1)]) (w3 := w) rfl rfl ?_
      refine sx_RP.ret (r := (some (.int (nI x1)))) rfl rfl ?_
      exact ⟨⟨x1, by omega, rfl⟩, rfl⟩
  obtain ⟨r, w2, h1, ⟨j, hj, rfl⟩, rfl⟩ := h
  exact ⟨j, hj, h1⟩
set_option maxRecDepth 20000 in
set_option maxHeartbeats 4000000 in
theorem s233 {xs : Option (List Int32)} {d : Nat} {w : List sx_C} (hI : WI w) {k i : Nat} (hk : k < 4) (hi : i < 40) (v : Int64) : sx_RP xs d 233 0 (lv_args 0 [.ref 111, .int (nI k), .int (nI i), .long v]) [] w (fun r w2 => (r = none) ∧ WI w2 ∧ EM w w2) := by
  have hE : EM w w := EM.rf
  refine sx_RP.step (pc2 := 1) (ls2 := [(0, .ref 111), (1, .int (nI k)), (2, .int (nI i)), (3, .long v)]) (st2 := [.ref 111]) (w3 := w) rfl rfl ?_
  refine sx_RP.gf (v := .ref 124) rfl rfl hI.1.o111 rfl rfl (show _ = 4 from rfl) ?_
  refine sx_RP.step (pc2 := 6) (ls2 := [(0, .ref 111), (1, .int (nI k)), (2, .int (nI i)), (3, .long v)]) (st2 := [.int 40, .ref 124]) (w3 := w) rfl rfl ?_
  refine sx_RP.step (pc2 := 7) (ls2 := [(0, .ref 111), (1, .int (nI k)), (2, .int (nI i)), (3, .long v)]) (st2 := [.int (nI k), .int 40, .ref 124]) (w3 := w) rfl rfl ?_
  refine sx_RP.step (pc2 := 8) (ls2 := [(0, .ref 111), (1, .int (nI k)), (2, .int (nI i)), (3, .long v)]) (st2 := [.int (40 * (nI k)), .ref 124]) (w3 := w) rfl rfl ?_
  rw [show (40 * (nI k) : Int32) = nI (40 * k) from nI_mul 40 k]
  refine sx_RP.step (pc2 := 9) (ls2 := [(0, .ref 111), (1, .int (nI k)), (2, .int (nI i)), (3, .long v)]) (st2 := [.int (nI i), .int (nI (40 * k)), .ref 124]) (w3 := w) rfl rfl ?_
  refine sx_RP.step (pc2 := 10) (ls2 := [(0, .ref 111), (1, .int (nI k)), (2, .int (nI i)), (3, .long v)]) (st2 := [.int ((nI (40 * k)) + (nI i)), .ref 124]) (w3 := w) rfl rfl ?_
  rw [show ((nI (40 * k)) + (nI i) : Int32) = nI ((40 * k) + i) from nI_add (40 * k) i]
  refine sx_RP.step (pc2 := 11) (ls2 := [(0, .ref 111), (1, .int (nI k)), (2, .int (nI i)), (3, .long v)]) (st2 := [.ref 111, .int (nI ((40 * k) + i)), .ref 124]) (w3 := w) rfl rfl ?_
  refine sx_RP.gf (v := .ref 122) rfl rfl hI.1.o111 rfl rfl (show _ = 14 from rfl) ?_
  refine sx_RP.step (pc2 := 15) (ls2 := [(0, .ref 111), (1, .int (nI k)), (2, .int (nI i)), (3, .long v)]) (st2 := [.int (nI k), .ref 122, .int (nI ((40 * k) + i)), .ref 124]) (w3 := w) rfl rfl ?_
  refine sx_RP.ild (c := k) rfl hI.1.a122.1 hI.1.a122.2 (sx_in_nI (show k < 4 by omega) (by decide)) (show (nI k).toNatClampNeg = k from nI_clamp (by omega)) (show _ = 16 from rfl) ?_
  refine sx_RP.step (pc2 := 18) (ls2 := [(0, .ref 111), (1, .int (nI k)), (2, .int (nI i)), (3, .long v)]) (st2 := [.int 8, .int ((ia w 122).getD k 0), .int (nI ((40 * k) + i)), .ref 124]) (w3 := w) rfl rfl ?_
  refine sx_RP.br (p1 := 28) (l1 := [(0, .ref 111), (1, .int (nI k)), (2, .int (nI i)), (3, .long v)]) (s1 := [.int (nI ((40 * k) + i)), .ref 124]) (v1 := w) (p2 := 21) (l2 := [(0, .ref 111), (1, .int (nI k)), (2, .int (nI i)), (3, .long v)]) (s2 := [.int (nI ((40 * k) + i)), .ref 124]) (v2 := w) rfl rfl (fun q1 => ?_) (fun q1 => ?_)
  · replace q1 := of_decide_eq_true q1
    refine sx_RP.step (pc2 := 29) (ls2 := [(0, .ref 111), (1, .int (nI k)), (2, .int (nI i)), (3, .long v)]) (st2 := [.ref 111, .int (nI ((40 * k) + i)), .ref 124]) (w3 := w) rfl rfl ?_
    refine sx_RP.gf (v := .ref 122) rfl rfl hI.1.o111 rfl rfl (show _ = 32 from rfl) ?_
    refine sx_RP.step (pc2 := 33) (ls2 := [(0, .ref 111), (1, .int (nI k)), (2, .int (nI i)), (3, .long v)]) (st2 := [.int (nI k), .ref 122, .int (nI ((40 * k) + i)), .ref 124]) (w3 := w) rfl rfl ?_
    refine sx_RP.ild (c := k) rfl hI.1.a122.1 hI.1.a122.2 (sx_in_nI (show k < 4 by omega) (by decide)) (show (nI k).toNatClampNeg = k from nI_clamp (by omega)) (show _ = 34 from rfl) ?_
    refine sx_RP.step (pc2 := 36) (ls2 := [(0, .ref 111), (1, .int (nI k)), (2, .int (nI i)), (3, .long v)]) (st2 := [.int 16, .int ((ia w 122).getD k 0), .int (nI ((40 * k) + i)), .ref 124]) (w3 := w) rfl rfl ?_
    refine sx_RP.br (p1 := 46) (l1 := [(0, .ref 111), (1, .int (nI k)), (2, .int (nI i)), (3, .long v)]) (s1 := [.int (nI ((40 * k) + i)), .ref 124]) (v1 := w) (p2 := 39) (l2 := [(0, .ref 111), (1, .int (nI k)), (2, .int (nI i)), (3, .long v)]) (s2 := [.int (nI ((40 * k) + i)), .ref 124]) (v2 := w) rfl rfl (fun q2 => ?_) (fun q2 => ?_)
    · replace q2 := of_decide_eq_true q2
      refine sx_RP.step (pc2 := 47) (ls2 := [(0, .ref 111), (1, .int (nI k)), (2, .int (nI i)), (3, .long v)]) (st2 := [.long v, .int (nI ((40 * k) + i)), .ref 124]) (w3 := w) rfl rfl ?_
      refine sx_RP.mN hI hE rfl hI.1.a124 (sx_in_nI (show ((40 * k) + i) < 160 by omega) (by decide)) (by decide) (show _ = 48 from rfl) (fun w3 hI4 hE5 hk6 => ?_)
      refine sx_RP.ret (r := none) rfl rfl ?_
      exact ⟨rfl, hI4, hE5⟩
    · replace q2 := Decidable.not_not.mp (of_decide_eq_false q2)
      refine sx_RP.step (pc2 := 40) (ls2 := [(0, .ref 111), (1, .int (nI k)), (2, .int (nI i)), (3, .long v)]) (st2 := [.long v, .int (nI ((40 * k) + i)), .ref 124]) (w3 := w) rfl rfl ?_
      refine sx_RP.step (pc2 := 41) (ls2 := [(0, .ref 111), (1, .int (nI k)), (2, .int (nI i)), (3, .long v)]) (st2 := [.int v.toInt32, .int (nI ((40 * k) + i)), .ref 124]) (w3 := w) rfl rfl ?_
      refine sx_RP.step (pc2 := 42) (ls2 := [(0, .ref 111), (1, .int (nI k)), (2, .int (nI i)), (3, .long v)]) (st2 := [.int v.toInt32.toInt16.toInt32, .int (nI ((40 * k) + i)), .ref 124]) (w3 := w) rfl rfl ?_
      refine sx_RP.step (pc2 := 43) (ls2 := [(0, .ref 111), (1, .int (nI k)), (2, .int (nI i)), (3, .long v)]) (st2 := [.long v.toInt32.toInt16.toInt32.toInt64, .int (nI ((40 * k) + i)), .ref 124]) (w3 := w) rfl rfl ?_
      refine sx_RP.step (pc2 := 47) (ls2 := [(0, .ref 111), (1, .int (nI k)), (2, .int (nI i)), (3, .long v)]) (st2 := [.long v.toInt32.toInt16.toInt32.toInt64, .int (nI ((40 * k) + i)), .ref 124]) (w3 := w) rfl rfl ?_
      refine sx_RP.mN hI hE rfl hI.1.a124 (sx_in_nI (show ((40 * k) + i) < 160 by omega) (by decide)) (by decide) (show _ = 48 from rfl) (fun w7 hI8 hE9 hk10 => ?_)
      refine sx_RP.ret (r := none) rfl rfl ?_
      exact ⟨rfl, hI8, hE9⟩
  · replace q1 := Decidable.not_not.mp (of_decide_eq_false q1)
    refine sx_RP.step (pc2 := 22) (ls2 := [(0, .ref 111), (1, .int (nI k)), (2, .int (nI i)), (3, .long v)]) (st2 := [.long v, .int (nI ((40 * k) + i)), .ref 124]) (w3 := w) rfl rfl ?_
    refine sx_RP.step (pc2 := 23) (ls2 := [(0, .ref 111), (1, .int (nI k)), (2, .int (nI i)), (3, .long v)]) (st2 := [.int v.toInt32, .int (nI ((40 * k) + i)), .ref 124]) (w3 := w) rfl rfl ?_
    refine sx_RP.step (pc2 := 24) (ls2 := [(0, .ref 111), (1, .int (nI k)), (2, .int (nI i)), (3, .long v)]) (st2 := [.int v.toInt32.toInt8.toInt32, .int (nI ((40 * k) + i)), .ref 124]) (w3 := w) rfl rfl ?_
    refine sx_RP.step (pc2 := 25) (ls2 := [(0, .ref 111), (1, .int (nI k)), (2, .int (nI i)), (3, .long v)]) (st2 := [.long v.toInt32.toInt8.toInt32.toInt64, .int (nI ((40 * k) + i)), .ref 124]) (w3 := w) rfl rfl ?_
    refine sx_RP.step (pc2 := 47) (ls2 := [(0, .ref 111), (1, .int (nI k)), (2, .int (nI i)), (3, .long v)]) (st2 := [.long v.toInt32.toInt8.toInt32.toInt64, .int (nI ((40 * k) + i)), .ref 124]) (w3 := w) rfl rfl ?_
    refine sx_RP.mN hI hE rfl hI.1.a124 (sx_in_nI (show ((40 * k) + i) < 160 by omega) (by decide)) (by decide) (show _ = 48 from rfl) (fun w11 hI12 hE13 hk14 => ?_)
    refine sx_RP.ret (r := none) rfl rfl ?_
    exact ⟨rfl, hI12, hE13⟩
set_option maxRecDepth 20000 in
set_option maxHeartbeats 4000000 in
theorem s232 {xs : Option (List Int32)} {d : Nat} {w : List sx_C} (hI : WI w) (a1 a2 : Int32) (v : Int64) : sx_RP xs (d + 7) 232 0 (lv_args 0 [.ref 111, .int a1, .int a2, .long v]) [] w (fun r w2 => (∃ v : Int64, r = some (.long v)) ∧ WI w2 ∧ EM w w2) := by
  have hE : EM w w := EM.rf
  refine sx_RP.step (pc2 := 1) (ls2 := [(0, .ref 111), (1, .int a1), (2, .int a2), (3, .long v)]) (st2 := [.int a1]) (w3 := w) rfl rfl ?_
  rcases in_cases a1 0 3 (m := 0) (n := 3) rfl rfl (by decide) (by decide) with q1 | ⟨x2, hx3, hx4, rfl⟩
  · refine sx_RP.cu (as := [.int a1]) (rest2 := []) (st3 := [.int 0]) rfl rfl rfl rfl rfl (cx_231n q1) rfl ?_
    refine sx_RP.step (pc2 := 7) (ls2 := [(0, .ref 111), (1, .int a1), (2, .int a2), (3, .long v)]) (st2 := []) (w3 := w) rfl rfl ?_
    refine sx_RP.step (pc2 := 8) (ls2 := [(0, .ref 111), (1, .int a1), (2, .int a2), (3, .long v)]) (st2 := [.ref 111]) (w3 := w) rfl rfl ?_
    refine sx_RP.step (pc2 := 9) (ls2 := [(0, .ref 111), (1, .int a1), (2, .int a2), (3, .long v)]) (st2 := [.int 0, .ref 111]) (w3 := w) rfl rfl ?_
    refine sx_RP.callp (as2 := [.ref 111, .int 0]) (rest2 := []) rfl rfl (sx_inv_v2 (mi := 232) (k := 70) (st := [.int 0, .ref 111]) (w := w) rfl rfl hI.1.o111 rfl rfl rfl) rfl rfl rfl (s133_0 hI) (show _ = 12 from rfl) ?_
    rintro r4 w6 ⟨rfl, hI7, hE9⟩
    have hE8 := hE.tr (hE9)
    show sx_RP _ _ _ _ _ [.int (-1000000001)] _ _
    refine sx_RP.step (pc2 := 13) (ls2 := [(0, .ref 111), (1, .int a1), (2, .int a2), (3, .long v)]) (st2 := [.long (-1000000001)]) (w3 := w6) rfl rfl ?_
    refine sx_RP.ret (r := (some (.long (-1000000001)))) rfl rfl ?_
    exact ⟨⟨_, rfl⟩, hI7, hE8⟩
  · refine sx_RP.cu (as := [.int (nI x2)]) (rest2 := []) (st3 := [.int 1]) rfl rfl rfl rfl rfl (cx_231p ⟨nI_le (a := 0) hx3 (by omega), nI_le (b := 3) hx4 (by decide)⟩) rfl ?_
    refine sx_RP.step (pc2 := 14) (ls2 := [(0, .ref 111), (1, .int (nI x2)), (2, .int a2), (3, .long v)]) (st2 := []) (w3 := w) rfl rfl ?_
    refine sx_RP.step (pc2 := 15) (ls2 := [(0, .ref 111), (1, .int (nI x2)), (2, .int a2), (3, .long v)]) (st2 := [.ref 111]) (w3 := w) rfl rfl ?_
    refine sx_RP.gf (v := .ref 122) rfl rfl hI.1.o111 rfl rfl (show _ = 18 from rfl) ?_
    refine sx_RP.step (pc2 := 19) (ls2 := [(0, .ref 111), (1, .int (nI x2)), (2, .int a2), (3, .long v)]) (st2 := [.int (nI x2), .ref 122]) (w3 := w) rfl rfl ?_
    refine sx_RP.ild (c := x2) rfl hI.1.a122.1 hI.1.a122.2 (sx_in_nI (show x2 < 4 by omega) (by decide)) (show (nI x2).toNatClampNeg = x2 from nI_clamp (by omega)) (show _ = 20 from rfl) ?_
    refine sx_RP.br (p1 := 30) (l1 := [(0, .ref 111), (1, .int (nI x2)), (2, .int a2), (3, .long v)]) (s1 := []) (v1 := w) (p2 := 23) (l2 := [(0, .ref 111), (1, .int (nI x2)), (2, .int a2), (3, .long v)]) (s2 := []) (v2 := w) rfl rfl (fun q10 => ?_) (fun q10 => ?_)
    · replace q10 := of_decide_eq_true q10
      refine sx_RP.step (pc2 := 31) (ls2 := [(0, .ref 111), (1, .int (nI x2)), (2, .int a2), (3, .long v)]) (st2 := [.int a2]) (w3 := w) rfl rfl ?_
      refine sx_RP.step (pc2 := 32) (ls2 := [(0, .ref 111), (1, .int (nI x2)), (2, .int a2), (3, .long v)]) (st2 := [.int 0, .int a2]) (w3 := w) rfl rfl ?_
      refine sx_RP.step (pc2 := 33) (ls2 := [(0, .ref 111), (1, .int (nI x2)), (2, .int a2), (3, .long v)]) (st2 := [.ref 111, .int 0, .int a2]) (w3 := w) rfl rfl ?_
      refine sx_RP.gf (v := .ref 123) rfl rfl hI.1.o111 rfl rfl (show _ = 36 from rfl) ?_
      refine sx_RP.step (pc2 := 37) (ls2 := [(0, .ref 111), (1, .int (nI x2)), (2, .int a2), (3, .long v)]) (st2 := [.int (nI x2), .ref 123, .int 0, .int a2]) (w3 := w) rfl rfl ?_
      refine sx_RP.ild (c := x2) rfl hI.1.a123.1 hI.1.a123.2 (sx_in_nI (show x2 < 4 by omega) (by decide)) (show (nI x2).toNatClampNeg = x2 from nI_clamp (by omega)) (show _ = 38 from rfl) ?_
      obtain ⟨x11, hx12, ex13⟩ : inR ((ia w 123).getD x2 0) 40 := hI.l (show x2 < 4 by omega)
      rw [ex13]
      refine sx_RP.step (pc2 := 39) (ls2 := [(0, .ref 111), (1, .int (nI x2)), (2, .int a2), (3, .long v)]) (st2 := [.int 1, .int (nI x11), .int 0, .int a2]) (w3 := w) rfl rfl ?_
      refine sx_RP.step (pc2 := 40) (ls2 := [(0, .ref 111), (1, .int (nI x2)), (2, .int a2), (3, .long v)]) (st2 := [.int ((nI x11) - 1), .int 0, .int a2]) (w3 := w) rfl rfl ?_
      rcases in_casesS a2 (n := x11) (by omega) with q14 | ⟨q14, x15, hx16, rfl⟩
      · refine sx_RP.cu (as := [.int a2, .int 0, .int ((nI x11) - 1)]) (rest2 := []) (st3 := [.int 0]) rfl rfl rfl rfl rfl (cx_132o q14) rfl ?_
        refine sx_RP.step (pc2 := 46) (ls2 := [(0, .ref 111), (1, .int (nI x2)), (2, .int a2), (3, .long v)]) (st2 := []) (w3 := w) rfl rfl ?_
        refine sx_RP.step (pc2 := 47) (ls2 := [(0, .ref 111), (1, .int (nI x2)), (2, .int a2), (3, .long v)]) (st2 := [.ref 111]) (w3 := w) rfl rfl ?_
        refine sx_RP.step (pc2 := 48) (ls2 := [(0, .ref 111), (1, .int (nI x2)), (2, .int a2), (3, .long v)]) (st2 := [.int 0, .ref 111]) (w3 := w) rfl rfl ?_
        refine sx_RP.callp (as2 := [.ref 111, .int 0]) (rest2 := []) rfl rfl (sx_inv_v2 (mi := 232) (k := 70) (st := [.int 0, .ref 111]) (w := w) rfl rfl hI.1.o111 rfl rfl rfl) rfl rfl rfl (s133_0 hI) (show _ = 51 from rfl) ?_
        rintro r4 w18 ⟨rfl, hI19, hE21⟩
        have hE20 := hE.tr (hE21)
        show sx_RP _ _ _ _ _ [.int (-1000000001)] _ _
        refine sx_RP.step (pc2 := 52) (ls2 := [(0, .ref 111), (1, .int (nI x2)), (2, .int a2), (3, .long v)]) (st2 := [.long (-1000000001)]) (w3 := w18) rfl rfl ?_
        refine sx_RP.ret (r := (some (.long (-1000000001)))) rfl rfl ?_
        exact ⟨⟨_, rfl⟩, hI19, hE20⟩
      · refine sx_RP.cu (as := [.int (nI x15), .int 0, .int ((nI x11) - 1)]) (rest2 := []) (st3 := [.int 1]) rfl rfl rfl rfl rfl (cx_132p q14) rfl ?_
        refine sx_RP.step (pc2 := 53) (ls2 := [(0, .ref 111), (1, .int (nI x2)), (2, .int (nI x15)), (3, .long v)]) (st2 := []) (w3 := w) rfl rfl ?_
        refine sx_RP.step (pc2 := 54) (ls2 := [(0, .ref 111), (1, .int (nI x2)), (2, .int (nI x15)), (3, .long v)]) (st2 := [.ref 111]) (w3 := w) rfl rfl ?_
        refine sx_RP.gf (v := .ref 124) rfl rfl hI.1.o111 rfl rfl (show _ = 57 from rfl) ?_
        refine sx_RP.step (pc2 := 59) (ls2 := [(0, .ref 111), (1, .int (nI x2)), (2, .int (nI x15)), (3, .long v)]) (st2 := [.int 40, .ref 124]) (w3 := w) rfl rfl ?_
        refine sx_RP.step (pc2 := 60) (ls2 := [(0, .ref 111), (1, .int (nI x2)), (2, .int (nI x15)), (3, .long v)]) (st2 := [.int (nI x2), .int 40, .ref 124]) (w3 := w) rfl rfl ?_
        refine sx_RP.step (pc2 := 61) (ls2 := [(0, .ref 111), (1, .int (nI x2)), (2, .int (nI x15)), (3, .long v)]) (st2 := [.int (40 * (nI x2)), .ref 124]) (w3 := w) rfl rfl ?_
        rw [show (40 * (nI x2) : Int32) = nI (40 * x2) from nI_mul 40 x2]
        refine sx_RP.step (pc2 := 62) (ls2 := [(0, .ref 111), (1, .int (nI x2)), (2, .int (nI x15)), (3, .long v)]) (st2 := [.int (nI x15), .int (nI (40 * x2)), .ref 124]) (w3 := w) rfl rfl ?_
        refine sx_RP.step (pc2 := 63) (ls2 := [(0, .ref 111), (1, .int (nI x2)), (2, .int (nI x15)), (3, .long v)]) (st2 := [.int ((nI (40 * x2)) + (nI x15)), .ref 124]) (w3 := w) rfl rfl ?_
        rw [show ((nI (40 * x2)) + (nI x15) : Int32) = nI ((40 * x2) + x15) from nI_add (40 * x2) x15]
        refine sx_RP.lld (c := ((40 * x2) + x15)) rfl hI.1.a124.1 hI.1.a124.2 (sx_in_nI (show ((40 * x2) + x15) < 160 by omega) (by decide)) (show (nI ((40 * x2) + x15)).toNatClampNeg = ((40 * x2) + x15) from nI_clamp (by omega)) (show _ = 64 from rfl) ?_
        refine sx_RP.step (pc2 := 66) (ls2 := [(5, .long ((ja w 124).getD ((40 * x2) + x15) 0)), (0, .ref 111), (1, .int (nI x2)), (2, .int (nI x15)), (3, .long v)]) (st2 := []) (w3 := w) rfl rfl ?_
        refine sx_RP.step (pc2 := 67) (ls2 := [(5, .long ((ja w 124).getD ((40 * x2) + x15) 0)), (0, .ref 111), (1, .int (nI x2)), (2, .int (nI x15)), (3, .long v)]) (st2 := [.ref 111]) (w3 := w) rfl rfl ?_
        refine sx_RP.step (pc2 := 68) (ls2 := [(5, .long ((ja w 124).getD ((40 * x2) + x15) 0)), (0, .ref 111), (1, .int (nI x2)), (2, .int (nI x15)), (3, .long v)]) (st2 := [.int (nI x2), .ref 111]) (w3 := w) rfl rfl ?_
        refine sx_RP.step (pc2 := 69) (ls2 := [(5, .long ((ja w 124).getD ((40 * x2) + x15) 0)), (0, .ref 111), (1, .int (nI x2)), (2, .int (nI x15)), (3, .long v)]) (st2 := [.int (nI x15), .int (nI x2), .ref 111]) (w3 := w) rfl rfl ?_
        refine sx_RP.step (pc2 := 70) (ls2 := [(5, .long ((ja w 124).getD ((40 * x2) + x15) 0)), (0, .ref 111), (1, .int (nI x2)), (2, .int (nI x15)), (3, .long v)]) (st2 := [.long v, .int (nI x15), .int (nI x2), .ref 111]) (w3 := w) rfl rfl ?_
        refine sx_RP.callp (as2 := [.ref 111, .int (nI x2), .int (nI x15), .long v]) (rest2 := []) rfl rfl (sx_inv_v2 (mi := 232) (k := 339) (st := [.long v, .int (nI x15), .int (nI x2), .ref 111]) (w := w) rfl rfl hI.1.o111 rfl rfl rfl) rfl rfl rfl (s233 hI (show x2 < 4 by omega) (show x15 < 40 by omega) v) (show _ = 73 from rfl) ?_
        rintro r4 w22 ⟨rfl, hI23, hE25⟩
        have hE24 := hE.tr (hE25)
        show sx_RP _ _ _ _ _ [] _ _
        refine sx_RP.step (pc2 := 75) (ls2 := [(5, .long ((ja w 124).getD ((40 * x2) + x15) 0)), (0, .ref 111), (1, .int (nI x2)), (2, .int (nI x15)), (3, .long v)]) (st2 := [.long ((ja w 124).getD ((40 * x2) + x15) 0)]) (w3 := w22) rfl rfl ?_
        refine sx_RP.ret (r := (some (.long ((ja w 124).getD ((40 * x2) + x15) 0)))) rfl rfl ?_
        exact ⟨⟨_, rfl⟩, hI23, hE24⟩
    · replace q10 := Decidable.not_not.mp (of_decide_eq_false q10)
      refine sx_RP.step (pc2 := 24) (ls2 := [(0, .ref 111), (1, .int (nI x2)), (2, .int a2), (3, .long v)]) (st2 := [.ref 111]) (w3 := w) rfl rfl ?_
      refine sx_RP.step (pc2 := 25) (ls2 := [(0, .ref 111), (1, .int (nI x2)), (2, .int a2), (3, .long v)]) (st2 := [.int 5, .ref 111]) (w3 := w) rfl rfl ?_
      refine sx_RP.callp (as2 := [.ref 111, .int 5]) (rest2 := []) rfl rfl (sx_inv_v2 (mi := 232) (k := 70) (st := [.int 5, .ref 111]) (w := w) rfl rfl hI.1.o111 rfl rfl rfl) rfl rfl rfl (s133_5 hI) (show _ = 28 from rfl) ?_
      rintro r4 w26 ⟨rfl, hI27, hE29⟩
      have hE28 := hE.tr (hE29)
      show sx_RP _ _ _ _ _ [.int (-1000000006)] _ _
      refine sx_RP.step (pc2 := 29) (ls2 := [(0, .ref 111), (1, .int (nI x2)), (2, .int a2), (3, .long v)]) (st2 := [.long (-1000000006)]) (w3 := w26) rfl rfl ?_
      refine sx_RP.ret (r := (some (.long (-1000000006)))) rfl rfl ?_
      exact ⟨⟨_, rfl⟩, hI27, hE28⟩
