-- 61.pubM.lean.txt
section
-- safety: the reference, more
set_option maxRecDepth 20000 in
set_option maxHeartbeats 4000000 in
theorem s176B {xs : Option (List Int32)} {d : Nat} {w w0 : List sx_C} {g : Nat} (hg : g < 10) (hI : WI w) (hE : EM w0 w) {j : Nat} (hj : j ≤ 100) (kk : ∀ (w4 : List sx_C), WI w4 → EM w0 w4 → j + 1 ≤ 100 → sx_RP xs (d + 7) 176 50 [(0, .ref 111), (1, .int (nI g)), (2, .int (nI (j + 1)))] [] w4 (fun r w2 => (∃ v : Int32, r = some (.int v)) ∧ WI w2 ∧ EM w0 w2)) : sx_RP xs (d + 7) 176 50 [(0, .ref 111), (1, .int (nI g)), (2, .int (nI j))] [] w (fun r w2 => (∃ v : Int32, r = some (.int v)) ∧ WI w2 ∧ EM w0 w2) := by
  refine sx_RP.step (pc2 := 51) (ls2 := [(0, .ref 111), (1, .int (nI g)), (2, .int (nI j))]) (st2 := [.int (nI j)]) (w3 := w) rfl rfl ?_
  refine sx_RP.step (pc2 := 53) (ls2 := [(0, .ref 111), (1, .int (nI g)), (2, .int (nI j))]) (st2 := [.int 99, .int (nI j)]) (w3 := w) rfl rfl ?_
  refine sx_RP.br (p1 := 74) (l1 := [(0, .ref 111), (1, .int (nI g)), (2, .int (nI j))]) (s1 := []) (v1 := w) (p2 := 56) (l2 := [(0, .ref 111), (1, .int (nI g)), (2, .int (nI j))]) (s2 := []) (v2 := w) rfl rfl (fun q1 => ?_) (fun q1 => ?_)
  · replace q1 := of_decide_eq_true q1
    replace q1 := (nI_ltI (a := 99) (b := j) (by omega) (by omega)).mp q1
    refine sx_RP.step (pc2 := 75) (ls2 := [(0, .ref 111), (1, .int (nI g)), (2, .int (nI j))]) (st2 := [.ref 111]) (w3 := w) rfl rfl ?_
    refine sx_RP.gf (v := .ref 114) rfl rfl hI.1.o111 rfl rfl (show _ = 78 from rfl) ?_
    refine sx_RP.step (pc2 := 79) (ls2 := [(0, .ref 111), (1, .int (nI g)), (2, .int (nI j))]) (st2 := [.ref 111, .ref 114]) (w3 := w) rfl rfl ?_
    refine sx_RP.gf (v := .ref 112) rfl rfl hI.1.o111 rfl rfl (show _ = 82 from rfl) ?_
    refine sx_RP.callp (as2 := [.ref 114, .ref 112]) (rest2 := []) rfl rfl rfl rfl rfl rfl (s175 hI (a := 114) (b := 112) (by decide) (by decide)) (show _ = 85 from rfl) ?_
    rintro r4 w2 ⟨rfl, hI3, hE5⟩
    have hE4 := hE.tr (hE5)
    show sx_RP _ _ _ _ _ [] _ _
    refine sx_RP.step (pc2 := 86) (ls2 := [(0, .ref 111), (1, .int (nI g)), (2, .int (nI j))]) (st2 := [.int (nI j)]) (w3 := w2) rfl rfl ?_
    refine sx_RP.step (pc2 := 88) (ls2 := [(0, .ref 111), (1, .int (nI g)), (2, .int (nI j))]) (st2 := [.int 99, .int (nI j)]) (w3 := w2) rfl rfl ?_
    refine sx_RP.br (p1 := 95) (l1 := [(0, .ref 111), (1, .int (nI g)), (2, .int (nI j))]) (s1 := []) (v1 := w2) (p2 := 91) (l2 := [(0, .ref 111), (1, .int (nI g)), (2, .int (nI j))]) (s2 := []) (v2 := w2) rfl rfl (fun q6 => ?_) (fun q6 => ?_)
    · replace q6 := of_decide_eq_true q6
      replace q6 := (nI_ltI (a := 99) (b := j) (by omega) (by omega)).mp q6
      refine sx_RP.step (pc2 := 96) (ls2 := [(0, .ref 111), (1, .int (nI g)), (2, .int (nI j))]) (st2 := [.ref 111]) (w3 := w2) rfl rfl ?_
      refine sx_RP.step (pc2 := 97) (ls2 := [(0, .ref 111), (1, .int (nI g)), (2, .int (nI j))]) (st2 := [.int 3, .ref 111]) (w3 := w2) rfl rfl ?_
      refine sx_RP.callp (as2 := [.ref 111, .int 3]) (rest2 := []) rfl rfl (sx_inv_v2 (mi := 176) (k := 70) (st := [.int 3, .ref 111]) (w := w2) rfl rfl hI3.1.o111 rfl rfl rfl) rfl rfl rfl (s133_3 hI3) (show _ = 100 from rfl) ?_
      rintro r4 w7 ⟨rfl, hI8, hE10⟩
      have hE9 := hE4.tr (hE10)
      show sx_RP _ _ _ _ _ [.int (-1000000004)] _ _
      refine sx_RP.ret (r := (some (.int (-1000000004)))) rfl rfl ?_
      exact ⟨⟨_, rfl⟩, hI8, hE9⟩
    · replace q6 := of_decide_eq_false q6
      replace q6 := mt (nI_ltI (a := 99) (b := j) (by omega) (by omega)).mpr q6
      refine sx_RP.step (pc2 := 92) (ls2 := [(0, .ref 111), (1, .int (nI g)), (2, .int (nI j))]) (st2 := [.int (nI j)]) (w3 := w2) rfl rfl ?_
      refine sx_RP.step (pc2 := 100) (ls2 := [(0, .ref 111), (1, .int (nI g)), (2, .int (nI j))]) (st2 := [.int (nI j)]) (w3 := w2) rfl rfl ?_
      refine sx_RP.ret (r := (some (.int (nI j)))) rfl rfl ?_
      exact ⟨⟨_, rfl⟩, hI3, hE4⟩
  · replace q1 := of_decide_eq_false q1
    replace q1 := mt (nI_ltI (a := 99) (b := j) (by omega) (by omega)).mpr q1
    refine sx_RP.step (pc2 := 57) (ls2 := [(0, .ref 111), (1, .int (nI g)), (2, .int (nI j))]) (st2 := [.ref 111]) (w3 := w) rfl rfl ?_
    refine sx_RP.step (pc2 := 58) (ls2 := [(0, .ref 111), (1, .int (nI g)), (2, .int (nI j))]) (st2 := [.int (nI g), .ref 111]) (w3 := w) rfl rfl ?_
    obtain ⟨x11, hx12, c13⟩ := p137 hI (show g < 10 by omega)
    refine sx_RP.cu (as := [.ref 111, .int (nI g)]) (rest2 := []) (st3 := [.int (nI x11)]) rfl rfl (sx_inv_v2 (mi := 176) (k := 74) (st := [.int (nI g), .ref 111]) (w := w) rfl rfl hI.1.o111 rfl rfl rfl) rfl rfl (c13) rfl ?_
    refine sx_RP.br (p1 := 74) (l1 := [(0, .ref 111), (1, .int (nI g)), (2, .int (nI j))]) (s1 := []) (v1 := w) (p2 := 64) (l2 := [(0, .ref 111), (1, .int (nI g)), (2, .int (nI j))]) (s2 := []) (v2 := w) rfl rfl (fun q14 => ?_) (fun q14 => ?_)
    · replace q14 := of_decide_eq_true q14
      replace q14 := (nI_eq (a := x11) (b := 0) (by omega) (by omega)).mp q14
      refine sx_RP.step (pc2 := 75) (ls2 := [(0, .ref 111), (1, .int (nI g)), (2, .int (nI j))]) (st2 := [.ref 111]) (w3 := w) rfl rfl ?_
      refine sx_RP.gf (v := .ref 114) rfl rfl hI.1.o111 rfl rfl (show _ = 78 from rfl) ?_
      refine sx_RP.step (pc2 := 79) (ls2 := [(0, .ref 111), (1, .int (nI g)), (2, .int (nI j))]) (st2 := [.ref 111, .ref 114]) (w3 := w) rfl rfl ?_
      refine sx_RP.gf (v := .ref 112) rfl rfl hI.1.o111 rfl rfl (show _ = 82 from rfl) ?_
      refine sx_RP.callp (as2 := [.ref 114, .ref 112]) (rest2 := []) rfl rfl rfl rfl rfl rfl (s175 hI (a := 114) (b := 112) (by decide) (by decide)) (show _ = 85 from rfl) ?_
      rintro r4 w15 ⟨rfl, hI16, hE18⟩
      have hE17 := hE.tr (hE18)
      show sx_RP _ _ _ _ _ [] _ _
      refine sx_RP.step (pc2 := 86) (ls2 := [(0, .ref 111), (1, .int (nI g)), (2, .int (nI j))]) (st2 := [.int (nI j)]) (w3 := w15) rfl rfl ?_
      refine sx_RP.step (pc2 := 88) (ls2 := [(0, .ref 111), (1, .int (nI g)), (2, .int (nI j))]) (st2 := [.int 99, .int (nI j)]) (w3 := w15) rfl rfl ?_
      refine sx_RP.br (p1 := 95) (l1 := [(0, .ref 111), (1, .int (nI g)), (2, .int (nI j))]) (s1 := []) (v1 := w15) (p2 := 91) (l2 := [(0, .ref 111), (1, .int (nI g)), (2, .int (nI j))]) (s2 := []) (v2 := w15) rfl rfl (fun q19 => ?_) (fun q19 => ?_)
      · replace q19 := of_decide_eq_true q19
        replace q19 := (nI_ltI (a := 99) (b := j) (by omega) (by omega)).mp q19
        refine sx_RP.step (pc2 := 96) (ls2 := [(0, .ref 111), (1, .int (nI g)), (2, .int (nI j))]) (st2 := [.ref 111]) (w3 := w15) rfl rfl ?_
        refine sx_RP.step (pc2 := 97) (ls2 := [(0, .ref 111), (1, .int (nI g)), (2, .int (nI j))]) (st2 := [.int 3, .ref 111]) (w3 := w15) rfl rfl ?_
        refine sx_RP.callp (as2 := [.ref 111, .int 3]) (rest2 := []) rfl rfl (sx_inv_v2 (mi := 176) (k := 70) (st := [.int 3, .ref 111]) (w := w15) rfl rfl hI16.1.o111 rfl rfl rfl) rfl rfl rfl (s133_3 hI16) (show _ = 100 from rfl) ?_
        rintro r4 w20 ⟨rfl, hI21, hE23⟩
        have hE22 := hE17.tr (hE23)
        show sx_RP _ _ _ _ _ [.int (-1000000004)] _ _
        refine sx_RP.ret (r := (some (.int (-1000000004)))) rfl rfl ?_
        exact ⟨⟨_, rfl⟩, hI21, hE22⟩
      · replace q19 := of_decide_eq_false q19
        replace q19 := mt (nI_ltI (a := 99) (b := j) (by omega) (by omega)).mpr q19
        refine sx_RP.step (pc2 := 92) (ls2 := [(0, .ref 111), (1, .int (nI g)), (2, .int (nI j))]) (st2 := [.int (nI j)]) (w3 := w15) rfl rfl ?_
        refine sx_RP.step (pc2 := 100) (ls2 := [(0, .ref 111), (1, .int (nI g)), (2, .int (nI j))]) (st2 := [.int (nI j)]) (w3 := w15) rfl rfl ?_
        refine sx_RP.ret (r := (some (.int (nI j)))) rfl rfl ?_
        exact ⟨⟨_, rfl⟩, hI16, hE17⟩
    · replace q14 := of_decide_eq_false q14
      replace q14 := mt (nI_eq (a := x11) (b := 0) (by omega) (by omega)).mpr q14
      refine sx_RP.step (pc2 := 65) (ls2 := [(0, .ref 111), (1, .int (nI g)), (2, .int (nI j))]) (st2 := [.ref 111]) (w3 := w) rfl rfl ?_
      refine sx_RP.callp (as2 := [.ref 111]) (rest2 := []) rfl rfl (sx_inv_v2 (mi := 176) (k := 143) (st := [.ref 111]) (w := w) rfl rfl hI.1.o111 rfl rfl rfl) rfl rfl rfl (s169 hI ) (show _ = 68 from rfl) ?_
      rintro r4 w24 ⟨rfl, hI25, hE27⟩
      have hE26 := hE.tr (hE27)
      show sx_RP _ _ _ _ _ [] _ _
      refine sx_RP.step (pc2 := 71) (ls2 := [(2, .int ((nI j) + 1)), (0, .ref 111), (1, .int (nI g))]) (st2 := []) (w3 := w24) rfl rfl ?_
      rw [nI_1 j]
      refine sx_RP.step (pc2 := 50) (ls2 := [(2, .int (nI (j + 1))), (0, .ref 111), (1, .int (nI g))]) (st2 := []) (w3 := w24) rfl rfl ?_
      exact sx_RP.ls (sx_lr.cons rfl (sx_lr.cons rfl (sx_lr.cons rfl sx_lr.nil))) (kk w24 hI25 hE26 (by omega))
set_option maxRecDepth 20000 in
set_option maxHeartbeats 4000000 in
theorem s176L {xs : Option (List Int32)} {d : Nat} {w0 : List sx_C} {g : Nat} (hg : g < 10) : ∀ (fz j : Nat) (w : List sx_C) , 100 ≤ j + fz * 1 → j ≤ 100 → WI w → EM w0 w → sx_RP xs (d + 7) 176 50 [(0, .ref 111), (1, .int (nI g)), (2, .int (nI j))] [] w (fun r w2 => (∃ v : Int32, r = some (.int v)) ∧ WI w2 ∧ EM w0 w2)
  | 0, j, w, h, hj, hI, hE => s176B hg hI hE hj   (fun w4  hI4 hE4 hlt  => absurd hlt (by omega)) 
  | fz + 1, j, w, h, hj, hI, hE => s176B hg hI hE hj   (fun w4  hI4 hE4 hlt  => s176L hg  fz (j + 1) w4  (by omega) hlt hI4 hE4 ) 
set_option maxRecDepth 20000 in
set_option maxHeartbeats 4000000 in
theorem s176 {xs : Option (List Int32)} {d : Nat} {w : List sx_C} (hI : WI w) (a1 : Int32) : sx_RP xs (d + 7) 176 0 (lv_args 0 [.ref 111, .int a1]) [] w (fun r w2 => (∃ v : Int32, r = some (.int v)) ∧ WI w2 ∧ EM w w2) := by
  have hE : EM w w := EM.rf
  refine sx_RP.step (pc2 := 1) (ls2 := [(0, .ref 111), (1, .int a1)]) (st2 := [.ref 111]) (w3 := w) rfl rfl ?_
  refine sx_RP.step (pc2 := 2) (ls2 := [(0, .ref 111), (1, .int a1)]) (st2 := [.int a1, .ref 111]) (w3 := w) rfl rfl ?_
  rcases p156 (xs := xs) hI a1 with c2 | ⟨⟨x3, hx4, rfl⟩, c2⟩
  · refine sx_RP.cu (as := [.ref 111, .int a1]) (rest2 := []) (st3 := [.int 0]) rfl rfl (sx_inv_v2 (mi := 176) (k := 124) (st := [.int a1, .ref 111]) (w := w) rfl rfl hI.1.o111 rfl rfl rfl) rfl rfl (c2) rfl ?_
    refine sx_RP.step (pc2 := 8) (ls2 := [(0, .ref 111), (1, .int a1)]) (st2 := []) (w3 := w) rfl rfl ?_
    refine sx_RP.step (pc2 := 9) (ls2 := [(0, .ref 111), (1, .int a1)]) (st2 := [.ref 111]) (w3 := w) rfl rfl ?_
    refine sx_RP.step (pc2 := 10) (ls2 := [(0, .ref 111), (1, .int a1)]) (st2 := [.int 0, .ref 111]) (w3 := w) rfl rfl ?_
    refine sx_RP.callp (as2 := [.ref 111, .int 0]) (rest2 := []) rfl rfl (sx_inv_v2 (mi := 176) (k := 70) (st := [.int 0, .ref 111]) (w := w) rfl rfl hI.1.o111 rfl rfl rfl) rfl rfl rfl (s133_0 hI) (show _ = 13 from rfl) ?_
    rintro r4 w6 ⟨rfl, hI7, hE9⟩
    have hE8 := hE.tr (hE9)
    show sx_RP _ _ _ _ _ [.int (-1000000001)] _ _
    refine sx_RP.ret (r := (some (.int (-1000000001)))) rfl rfl ?_
    exact ⟨⟨_, rfl⟩, hI7, hE8⟩
  · refine sx_RP.cu (as := [.ref 111, .int (nI x3)]) (rest2 := []) (st3 := [.int 1]) rfl rfl (sx_inv_v2 (mi := 176) (k := 124) (st := [.int (nI x3), .ref 111]) (w := w) rfl rfl hI.1.o111 rfl rfl rfl) rfl rfl (c2) rfl ?_
    refine sx_RP.step (pc2 := 14) (ls2 := [(0, .ref 111), (1, .int (nI x3))]) (st2 := []) (w3 := w) rfl rfl ?_
    refine sx_RP.step (pc2 := 15) (ls2 := [(0, .ref 111), (1, .int (nI x3))]) (st2 := [.ref 111]) (w3 := w) rfl rfl ?_
    refine sx_RP.step (pc2 := 16) (ls2 := [(0, .ref 111), (1, .int (nI x3))]) (st2 := [.int (nI x3), .ref 111]) (w3 := w) rfl rfl ?_
    obtain ⟨x10, hx11, c12⟩ := p137 hI (show x3 < 10 by omega)
    refine sx_RP.cu (as := [.ref 111, .int (nI x3)]) (rest2 := []) (st3 := [.int (nI x10)]) rfl rfl (sx_inv_v2 (mi := 176) (k := 74) (st := [.int (nI x3), .ref 111]) (w := w) rfl rfl hI.1.o111 rfl rfl rfl) rfl rfl (c12) rfl ?_
    refine sx_RP.br (p1 := 31) (l1 := [(0, .ref 111), (1, .int (nI x3))]) (s1 := []) (v1 := w) (p2 := 22) (l2 := [(0, .ref 111), (1, .int (nI x3))]) (s2 := []) (v2 := w) rfl rfl (fun q13 => ?_) (fun q13 => ?_)
    · replace q13 := of_decide_eq_true q13
      replace q13 := (nI_eq (a := x10) (b := 0) (by omega) (by omega)).mp q13
      refine sx_RP.step (pc2 := 32) (ls2 := [(0, .ref 111), (1, .int (nI x3))]) (st2 := [.ref 111]) (w3 := w) rfl rfl ?_
      refine sx_RP.step (pc2 := 33) (ls2 := [(0, .ref 111), (1, .int (nI x3))]) (st2 := [.int 4, .ref 111]) (w3 := w) rfl rfl ?_
      refine sx_RP.callp (as2 := [.ref 111, .int 4]) (rest2 := []) rfl rfl (sx_inv_v2 (mi := 176) (k := 70) (st := [.int 4, .ref 111]) (w := w) rfl rfl hI.1.o111 rfl rfl rfl) rfl rfl rfl (s133_4 hI) (show _ = 36 from rfl) ?_
      rintro r4 w14 ⟨rfl, hI15, hE17⟩
      have hE16 := hE.tr (hE17)
      show sx_RP _ _ _ _ _ [.int (-1000000005)] _ _
      refine sx_RP.ret (r := (some (.int (-1000000005)))) rfl rfl ?_
      exact ⟨⟨_, rfl⟩, hI15, hE16⟩
    · replace q13 := of_decide_eq_false q13
      replace q13 := mt (nI_eq (a := x10) (b := 0) (by omega) (by omega)).mpr q13
      refine sx_RP.step (pc2 := 23) (ls2 := [(0, .ref 111), (1, .int (nI x3))]) (st2 := [.ref 111]) (w3 := w) rfl rfl ?_
      refine sx_RP.step (pc2 := 25) (ls2 := [(0, .ref 111), (1, .int (nI x3))]) (st2 := [.int 99, .ref 111]) (w3 := w) rfl rfl ?_
      obtain ⟨x18, hx19, c20⟩ := p165 hI 99
      refine sx_RP.cu (as := [.ref 111, .int 99]) (rest2 := []) (st3 := [.int (nI x18)]) rfl rfl (sx_inv_v2 (mi := 176) (k := 149) (st := [.int 99, .ref 111]) (w := w) rfl rfl hI.1.o111 rfl rfl rfl) rfl rfl (c20) rfl ?_
      refine sx_RP.br (p1 := 37) (l1 := [(0, .ref 111), (1, .int (nI x3))]) (s1 := []) (v1 := w) (p2 := 31) (l2 := [(0, .ref 111), (1, .int (nI x3))]) (s2 := []) (v2 := w) rfl rfl (fun q21 => ?_) (fun q21 => ?_)
      · replace q21 := of_decide_eq_true q21
        replace q21 := (nI_eq (a := x18) (b := 0) (by omega) (by omega)).mp q21
        refine sx_RP.step (pc2 := 38) (ls2 := [(0, .ref 111), (1, .int (nI x3))]) (st2 := [.ref 111]) (w3 := w) rfl rfl ?_
        refine sx_RP.gf (v := .ref 112) rfl rfl hI.1.o111 rfl rfl (show _ = 41 from rfl) ?_
        refine sx_RP.step (pc2 := 42) (ls2 := [(0, .ref 111), (1, .int (nI x3))]) (st2 := [.ref 111, .ref 112]) (w3 := w) rfl rfl ?_
        refine sx_RP.gf (v := .ref 114) rfl rfl hI.1.o111 rfl rfl (show _ = 45 from rfl) ?_
        refine sx_RP.callp (as2 := [.ref 112, .ref 114]) (rest2 := []) rfl rfl rfl rfl rfl rfl (s175 hI (a := 112) (b := 114) (by decide) (by decide)) (show _ = 48 from rfl) ?_
        rintro r4 w22 ⟨rfl, hI23, hE25⟩
        have hE24 := hE.tr (hE25)
        show sx_RP _ _ _ _ _ [] _ _
        refine sx_RP.step (pc2 := 49) (ls2 := [(0, .ref 111), (1, .int (nI x3))]) (st2 := [.int 0]) (w3 := w22) rfl rfl ?_
        refine sx_RP.step (pc2 := 50) (ls2 := [(2, .int 0), (0, .ref 111), (1, .int (nI x3))]) (st2 := []) (w3 := w22) rfl rfl ?_
        exact sx_RP.ls (sx_lr.cons rfl (sx_lr.cons rfl (sx_lr.cons rfl sx_lr.nil))) (s176L (show x3 < 10 by omega) 100 0 w22  (by omega) (by omega) hI23 hE24 )
      · replace q21 := of_decide_eq_false q21
        replace q21 := mt (nI_eq (a := x18) (b := 0) (by omega) (by omega)).mpr q21
        refine sx_RP.step (pc2 := 32) (ls2 := [(0, .ref 111), (1, .int (nI x3))]) (st2 := [.ref 111]) (w3 := w) rfl rfl ?_
        refine sx_RP.step (pc2 := 33) (ls2 := [(0, .ref 111), (1, .int (nI x3))]) (st2 := [.int 4, .ref 111]) (w3 := w) rfl rfl ?_
        refine sx_RP.callp (as2 := [.ref 111, .int 4]) (rest2 := []) rfl rfl (sx_inv_v2 (mi := 176) (k := 70) (st := [.int 4, .ref 111]) (w := w) rfl rfl hI.1.o111 rfl rfl rfl) rfl rfl rfl (s133_4 hI) (show _ = 36 from rfl) ?_
        rintro r4 w26 ⟨rfl, hI27, hE29⟩
        have hE28 := hE.tr (hE29)
        show sx_RP _ _ _ _ _ [.int (-1000000005)] _ _
        refine sx_RP.ret (r := (some (.int (-1000000005)))) rfl rfl ?_
        exact ⟨⟨_, rfl⟩, hI27, hE28⟩
set_option maxRecDepth 20000 in
set_option maxHeartbeats 4000000 in
theorem s177B {xs : Option (List Int32)} {d : Nat} {w w0 : List sx_C} (hI : WI w) (hE : EM w0 w) {j : Nat} (hj : j ≤ 99) (n : Int32) (kk : ∀ (w4 : List sx_C) (un : Int32), WI w4 → EM w0 w4 → j + 1 ≤ 99 → sx_RP xs (d + 7) 177 33 [(0, .ref 111), (2, .int un), (1, .int (nI (j + 1)))] [] w4 (fun r w2 => (∃ v : Int32, r = some (.int v)) ∧ WI w2 ∧ EM w0 w2)) : sx_RP xs (d + 7) 177 33 [(0, .ref 111), (2, .int n), (1, .int (nI j))] [] w (fun r w2 => (∃ v : Int32, r = some (.int v)) ∧ WI w2 ∧ EM w0 w2) := by
  refine sx_RP.step (pc2 := 34) (ls2 := [(0, .ref 111), (2, .int n), (1, .int (nI j))]) (st2 := [.int (nI j)]) (w3 := w) rfl rfl ?_
  refine sx_RP.step (pc2 := 36) (ls2 := [(0, .ref 111), (2, .int n), (1, .int (nI j))]) (st2 := [.int 99, .int (nI j)]) (w3 := w) rfl rfl ?_
  refine sx_RP.br (p1 := 58) (l1 := [(0, .ref 111), (2, .int n), (1, .int (nI j))]) (s1 := []) (v1 := w) (p2 := 39) (l2 := [(0, .ref 111), (2, .int n), (1, .int (nI j))]) (s2 := []) (v2 := w) rfl rfl (fun q1 => ?_) (fun q1 => ?_)
  · replace q1 := of_decide_eq_true q1
    replace q1 := (nI_leI (a := 99) (b := j) (by omega) (by omega)).mp q1
    refine sx_RP.step (pc2 := 59) (ls2 := [(0, .ref 111), (2, .int n), (1, .int (nI j))]) (st2 := [.ref 111]) (w3 := w) rfl rfl ?_
    refine sx_RP.gf (v := .ref 114) rfl rfl hI.1.o111 rfl rfl (show _ = 62 from rfl) ?_
    refine sx_RP.step (pc2 := 63) (ls2 := [(0, .ref 111), (2, .int n), (1, .int (nI j))]) (st2 := [.ref 111, .ref 114]) (w3 := w) rfl rfl ?_
    refine sx_RP.gf (v := .ref 112) rfl rfl hI.1.o111 rfl rfl (show _ = 66 from rfl) ?_
    refine sx_RP.callp (as2 := [.ref 114, .ref 112]) (rest2 := []) rfl rfl rfl rfl rfl rfl (s175 hI (a := 114) (b := 112) (by decide) (by decide)) (show _ = 69 from rfl) ?_
    rintro r4 w2 ⟨rfl, hI3, hE5⟩
    have hE4 := hE.tr (hE5)
    show sx_RP _ _ _ _ _ [] _ _
    refine sx_RP.step (pc2 := 70) (ls2 := [(0, .ref 111), (2, .int n), (1, .int (nI j))]) (st2 := [.int n]) (w3 := w2) rfl rfl ?_
    refine sx_RP.br (p1 := 81) (l1 := [(0, .ref 111), (2, .int n), (1, .int (nI j))]) (s1 := []) (v1 := w2) (p2 := 73) (l2 := [(0, .ref 111), (2, .int n), (1, .int (nI j))]) (s2 := []) (v2 := w2) rfl rfl (fun q6 => ?_) (fun q6 => ?_)
    · replace q6 := of_decide_eq_true q6
      refine sx_RP.step (pc2 := 82) (ls2 := [(0, .ref 111), (2, .int n), (1, .int (nI j))]) (st2 := [.int n]) (w3 := w2) rfl rfl ?_
      refine sx_RP.ret (r := (some (.int n))) rfl rfl ?_
      exact ⟨⟨_, rfl⟩, hI3, hE4⟩
    · replace q6 := of_decide_eq_false q6
      refine sx_RP.step (pc2 := 74) (ls2 := [(0, .ref 111), (2, .int n), (1, .int (nI j))]) (st2 := [.ref 111]) (w3 := w2) rfl rfl ?_
      refine sx_RP.step (pc2 := 75) (ls2 := [(0, .ref 111), (2, .int n), (1, .int (nI j))]) (st2 := [.int 3, .ref 111]) (w3 := w2) rfl rfl ?_
      refine sx_RP.callp (as2 := [.ref 111, .int 3]) (rest2 := []) rfl rfl (sx_inv_v2 (mi := 177) (k := 70) (st := [.int 3, .ref 111]) (w := w2) rfl rfl hI3.1.o111 rfl rfl rfl) rfl rfl rfl (s133_3 hI3) (show _ = 78 from rfl) ?_
      rintro r4 w7 ⟨rfl, hI8, hE10⟩
      have hE9 := hE4.tr (hE10)
      show sx_RP _ _ _ _ _ [.int (-1000000004)] _ _
      refine sx_RP.step (pc2 := 82) (ls2 := [(0, .ref 111), (2, .int n), (1, .int (nI j))]) (st2 := [.int (-1000000004)]) (w3 := w7) rfl rfl ?_
      refine sx_RP.ret (r := (some (.int (-1000000004)))) rfl rfl ?_
      exact ⟨⟨_, rfl⟩, hI8, hE9⟩
  · replace q1 := of_decide_eq_false q1
    replace q1 := mt (nI_leI (a := 99) (b := j) (by omega) (by omega)).mpr q1
    refine sx_RP.step (pc2 := 40) (ls2 := [(0, .ref 111), (2, .int n), (1, .int (nI j))]) (st2 := [.int n]) (w3 := w) rfl rfl ?_
    refine sx_RP.br (p1 := 58) (l1 := [(0, .ref 111), (2, .int n), (1, .int (nI j))]) (s1 := []) (v1 := w) (p2 := 43) (l2 := [(0, .ref 111), (2, .int n), (1, .int (nI j))]) (s2 := []) (v2 := w) rfl rfl (fun q11 => ?_) (fun q11 => ?_)
    · replace q11 := of_decide_eq_true q11
      refine sx_RP.step (pc2 := 59) (ls2 := [(0, .ref 111), (2, .int n), (1, .int (nI j))]) (st2 := [.ref 111]) (w3 := w) rfl rfl ?_
      refine sx_RP.gf (v := .ref 114) rfl rfl hI.1.o111 rfl rfl (show _ = 62 from rfl) ?_
      refine sx_RP.step (pc2 := 63) (ls2 := [(0, .ref 111), (2, .int n), (1, .int (nI j))]) (st2 := [.ref 111, .ref 114]) (w3 := w) rfl rfl ?_
      refine sx_RP.gf (v := .ref 112) rfl rfl hI.1.o111 rfl rfl (show _ = 66 from rfl) ?_
      refine sx_RP.callp (as2 := [.ref 114, .ref 112]) (rest2 := []) rfl rfl rfl rfl rfl rfl (s175 hI (a := 114) (b := 112) (by decide) (by decide)) (show _ = 69 from rfl) ?_
      rintro r4 w12 ⟨rfl, hI13, hE15⟩
      have hE14 := hE.tr (hE15)
      show sx_RP _ _ _ _ _ [] _ _
      refine sx_RP.step (pc2 := 70) (ls2 := [(0, .ref 111), (2, .int n), (1, .int (nI j))]) (st2 := [.int n]) (w3 := w12) rfl rfl ?_
      refine sx_RP.br (p1 := 81) (l1 := [(0, .ref 111), (2, .int n), (1, .int (nI j))]) (s1 := []) (v1 := w12) (p2 := 73) (l2 := [(0, .ref 111), (2, .int n), (1, .int (nI j))]) (s2 := []) (v2 := w12) rfl rfl (fun q16 => ?_) (fun q16 => ?_)
      · replace q16 := of_decide_eq_true q16
        refine sx_RP.step (pc2 := 82) (ls2 := [(0, .ref 111), (2, .int n), (1, .int (nI j))]) (st2 := [.int n]) (w3 := w12) rfl rfl ?_
        refine sx_RP.ret (r := (some (.int n))) rfl rfl ?_
        exact ⟨⟨_, rfl⟩, hI13, hE14⟩
      · replace q16 := of_decide_eq_false q16
        refine sx_RP.step (pc2 := 74) (ls2 := [(0, .ref 111), (2, .int n), (1, .int (nI j))]) (st2 := [.ref 111]) (w3 := w12) rfl rfl ?_
        refine sx_RP.step (pc2 := 75) (ls2 := [(0, .ref 111), (2, .int n), (1, .int (nI j))]) (st2 := [.int 3, .ref 111]) (w3 := w12) rfl rfl ?_
        refine sx_RP.callp (as2 := [.ref 111, .int 3]) (rest2 := []) rfl rfl (sx_inv_v2 (mi := 177) (k := 70) (st := [.int 3, .ref 111]) (w := w12) rfl rfl hI13.1.o111 rfl rfl rfl) rfl rfl rfl (s133_3 hI13) (show _ = 78 from rfl) ?_
        rintro r4 w17 ⟨rfl, hI18, hE20⟩
        have hE19 := hE14.tr (hE20)
        show sx_RP _ _ _ _ _ [.int (-1000000004)] _ _
        refine sx_RP.step (pc2 := 82) (ls2 := [(0, .ref 111), (2, .int n), (1, .int (nI j))]) (st2 := [.int (-1000000004)]) (w3 := w17) rfl rfl ?_
        refine sx_RP.ret (r := (some (.int (-1000000004)))) rfl rfl ?_
        exact ⟨⟨_, rfl⟩, hI18, hE19⟩
    · replace q11 := of_decide_eq_false q11
      refine sx_RP.step (pc2 := 44) (ls2 := [(0, .ref 111), (2, .int n), (1, .int (nI j))]) (st2 := [.ref 111]) (w3 := w) rfl rfl ?_
      refine sx_RP.callp (as2 := [.ref 111]) (rest2 := []) rfl rfl (sx_inv_v2 (mi := 177) (k := 143) (st := [.ref 111]) (w := w) rfl rfl hI.1.o111 rfl rfl rfl) rfl rfl rfl (s169 hI ) (show _ = 47 from rfl) ?_
      rintro r4 w21 ⟨rfl, hI22, hE24⟩
      have hE23 := hE.tr (hE24)
      show sx_RP _ _ _ _ _ [] _ _
      refine sx_RP.step (pc2 := 50) (ls2 := [(1, .int ((nI j) + 1)), (0, .ref 111), (2, .int n)]) (st2 := []) (w3 := w21) rfl rfl ?_
      rw [nI_1 j]
      refine sx_RP.step (pc2 := 51) (ls2 := [(1, .int (nI (j + 1))), (0, .ref 111), (2, .int n)]) (st2 := [.ref 111]) (w3 := w21) rfl rfl ?_
      obtain ⟨v25, c26⟩ := p178 hI22 
      refine sx_RP.cu (as := [.ref 111]) (rest2 := []) (st3 := [.int v25]) rfl rfl (sx_inv_v2 (mi := 177) (k := 162) (st := [.ref 111]) (w := w21) rfl rfl hI22.1.o111 rfl rfl rfl) rfl rfl (c26) rfl ?_
      refine sx_RP.step (pc2 := 55) (ls2 := [(2, .int v25), (1, .int (nI (j + 1))), (0, .ref 111)]) (st2 := []) (w3 := w21) rfl rfl ?_
      refine sx_RP.step (pc2 := 33) (ls2 := [(2, .int v25), (1, .int (nI (j + 1))), (0, .ref 111)]) (st2 := []) (w3 := w21) rfl rfl ?_
      exact sx_RP.ls (sx_lr.cons rfl (sx_lr.cons rfl (sx_lr.cons rfl sx_lr.nil))) (kk w21 v25 hI22 hE23 (by omega))
set_option maxRecDepth 20000 in
set_option maxHeartbeats 4000000 in
theorem s177L {xs : Option (List Int32)} {d : Nat} {w0 : List sx_C} : ∀ (fz j : Nat) (w : List sx_C) (n : Int32) , 99 ≤ j + fz * 1 → j ≤ 99 → WI w → EM w0 w → sx_RP xs (d + 7) 177 33 [(0, .ref 111), (2, .int n), (1, .int (nI j))] [] w (fun r w2 => (∃ v : Int32, r = some (.int v)) ∧ WI w2 ∧ EM w0 w2)
  | 0, j, w, n, h, hj, hI, hE => s177B  hI hE hj n  (fun w4 un hI4 hE4 hlt  => absurd hlt (by omega)) 
  | fz + 1, j, w, n, h, hj, hI, hE => s177B  hI hE hj n  (fun w4 un hI4 hE4 hlt  => s177L   fz (j + 1) w4 un (by omega) hlt hI4 hE4 ) 
set_option maxRecDepth 20000 in
set_option maxHeartbeats 4000000 in
theorem s177 {xs : Option (List Int32)} {d : Nat} {w : List sx_C} (hI : WI w) : sx_RP xs (d + 7) 177 0 (lv_args 0 [.ref 111]) [] w (fun r w2 => (∃ v : Int32, r = some (.int v)) ∧ WI w2 ∧ EM w w2) := by
  have hE : EM w w := EM.rf
  refine sx_RP.step (pc2 := 1) (ls2 := [(0, .ref 111)]) (st2 := [.ref 111]) (w3 := w) rfl rfl ?_
  refine sx_RP.step (pc2 := 3) (ls2 := [(0, .ref 111)]) (st2 := [.int 99, .ref 111]) (w3 := w) rfl rfl ?_
  obtain ⟨x1, hx2, c3⟩ := p165 hI 99
  refine sx_RP.cu (as := [.ref 111, .int 99]) (rest2 := []) (st3 := [.int (nI x1)]) rfl rfl (sx_inv_v2 (mi := 177) (k := 149) (st := [.int 99, .ref 111]) (w := w) rfl rfl hI.1.o111 rfl rfl rfl) rfl rfl (c3) rfl ?_
  refine sx_RP.br (p1 := 15) (l1 := [(0, .ref 111)]) (s1 := []) (v1 := w) (p2 := 9) (l2 := [(0, .ref 111)]) (s2 := []) (v2 := w) rfl rfl (fun q4 => ?_) (fun q4 => ?_)
  · replace q4 := of_decide_eq_true q4
    replace q4 := (nI_eq (a := x1) (b := 0) (by omega) (by omega)).mp q4
    refine sx_RP.step (pc2 := 16) (ls2 := [(0, .ref 111)]) (st2 := [.ref 111]) (w3 := w) rfl rfl ?_
    refine sx_RP.gf (v := .ref 112) rfl rfl hI.1.o111 rfl rfl (show _ = 19 from rfl) ?_
    refine sx_RP.step (pc2 := 20) (ls2 := [(0, .ref 111)]) (st2 := [.ref 111, .ref 112]) (w3 := w) rfl rfl ?_
    refine sx_RP.gf (v := .ref 114) rfl rfl hI.1.o111 rfl rfl (show _ = 23 from rfl) ?_
    refine sx_RP.callp (as2 := [.ref 112, .ref 114]) (rest2 := []) rfl rfl rfl rfl rfl rfl (s175 hI (a := 112) (b := 114) (by decide) (by decide)) (show _ = 26 from rfl) ?_
    rintro r4 w5 ⟨rfl, hI6, hE8⟩
    have hE7 := hE.tr (hE8)
    show sx_RP _ _ _ _ _ [] _ _
    refine sx_RP.step (pc2 := 27) (ls2 := [(0, .ref 111)]) (st2 := [.int 0]) (w3 := w5) rfl rfl ?_
    refine sx_RP.step (pc2 := 28) (ls2 := [(1, .int 0), (0, .ref 111)]) (st2 := []) (w3 := w5) rfl rfl ?_
    refine sx_RP.step (pc2 := 29) (ls2 := [(1, .int 0), (0, .ref 111)]) (st2 := [.ref 111]) (w3 := w5) rfl rfl ?_
    obtain ⟨v9, c10⟩ := p178 hI6 
    refine sx_RP.cu (as := [.ref 111]) (rest2 := []) (st3 := [.int v9]) rfl rfl (sx_inv_v2 (mi := 177) (k := 162) (st := [.ref 111]) (w := w5) rfl rfl hI6.1.o111 rfl rfl rfl) rfl rfl (c10) rfl ?_
    refine sx_RP.step (pc2 := 33) (ls2 := [(2, .int v9), (1, .int 0), (0, .ref 111)]) (st2 := []) (w3 := w5) rfl rfl ?_
    exact sx_RP.ls (sx_lr.cons rfl (sx_lr.cons rfl (sx_lr.cons rfl sx_lr.nil))) (s177L  99 0 w5 v9 (by omega) (by omega) hI6 hE7 )
  · replace q4 := of_decide_eq_false q4
    replace q4 := mt (nI_eq (a := x1) (b := 0) (by omega) (by omega)).mpr q4
    refine sx_RP.step (pc2 := 10) (ls2 := [(0, .ref 111)]) (st2 := [.ref 111]) (w3 := w) rfl rfl ?_
    refine sx_RP.step (pc2 := 11) (ls2 := [(0, .ref 111)]) (st2 := [.int 4, .ref 111]) (w3 := w) rfl rfl ?_
    refine sx_RP.callp (as2 := [.ref 111, .int 4]) (rest2 := []) rfl rfl (sx_inv_v2 (mi := 177) (k := 70) (st := [.int 4, .ref 111]) (w := w) rfl rfl hI.1.o111 rfl rfl rfl) rfl rfl rfl (s133_4 hI) (show _ = 14 from rfl) ?_
    rintro r4 w11 ⟨rfl, hI12, hE14⟩
    have hE13 := hE.tr (hE14)
    show sx_RP _ _ _ _ _ [.int (-1000000005)] _ _
    refine sx_RP.ret (r := (some (.int (-1000000005)))) rfl rfl ?_
    exact ⟨⟨_, rfl⟩, hI12, hE13⟩
set_option maxRecDepth 20000 in
set_option maxHeartbeats 4000000 in
theorem s202B {xs : Option (List Int32)} {d : Nat} {w w0 : List sx_C} {n : Nat} (hI : WI w) (hE : EM w0 w) {j : Nat} (hj : j ≤ 48) (m : Int32) (l : Int32) (kk : ∀ (w4 : List sx_C) (um : Int32) (ul : Int32), WI w4 → EM w0 w4 → j + 1 ≤ 48 → sx_RP xs (d + 7) 202 20 [(0, .ref 111), (1, .int (nI n)), (2, .int um), (3, .int ul), (4, .int (nI (j + 1)))] [] w4 (fun r w2 => (∃ v : Int32, r = some (.int v)) ∧ WI w2 ∧ EM w0 w2)) : sx_RP xs (d + 7) 202 20 [(0, .ref 111), (1, .int (nI n)), (2, .int m), (3, .int l), (4, .int (nI j))] [] w (fun r w2 => (∃ v : Int32, r = some (.int v)) ∧ WI w2 ∧ EM w0 w2) := by
  refine sx_RP.step (pc2 := 22) (ls2 := [(0, .ref 111), (1, .int (nI n)), (2, .int m), (3, .int l), (4, .int (nI j))]) (st2 := [.int (nI j)]) (w3 := w) rfl rfl ?_
  refine sx_RP.step (pc2 := 24) (ls2 := [(0, .ref 111), (1, .int (nI n)), (2, .int m), (3, .int l), (4, .int (nI j))]) (st2 := [.int 48, .int (nI j)]) (w3 := w) rfl rfl ?_
  refine sx_RP.br (p1 := 86) (l1 := [(0, .ref 111), (1, .int (nI n)), (2, .int m), (3, .int l), (4, .int (nI j))]) (s1 := []) (v1 := w) (p2 := 27) (l2 := [(0, .ref 111), (1, .int (nI n)), (2, .int m), (3, .int l), (4, .int (nI j))]) (s2 := []) (v2 := w) rfl rfl (fun q1 => ?_) (fun q1 => ?_)
  · replace q1 := of_decide_eq_true q1
    replace q1 := (nI_leI (a := 48) (b := j) (by omega) (by omega)).mp q1
    refine sx_RP.step (pc2 := 87) (ls2 := [(0, .ref 111), (1, .int (nI n)), (2, .int m), (3, .int l), (4, .int (nI j))]) (st2 := [.int m]) (w3 := w) rfl rfl ?_
    refine sx_RP.br (p1 := 98) (l1 := [(0, .ref 111), (1, .int (nI n)), (2, .int m), (3, .int l), (4, .int (nI j))]) (s1 := []) (v1 := w) (p2 := 90) (l2 := [(0, .ref 111), (1, .int (nI n)), (2, .int m), (3, .int l), (4, .int (nI j))]) (s2 := []) (v2 := w) rfl rfl (fun q2 => ?_) (fun q2 => ?_)
    · replace q2 := of_decide_eq_true q2
      refine sx_RP.step (pc2 := 99) (ls2 := [(0, .ref 111), (1, .int (nI n)), (2, .int m), (3, .int l), (4, .int (nI j))]) (st2 := [.int m]) (w3 := w) rfl rfl ?_
      refine sx_RP.ret (r := (some (.int m))) rfl rfl ?_
      exact ⟨⟨_, rfl⟩, hI, hE⟩
    · replace q2 := of_decide_eq_false q2
      refine sx_RP.step (pc2 := 91) (ls2 := [(0, .ref 111), (1, .int (nI n)), (2, .int m), (3, .int l), (4, .int (nI j))]) (st2 := [.ref 111]) (w3 := w) rfl rfl ?_
      refine sx_RP.step (pc2 := 92) (ls2 := [(0, .ref 111), (1, .int (nI n)), (2, .int m), (3, .int l), (4, .int (nI j))]) (st2 := [.int 3, .ref 111]) (w3 := w) rfl rfl ?_
      refine sx_RP.callp (as2 := [.ref 111, .int 3]) (rest2 := []) rfl rfl (sx_inv_v2 (mi := 202) (k := 70) (st := [.int 3, .ref 111]) (w := w) rfl rfl hI.1.o111 rfl rfl rfl) rfl rfl rfl (s133_3 hI) (show _ = 95 from rfl) ?_
      rintro r4 w3 ⟨rfl, hI4, hE6⟩
      have hE5 := hE.tr (hE6)
      show sx_RP _ _ _ _ _ [.int (-1000000004)] _ _
      refine sx_RP.step (pc2 := 99) (ls2 := [(0, .ref 111), (1, .int (nI n)), (2, .int m), (3, .int l), (4, .int (nI j))]) (st2 := [.int (-1000000004)]) (w3 := w3) rfl rfl ?_
      refine sx_RP.ret (r := (some (.int (-1000000004)))) rfl rfl ?_
      exact ⟨⟨_, rfl⟩, hI4, hE5⟩
  · replace q1 := of_decide_eq_false q1
    replace q1 := mt (nI_leI (a := 48) (b := j) (by omega) (by omega)).mpr q1
    refine sx_RP.step (pc2 := 28) (ls2 := [(0, .ref 111), (1, .int (nI n)), (2, .int m), (3, .int l), (4, .int (nI j))]) (st2 := [.ref 111]) (w3 := w) rfl rfl ?_
    refine sx_RP.gf (v := .ref 112) rfl rfl hI.1.o111 rfl rfl (show _ = 31 from rfl) ?_
    refine sx_RP.step (pc2 := 33) (ls2 := [(0, .ref 111), (1, .int (nI n)), (2, .int m), (3, .int l), (4, .int (nI j))]) (st2 := [.int 7, .ref 112]) (w3 := w) rfl rfl ?_
    refine sx_RP.step (pc2 := 35) (ls2 := [(0, .ref 111), (1, .int (nI n)), (2, .int m), (3, .int l), (4, .int (nI j))]) (st2 := [.int (nI j), .int 7, .ref 112]) (w3 := w) rfl rfl ?_
    refine sx_RP.step (pc2 := 36) (ls2 := [(0, .ref 111), (1, .int (nI n)), (2, .int m), (3, .int l), (4, .int (nI j))]) (st2 := [.int (7 + (nI j)), .ref 112]) (w3 := w) rfl rfl ?_
    rw [show (7 + (nI j) : Int32) = nI (7 + j) from nI_add 7 j]
    refine sx_RP.ild (c := (7 + j)) rfl hI.1.a112.1 hI.1.a112.2 (sx_in_nI (show (7 + j) < 172 by omega) (by decide)) (show (nI (7 + j)).toNatClampNeg = (7 + j) from nI_clamp (by omega)) (show _ = 37 from rfl) ?_
    obtain ⟨x7, hx8, ex9⟩ : inR ((ia w 112).getD (7 + j) 0) 3 := (hI.s ((7 + j)) (by omega)).2.2.1 (by omega)
    rw [ex9]
    refine sx_RP.step (pc2 := 38) (ls2 := [(0, .ref 111), (1, .int (nI n)), (2, .int m), (3, .int l), (4, .int (nI j))]) (st2 := [.int 3, .int (nI x7)]) (w3 := w) rfl rfl ?_
    refine sx_RP.br (p1 := 45) (l1 := [(0, .ref 111), (1, .int (nI n)), (2, .int m), (3, .int l), (4, .int (nI j))]) (s1 := []) (v1 := w) (p2 := 41) (l2 := [(0, .ref 111), (1, .int (nI n)), (2, .int m), (3, .int l), (4, .int (nI j))]) (s2 := []) (v2 := w) rfl rfl (fun q10 => ?_) (fun q10 => ?_)
    · replace q10 := of_decide_eq_true q10
      replace q10 := mt (nI_eq (a := x7) (b := 3) (by omega) (by omega)).mpr q10
      refine sx_RP.step (pc2 := 46) (ls2 := [(0, .ref 111), (1, .int (nI n)), (2, .int m), (3, .int l), (4, .int (nI j))]) (st2 := [.ref 111]) (w3 := w) rfl rfl ?_
      refine sx_RP.step (pc2 := 48) (ls2 := [(0, .ref 111), (1, .int (nI n)), (2, .int m), (3, .int l), (4, .int (nI j))]) (st2 := [.int (nI j), .ref 111]) (w3 := w) rfl rfl ?_
      refine sx_RP.step (pc2 := 49) (ls2 := [(0, .ref 111), (1, .int (nI n)), (2, .int m), (3, .int l), (4, .int (nI j))]) (st2 := [.int (nI n), .int (nI j), .ref 111]) (w3 := w) rfl rfl ?_
      obtain ⟨v11, c12⟩ := p198 hI (nI j) (nI n)
      refine sx_RP.cu (as := [.ref 111, .int (nI j), .int (nI n)]) (rest2 := []) (st3 := [.int v11]) rfl rfl (sx_inv_v2 (mi := 202) (k := 198) (st := [.int (nI n), .int (nI j), .ref 111]) (w := w) rfl rfl hI.1.o111 rfl rfl rfl) rfl rfl (c12) rfl ?_
      refine sx_RP.step (pc2 := 54) (ls2 := [(5, .int v11), (0, .ref 111), (1, .int (nI n)), (2, .int m), (3, .int l), (4, .int (nI j))]) (st2 := []) (w3 := w) rfl rfl ?_
      refine sx_RP.step (pc2 := 56) (ls2 := [(5, .int v11), (0, .ref 111), (1, .int (nI n)), (2, .int m), (3, .int l), (4, .int (nI j))]) (st2 := [.int v11]) (w3 := w) rfl rfl ?_
      refine sx_RP.step (pc2 := 57) (ls2 := [(5, .int v11), (0, .ref 111), (1, .int (nI n)), (2, .int m), (3, .int l), (4, .int (nI j))]) (st2 := [.int l, .int v11]) (w3 := w) rfl rfl ?_
      refine sx_RP.br (p1 := 65) (l1 := [(5, .int v11), (0, .ref 111), (1, .int (nI n)), (2, .int m), (3, .int l), (4, .int (nI j))]) (s1 := []) (v1 := w) (p2 := 60) (l2 := [(5, .int v11), (0, .ref 111), (1, .int (nI n)), (2, .int m), (3, .int l), (4, .int (nI j))]) (s2 := []) (v2 := w) rfl rfl (fun q13 => ?_) (fun q13 => ?_)
      · replace q13 := of_decide_eq_true q13
        refine sx_RP.step (pc2 := 66) (ls2 := [(5, .int v11), (0, .ref 111), (1, .int (nI n)), (2, .int m), (3, .int l), (4, .int (nI j))]) (st2 := [.int m]) (w3 := w) rfl rfl ?_
        refine sx_RP.step (pc2 := 67) (ls2 := [(2, .int m), (5, .int v11), (0, .ref 111), (1, .int (nI n)), (3, .int l), (4, .int (nI j))]) (st2 := []) (w3 := w) rfl rfl ?_
        refine sx_RP.step (pc2 := 69) (ls2 := [(2, .int m), (5, .int v11), (0, .ref 111), (1, .int (nI n)), (3, .int l), (4, .int (nI j))]) (st2 := [.int v11]) (w3 := w) rfl rfl ?_
        refine sx_RP.step (pc2 := 70) (ls2 := [(2, .int m), (5, .int v11), (0, .ref 111), (1, .int (nI n)), (3, .int l), (4, .int (nI j))]) (st2 := [.int l, .int v11]) (w3 := w) rfl rfl ?_
        refine sx_RP.br (p1 := 78) (l1 := [(2, .int m), (5, .int v11), (0, .ref 111), (1, .int (nI n)), (3, .int l), (4, .int (nI j))]) (s1 := []) (v1 := w) (p2 := 73) (l2 := [(2, .int m), (5, .int v11), (0, .ref 111), (1, .int (nI n)), (3, .int l), (4, .int (nI j))]) (s2 := []) (v2 := w) rfl rfl (fun q14 => ?_) (fun q14 => ?_)
        · replace q14 := of_decide_eq_true q14
          refine sx_RP.step (pc2 := 79) (ls2 := [(2, .int m), (5, .int v11), (0, .ref 111), (1, .int (nI n)), (3, .int l), (4, .int (nI j))]) (st2 := [.int l]) (w3 := w) rfl rfl ?_
          refine sx_RP.step (pc2 := 80) (ls2 := [(3, .int l), (2, .int m), (5, .int v11), (0, .ref 111), (1, .int (nI n)), (4, .int (nI j))]) (st2 := []) (w3 := w) rfl rfl ?_
          refine sx_RP.step (pc2 := 83) (ls2 := [(4, .int ((nI j) + 1)), (3, .int l), (2, .int m), (5, .int v11), (0, .ref 111), (1, .int (nI n))]) (st2 := []) (w3 := w) rfl rfl ?_
          rw [nI_1 j]
          refine sx_RP.step (pc2 := 20) (ls2 := [(4, .int (nI (j + 1))), (3, .int l), (2, .int m), (5, .int v11), (0, .ref 111), (1, .int (nI n))]) (st2 := []) (w3 := w) rfl rfl ?_
          exact sx_RP.ls (sx_lr.cons rfl (sx_lr.cons rfl (sx_lr.cons rfl (sx_lr.cons rfl (sx_lr.cons rfl sx_lr.nil))))) (kk w m l hI hE (by omega))
        · replace q14 := of_decide_eq_false q14
          refine sx_RP.step (pc2 := 75) (ls2 := [(2, .int m), (5, .int v11), (0, .ref 111), (1, .int (nI n)), (3, .int l), (4, .int (nI j))]) (st2 := [.int v11]) (w3 := w) rfl rfl ?_
          refine sx_RP.step (pc2 := 79) (ls2 := [(2, .int m), (5, .int v11), (0, .ref 111), (1, .int (nI n)), (3, .int l), (4, .int (nI j))]) (st2 := [.int v11]) (w3 := w) rfl rfl ?_
          refine sx_RP.step (pc2 := 80) (ls2 := [(3, .int v11), (2, .int m), (5, .int v11), (0, .ref 111), (1, .int (nI n)), (4, .int (nI j))]) (st2 := []) (w3 := w) rfl rfl ?_
          refine sx_RP.step (pc2 := 83) (ls2 := [(4, .int ((nI j) + 1)), (3, .int v11), (2, .int m), (5, .int v11), (0, .ref 111), (1, .int (nI n))]) (st2 := []) (w3 := w) rfl rfl ?_
          rw [nI_1 j]
          refine sx_RP.step (pc2 := 20) (ls2 := [(4, .int (nI (j + 1))), (3, .int v11), (2, .int m), (5, .int v11), (0, .ref 111), (1, .int (nI n))]) (st2 := []) (w3 := w) rfl rfl ?_
          exact sx_RP.ls (sx_lr.cons rfl (sx_lr.cons rfl (sx_lr.cons rfl (sx_lr.cons rfl (sx_lr.cons rfl sx_lr.nil))))) (kk w m v11 hI hE (by omega))
      · replace q13 := of_decide_eq_false q13
        refine sx_RP.step (pc2 := 62) (ls2 := [(5, .int v11), (0, .ref 111), (1, .int (nI n)), (2, .int m), (3, .int l), (4, .int (nI j))]) (st2 := [.int (nI j)]) (w3 := w) rfl rfl ?_
        refine sx_RP.step (pc2 := 66) (ls2 := [(5, .int v11), (0, .ref 111), (1, .int (nI n)), (2, .int m), (3, .int l), (4, .int (nI j))]) (st2 := [.int (nI j)]) (w3 := w) rfl rfl ?_
        refine sx_RP.step (pc2 := 67) (ls2 := [(2, .int (nI j)), (5, .int v11), (0, .ref 111), (1, .int (nI n)), (3, .int l), (4, .int (nI j))]) (st2 := []) (w3 := w) rfl rfl ?_
        refine sx_RP.step (pc2 := 69) (ls2 := [(2, .int (nI j)), (5, .int v11), (0, .ref 111), (1, .int (nI n)), (3, .int l), (4, .int (nI j))]) (st2 := [.int v11]) (w3 := w) rfl rfl ?_
        refine sx_RP.step (pc2 := 70) (ls2 := [(2, .int (nI j)), (5, .int v11), (0, .ref 111), (1, .int (nI n)), (3, .int l), (4, .int (nI j))]) (st2 := [.int l, .int v11]) (w3 := w) rfl rfl ?_
        refine sx_RP.br (p1 := 78) (l1 := [(2, .int (nI j)), (5, .int v11), (0, .ref 111), (1, .int (nI n)), (3, .int l), (4, .int (nI j))]) (s1 := []) (v1 := w) (p2 := 73) (l2 := [(2, .int (nI j)), (5, .int v11), (0, .ref 111), (1, .int (nI n)), (3, .int l), (4, .int (nI j))]) (s2 := []) (v2 := w) rfl rfl (fun q15 => ?_) (fun q15 => ?_)
        · replace q15 := of_decide_eq_true q15
          refine sx_RP.step (pc2 := 79) (ls2 := [(2, .int (nI j)), (5, .int v11), (0, .ref 111), (1, .int (nI n)), (3, .int l), (4, .int (nI j))]) (st2 := [.int l]) (w3 := w) rfl rfl ?_
          refine sx_RP.step (pc2 := 80) (ls2 := [(3, .int l), (2, .int (nI j)), (5, .int v11), (0, .ref 111), (1, .int (nI n)), (4, .int (nI j))]) (st2 := []) (w3 := w) rfl rfl ?_
          refine sx_RP.step (pc2 := 83) (ls2 := [(4, .int ((nI j) + 1)), (3, .int l), (2, .int (nI j)), (5, .int v11), (0, .ref 111), (1, .int (nI n))]) (st2 := []) (w3 := w) rfl rfl ?_
          rw [nI_1 j]
          refine sx_RP.step (pc2 := 20) (ls2 := [(4, .int (nI (j + 1))), (3, .int l), (2, .int (nI j)), (5, .int v11), (0, .ref 111), (1, .int (nI n))]) (st2 := []) (w3 := w) rfl rfl ?_
          exact sx_RP.ls (sx_lr.cons rfl (sx_lr.cons rfl (sx_lr.cons rfl (sx_lr.cons rfl (sx_lr.cons rfl sx_lr.nil))))) (kk w (nI j) l hI hE (by omega))
        · replace q15 := of_decide_eq_false q15
          refine sx_RP.step (pc2 := 75) (ls2 := [(2, .int (nI j)), (5, .int v11), (0, .ref 111), (1, .int (nI n)), (3, .int l), (4, .int (nI j))]) (st2 := [.int v11]) (w3 := w) rfl rfl ?_
          refine sx_RP.step (pc2 := 79) (ls2 := [(2, .int (nI j)), (5, .int v11), (0, .ref 111), (1, .int (nI n)), (3, .int l), (4, .int (nI j))]) (st2 := [.int v11]) (w3 := w) rfl rfl ?_
          refine sx_RP.step (pc2 := 80) (ls2 := [(3, .int v11), (2, .int (nI j)), (5, .int v11), (0, .ref 111), (1, .int (nI n)), (4, .int (nI j))]) (st2 := []) (w3 := w) rfl rfl ?_
          refine sx_RP.step (pc2 := 83) (ls2 := [(4, .int ((nI j) + 1)), (3, .int v11), (2, .int (nI j)), (5, .int v11), (0, .ref 111), (1, .int (nI n))]) (st2 := []) (w3 := w) rfl rfl ?_
          rw [nI_1 j]
          refine sx_RP.step (pc2 := 20) (ls2 := [(4, .int (nI (j + 1))), (3, .int v11), (2, .int (nI j)), (5, .int v11), (0, .ref 111), (1, .int (nI n))]) (st2 := []) (w3 := w) rfl rfl ?_
          exact sx_RP.ls (sx_lr.cons rfl (sx_lr.cons rfl (sx_lr.cons rfl (sx_lr.cons rfl (sx_lr.cons rfl sx_lr.nil))))) (kk w (nI j) v11 hI hE (by omega))
    · replace q10 := Decidable.not_not.mp (of_decide_eq_false q10)
      replace q10 := (nI_eq (a := x7) (b := 3) (by omega) (by omega)).mp q10
      refine sx_RP.step (pc2 := 42) (ls2 := [(0, .ref 111), (1, .int (nI n)), (2, .int m), (3, .int l), (4, .int (nI j))]) (st2 := [.int 0]) (w3 := w) rfl rfl ?_
      refine sx_RP.step (pc2 := 52) (ls2 := [(0, .ref 111), (1, .int (nI n)), (2, .int m), (3, .int l), (4, .int (nI j))]) (st2 := [.int 0]) (w3 := w) rfl rfl ?_
      refine sx_RP.step (pc2 := 54) (ls2 := [(5, .int 0), (0, .ref 111), (1, .int (nI n)), (2, .int m), (3, .int l), (4, .int (nI j))]) (st2 := []) (w3 := w) rfl rfl ?_
      refine sx_RP.step (pc2 := 56) (ls2 := [(5, .int 0), (0, .ref 111), (1, .int (nI n)), (2, .int m), (3, .int l), (4, .int (nI j))]) (st2 := [.int 0]) (w3 := w) rfl rfl ?_
      refine sx_RP.step (pc2 := 57) (ls2 := [(5, .int 0), (0, .ref 111), (1, .int (nI n)), (2, .int m), (3, .int l), (4, .int (nI j))]) (st2 := [.int l, .int 0]) (w3 := w) rfl rfl ?_
      refine sx_RP.br (p1 := 65) (l1 := [(5, .int 0), (0, .ref 111), (1, .int (nI n)), (2, .int m), (3, .int l), (4, .int (nI j))]) (s1 := []) (v1 := w) (p2 := 60) (l2 := [(5, .int 0), (0, .ref 111), (1, .int (nI n)), (2, .int m), (3, .int l), (4, .int (nI j))]) (s2 := []) (v2 := w) rfl rfl (fun q16 => ?_) (fun q16 => ?_)
      · replace q16 := of_decide_eq_true q16
        refine sx_RP.step (pc2 := 66) (ls2 := [(5, .int 0), (0, .ref 111), (1, .int (nI n)), (2, .int m), (3, .int l), (4, .int (nI j))]) (st2 := [.int m]) (w3 := w) rfl rfl ?_
        refine sx_RP.step (pc2 := 67) (ls2 := [(2, .int m), (5, .int 0), (0, .ref 111), (1, .int (nI n)), (3, .int l), (4, .int (nI j))]) (st2 := []) (w3 := w) rfl rfl ?_
        refine sx_RP.step (pc2 := 69) (ls2 := [(2, .int m), (5, .int 0), (0, .ref 111), (1, .int (nI n)), (3, .int l), (4, .int (nI j))]) (st2 := [.int 0]) (w3 := w) rfl rfl ?_
        refine sx_RP.step (pc2 := 70) (ls2 := [(2, .int m), (5, .int 0), (0, .ref 111), (1, .int (nI n)), (3, .int l), (4, .int (nI j))]) (st2 := [.int l, .int 0]) (w3 := w) rfl rfl ?_
        refine sx_RP.br (p1 := 78) (l1 := [(2, .int m), (5, .int 0), (0, .ref 111), (1, .int (nI n)), (3, .int l), (4, .int (nI j))]) (s1 := []) (v1 := w) (p2 := 73) (l2 := [(2, .int m), (5, .int 0), (0, .ref 111), (1, .int (nI n)), (3, .int l), (4, .int (nI j))]) (s2 := []) (v2 := w) rfl rfl (fun q17 => ?_) (fun q17 => ?_)
        · replace q17 := of_decide_eq_true q17
          refine sx_RP.step (pc2 := 79) (ls2 := [(2, .int m), (5, .int 0), (0, .ref 111), (1, .int (nI n)), (3, .int l), (4, .int (nI j))]) (st2 := [.int l]) (w3 := w) rfl rfl ?_
          refine sx_RP.step (pc2 := 80) (ls2 := [(3, .int l), (2, .int m), (5, .int 0), (0, .ref 111), (1, .int (nI n)), (4, .int (nI j))]) (st2 := []) (w3 := w) rfl rfl ?_
          refine sx_RP.step (pc2 := 83) (ls2 := [(4, .int ((nI j) + 1)), (3, .int l), (2, .int m), (5, .int 0), (0, .ref 111), (1, .int (nI n))]) (st2 := []) (w3 := w) rfl rfl ?_
          rw [nI_1 j]
          refine sx_RP.step (pc2 := 20) (ls2 := [(4, .int (nI (j + 1))), (3, .int l), (2, .int m), (5, .int 0), (0, .ref 111), (1, .int (nI n))]) (st2 := []) (w3 := w) rfl rfl ?_
          exact sx_RP.ls (sx_lr.cons rfl (sx_lr.cons rfl (sx_lr.cons rfl (sx_lr.cons rfl (sx_lr.cons rfl sx_lr.nil))))) (kk w m l hI hE (by omega))
        · replace q17 := of_decide_eq_false q17
          refine sx_RP.step (pc2 := 75) (ls2 := [(2, .int m), (5, .int 0), (0, .ref 111), (1, .int (nI n)), (3, .int l), (4, .int (nI j))]) (st2 := [.int 0]) (w3 := w) rfl rfl ?_
          refine sx_RP.step (pc2 := 79) (ls2 := [(2, .int m), (5, .int 0), (0, .ref 111), (1, .int (nI n)), (3, .int l), (4, .int (nI j))]) (st2 := [.int 0]) (w3 := w) rfl rfl ?_
          refine sx_RP.step (pc2 := 80) (ls2 := [(3, .int 0), (2, .int m), (5, .int 0), (0, .ref 111), (1, .int (nI n)), (4, .int (nI j))]) (st2 := []) (w3 := w) rfl rfl ?_
          refine sx_RP.step (pc2 := 83) (ls2 := [(4, .int ((nI j) + 1)), (3, .int 0), (2, .int m), (5, .int 0), (0, .ref 111), (1, .int (nI n))]) (st2 := []) (w3 := w) rfl rfl ?_
          rw [nI_1 j]
          refine sx_RP.step (pc2 := 20) (ls2 := [(4, .int (nI (j + 1))), (3, .int 0), (2, .int m), (5, .int 0), (0, .ref 111), (1, .int (nI n))]) (st2 := []) (w3 := w) rfl rfl ?_
          exact sx_RP.ls (sx_lr.cons rfl (sx_lr.cons rfl (sx_lr.cons rfl (sx_lr.cons rfl (sx_lr.cons rfl sx_lr.nil))))) (kk w m 0 hI hE (by omega))
      · replace q16 := of_decide_eq_false q16
        refine sx_RP.step (pc2 := 62) (ls2 := [(5, .int 0), (0, .ref 111), (1, .int (nI n)), (2, .int m), (3, .int l), (4, .int (nI j))]) (st2 := [.int (nI j)]) (w3 := w) rfl rfl ?_
        refine sx_RP.step (pc2 := 66) (ls2 := [(5, .int 0), (0, .ref 111), (1, .int (nI n)), (2, .int m), (3, .int l), (4, .int (nI j))]) (st2 := [.int (nI j)]) (w3 := w) rfl rfl ?_
        refine sx_RP.step (pc2 := 67) (ls2 := [(2, .int (nI j)), (5, .int 0), (0, .ref 111), (1, .int (nI n)), (3, .int l), (4, .int (nI j))]) (st2 := []) (w3 := w) rfl rfl ?_
        refine sx_RP.step (pc2 := 69) (ls2 := [(2, .int (nI j)), (5, .int 0), (0, .ref 111), (1, .int (nI n)), (3, .int l), (4, .int (nI j))]) (st2 := [.int 0]) (w3 := w) rfl rfl ?_
        refine sx_RP.step (pc2 := 70) (ls2 := [(2, .int (nI j)), (5, .int 0), (0, .ref 111), (1, .int (nI n)), (3, .int l), (4, .int (nI j))]) (st2 := [.int l, .int 0]) (w3 := w) rfl rfl ?_
        refine sx_RP.br (p1 := 78) (l1 := [(2, .int (nI j)), (5, .int 0), (0, .ref 111), (1, .int (nI n)), (3, .int l), (4, .int (nI j))]) (s1 := []) (v1 := w) (p2 := 73) (l2 := [(2, .int (nI j)), (5, .int 0), (0, .ref 111), (1, .int (nI n)), (3, .int l), (4, .int (nI j))]) (s2 := []) (v2 := w) rfl rfl (fun q18 => ?_) (fun q18 => ?_)
        · replace q18 := of_decide_eq_true q18
          refine sx_RP.step (pc2 := 79) (ls2 := [(2, .int (nI j)), (5, .int 0), (0, .ref 111), (1, .int (nI n)), (3, .int l), (4, .int (nI j))]) (st2 := [.int l]) (w3 := w) rfl rfl ?_
          refine sx_RP.step (pc2 := 80) (ls2 := [(3, .int l), (2, .int (nI j)), (5, .int 0), (0, .ref 111), (1, .int (nI n)), (4, .int (nI j))]) (st2 := []) (w3 := w) rfl rfl ?_
          refine sx_RP.step (pc2 := 83) (ls2 := [(4, .int ((nI j) + 1)), (3, .int l), (2, .int (nI j)), (5, .int 0), (0, .ref 111), (1, .int (nI n))]) (st2 := []) (w3 := w) rfl rfl ?_
          rw [nI_1 j]
          refine sx_RP.step (pc2 := 20) (ls2 := [(4, .int (nI (j + 1))), (3, .int l), (2, .int (nI j)), (5, .int 0), (0, .ref 111), (1, .int (nI n))]) (st2 := []) (w3 := w) rfl rfl ?_
          exact sx_RP.ls (sx_lr.cons rfl (sx_lr.cons rfl (sx_lr.cons rfl (sx_lr.cons rfl (sx_lr.cons rfl sx_lr.nil))))) (kk w (nI j) l hI hE (by omega))
        · replace q18 := of_decide_eq_false q18
          refine sx_RP.step (pc2 := 75) (ls2 := [(2, .int (nI j)), (5, .int 0), (0, .ref 111), (1, .int (nI n)), (3, .int l), (4, .int (nI j))]) (st2 := [.int 0]) (w3 := w) rfl rfl ?_
          refine sx_RP.step (pc2 := 79) (ls2 := [(2, .int (nI j)), (5, .int 0), (0, .ref 111), (1, .int (nI n)), (3, .int l), (4, .int (nI j))]) (st2 := [.int 0]) (w3 := w) rfl rfl ?_
          refine sx_RP.step (pc2 := 80) (ls2 := [(3, .int 0), (2, .int (nI j)), (5, .int 0), (0, .ref 111), (1, .int (nI n)), (4, .int (nI j))]) (st2 := []) (w3 := w) rfl rfl ?_
          refine sx_RP.step (pc2 := 83) (ls2 := [(4, .int ((nI j) + 1)), (3, .int 0), (2, .int (nI j)), (5, .int 0), (0, .ref 111), (1, .int (nI n))]) (st2 := []) (w3 := w) rfl rfl ?_
          rw [nI_1 j]
          refine sx_RP.step (pc2 := 20) (ls2 := [(4, .int (nI (j + 1))), (3, .int 0), (2, .int (nI j)), (5, .int 0), (0, .ref 111), (1, .int (nI n))]) (st2 := []) (w3 := w) rfl rfl ?_
          exact sx_RP.ls (sx_lr.cons rfl (sx_lr.cons rfl (sx_lr.cons rfl (sx_lr.cons rfl (sx_lr.cons rfl sx_lr.nil))))) (kk w (nI j) 0 hI hE (by omega))
set_option maxRecDepth 20000 in
set_option maxHeartbeats 4000000 in
theorem s202L {xs : Option (List Int32)} {d : Nat} {w0 : List sx_C} {n : Nat} : ∀ (fz j : Nat) (w : List sx_C) (m : Int32) (l : Int32) , 48 ≤ j + fz * 1 → j ≤ 48 → WI w → EM w0 w → sx_RP xs (d + 7) 202 20 [(0, .ref 111), (1, .int (nI n)), (2, .int m), (3, .int l), (4, .int (nI j))] [] w (fun r w2 => (∃ v : Int32, r = some (.int v)) ∧ WI w2 ∧ EM w0 w2)
  | 0, j, w, m, l, h, hj, hI, hE => s202B (n := n) hI hE hj m l  (fun w4 um ul hI4 hE4 hlt  => absurd hlt (by omega)) 
  | fz + 1, j, w, m, l, h, hj, hI, hE => s202B (n := n) hI hE hj m l  (fun w4 um ul hI4 hE4 hlt  => s202L (n := n)  fz (j + 1) w4 um ul (by omega) hlt hI4 hE4 ) 
set_option maxRecDepth 20000 in
set_option maxHeartbeats 4000000 in
theorem s202 {xs : Option (List Int32)} {d : Nat} {w : List sx_C} (hI : WI w) (a1 : Int32) : sx_RP xs (d + 7) 202 0 (lv_args 0 [.ref 111, .int a1]) [] w (fun r w2 => (∃ v : Int32, r = some (.int v)) ∧ WI w2 ∧ EM w w2) := by
  have hE : EM w w := EM.rf
  refine sx_RP.step (pc2 := 1) (ls2 := [(0, .ref 111), (1, .int a1)]) (st2 := [.int a1]) (w3 := w) rfl rfl ?_
  rcases in_cases a1 1 30 (m := 1) (n := 30) rfl rfl (by decide) (by decide) with q1 | ⟨x2, hx3, hx4, rfl⟩
  · refine sx_RP.cu (as := [.int a1]) (rest2 := []) (st3 := [.int 0]) rfl rfl rfl rfl rfl (cx_197n q1) rfl ?_
    refine sx_RP.step (pc2 := 7) (ls2 := [(0, .ref 111), (1, .int a1)]) (st2 := []) (w3 := w) rfl rfl ?_
    refine sx_RP.step (pc2 := 8) (ls2 := [(0, .ref 111), (1, .int a1)]) (st2 := [.ref 111]) (w3 := w) rfl rfl ?_
    refine sx_RP.step (pc2 := 9) (ls2 := [(0, .ref 111), (1, .int a1)]) (st2 := [.int 0, .ref 111]) (w3 := w) rfl rfl ?_
    refine sx_RP.callp (as2 := [.ref 111, .int 0]) (rest2 := []) rfl rfl (sx_inv_v2 (mi := 202) (k := 70) (st := [.int 0, .ref 111]) (w := w) rfl rfl hI.1.o111 rfl rfl rfl) rfl rfl rfl (s133_0 hI) (show _ = 12 from rfl) ?_
    rintro r4 w6 ⟨rfl, hI7, hE9⟩
    have hE8 := hE.tr (hE9)
    show sx_RP _ _ _ _ _ [.int (-1000000001)] _ _
    refine sx_RP.ret (r := (some (.int (-1000000001)))) rfl rfl ?_
    exact ⟨⟨_, rfl⟩, hI7, hE8⟩
  · refine sx_RP.cu (as := [.int (nI x2)]) (rest2 := []) (st3 := [.int 1]) rfl rfl rfl rfl rfl (cx_197p ⟨nI_le (a := 1) hx3 (by omega), nI_le (b := 30) hx4 (by decide)⟩) rfl ?_
    refine sx_RP.step (pc2 := 13) (ls2 := [(0, .ref 111), (1, .int (nI x2))]) (st2 := []) (w3 := w) rfl rfl ?_
    refine sx_RP.step (pc2 := 14) (ls2 := [(0, .ref 111), (1, .int (nI x2))]) (st2 := [.int (-1)]) (w3 := w) rfl rfl ?_
    refine sx_RP.step (pc2 := 15) (ls2 := [(2, .int (-1)), (0, .ref 111), (1, .int (nI x2))]) (st2 := []) (w3 := w) rfl rfl ?_
    refine sx_RP.step (pc2 := 16) (ls2 := [(2, .int (-1)), (0, .ref 111), (1, .int (nI x2))]) (st2 := [.int 0]) (w3 := w) rfl rfl ?_
    refine sx_RP.step (pc2 := 17) (ls2 := [(3, .int 0), (2, .int (-1)), (0, .ref 111), (1, .int (nI x2))]) (st2 := []) (w3 := w) rfl rfl ?_
    refine sx_RP.step (pc2 := 18) (ls2 := [(3, .int 0), (2, .int (-1)), (0, .ref 111), (1, .int (nI x2))]) (st2 := [.int 0]) (w3 := w) rfl rfl ?_
    refine sx_RP.step (pc2 := 20) (ls2 := [(4, .int 0), (3, .int 0), (2, .int (-1)), (0, .ref 111), (1, .int (nI x2))]) (st2 := []) (w3 := w) rfl rfl ?_
    exact sx_RP.ls (sx_lr.cons rfl (sx_lr.cons rfl (sx_lr.cons rfl (sx_lr.cons rfl (sx_lr.cons rfl sx_lr.nil))))) (s202L  48 0 w (-1) 0 (by omega) (by omega) hI hE )
set_option maxRecDepth 20000 in
set_option maxHeartbeats 4000000 in
theorem s245B {xs : Option (List Int32)} {d : Nat} {w w0 : List sx_C} (a1 : Int32) (hI : WI w) (hE : EM w0 w) {j : Nat} (hj : j ≤ 7) (m : Int32) (kk : ∀ (w4 : List sx_C) (um : Int32), WI w4 → EM w0 w4 → j + 1 ≤ 7 → sx_RP xs (d + 7) 245 20 [(0, .ref 111), (1, .int a1), (2, .int um), (3, .int (nI (j + 1)))] [] w4 (fun r w2 => (∃ v : Int32, r = some (.int v)) ∧ WI w2 ∧ EM w0 w2)) : sx_RP xs (d + 7) 245 20 [(0, .ref 111), (1, .int a1), (2, .int m), (3, .int (nI j))] [] w (fun r w2 => (∃ v : Int32, r = some (.int v)) ∧ WI w2 ∧ EM w0 w2) := by
  refine sx_RP.step (pc2 := 21) (ls2 := [(0, .ref 111), (1, .int a1), (2, .int m), (3, .int (nI j))]) (st2 := [.int (nI j)]) (w3 := w) rfl rfl ?_
  refine sx_RP.step (pc2 := 23) (ls2 := [(0, .ref 111), (1, .int a1), (2, .int m), (3, .int (nI j))]) (st2 := [.int 7, .int (nI j)]) (w3 := w) rfl rfl ?_
  refine sx_RP.br (p1 := 55) (l1 := [(0, .ref 111), (1, .int a1), (2, .int m), (3, .int (nI j))]) (s1 := []) (v1 := w) (p2 := 26) (l2 := [(0, .ref 111), (1, .int a1), (2, .int m), (3, .int (nI j))]) (s2 := []) (v2 := w) rfl rfl (fun q1 => ?_) (fun q1 => ?_)
  · replace q1 := of_decide_eq_true q1
    replace q1 := (nI_leI (a := 7) (b := j) (by omega) (by omega)).mp q1
    refine sx_RP.step (pc2 := 56) (ls2 := [(0, .ref 111), (1, .int a1), (2, .int m), (3, .int (nI j))]) (st2 := [.int m]) (w3 := w) rfl rfl ?_
    refine sx_RP.ret (r := (some (.int m))) rfl rfl ?_
    exact ⟨⟨_, rfl⟩, hI, hE⟩
  · replace q1 := of_decide_eq_false q1
    replace q1 := mt (nI_leI (a := 7) (b := j) (by omega) (by omega)).mpr q1
    refine sx_RP.step (pc2 := 27) (ls2 := [(0, .ref 111), (1, .int a1), (2, .int m), (3, .int (nI j))]) (st2 := [.int m]) (w3 := w) rfl rfl ?_
    refine sx_RP.step (pc2 := 28) (ls2 := [(0, .ref 111), (1, .int a1), (2, .int m), (3, .int (nI j))]) (st2 := [.int a1, .int m]) (w3 := w) rfl rfl ?_
    refine sx_RP.step (pc2 := 29) (ls2 := [(0, .ref 111), (1, .int a1), (2, .int m), (3, .int (nI j))]) (st2 := [.int (-1), .int a1, .int m]) (w3 := w) rfl rfl ?_
    refine sx_RP.br (p1 := 37) (l1 := [(0, .ref 111), (1, .int a1), (2, .int m), (3, .int (nI j))]) (s1 := [.int m]) (v1 := w) (p2 := 32) (l2 := [(0, .ref 111), (1, .int a1), (2, .int m), (3, .int (nI j))]) (s2 := [.int m]) (v2 := w) rfl rfl (fun q2 => ?_) (fun q2 => ?_)
    · replace q2 := of_decide_eq_true q2
      refine sx_RP.step (pc2 := 38) (ls2 := [(0, .ref 111), (1, .int a1), (2, .int m), (3, .int (nI j))]) (st2 := [.ref 111, .int m]) (w3 := w) rfl rfl ?_
      refine sx_RP.gf (v := .ref 116) rfl rfl hI.1.o111 rfl rfl (show _ = 41 from rfl) ?_
      refine sx_RP.step (pc2 := 42) (ls2 := [(0, .ref 111), (1, .int a1), (2, .int m), (3, .int (nI j))]) (st2 := [.int (nI j), .ref 116, .int m]) (w3 := w) rfl rfl ?_
      refine sx_RP.ild (c := j) rfl hI.1.a116.1 hI.1.a116.2 (sx_in_nI (show j < 7 by omega) (by decide)) (show (nI j).toNatClampNeg = j from nI_clamp (by omega)) (show _ = 43 from rfl) ?_
      refine sx_RP.step (pc2 := 47) (ls2 := [(0, .ref 111), (1, .int a1), (2, .int m), (3, .int (nI j))]) (st2 := [.int ((ia w 116).getD j 0), .int m]) (w3 := w) rfl rfl ?_
      refine sx_RP.step (pc2 := 48) (ls2 := [(0, .ref 111), (1, .int a1), (2, .int m), (3, .int (nI j))]) (st2 := [.int (m + ((ia w 116).getD j 0))]) (w3 := w) rfl rfl ?_
      refine sx_RP.step (pc2 := 49) (ls2 := [(2, .int (m + ((ia w 116).getD j 0))), (0, .ref 111), (1, .int a1), (3, .int (nI j))]) (st2 := []) (w3 := w) rfl rfl ?_
      refine sx_RP.step (pc2 := 52) (ls2 := [(3, .int ((nI j) + 1)), (2, .int (m + ((ia w 116).getD j 0))), (0, .ref 111), (1, .int a1)]) (st2 := []) (w3 := w) rfl rfl ?_
      rw [nI_1 j]
      refine sx_RP.step (pc2 := 20) (ls2 := [(3, .int (nI (j + 1))), (2, .int (m + ((ia w 116).getD j 0))), (0, .ref 111), (1, .int a1)]) (st2 := []) (w3 := w) rfl rfl ?_
      exact sx_RP.ls (sx_lr.cons rfl (sx_lr.cons rfl (sx_lr.cons rfl (sx_lr.cons rfl sx_lr.nil)))) (kk w (m + ((ia w 116).getD j 0)) hI hE (by omega))
    · replace q2 := of_decide_eq_false q2
      refine sx_RP.step (pc2 := 33) (ls2 := [(0, .ref 111), (1, .int a1), (2, .int m), (3, .int (nI j))]) (st2 := [.int a1, .int m]) (w3 := w) rfl rfl ?_
      refine sx_RP.step (pc2 := 34) (ls2 := [(0, .ref 111), (1, .int a1), (2, .int m), (3, .int (nI j))]) (st2 := [.int (nI j), .int a1, .int m]) (w3 := w) rfl rfl ?_
      refine sx_RP.br (p1 := 46) (l1 := [(0, .ref 111), (1, .int a1), (2, .int m), (3, .int (nI j))]) (s1 := [.int m]) (v1 := w) (p2 := 37) (l2 := [(0, .ref 111), (1, .int a1), (2, .int m), (3, .int (nI j))]) (s2 := [.int m]) (v2 := w) rfl rfl (fun q3 => ?_) (fun q3 => ?_)
      · replace q3 := of_decide_eq_true q3
        refine sx_RP.step (pc2 := 47) (ls2 := [(0, .ref 111), (1, .int a1), (2, .int m), (3, .int (nI j))]) (st2 := [.int 0, .int m]) (w3 := w) rfl rfl ?_
        refine sx_RP.step (pc2 := 48) (ls2 := [(0, .ref 111), (1, .int a1), (2, .int m), (3, .int (nI j))]) (st2 := [.int (m + 0)]) (w3 := w) rfl rfl ?_
        refine sx_RP.step (pc2 := 49) (ls2 := [(2, .int (m + 0)), (0, .ref 111), (1, .int a1), (3, .int (nI j))]) (st2 := []) (w3 := w) rfl rfl ?_
        refine sx_RP.step (pc2 := 52) (ls2 := [(3, .int ((nI j) + 1)), (2, .int (m + 0)), (0, .ref 111), (1, .int a1)]) (st2 := []) (w3 := w) rfl rfl ?_
        rw [nI_1 j]
        refine sx_RP.step (pc2 := 20) (ls2 := [(3, .int (nI (j + 1))), (2, .int (m + 0)), (0, .ref 111), (1, .int a1)]) (st2 := []) (w3 := w) rfl rfl ?_
        exact sx_RP.ls (sx_lr.cons rfl (sx_lr.cons rfl (sx_lr.cons rfl (sx_lr.cons rfl sx_lr.nil)))) (kk w (m + 0) hI hE (by omega))
      · replace q3 := Decidable.not_not.mp (of_decide_eq_false q3)
        refine sx_RP.step (pc2 := 38) (ls2 := [(0, .ref 111), (1, .int a1), (2, .int m), (3, .int (nI j))]) (st2 := [.ref 111, .int m]) (w3 := w) rfl rfl ?_
        refine sx_RP.gf (v := .ref 116) rfl rfl hI.1.o111 rfl rfl (show _ = 41 from rfl) ?_
        refine sx_RP.step (pc2 := 42) (ls2 := [(0, .ref 111), (1, .int a1), (2, .int m), (3, .int (nI j))]) (st2 := [.int (nI j), .ref 116, .int m]) (w3 := w) rfl rfl ?_
        refine sx_RP.ild (c := j) rfl hI.1.a116.1 hI.1.a116.2 (sx_in_nI (show j < 7 by omega) (by decide)) (show (nI j).toNatClampNeg = j from nI_clamp (by omega)) (show _ = 43 from rfl) ?_
        refine sx_RP.step (pc2 := 47) (ls2 := [(0, .ref 111), (1, .int a1), (2, .int m), (3, .int (nI j))]) (st2 := [.int ((ia w 116).getD j 0), .int m]) (w3 := w) rfl rfl ?_
        refine sx_RP.step (pc2 := 48) (ls2 := [(0, .ref 111), (1, .int a1), (2, .int m), (3, .int (nI j))]) (st2 := [.int (m + ((ia w 116).getD j 0))]) (w3 := w) rfl rfl ?_
        refine sx_RP.step (pc2 := 49) (ls2 := [(2, .int (m + ((ia w 116).getD j 0))), (0, .ref 111), (1, .int a1), (3, .int (nI j))]) (st2 := []) (w3 := w) rfl rfl ?_
        refine sx_RP.step (pc2 := 52) (ls2 := [(3, .int ((nI j) + 1)), (2, .int (m + ((ia w 116).getD j 0))), (0, .ref 111), (1, .int a1)]) (st2 := []) (w3 := w) rfl rfl ?_
        rw [nI_1 j]
        refine sx_RP.step (pc2 := 20) (ls2 := [(3, .int (nI (j + 1))), (2, .int (m + ((ia w 116).getD j 0))), (0, .ref 111), (1, .int a1)]) (st2 := []) (w3 := w) rfl rfl ?_
        exact sx_RP.ls (sx_lr.cons rfl (sx_lr.cons rfl (sx_lr.cons rfl (sx_lr.cons rfl sx_lr.nil)))) (kk w (m + ((ia w 116).getD j 0)) hI hE (by omega))
set_option maxRecDepth 20000 in
set_option maxHeartbeats 4000000 in
theorem s245L {xs : Option (List Int32)} {d : Nat} {w0 : List sx_C} (a1 : Int32) : ∀ (fz j : Nat) (w : List sx_C) (m : Int32) , 7 ≤ j + fz * 1 → j ≤ 7 → WI w → EM w0 w → sx_RP xs (d + 7) 245 20 [(0, .ref 111), (1, .int a1), (2, .int m), (3, .int (nI j))] [] w (fun r w2 => (∃ v : Int32, r = some (.int v)) ∧ WI w2 ∧ EM w0 w2)
  | 0, j, w, m, h, hj, hI, hE => s245B a1 hI hE hj m  (fun w4 um hI4 hE4 hlt  => absurd hlt (by omega)) 
  | fz + 1, j, w, m, h, hj, hI, hE => s245B a1 hI hE hj m  (fun w4 um hI4 hE4 hlt  => s245L a1  fz (j + 1) w4 um (by omega) hlt hI4 hE4 ) 
set_option maxRecDepth 20000 in
set_option maxHeartbeats 4000000 in
theorem s245 {xs : Option (List Int32)} {d : Nat} {w : List sx_C} (hI : WI w) (a1 : Int32) : sx_RP xs (d + 7) 245 0 (lv_args 0 [.ref 111, .int a1]) [] w (fun r w2 => (∃ v : Int32, r = some (.int v)) ∧ WI w2 ∧ EM w w2) := by
  have hE : EM w w := EM.rf
  refine sx_RP.step (pc2 := 1) (ls2 := [(0, .ref 111), (1, .int a1)]) (st2 := [.int a1]) (w3 := w) rfl rfl ?_
  refine sx_RP.step (pc2 := 2) (ls2 := [(0, .ref 111), (1, .int a1)]) (st2 := [.int (-1), .int a1]) (w3 := w) rfl rfl ?_
  refine sx_RP.step (pc2 := 4) (ls2 := [(0, .ref 111), (1, .int a1)]) (st2 := [.int 6, .int (-1), .int a1]) (w3 := w) rfl rfl ?_
  rcases in_casesM a1 (n := 6) (by decide) with q1 | rfl | ⟨x2, hx3, rfl⟩
  · refine sx_RP.cu (as := [.int a1, .int (-1), .int 6]) (rest2 := []) (st3 := [.int 0]) rfl rfl rfl rfl rfl (cx_132o q1) rfl ?_
    refine sx_RP.step (pc2 := 10) (ls2 := [(0, .ref 111), (1, .int a1)]) (st2 := []) (w3 := w) rfl rfl ?_
    refine sx_RP.step (pc2 := 11) (ls2 := [(0, .ref 111), (1, .int a1)]) (st2 := [.ref 111]) (w3 := w) rfl rfl ?_
    refine sx_RP.step (pc2 := 12) (ls2 := [(0, .ref 111), (1, .int a1)]) (st2 := [.int 0, .ref 111]) (w3 := w) rfl rfl ?_
    refine sx_RP.callp (as2 := [.ref 111, .int 0]) (rest2 := []) rfl rfl (sx_inv_v2 (mi := 245) (k := 70) (st := [.int 0, .ref 111]) (w := w) rfl rfl hI.1.o111 rfl rfl rfl) rfl rfl rfl (s133_0 hI) (show _ = 15 from rfl) ?_
    rintro r4 w4 ⟨rfl, hI5, hE7⟩
    have hE6 := hE.tr (hE7)
    show sx_RP _ _ _ _ _ [.int (-1000000001)] _ _
    refine sx_RP.ret (r := (some (.int (-1000000001)))) rfl rfl ?_
    exact ⟨⟨_, rfl⟩, hI5, hE6⟩
  · refine sx_RP.cu (as := [.int (-1), .int (-1), .int 6]) (rest2 := []) (st3 := [.int 1]) rfl rfl rfl rfl rfl (cx_132p (by decide)) rfl ?_
    refine sx_RP.step (pc2 := 16) (ls2 := [(0, .ref 111), (1, .int (-1))]) (st2 := []) (w3 := w) rfl rfl ?_
    refine sx_RP.step (pc2 := 17) (ls2 := [(0, .ref 111), (1, .int (-1))]) (st2 := [.int 0]) (w3 := w) rfl rfl ?_
    refine sx_RP.step (pc2 := 18) (ls2 := [(2, .int 0), (0, .ref 111), (1, .int (-1))]) (st2 := []) (w3 := w) rfl rfl ?_
    refine sx_RP.step (pc2 := 19) (ls2 := [(2, .int 0), (0, .ref 111), (1, .int (-1))]) (st2 := [.int 0]) (w3 := w) rfl rfl ?_
    refine sx_RP.step (pc2 := 20) (ls2 := [(3, .int 0), (2, .int 0), (0, .ref 111), (1, .int (-1))]) (st2 := []) (w3 := w) rfl rfl ?_
    exact sx_RP.ls (sx_lr.cons rfl (sx_lr.cons rfl (sx_lr.cons rfl (sx_lr.cons rfl sx_lr.nil)))) (s245L (-1) 7 0 w 0 (by omega) (by omega) hI hE )
  · refine sx_RP.cu (as := [.int (nI x2), .int (-1), .int 6]) (rest2 := []) (st3 := [.int 1]) rfl rfl rfl rfl rfl (cx_132p ⟨Int32.le_iff_toInt_le.mpr (by rw [nI_toInt (by omega)]; exact Int.le_trans (by decide) (Int.natCast_nonneg _)), nI_le (b := 6) hx3 (by decide)⟩) rfl ?_
    refine sx_RP.step (pc2 := 16) (ls2 := [(0, .ref 111), (1, .int (nI x2))]) (st2 := []) (w3 := w) rfl rfl ?_
    refine sx_RP.step (pc2 := 17) (ls2 := [(0, .ref 111), (1, .int (nI x2))]) (st2 := [.int 0]) (w3 := w) rfl rfl ?_
    refine sx_RP.step (pc2 := 18) (ls2 := [(2, .int 0), (0, .ref 111), (1, .int (nI x2))]) (st2 := []) (w3 := w) rfl rfl ?_
    refine sx_RP.step (pc2 := 19) (ls2 := [(2, .int 0), (0, .ref 111), (1, .int (nI x2))]) (st2 := [.int 0]) (w3 := w) rfl rfl ?_
    refine sx_RP.step (pc2 := 20) (ls2 := [(3, .int 0), (2, .int 0), (0, .ref 111), (1, .int (nI x2))]) (st2 := []) (w3 := w) rfl rfl ?_
    exact sx_RP.ls (sx_lr.cons rfl (sx_lr.cons rfl (sx_lr.cons rfl (sx_lr.cons rfl sx_lr.nil)))) (s245L (nI x2) 7 0 w 0 (by omega) (by omega) hI hE )
theorem nI_m1 {v : Nat} (h : 0 < v) : nI v + (-1) = nI (v - 1) := by
  obtain ⟨k, rfl⟩ : ∃ k, v = k + 1 := ⟨v - 1, by omega⟩
  rw [Nat.add_sub_cancel, ← nI_pred k, Int32.sub_eq_add_neg]
set_option maxRecDepth 20000 in
set_option maxHeartbeats 4000000 in
theorem s207B {xs : Option (List Int32)} {d n v : Nat} {w w0 : List sx_C} (hn : n ≤ 999) (hv : v ≤ 99) (hI : WI w) (hE : EM w0 w) (kk : 1 ≤ v → sx_RP xs (d + 7) 207 20 [(0, .ref 111), (1, .int (nI n)), (2, .int (nI (v - 1)))] [] w (fun r w2 => (∃ v : Int32, r = some (.int v)) ∧ WI w2 ∧ EM w0 w2)) : sx_RP xs (d + 7) 207 20 [(0, .ref 111), (1, .int (nI n)), (2, .int (nI v))] [] w (fun r w2 => (∃ v : Int32, r = some (.int v)) ∧ WI w2 ∧ EM w0 w2) := by
  refine sx_RP.step (pc2 := 21) (ls2 := [(0, .ref 111), (1, .int (nI n)), (2, .int (nI v))]) (st2 := [.int (nI v)]) (w3 := w) rfl rfl ?_
  refine sx_RP.br (p1 := 39) (l1 := [(0, .ref 111), (1, .int (nI n)), (2, .int (nI v))]) (s1 := []) (v1 := w) (p2 := 24) (l2 := [(0, .ref 111), (1, .int (nI n)), (2, .int (nI v))]) (s2 := []) (v2 := w) rfl rfl (fun q1 => ?_) (fun q1 => ?_)
  · replace q1 := of_decide_eq_true q1
    replace q1 := (nI_leI (a := v) (b := 0) (by omega) (by omega)).mp q1
    refine sx_RP.step (pc2 := 40) (ls2 := [(0, .ref 111), (1, .int (nI n)), (2, .int (nI v))]) (st2 := [.int (nI v)]) (w3 := w) rfl rfl ?_
    refine sx_RP.br (p1 := 47) (l1 := [(0, .ref 111), (1, .int (nI n)), (2, .int (nI v))]) (s1 := []) (v1 := w) (p2 := 43) (l2 := [(0, .ref 111), (1, .int (nI n)), (2, .int (nI v))]) (s2 := []) (v2 := w) rfl rfl (fun q2 => ?_) (fun q2 => ?_)
    · replace q2 := of_decide_eq_true q2
      replace q2 := (nI_leI (a := v) (b := 0) (by omega) (by omega)).mp q2
      refine sx_RP.step (pc2 := 48) (ls2 := [(0, .ref 111), (1, .int (nI n)), (2, .int (nI v))]) (st2 := [.ref 111]) (w3 := w) rfl rfl ?_
      refine sx_RP.step (pc2 := 49) (ls2 := [(0, .ref 111), (1, .int (nI n)), (2, .int (nI v))]) (st2 := [.int 3, .ref 111]) (w3 := w) rfl rfl ?_
      refine sx_RP.callp (as2 := [.ref 111, .int 3]) (rest2 := []) rfl rfl (sx_inv_v2 (mi := 207) (k := 70) (st := [.int 3, .ref 111]) (w := w) rfl rfl hI.1.o111 rfl rfl rfl) rfl rfl rfl (s133_3 hI) (show _ = 52 from rfl) ?_
      rintro r4 w3 ⟨rfl, hI4, hE6⟩
      have hE5 := hE.tr (hE6)
      show sx_RP _ _ _ _ _ [.int (-1000000004)] _ _
      refine sx_RP.ret (r := (some (.int (-1000000004)))) rfl rfl ?_
      exact ⟨⟨_, rfl⟩, hI4, hE5⟩
    · replace q2 := of_decide_eq_false q2
      replace q2 := mt (nI_leI (a := v) (b := 0) (by omega) (by omega)).mpr q2
      refine sx_RP.step (pc2 := 44) (ls2 := [(0, .ref 111), (1, .int (nI n)), (2, .int (nI v))]) (st2 := [.int (nI v)]) (w3 := w) rfl rfl ?_
      refine sx_RP.step (pc2 := 52) (ls2 := [(0, .ref 111), (1, .int (nI n)), (2, .int (nI v))]) (st2 := [.int (nI v)]) (w3 := w) rfl rfl ?_
      refine sx_RP.ret (r := (some (.int (nI v)))) rfl rfl ?_
      exact ⟨⟨_, rfl⟩, hI, hE⟩
  · replace q1 := of_decide_eq_false q1
    replace q1 := mt (nI_leI (a := v) (b := 0) (by omega) (by omega)).mpr q1
    refine sx_RP.step (pc2 := 25) (ls2 := [(0, .ref 111), (1, .int (nI n)), (2, .int (nI v))]) (st2 := [.ref 111]) (w3 := w) rfl rfl ?_
    refine sx_RP.step (pc2 := 26) (ls2 := [(0, .ref 111), (1, .int (nI n)), (2, .int (nI v))]) (st2 := [.int (nI v), .ref 111]) (w3 := w) rfl rfl ?_
    obtain ⟨v7, c8⟩ := q206 hI (nI v)
    refine sx_RP.cu (as := [.ref 111, .int (nI v)]) (rest2 := []) (st3 := [.int v7]) rfl rfl (sx_inv_v2 (mi := 207) (k := 205) (st := [.int (nI v), .ref 111]) (w := w) rfl rfl hI.1.o111 rfl rfl rfl) rfl rfl (c8) rfl ?_
    refine sx_RP.step (pc2 := 30) (ls2 := [(0, .ref 111), (1, .int (nI n)), (2, .int (nI v))]) (st2 := [.int (nI n), .int v7]) (w3 := w) rfl rfl ?_
    refine sx_RP.br (p1 := 39) (l1 := [(0, .ref 111), (1, .int (nI n)), (2, .int (nI v))]) (s1 := []) (v1 := w) (p2 := 33) (l2 := [(0, .ref 111), (1, .int (nI n)), (2, .int (nI v))]) (s2 := []) (v2 := w) rfl rfl (fun q9 => ?_) (fun q9 => ?_)
    · replace q9 := of_decide_eq_true q9
      refine sx_RP.step (pc2 := 40) (ls2 := [(0, .ref 111), (1, .int (nI n)), (2, .int (nI v))]) (st2 := [.int (nI v)]) (w3 := w) rfl rfl ?_
      refine sx_RP.br (p1 := 47) (l1 := [(0, .ref 111), (1, .int (nI n)), (2, .int (nI v))]) (s1 := []) (v1 := w) (p2 := 43) (l2 := [(0, .ref 111), (1, .int (nI n)), (2, .int (nI v))]) (s2 := []) (v2 := w) rfl rfl (fun q10 => ?_) (fun q10 => ?_)
      · replace q10 := of_decide_eq_true q10
        replace q10 := (nI_leI (a := v) (b := 0) (by omega) (by omega)).mp q10
        refine sx_RP.step (pc2 := 48) (ls2 := [(0, .ref 111), (1, .int (nI n)), (2, .int (nI v))]) (st2 := [.ref 111]) (w3 := w) rfl rfl ?_
        refine sx_RP.step (pc2 := 49) (ls2 := [(0, .ref 111), (1, .int (nI n)), (2, .int (nI v))]) (st2 := [.int 3, .ref 111]) (w3 := w) rfl rfl ?_
        refine sx_RP.callp (as2 := [.ref 111, .int 3]) (rest2 := []) rfl rfl (sx_inv_v2 (mi := 207) (k := 70) (st := [.int 3, .ref 111]) (w := w) rfl rfl hI.1.o111 rfl rfl rfl) rfl rfl rfl (s133_3 hI) (show _ = 52 from rfl) ?_
        rintro r4 w11 ⟨rfl, hI12, hE14⟩
        have hE13 := hE.tr (hE14)
        show sx_RP _ _ _ _ _ [.int (-1000000004)] _ _
        refine sx_RP.ret (r := (some (.int (-1000000004)))) rfl rfl ?_
        exact ⟨⟨_, rfl⟩, hI12, hE13⟩
      · replace q10 := of_decide_eq_false q10
        replace q10 := mt (nI_leI (a := v) (b := 0) (by omega) (by omega)).mpr q10
        refine sx_RP.step (pc2 := 44) (ls2 := [(0, .ref 111), (1, .int (nI n)), (2, .int (nI v))]) (st2 := [.int (nI v)]) (w3 := w) rfl rfl ?_
        refine sx_RP.step (pc2 := 52) (ls2 := [(0, .ref 111), (1, .int (nI n)), (2, .int (nI v))]) (st2 := [.int (nI v)]) (w3 := w) rfl rfl ?_
        refine sx_RP.ret (r := (some (.int (nI v)))) rfl rfl ?_
        exact ⟨⟨_, rfl⟩, hI, hE⟩
    · replace q9 := of_decide_eq_false q9
      refine sx_RP.step (pc2 := 36) (ls2 := [(2, .int (nI v + (-1))), (0, .ref 111), (1, .int (nI n))]) (st2 := []) (w3 := w) rfl rfl ?_
      rw [show nI v + (-1) = nI (v - 1) from nI_m1 (by omega)]
      refine sx_RP.step (pc2 := 20) (ls2 := [(2, .int (nI (v - 1))), (0, .ref 111), (1, .int (nI n))]) (st2 := []) (w3 := w) rfl rfl ?_
      exact sx_RP.ls (sx_lr.cons rfl (sx_lr.cons rfl (sx_lr.cons rfl sx_lr.nil))) (kk (by omega))
theorem s207L {xs : Option (List Int32)} {d n : Nat} {w w0 : List sx_C} (hn : n ≤ 999) (hI : WI w) (hE : EM w0 w) : ∀ v, v ≤ 99 → sx_RP xs (d + 7) 207 20 [(0, .ref 111), (1, .int (nI n)), (2, .int (nI v))] [] w (fun r w2 => (∃ v : Int32, r = some (.int v)) ∧ WI w2 ∧ EM w0 w2)
  | 0, hv => s207B hn hv hI hE (fun h => absurd h (by decide))
  | v + 1, hv => s207B hn hv hI hE (fun _ => s207L hn hI hE v (by omega))
set_option maxRecDepth 20000 in
set_option maxHeartbeats 4000000 in
theorem s207 {xs : Option (List Int32)} {d : Nat} {w : List sx_C} (hI : WI w) (a1 : Int32) : sx_RP xs (d + 7) 207 0 (lv_args 0 [.ref 111, .int a1]) [] w (fun r w2 => (∃ v : Int32, r = some (.int v)) ∧ WI w2 ∧ EM w w2) := by
  have hE : EM w w := EM.rf
  refine sx_RP.step (pc2 := 1) (ls2 := [(0, .ref 111), (1, .int a1)]) (st2 := [.int a1]) (w3 := w) rfl rfl ?_
  refine sx_RP.step (pc2 := 2) (ls2 := [(0, .ref 111), (1, .int a1)]) (st2 := [.int 1, .int a1]) (w3 := w) rfl rfl ?_
  refine sx_RP.step (pc2 := 5) (ls2 := [(0, .ref 111), (1, .int a1)]) (st2 := [.int 999, .int 1, .int a1]) (w3 := w) rfl rfl ?_
  rcases in_cases a1 1 999 (m := 1) (n := 999) rfl rfl (by decide) (by decide) with q1 | ⟨x2, hx3, hx4, rfl⟩
  · refine sx_RP.cu (as := [.int a1, .int 1, .int 999]) (rest2 := []) (st3 := [.int 0]) rfl rfl rfl rfl rfl (cx_132o q1) rfl ?_
    refine sx_RP.step (pc2 := 11) (ls2 := [(0, .ref 111), (1, .int a1)]) (st2 := []) (w3 := w) rfl rfl ?_
    refine sx_RP.step (pc2 := 12) (ls2 := [(0, .ref 111), (1, .int a1)]) (st2 := [.ref 111]) (w3 := w) rfl rfl ?_
    refine sx_RP.step (pc2 := 13) (ls2 := [(0, .ref 111), (1, .int a1)]) (st2 := [.int 0, .ref 111]) (w3 := w) rfl rfl ?_
    refine sx_RP.callp (as2 := [.ref 111, .int 0]) (rest2 := []) rfl rfl (sx_inv_v2 (mi := 207) (k := 70) (st := [.int 0, .ref 111]) (w := w) rfl rfl hI.1.o111 rfl rfl rfl) rfl rfl rfl (s133_0 hI) (show _ = 16 from rfl) ?_
    rintro r4 w6 ⟨rfl, hI7, hE9⟩
    have hE8 := hE.tr (hE9)
    show sx_RP _ _ _ _ _ [.int (-1000000001)] _ _
    refine sx_RP.ret (r := (some (.int (-1000000001)))) rfl rfl ?_
    exact ⟨⟨_, rfl⟩, hI7, hE8⟩
  · refine sx_RP.cu (as := [.int (nI x2), .int 1, .int 999]) (rest2 := []) (st3 := [.int 1]) rfl rfl rfl rfl rfl (cx_132p ⟨nI_le (a := 1) hx3 (by omega), nI_le (b := 999) hx4 (by decide)⟩) rfl ?_
    refine sx_RP.step (pc2 := 17) (ls2 := [(0, .ref 111), (1, .int (nI x2))]) (st2 := []) (w3 := w) rfl rfl ?_
    refine sx_RP.step (pc2 := 19) (ls2 := [(0, .ref 111), (1, .int (nI x2))]) (st2 := [.int 99]) (w3 := w) rfl rfl ?_
    refine sx_RP.step (pc2 := 20) (ls2 := [(2, .int 99), (0, .ref 111), (1, .int (nI x2))]) (st2 := []) (w3 := w) rfl rfl ?_
    exact sx_RP.ls (sx_lr.cons rfl (sx_lr.cons rfl (sx_lr.cons rfl sx_lr.nil))) (s207L (n := x2) (by omega) hI hE 99 (by decide))
set_option maxRecDepth 20000 in
set_option maxHeartbeats 4000000 in
theorem s201iB {xs : Option (List Int32)} {d : Nat} {w w0 : List sx_C} {c p i : Nat} (hc : c < 48) (hp : p ≤ 30) (hi : i < 48) (hI : WI w) (hE : EM w0 w) {j : Nat} (hj : j ≤ 10) (n : Int32) (kk : ∀ (w4 : List sx_C) (un : Int32), WI w4 → EM w0 w4 → j + 1 ≤ 10 → sx_RP xs (d + 7) 201 95 [(0, .ref 111), (1, .int (nI c)), (2, .int (nI p)), (3, .int un), (4, .int (nI i)), (5, .int (nI (j + 1)))] [] w4 (fun r w2 => (∃ v : Int32, r = some (.int v)) ∧ WI w2 ∧ EM w0 w2)) (kx143 : ∀ (w4 : List sx_C) (un : Int32), WI w4 → EM w0 w4 → sx_RP xs (d + 7) 201 143 [(0, .ref 111), (1, .int (nI c)), (2, .int (nI p)), (3, .int un), (4, .int (nI i))] [] w4 (fun r w2 => (∃ v : Int32, r = some (.int v)) ∧ WI w2 ∧ EM w0 w2)) : sx_RP xs (d + 7) 201 95 [(0, .ref 111), (1, .int (nI c)), (2, .int (nI p)), (3, .int n), (4, .int (nI i)), (5, .int (nI j))] [] w (fun r w2 => (∃ v : Int32, r = some (.int v)) ∧ WI w2 ∧ EM w0 w2) := by
  refine sx_RP.step (pc2 := 97) (ls2 := [(0, .ref 111), (1, .int (nI c)), (2, .int (nI p)), (3, .int n), (4, .int (nI i)), (5, .int (nI j))]) (st2 := [.int (nI j)]) (w3 := w) rfl rfl ?_
  refine sx_RP.step (pc2 := 98) (ls2 := [(0, .ref 111), (1, .int (nI c)), (2, .int (nI p)), (3, .int n), (4, .int (nI i)), (5, .int (nI j))]) (st2 := [.ref 111, .int (nI j)]) (w3 := w) rfl rfl ?_
  refine sx_RP.gf (v := .ref 112) rfl rfl hI.1.o111 rfl rfl (show _ = 101 from rfl) ?_
  refine sx_RP.step (pc2 := 102) (ls2 := [(0, .ref 111), (1, .int (nI c)), (2, .int (nI p)), (3, .int n), (4, .int (nI i)), (5, .int (nI j))]) (st2 := [.int 1, .ref 112, .int (nI j)]) (w3 := w) rfl rfl ?_
  refine sx_RP.ild (c := 1) rfl hI.1.a112.1 hI.1.a112.2 (sx_in_nI (show 1 < 172 by omega) (by decide)) (show (nI 1).toNatClampNeg = 1 from nI_clamp (by omega)) (show _ = 103 from rfl) ?_
  obtain ⟨x1, hx2, ex3⟩ : inR ((ia w 112).getD 1 0) 10 := (hI.s (1) (by omega)).1 rfl
  rw [ex3]
  refine sx_RP.br (p1 := 143) (l1 := [(0, .ref 111), (1, .int (nI c)), (2, .int (nI p)), (3, .int n), (4, .int (nI i)), (5, .int (nI j))]) (s1 := []) (v1 := w) (p2 := 106) (l2 := [(0, .ref 111), (1, .int (nI c)), (2, .int (nI p)), (3, .int n), (4, .int (nI i)), (5, .int (nI j))]) (s2 := []) (v2 := w) rfl rfl (fun q4 => ?_) (fun q4 => ?_)
  · replace q4 := of_decide_eq_true q4
    replace q4 := (nI_leI (a := x1) (b := j) (by omega) (by omega)).mp q4
    exact sx_RP.ls (sx_lr.cons rfl (sx_lr.cons rfl (sx_lr.cons rfl (sx_lr.cons rfl (sx_lr.cons rfl sx_lr.nil))))) (kx143 w n hI hE)
  · replace q4 := of_decide_eq_false q4
    replace q4 := mt (nI_leI (a := x1) (b := j) (by omega) (by omega)).mpr q4
    refine sx_RP.step (pc2 := 107) (ls2 := [(0, .ref 111), (1, .int (nI c)), (2, .int (nI p)), (3, .int n), (4, .int (nI i)), (5, .int (nI j))]) (st2 := [.int n]) (w3 := w) rfl rfl ?_
    refine sx_RP.step (pc2 := 108) (ls2 := [(0, .ref 111), (1, .int (nI c)), (2, .int (nI p)), (3, .int n), (4, .int (nI i)), (5, .int (nI j))]) (st2 := [.ref 111, .int n]) (w3 := w) rfl rfl ?_
    refine sx_RP.step (pc2 := 110) (ls2 := [(0, .ref 111), (1, .int (nI c)), (2, .int (nI p)), (3, .int n), (4, .int (nI i)), (5, .int (nI j))]) (st2 := [.int (nI j), .ref 111, .int n]) (w3 := w) rfl rfl ?_
    refine sx_RP.step (pc2 := 111) (ls2 := [(0, .ref 111), (1, .int (nI c)), (2, .int (nI p)), (3, .int n), (4, .int (nI i)), (5, .int (nI j))]) (st2 := [.int 2, .int (nI j), .ref 111, .int n]) (w3 := w) rfl rfl ?_
    obtain ⟨x5, hx6, c7⟩ := p138_2 hI (show j < 10 by omega)
    refine sx_RP.cu (as := [.ref 111, .int (nI j), .int 2]) (rest2 := [.int n]) (st3 := [.int (nI x5), .int n]) rfl rfl (sx_inv_v2 (mi := 201) (k := 59) (st := [.int 2, .int (nI j), .ref 111, .int n]) (w := w) rfl rfl hI.1.o111 rfl rfl rfl) rfl rfl (c7) rfl ?_
    refine sx_RP.step (pc2 := 116) (ls2 := [(0, .ref 111), (1, .int (nI c)), (2, .int (nI p)), (3, .int n), (4, .int (nI i)), (5, .int (nI j))]) (st2 := [.int (nI i), .int (nI x5), .int n]) (w3 := w) rfl rfl ?_
    refine sx_RP.br (p1 := 134) (l1 := [(0, .ref 111), (1, .int (nI c)), (2, .int (nI p)), (3, .int n), (4, .int (nI i)), (5, .int (nI j))]) (s1 := [.int n]) (v1 := w) (p2 := 119) (l2 := [(0, .ref 111), (1, .int (nI c)), (2, .int (nI p)), (3, .int n), (4, .int (nI i)), (5, .int (nI j))]) (s2 := [.int n]) (v2 := w) rfl rfl (fun q8 => ?_) (fun q8 => ?_)
    · replace q8 := of_decide_eq_true q8
      replace q8 := mt (nI_eq (a := x5) (b := i) (by omega) (by omega)).mpr q8
      refine sx_RP.step (pc2 := 135) (ls2 := [(0, .ref 111), (1, .int (nI c)), (2, .int (nI p)), (3, .int n), (4, .int (nI i)), (5, .int (nI j))]) (st2 := [.int 0, .int n]) (w3 := w) rfl rfl ?_
      refine sx_RP.step (pc2 := 136) (ls2 := [(0, .ref 111), (1, .int (nI c)), (2, .int (nI p)), (3, .int n), (4, .int (nI i)), (5, .int (nI j))]) (st2 := [.int (n + 0)]) (w3 := w) rfl rfl ?_
      refine sx_RP.step (pc2 := 137) (ls2 := [(3, .int (n + 0)), (0, .ref 111), (1, .int (nI c)), (2, .int (nI p)), (4, .int (nI i)), (5, .int (nI j))]) (st2 := []) (w3 := w) rfl rfl ?_
      refine sx_RP.step (pc2 := 140) (ls2 := [(5, .int ((nI j) + 1)), (3, .int (n + 0)), (0, .ref 111), (1, .int (nI c)), (2, .int (nI p)), (4, .int (nI i))]) (st2 := []) (w3 := w) rfl rfl ?_
      rw [nI_1 j]
      refine sx_RP.step (pc2 := 95) (ls2 := [(5, .int (nI (j + 1))), (3, .int (n + 0)), (0, .ref 111), (1, .int (nI c)), (2, .int (nI p)), (4, .int (nI i))]) (st2 := []) (w3 := w) rfl rfl ?_
      exact sx_RP.ls (sx_lr.cons rfl (sx_lr.cons rfl (sx_lr.cons rfl (sx_lr.cons rfl (sx_lr.cons rfl (sx_lr.cons rfl sx_lr.nil)))))) (kk w (n + 0) hI hE (by omega))
    · replace q8 := Decidable.not_not.mp (of_decide_eq_false q8)
      replace q8 := (nI_eq (a := x5) (b := i) (by omega) (by omega)).mp q8
      refine sx_RP.step (pc2 := 120) (ls2 := [(0, .ref 111), (1, .int (nI c)), (2, .int (nI p)), (3, .int n), (4, .int (nI i)), (5, .int (nI j))]) (st2 := [.ref 111, .int n]) (w3 := w) rfl rfl ?_
      refine sx_RP.step (pc2 := 122) (ls2 := [(0, .ref 111), (1, .int (nI c)), (2, .int (nI p)), (3, .int n), (4, .int (nI i)), (5, .int (nI j))]) (st2 := [.int (nI j), .ref 111, .int n]) (w3 := w) rfl rfl ?_
      refine sx_RP.step (pc2 := 123) (ls2 := [(0, .ref 111), (1, .int (nI c)), (2, .int (nI p)), (3, .int n), (4, .int (nI i)), (5, .int (nI j))]) (st2 := [.int 5, .int (nI j), .ref 111, .int n]) (w3 := w) rfl rfl ?_
      refine sx_RP.step (pc2 := 124) (ls2 := [(0, .ref 111), (1, .int (nI c)), (2, .int (nI p)), (3, .int n), (4, .int (nI i)), (5, .int (nI j))]) (st2 := [.int 1, .int 5, .int (nI j), .ref 111, .int n]) (w3 := w) rfl rfl ?_
      refine sx_RP.callp (as2 := [.ref 111, .int (nI j), .int 5, .int 1]) (rest2 := [.int n]) rfl rfl (sx_inv_v2 (mi := 201) (k := 110) (st := [.int 1, .int 5, .int (nI j), .ref 111, .int n]) (w := w) rfl rfl hI.1.o111 rfl rfl rfl) rfl rfl rfl (s154_5 hI (show j < 10 by omega) (show 1 ≤ 1 by omega)) (show _ = 127 from rfl) ?_
      rintro r4 w10 ⟨⟨v9, rfl⟩, hI11, hE13⟩
      have hE12 := hE.tr (hE13)
      show sx_RP _ _ _ _ _ [.int v9, .int n] _ _
      refine sx_RP.br (p1 := 134) (l1 := [(0, .ref 111), (1, .int (nI c)), (2, .int (nI p)), (3, .int n), (4, .int (nI i)), (5, .int (nI j))]) (s1 := [.int n]) (v1 := w10) (p2 := 130) (l2 := [(0, .ref 111), (1, .int (nI c)), (2, .int (nI p)), (3, .int n), (4, .int (nI i)), (5, .int (nI j))]) (s2 := [.int n]) (v2 := w10) rfl rfl (fun q14 => ?_) (fun q14 => ?_)
      · replace q14 := of_decide_eq_true q14
        refine sx_RP.step (pc2 := 135) (ls2 := [(0, .ref 111), (1, .int (nI c)), (2, .int (nI p)), (3, .int n), (4, .int (nI i)), (5, .int (nI j))]) (st2 := [.int 0, .int n]) (w3 := w10) rfl rfl ?_
        refine sx_RP.step (pc2 := 136) (ls2 := [(0, .ref 111), (1, .int (nI c)), (2, .int (nI p)), (3, .int n), (4, .int (nI i)), (5, .int (nI j))]) (st2 := [.int (n + 0)]) (w3 := w10) rfl rfl ?_
        refine sx_RP.step (pc2 := 137) (ls2 := [(3, .int (n + 0)), (0, .ref 111), (1, .int (nI c)), (2, .int (nI p)), (4, .int (nI i)), (5, .int (nI j))]) (st2 := []) (w3 := w10) rfl rfl ?_
        refine sx_RP.step (pc2 := 140) (ls2 := [(5, .int ((nI j) + 1)), (3, .int (n + 0)), (0, .ref 111), (1, .int (nI c)), (2, .int (nI p)), (4, .int (nI i))]) (st2 := []) (w3 := w10) rfl rfl ?_
        rw [nI_1 j]
        refine sx_RP.step (pc2 := 95) (ls2 := [(5, .int (nI (j + 1))), (3, .int (n + 0)), (0, .ref 111), (1, .int (nI c)), (2, .int (nI p)), (4, .int (nI i))]) (st2 := []) (w3 := w10) rfl rfl ?_
        exact sx_RP.ls (sx_lr.cons rfl (sx_lr.cons rfl (sx_lr.cons rfl (sx_lr.cons rfl (sx_lr.cons rfl (sx_lr.cons rfl sx_lr.nil)))))) (kk w10 (n + 0) hI11 hE12 (by omega))
      · replace q14 := Decidable.not_not.mp (of_decide_eq_false q14)
        refine sx_RP.step (pc2 := 131) (ls2 := [(0, .ref 111), (1, .int (nI c)), (2, .int (nI p)), (3, .int n), (4, .int (nI i)), (5, .int (nI j))]) (st2 := [.int 1, .int n]) (w3 := w10) rfl rfl ?_
        refine sx_RP.step (pc2 := 135) (ls2 := [(0, .ref 111), (1, .int (nI c)), (2, .int (nI p)), (3, .int n), (4, .int (nI i)), (5, .int (nI j))]) (st2 := [.int 1, .int n]) (w3 := w10) rfl rfl ?_
        refine sx_RP.step (pc2 := 136) (ls2 := [(0, .ref 111), (1, .int (nI c)), (2, .int (nI p)), (3, .int n), (4, .int (nI i)), (5, .int (nI j))]) (st2 := [.int (n + 1)]) (w3 := w10) rfl rfl ?_
        refine sx_RP.step (pc2 := 137) (ls2 := [(3, .int (n + 1)), (0, .ref 111), (1, .int (nI c)), (2, .int (nI p)), (4, .int (nI i)), (5, .int (nI j))]) (st2 := []) (w3 := w10) rfl rfl ?_
        refine sx_RP.step (pc2 := 140) (ls2 := [(5, .int ((nI j) + 1)), (3, .int (n + 1)), (0, .ref 111), (1, .int (nI c)), (2, .int (nI p)), (4, .int (nI i))]) (st2 := []) (w3 := w10) rfl rfl ?_
        rw [nI_1 j]
        refine sx_RP.step (pc2 := 95) (ls2 := [(5, .int (nI (j + 1))), (3, .int (n + 1)), (0, .ref 111), (1, .int (nI c)), (2, .int (nI p)), (4, .int (nI i))]) (st2 := []) (w3 := w10) rfl rfl ?_
        exact sx_RP.ls (sx_lr.cons rfl (sx_lr.cons rfl (sx_lr.cons rfl (sx_lr.cons rfl (sx_lr.cons rfl (sx_lr.cons rfl sx_lr.nil)))))) (kk w10 (n + 1) hI11 hE12 (by omega))
set_option maxRecDepth 20000 in
set_option maxHeartbeats 4000000 in
theorem s201iL {xs : Option (List Int32)} {d : Nat} {w0 : List sx_C} {c p i : Nat} (hc : c < 48) (hp : p ≤ 30) (hi : i < 48) (kx143 : ∀ (w4 : List sx_C) (un : Int32), WI w4 → EM w0 w4 → sx_RP xs (d + 7) 201 143 [(0, .ref 111), (1, .int (nI c)), (2, .int (nI p)), (3, .int un), (4, .int (nI i))] [] w4 (fun r w2 => (∃ v : Int32, r = some (.int v)) ∧ WI w2 ∧ EM w0 w2)) : ∀ (fz j : Nat) (w : List sx_C) (n : Int32) , 10 ≤ j + fz * 1 → j ≤ 10 → WI w → EM w0 w → sx_RP xs (d + 7) 201 95 [(0, .ref 111), (1, .int (nI c)), (2, .int (nI p)), (3, .int n), (4, .int (nI i)), (5, .int (nI j))] [] w (fun r w2 => (∃ v : Int32, r = some (.int v)) ∧ WI w2 ∧ EM w0 w2)
  | 0, j, w, n, h, hj, hI, hE => s201iB hc hp hi hI hE hj n  (fun w4 un hI4 hE4 hlt  => absurd hlt (by omega)) kx143
  | fz + 1, j, w, n, h, hj, hI, hE => s201iB hc hp hi hI hE hj n  (fun w4 un hI4 hE4 hlt  => s201iL hc hp hi kx143 fz (j + 1) w4 un (by omega) hlt hI4 hE4 ) kx143
set_option maxRecDepth 20000 in
set_option maxHeartbeats 4000000 in
theorem s201B {xs : Option (List Int32)} {d : Nat} {w w0 : List sx_C} {c p : Nat} (hc : c < 48) (hp : p ≤ 30) (hI : WI w) (hE : EM w0 w) {j : Nat} (hj : j ≤ 48) (n : Int32) (kk : ∀ (w4 : List sx_C) (un : Int32), WI w4 → EM w0 w4 → j + 1 ≤ 48 → sx_RP xs (d + 7) 201 25 [(0, .ref 111), (1, .int (nI c)), (2, .int (nI p)), (3, .int un), (4, .int (nI (j + 1)))] [] w4 (fun r w2 => (∃ v : Int32, r = some (.int v)) ∧ WI w2 ∧ EM w0 w2)) : sx_RP xs (d + 7) 201 25 [(0, .ref 111), (1, .int (nI c)), (2, .int (nI p)), (3, .int n), (4, .int (nI j))] [] w (fun r w2 => (∃ v : Int32, r = some (.int v)) ∧ WI w2 ∧ EM w0 w2) := by
  refine sx_RP.step (pc2 := 27) (ls2 := [(0, .ref 111), (1, .int (nI c)), (2, .int (nI p)), (3, .int n), (4, .int (nI j))]) (st2 := [.int (nI j)]) (w3 := w) rfl rfl ?_
  refine sx_RP.step (pc2 := 29) (ls2 := [(0, .ref 111), (1, .int (nI c)), (2, .int (nI p)), (3, .int n), (4, .int (nI j))]) (st2 := [.int 48, .int (nI j)]) (w3 := w) rfl rfl ?_
  refine sx_RP.br (p1 := 149) (l1 := [(0, .ref 111), (1, .int (nI c)), (2, .int (nI p)), (3, .int n), (4, .int (nI j))]) (s1 := []) (v1 := w) (p2 := 32) (l2 := [(0, .ref 111), (1, .int (nI c)), (2, .int (nI p)), (3, .int n), (4, .int (nI j))]) (s2 := []) (v2 := w) rfl rfl (fun q1 => ?_) (fun q1 => ?_)
  · replace q1 := of_decide_eq_true q1
    replace q1 := (nI_leI (a := 48) (b := j) (by omega) (by omega)).mp q1
    refine sx_RP.step (pc2 := 150) (ls2 := [(0, .ref 111), (1, .int (nI c)), (2, .int (nI p)), (3, .int n), (4, .int (nI j))]) (st2 := [.int n]) (w3 := w) rfl rfl ?_
    refine sx_RP.ret (r := (some (.int n))) rfl rfl ?_
    exact ⟨⟨_, rfl⟩, hI, hE⟩
  · replace q1 := of_decide_eq_false q1
    replace q1 := mt (nI_leI (a := 48) (b := j) (by omega) (by omega)).mpr q1
    refine sx_RP.step (pc2 := 33) (ls2 := [(0, .ref 111), (1, .int (nI c)), (2, .int (nI p)), (3, .int n), (4, .int (nI j))]) (st2 := [.ref 111]) (w3 := w) rfl rfl ?_
    refine sx_RP.step (pc2 := 34) (ls2 := [(0, .ref 111), (1, .int (nI c)), (2, .int (nI p)), (3, .int n), (4, .int (nI j))]) (st2 := [.int (nI c), .ref 111]) (w3 := w) rfl rfl ?_
    refine sx_RP.step (pc2 := 35) (ls2 := [(0, .ref 111), (1, .int (nI c)), (2, .int (nI p)), (3, .int n), (4, .int (nI j))]) (st2 := [.int (nI p), .int (nI c), .ref 111]) (w3 := w) rfl rfl ?_
    refine sx_RP.step (pc2 := 37) (ls2 := [(0, .ref 111), (1, .int (nI c)), (2, .int (nI p)), (3, .int n), (4, .int (nI j))]) (st2 := [.int (nI j), .int (nI p), .int (nI c), .ref 111]) (w3 := w) rfl rfl ?_
    obtain ⟨x2, hx3, c4⟩ := p199 hI (nI c) (nI p) (show j < 48 by omega)
    refine sx_RP.cu (as := [.ref 111, .int (nI c), .int (nI p), .int (nI j)]) (rest2 := []) (st3 := [.int (nI x2)]) rfl rfl (sx_inv_v2 (mi := 201) (k := 192) (st := [.int (nI j), .int (nI p), .int (nI c), .ref 111]) (w := w) rfl rfl hI.1.o111 rfl rfl rfl) rfl rfl (c4) rfl ?_
    refine sx_RP.br (p1 := 143) (l1 := [(0, .ref 111), (1, .int (nI c)), (2, .int (nI p)), (3, .int n), (4, .int (nI j))]) (s1 := []) (v1 := w) (p2 := 43) (l2 := [(0, .ref 111), (1, .int (nI c)), (2, .int (nI p)), (3, .int n), (4, .int (nI j))]) (s2 := []) (v2 := w) rfl rfl (fun q5 => ?_) (fun q5 => ?_)
    · replace q5 := of_decide_eq_true q5
      replace q5 := (nI_eq (a := x2) (b := 0) (by omega) (by omega)).mp q5
      refine sx_RP.step (pc2 := 146) (ls2 := [(4, .int ((nI j) + 1)), (0, .ref 111), (1, .int (nI c)), (2, .int (nI p)), (3, .int n)]) (st2 := []) (w3 := w) rfl rfl ?_
      rw [nI_1 j]
      refine sx_RP.step (pc2 := 25) (ls2 := [(4, .int (nI (j + 1))), (0, .ref 111), (1, .int (nI c)), (2, .int (nI p)), (3, .int n)]) (st2 := []) (w3 := w) rfl rfl ?_
      exact sx_RP.ls (sx_lr.cons rfl (sx_lr.cons rfl (sx_lr.cons rfl (sx_lr.cons rfl (sx_lr.cons rfl sx_lr.nil))))) (kk w n hI hE (by omega))
    · replace q5 := of_decide_eq_false q5
      replace q5 := mt (nI_eq (a := x2) (b := 0) (by omega) (by omega)).mpr q5
      refine sx_RP.step (pc2 := 44) (ls2 := [(0, .ref 111), (1, .int (nI c)), (2, .int (nI p)), (3, .int n), (4, .int (nI j))]) (st2 := [.ref 111]) (w3 := w) rfl rfl ?_
      refine sx_RP.gf (v := .ref 112) rfl rfl hI.1.o111 rfl rfl (show _ = 47 from rfl) ?_
      refine sx_RP.step (pc2 := 49) (ls2 := [(0, .ref 111), (1, .int (nI c)), (2, .int (nI p)), (3, .int n), (4, .int (nI j))]) (st2 := [.int 55, .ref 112]) (w3 := w) rfl rfl ?_
      refine sx_RP.step (pc2 := 51) (ls2 := [(0, .ref 111), (1, .int (nI c)), (2, .int (nI p)), (3, .int n), (4, .int (nI j))]) (st2 := [.int (nI j), .int 55, .ref 112]) (w3 := w) rfl rfl ?_
      refine sx_RP.step (pc2 := 52) (ls2 := [(0, .ref 111), (1, .int (nI c)), (2, .int (nI p)), (3, .int n), (4, .int (nI j))]) (st2 := [.int (55 + (nI j)), .ref 112]) (w3 := w) rfl rfl ?_
      rw [show (55 + (nI j) : Int32) = nI (55 + j) from nI_add 55 j]
      refine sx_RP.step (pc2 := 53) (ls2 := [(0, .ref 111), (1, .int (nI c)), (2, .int (nI p)), (3, .int n), (4, .int (nI j))]) (st2 := [.int 0, .int (nI (55 + j)), .ref 112]) (w3 := w) rfl rfl ?_
      refine sx_RP.mS (k := (55 + j)) hI hE (by decide) rfl rfl (by omega) (eOK_n (by omega)) (show _ = 54 from rfl) (fun w6 hI7 hE8 hk9 => ?_)
      refine sx_RP.step (pc2 := 55) (ls2 := [(0, .ref 111), (1, .int (nI c)), (2, .int (nI p)), (3, .int n), (4, .int (nI j))]) (st2 := [.ref 111]) (w3 := w6) rfl rfl ?_
      refine sx_RP.gf (v := .ref 112) rfl rfl hI7.1.o111 rfl rfl (show _ = 58 from rfl) ?_
      refine sx_RP.step (pc2 := 60) (ls2 := [(0, .ref 111), (1, .int (nI c)), (2, .int (nI p)), (3, .int n), (4, .int (nI j))]) (st2 := [.int 7, .ref 112]) (w3 := w6) rfl rfl ?_
      refine sx_RP.step (pc2 := 62) (ls2 := [(0, .ref 111), (1, .int (nI c)), (2, .int (nI p)), (3, .int n), (4, .int (nI j))]) (st2 := [.int (nI j), .int 7, .ref 112]) (w3 := w6) rfl rfl ?_
      refine sx_RP.step (pc2 := 63) (ls2 := [(0, .ref 111), (1, .int (nI c)), (2, .int (nI p)), (3, .int n), (4, .int (nI j))]) (st2 := [.int (7 + (nI j)), .ref 112]) (w3 := w6) rfl rfl ?_
      rw [show (7 + (nI j) : Int32) = nI (7 + j) from nI_add 7 j]
      refine sx_RP.step (pc2 := 64) (ls2 := [(0, .ref 111), (1, .int (nI c)), (2, .int (nI p)), (3, .int n), (4, .int (nI j))]) (st2 := [.ref 111, .int (nI (7 + j)), .ref 112]) (w3 := w6) rfl rfl ?_
      refine sx_RP.gf (v := .ref 112) rfl rfl hI7.1.o111 rfl rfl (show _ = 67 from rfl) ?_
      refine sx_RP.step (pc2 := 69) (ls2 := [(0, .ref 111), (1, .int (nI c)), (2, .int (nI p)), (3, .int n), (4, .int (nI j))]) (st2 := [.int 7, .ref 112, .int (nI (7 + j)), .ref 112]) (w3 := w6) rfl rfl ?_
      refine sx_RP.step (pc2 := 71) (ls2 := [(0, .ref 111), (1, .int (nI c)), (2, .int (nI p)), (3, .int n), (4, .int (nI j))]) (st2 := [.int (nI j), .int 7, .ref 112, .int (nI (7 + j)), .ref 112]) (w3 := w6) rfl rfl ?_
      refine sx_RP.step (pc2 := 72) (ls2 := [(0, .ref 111), (1, .int (nI c)), (2, .int (nI p)), (3, .int n), (4, .int (nI j))]) (st2 := [.int (7 + (nI j)), .ref 112, .int (nI (7 + j)), .ref 112]) (w3 := w6) rfl rfl ?_
      rw [show (7 + (nI j) : Int32) = nI (7 + j) from nI_add 7 j]
      refine sx_RP.ild (c := (7 + j)) rfl hI7.1.a112.1 hI7.1.a112.2 (sx_in_nI (show (7 + j) < 172 by omega) (by decide)) (show (nI (7 + j)).toNatClampNeg = (7 + j) from nI_clamp (by omega)) (show _ = 73 from rfl) ?_
      obtain ⟨x10, hx11, ex12⟩ : inR ((ia w6 112).getD (7 + j) 0) 3 := (hI7.s ((7 + j)) (by omega)).2.2.1 (by omega)
      rw [ex12]
      refine sx_RP.step (pc2 := 74) (ls2 := [(0, .ref 111), (1, .int (nI c)), (2, .int (nI p)), (3, .int n), (4, .int (nI j))]) (st2 := [.int 2, .int (nI x10), .int (nI (7 + j)), .ref 112]) (w3 := w6) rfl rfl ?_
      refine sx_RP.br (p1 := 81) (l1 := [(0, .ref 111), (1, .int (nI c)), (2, .int (nI p)), (3, .int n), (4, .int (nI j))]) (s1 := [.int (nI (7 + j)), .ref 112]) (v1 := w6) (p2 := 77) (l2 := [(0, .ref 111), (1, .int (nI c)), (2, .int (nI p)), (3, .int n), (4, .int (nI j))]) (s2 := [.int (nI (7 + j)), .ref 112]) (v2 := w6) rfl rfl (fun q13 => ?_) (fun q13 => ?_)
      · replace q13 := of_decide_eq_true q13
        replace q13 := mt (nI_eq (a := x10) (b := 2) (by omega) (by omega)).mpr q13
        refine sx_RP.step (pc2 := 82) (ls2 := [(0, .ref 111), (1, .int (nI c)), (2, .int (nI p)), (3, .int n), (4, .int (nI j))]) (st2 := [.ref 111, .int (nI (7 + j)), .ref 112]) (w3 := w6) rfl rfl ?_
        refine sx_RP.gf (v := .ref 112) rfl rfl hI7.1.o111 rfl rfl (show _ = 85 from rfl) ?_
        refine sx_RP.step (pc2 := 87) (ls2 := [(0, .ref 111), (1, .int (nI c)), (2, .int (nI p)), (3, .int n), (4, .int (nI j))]) (st2 := [.int 7, .ref 112, .int (nI (7 + j)), .ref 112]) (w3 := w6) rfl rfl ?_
        refine sx_RP.step (pc2 := 89) (ls2 := [(0, .ref 111), (1, .int (nI c)), (2, .int (nI p)), (3, .int n), (4, .int (nI j))]) (st2 := [.int (nI j), .int 7, .ref 112, .int (nI (7 + j)), .ref 112]) (w3 := w6) rfl rfl ?_
        refine sx_RP.step (pc2 := 90) (ls2 := [(0, .ref 111), (1, .int (nI c)), (2, .int (nI p)), (3, .int n), (4, .int (nI j))]) (st2 := [.int (7 + (nI j)), .ref 112, .int (nI (7 + j)), .ref 112]) (w3 := w6) rfl rfl ?_
        rw [show (7 + (nI j) : Int32) = nI (7 + j) from nI_add 7 j]
        refine sx_RP.ild (c := (7 + j)) rfl hI7.1.a112.1 hI7.1.a112.2 (sx_in_nI (show (7 + j) < 172 by omega) (by decide)) (show (nI (7 + j)).toNatClampNeg = (7 + j) from nI_clamp (by omega)) (show _ = 91 from rfl) ?_
        rw [ex12]
        refine sx_RP.mS (k := (7 + j)) hI7 hE8 (by decide) rfl rfl (by omega) (eOK_st (by omega) (inR.n (show x10 ≤ 3 by omega))) (show _ = 92 from rfl) (fun w14 hI15 hE16 hk17 => ?_)
        refine sx_RP.step (pc2 := 93) (ls2 := [(0, .ref 111), (1, .int (nI c)), (2, .int (nI p)), (3, .int n), (4, .int (nI j))]) (st2 := [.int 0]) (w3 := w14) rfl rfl ?_
        refine sx_RP.step (pc2 := 95) (ls2 := [(5, .int 0), (0, .ref 111), (1, .int (nI c)), (2, .int (nI p)), (3, .int n), (4, .int (nI j))]) (st2 := []) (w3 := w14) rfl rfl ?_
        refine sx_RP.ls (sx_lr.cons rfl (sx_lr.cons rfl (sx_lr.cons rfl (sx_lr.cons rfl (sx_lr.cons rfl (sx_lr.cons rfl sx_lr.nil)))))) (s201iL hc hp (show j < 48 by omega) (fun w18 u21 hI19 hE20 => ?_) 10 0 w14 n (by omega) (by omega) hI15 hE16 )
        refine sx_RP.step (pc2 := 146) (ls2 := [(4, .int ((nI j) + 1)), (0, .ref 111), (1, .int (nI c)), (2, .int (nI p)), (3, .int u21)]) (st2 := []) (w3 := w18) rfl rfl ?_
        rw [nI_1 j]
        refine sx_RP.step (pc2 := 25) (ls2 := [(4, .int (nI (j + 1))), (0, .ref 111), (1, .int (nI c)), (2, .int (nI p)), (3, .int u21)]) (st2 := []) (w3 := w18) rfl rfl ?_
        exact sx_RP.ls (sx_lr.cons rfl (sx_lr.cons rfl (sx_lr.cons rfl (sx_lr.cons rfl (sx_lr.cons rfl sx_lr.nil))))) (kk w18 u21 hI19 hE20 (by omega))
      · replace q13 := Decidable.not_not.mp (of_decide_eq_false q13)
        replace q13 := (nI_eq (a := x10) (b := 2) (by omega) (by omega)).mp q13
        refine sx_RP.step (pc2 := 78) (ls2 := [(0, .ref 111), (1, .int (nI c)), (2, .int (nI p)), (3, .int n), (4, .int (nI j))]) (st2 := [.int 0, .int (nI (7 + j)), .ref 112]) (w3 := w6) rfl rfl ?_
        refine sx_RP.step (pc2 := 91) (ls2 := [(0, .ref 111), (1, .int (nI c)), (2, .int (nI p)), (3, .int n), (4, .int (nI j))]) (st2 := [.int 0, .int (nI (7 + j)), .ref 112]) (w3 := w6) rfl rfl ?_
        refine sx_RP.mS (k := (7 + j)) hI7 hE8 (by decide) rfl rfl (by omega) (eOK_st (by omega) (show inR 0 3 from ⟨0, by decide, rfl⟩)) (show _ = 92 from rfl) (fun w22 hI23 hE24 hk25 => ?_)
        refine sx_RP.step (pc2 := 93) (ls2 := [(0, .ref 111), (1, .int (nI c)), (2, .int (nI p)), (3, .int n), (4, .int (nI j))]) (st2 := [.int 0]) (w3 := w22) rfl rfl ?_
        refine sx_RP.step (pc2 := 95) (ls2 := [(5, .int 0), (0, .ref 111), (1, .int (nI c)), (2, .int (nI p)), (3, .int n), (4, .int (nI j))]) (st2 := []) (w3 := w22) rfl rfl ?_
        refine sx_RP.ls (sx_lr.cons rfl (sx_lr.cons rfl (sx_lr.cons rfl (sx_lr.cons rfl (sx_lr.cons rfl (sx_lr.cons rfl sx_lr.nil)))))) (s201iL hc hp (show j < 48 by omega) (fun w26 u29 hI27 hE28 => ?_) 10 0 w22 n (by omega) (by omega) hI23 hE24 )
        refine sx_RP.step (pc2 := 146) (ls2 := [(4, .int ((nI j) + 1)), (0, .ref 111), (1, .int (nI c)), (2, .int (nI p)), (3, .int u29)]) (st2 := []) (w3 := w26) rfl rfl ?_
        rw [nI_1 j]
        refine sx_RP.step (pc2 := 25) (ls2 := [(4, .int (nI (j + 1))), (0, .ref 111), (1, .int (nI c)), (2, .int (nI p)), (3, .int u29)]) (st2 := []) (w3 := w26) rfl rfl ?_
        exact sx_RP.ls (sx_lr.cons rfl (sx_lr.cons rfl (sx_lr.cons rfl (sx_lr.cons rfl (sx_lr.cons rfl sx_lr.nil))))) (kk w26 u29 hI27 hE28 (by omega))
set_option maxRecDepth 20000 in
set_option maxHeartbeats 4000000 in
theorem s201L {xs : Option (List Int32)} {d : Nat} {w0 : List sx_C} {c p : Nat} (hc : c < 48) (hp : p ≤ 30) : ∀ (fz j : Nat) (w : List sx_C) (n : Int32) , 48 ≤ j + fz * 1 → j ≤ 48 → WI w → EM w0 w → sx_RP xs (d + 7) 201 25 [(0, .ref 111), (1, .int (nI c)), (2, .int (nI p)), (3, .int n), (4, .int (nI j))] [] w (fun r w2 => (∃ v : Int32, r = some (.int v)) ∧ WI w2 ∧ EM w0 w2)
  | 0, j, w, n, h, hj, hI, hE => s201B hc hp hI hE hj n  (fun w4 un hI4 hE4 hlt  => absurd hlt (by omega)) 
  | fz + 1, j, w, n, h, hj, hI, hE => s201B hc hp hI hE hj n  (fun w4 un hI4 hE4 hlt  => s201L hc hp  fz (j + 1) w4 un (by omega) hlt hI4 hE4 ) 
set_option maxRecDepth 20000 in
set_option maxHeartbeats 4000000 in
theorem s201 {xs : Option (List Int32)} {d : Nat} {w : List sx_C} (hI : WI w) (a1 a2 : Int32) : sx_RP xs (d + 7) 201 0 (lv_args 0 [.ref 111, .int a1, .int a2]) [] w (fun r w2 => (∃ v : Int32, r = some (.int v)) ∧ WI w2 ∧ EM w w2) := by
  have hE : EM w w := EM.rf
  refine sx_RP.step (pc2 := 1) (ls2 := [(0, .ref 111), (1, .int a1), (2, .int a2)]) (st2 := [.int a1]) (w3 := w) rfl rfl ?_
  rcases in_cases a1 0 47 (m := 0) (n := 47) rfl rfl (by decide) (by decide) with q1 | ⟨x2, hx3, hx4, rfl⟩
  · refine sx_RP.cu (as := [.int a1]) (rest2 := []) (st3 := [.int 0]) rfl rfl rfl rfl rfl (cx_131n q1) rfl ?_
    refine sx_RP.step (pc2 := 14) (ls2 := [(0, .ref 111), (1, .int a1), (2, .int a2)]) (st2 := []) (w3 := w) rfl rfl ?_
    refine sx_RP.step (pc2 := 15) (ls2 := [(0, .ref 111), (1, .int a1), (2, .int a2)]) (st2 := [.ref 111]) (w3 := w) rfl rfl ?_
    refine sx_RP.step (pc2 := 16) (ls2 := [(0, .ref 111), (1, .int a1), (2, .int a2)]) (st2 := [.int 0, .ref 111]) (w3 := w) rfl rfl ?_
    refine sx_RP.callp (as2 := [.ref 111, .int 0]) (rest2 := []) rfl rfl (sx_inv_v2 (mi := 201) (k := 70) (st := [.int 0, .ref 111]) (w := w) rfl rfl hI.1.o111 rfl rfl rfl) rfl rfl rfl (s133_0 hI) (show _ = 19 from rfl) ?_
    rintro r4 w6 ⟨rfl, hI7, hE9⟩
    have hE8 := hE.tr (hE9)
    show sx_RP _ _ _ _ _ [.int (-1000000001)] _ _
    refine sx_RP.ret (r := (some (.int (-1000000001)))) rfl rfl ?_
    exact ⟨⟨_, rfl⟩, hI7, hE8⟩
  · refine sx_RP.cu (as := [.int (nI x2)]) (rest2 := []) (st3 := [.int 1]) rfl rfl rfl rfl rfl (cx_131p ⟨nI_le (a := 0) hx3 (by omega), nI_le (b := 47) hx4 (by decide)⟩) rfl ?_
    refine sx_RP.step (pc2 := 7) (ls2 := [(0, .ref 111), (1, .int (nI x2)), (2, .int a2)]) (st2 := []) (w3 := w) rfl rfl ?_
    refine sx_RP.step (pc2 := 8) (ls2 := [(0, .ref 111), (1, .int (nI x2)), (2, .int a2)]) (st2 := [.int a2]) (w3 := w) rfl rfl ?_
    rcases in_cases a2 1 30 (m := 1) (n := 30) rfl rfl (by decide) (by decide) with q10 | ⟨x11, hx12, hx13, rfl⟩
    · refine sx_RP.cu (as := [.int a2]) (rest2 := []) (st3 := [.int 0]) rfl rfl rfl rfl rfl (cx_197n q10) rfl ?_
      refine sx_RP.step (pc2 := 14) (ls2 := [(0, .ref 111), (1, .int (nI x2)), (2, .int a2)]) (st2 := []) (w3 := w) rfl rfl ?_
      refine sx_RP.step (pc2 := 15) (ls2 := [(0, .ref 111), (1, .int (nI x2)), (2, .int a2)]) (st2 := [.ref 111]) (w3 := w) rfl rfl ?_
      refine sx_RP.step (pc2 := 16) (ls2 := [(0, .ref 111), (1, .int (nI x2)), (2, .int a2)]) (st2 := [.int 0, .ref 111]) (w3 := w) rfl rfl ?_
      refine sx_RP.callp (as2 := [.ref 111, .int 0]) (rest2 := []) rfl rfl (sx_inv_v2 (mi := 201) (k := 70) (st := [.int 0, .ref 111]) (w := w) rfl rfl hI.1.o111 rfl rfl rfl) rfl rfl rfl (s133_0 hI) (show _ = 19 from rfl) ?_
      rintro r4 w15 ⟨rfl, hI16, hE18⟩
      have hE17 := hE.tr (hE18)
      show sx_RP _ _ _ _ _ [.int (-1000000001)] _ _
      refine sx_RP.ret (r := (some (.int (-1000000001)))) rfl rfl ?_
      exact ⟨⟨_, rfl⟩, hI16, hE17⟩
    · refine sx_RP.cu (as := [.int (nI x11)]) (rest2 := []) (st3 := [.int 1]) rfl rfl rfl rfl rfl (cx_197p ⟨nI_le (a := 1) hx12 (by omega), nI_le (b := 30) hx13 (by decide)⟩) rfl ?_
      refine sx_RP.step (pc2 := 20) (ls2 := [(0, .ref 111), (1, .int (nI x2)), (2, .int (nI x11))]) (st2 := []) (w3 := w) rfl rfl ?_
      refine sx_RP.step (pc2 := 21) (ls2 := [(0, .ref 111), (1, .int (nI x2)), (2, .int (nI x11))]) (st2 := [.int 0]) (w3 := w) rfl rfl ?_
      refine sx_RP.step (pc2 := 22) (ls2 := [(3, .int 0), (0, .ref 111), (1, .int (nI x2)), (2, .int (nI x11))]) (st2 := []) (w3 := w) rfl rfl ?_
      refine sx_RP.step (pc2 := 23) (ls2 := [(3, .int 0), (0, .ref 111), (1, .int (nI x2)), (2, .int (nI x11))]) (st2 := [.int 0]) (w3 := w) rfl rfl ?_
      refine sx_RP.step (pc2 := 25) (ls2 := [(4, .int 0), (3, .int 0), (0, .ref 111), (1, .int (nI x2)), (2, .int (nI x11))]) (st2 := []) (w3 := w) rfl rfl ?_
      exact sx_RP.ls (sx_lr.cons rfl (sx_lr.cons rfl (sx_lr.cons rfl (sx_lr.cons rfl (sx_lr.cons rfl sx_lr.nil))))) (s201L (show x2 < 48 by omega) (show x11 ≤ 30 by omega) 48 0 w 0 (by omega) (by omega) hI hE )
set_option maxRecDepth 20000 in
set_option maxHeartbeats 4000000 in
theorem p237 {xs : Option (List Int32)} {d : Nat} {w : List sx_C} (hI : WI w) {k : Nat} (hk : k < 4) : ∃ j, j ≤ 9 ∧ sx_RU xs d 237 0 (lv_args 0 [.ref 111, .int (nI k)]) [] w (some (.int (nI j))) w := by
  have h : sx_RP xs d 237 0 (lv_args 0 [.ref 111, .int (nI k)]) [] w (fun r w2 => (∃ j, j ≤ 9 ∧ r = some (.int (nI j))) ∧ w2 = w) := by
    refine sx_RP.step (pc2 := 1) (ls2 := [(0, .ref 111), (1, .int (nI k))]) (st2 := [.ref 111]) (w3 := w) rfl rfl ?_
    refine sx_RP.gf (v := .ref 123) rfl rfl hI.1.o111 rfl rfl (show _ = 4 from rfl) ?_
    refine sx_RP.step (pc2 := 5) (ls2 := [(0, .ref 111), (1, .int (nI k))]) (st2 := [.int (nI k), .ref 123]) (w3 := w) rfl rfl ?_
    refine sx_RP.ild (c := k) rfl hI.1.a123.1 hI.1.a123.2 (sx_in_nI (show k < 4 by omega) (by decide)) (show (nI k).toNatClampNeg = k from nI_clamp (by omega)) (show _ = 6 from rfl) ?_
    obtain ⟨x1, hx2, ex3⟩ : inR ((ia w 123).getD k 0) 40 := hI.l (show k < 4 by omega)
    rw [ex3]
    refine sx_RP.step (pc2 := 7) (ls2 := [(0, .ref 111), (1, .int (nI k))]) (st2 := [.ref 111, .int (nI x1)]) (w3 := w) rfl rfl ?_
    refine sx_RP.gf (v := .ref 112) rfl rfl hI.1.o111 rfl rfl (show _ = 10 from rfl) ?_
    refine sx_RP.step (pc2 := 11) (ls2 := [(0, .ref 111), (1, .int (nI k))]) (st2 := [.int 2, .ref 112, .int (nI x1)]) (w3 := w) rfl rfl ?_
    refine sx_RP.ild (c := 2) rfl hI.1.a112.1 hI.1.a112.2 (sx_in_nI (show 2 < 172 by omega) (by decide)) (show (nI 2).toNatClampNeg = 2 from nI_clamp (by omega)) (show _ = 12 from rfl) ?_
    obtain ⟨x4, hx5, ex6⟩ : inR ((ia w 112).getD 2 0) 9 := (hI.s (2) (by omega)).2.1 rfl
    rw [ex6]
    refine sx_RP.br (p1 := 24) (l1 := [(0, .ref 111), (1, .int (nI k))]) (s1 := []) (v1 := w) (p2 := 15) (l2 := [(0, .ref 111), (1, .int (nI k))]) (s2 := []) (v2 := w) rfl rfl (fun q7 => ?_) (fun q7 => ?_)
    · replace q7 := of_decide_eq_true q7
      replace q7 := (nI_leI (a := x4) (b := x1) (by omega) (by omega)).mp q7
      refine sx_RP.step (pc2 := 25) (ls2 := [(0, .ref 111), (1, .int (nI k))]) (st2 := [.ref 111]) (w3 := w) rfl rfl ?_
      refine sx_RP.gf (v := .ref 112) rfl rfl hI.1.o111 rfl rfl (show _ = 28 from rfl) ?_
      refine sx_RP.step (pc2 := 29) (ls2 := [(0, .ref 111), (1, .int (nI k))]) (st2 := [.int 2, .ref 112]) (w3 := w) rfl rfl ?_
      refine sx_RP.ild (c := 2) rfl hI.1.a112.1 hI.1.a112.2 (sx_in_nI (show 2 < 172 by omega) (by decide)) (show (nI 2).toNatClampNeg = 2 from nI_clamp (by omega)) (show _ = 30 from rfl) ?_
      rw [ex6]
      refine sx_RP.ret (r := (some (.int (nI x4)))) rfl rfl ?_
      exact ⟨⟨x4, by omega, rfl⟩, rfl⟩
    · replace q7 := of_decide_eq_false q7
      replace q7 := mt (nI_leI (a := x4) (b := x1) (by omega) (by omega)).mpr q7
      refine sx_RP.step (pc2 := 16) (ls2 := [(0, .ref 111), (1, .int (nI k))]) (st2 := [.ref 111]) (w3 := w) rfl rfl ?_
      refine sx_RP.gf (v := .ref 123) rfl rfl hI.1.o111 rfl rfl (show _ = 19 from rfl) ?_
      refine sx_RP.step (pc2 := 20) (ls2 := [(0, .ref 111), (1, .int (nI k))]) (st2 := [.int (nI k), .ref 123]) (w3 := w) rfl rfl ?_
      refine sx_RP.ild (c := k) rfl hI.1.a123.1 hI.1.a123.2 (sx_in_nI (show k < 4 by omega) (by decide)) (show (nI k).toNatClampNeg = k from nI_clamp (by omega)) (show _ = 21 from rfl) ?_
      rw [ex3]
      refine sx_RP.step (pc2 := 30) (ls2 := [(0, .ref 111), (1, .int (nI k))]) (st2 := [.int (nI x1)]) (w3 := w) rfl rfl ?_
      refine sx_RP.ret (r := (some (.int (nI x1)))) rfl rfl ?_
      exact ⟨⟨x1, by omega, rfl⟩, rfl⟩
  obtain ⟨r, w2, h1, ⟨j, hj, rfl⟩, rfl⟩ := h
  exact ⟨j, hj, h1⟩
set_option maxRecDepth 20000 in
set_option maxHeartbeats 4000000 in
theorem s233 {xs : Option (List Int32)} {d : Nat} {w : List sx_C} (hI : WI w) {k i : Nat} (hk : k < 4) (hi : i < 40) (v : Int64) : sx_RP xs d 233 0 (lv_args 0 [.ref 111, .int (nI k), .int (nI i), .long v]) [] w (fun r w2 => (r = none) ∧ WI w2 ∧ EM w w2) := by
  have hE : EM w w := EM.rf
  refine sx_RP.step (pc2 := 1) (ls2 := [(0, .ref 111), (1, .int (nI k)), (2, .int (nI i)), (3, .long v)]) (st2 := [.ref 111]) (w3 := w) rfl rfl ?_
  refine sx_RP.gf (v := .ref 124) rfl rfl hI.1.o111 rfl rfl (show _ = 4 from rfl) ?_
  refine sx_RP.step (pc2 := 6) (ls2 := [(0, .ref 111), (1, .int (nI k)), (2, .int (nI i)), (3, .long v)]) (st2 := [.int 40, .ref 124]) (w3 := w) rfl rfl ?_
  refine sx_RP.step (pc2 := 7) (ls2 := [(0, .ref 111), (1, .int (nI k)), (2, .int (nI i)), (3, .long v)]) (st2 := [.int (nI k), .int 40, .ref 124]) (w3 := w) rfl rfl ?_
  refine sx_RP.step (pc2 := 8) (ls2 := [(0, .ref 111), (1, .int (nI k)), (2, .int (nI i)), (3, .long v)]) (st2 := [.int (40 * (nI k)), .ref 124]) (w3 := w) rfl rfl ?_
  rw [show (40 * (nI k) : Int32) = nI (40 * k) from nI_mul 40 k]
  refine sx_RP.step (pc2 := 9) (ls2 := [(0, .ref 111), (1, .int (nI k)), (2, .int (nI i)), (3, .long v)]) (st2 := [.int (nI i), .int (nI (40 * k)), .ref 124]) (w3 := w) rfl rfl ?_
  refine sx_RP.step (pc2 := 10) (ls2 := [(0, .ref 111), (1, .int (nI k)), (2, .int (nI i)), (3, .long v)]) (st2 := [.int ((nI (40 * k)) + (nI i)), .ref 124]) (w3 := w) rfl rfl ?_
  rw [show ((nI (40 * k)) + (nI i) : Int32) = nI ((40 * k) + i) from nI_add (40 * k) i]
  refine sx_RP.step (pc2 := 11) (ls2 := [(0, .ref 111), (1, .int (nI k)), (2, .int (nI i)), (3, .long v)]) (st2 := [.ref 111, .int (nI ((40 * k) + i)), .ref 124]) (w3 := w) rfl rfl ?_
  refine sx_RP.gf (v := .ref 122) rfl rfl hI.1.o111 rfl rfl (show _ = 14 from rfl) ?_
  refine sx_RP.step (pc2 := 15) (ls2 := [(0, .ref 111), (1, .int (nI k)), (2, .int (nI i)), (3, .long v)]) (st2 := [.int (nI k), .ref 122, .int (nI ((40 * k) + i)), .ref 124]) (w3 := w) rfl rfl ?_
  refine sx_RP.ild (c := k) rfl hI.1.a122.1 hI.1.a122.2 (sx_in_nI (show k < 4 by omega) (by decide)) (show (nI k).toNatClampNeg = k from nI_clamp (by omega)) (show _ = 16 from rfl) ?_
  refine sx_RP.step (pc2 := 18) (ls2 := [(0, .ref 111), (1, .int (nI k)), (2, .int (nI i)), (3, .long v)]) (st2 := [.int 8, .int ((ia w 122).getD k 0), .int (nI ((40 * k) + i)), .ref 124]) (w3 := w) rfl rfl ?_
  refine sx_RP.br (p1 := 28) (l1 := [(0, .ref 111), (1, .int (nI k)), (2, .int (nI i)), (3, .long v)]) (s1 := [.int (nI ((40 * k) + i)), .ref 124]) (v1 := w) (p2 := 21) (l2 := [(0, .ref 111), (1, .int (nI k)), (2, .int (nI i)), (3, .long v)]) (s2 := [.int (nI ((40 * k) + i)), .ref 124]) (v2 := w) rfl rfl (fun q1 => ?_) (fun q1 => ?_)
  · replace q1 := of_decide_eq_true q1
    refine sx_RP.step (pc2 := 29) (ls2 := [(0, .ref 111), (1, .int (nI k)), (2, .int (nI i)), (3, .long v)]) (st2 := [.ref 111, .int (nI ((40 * k) + i)), .ref 124]) (w3 := w) rfl rfl ?_
    refine sx_RP.gf (v := .ref 122) rfl rfl hI.1.o111 rfl rfl (show _ = 32 from rfl) ?_
    refine sx_RP.step (pc2 := 33) (ls2 := [(0, .ref 111), (1, .int (nI k)), (2, .int (nI i)), (3, .long v)]) (st2 := [.int (nI k), .ref 122, .int (nI ((40 * k) + i)), .ref 124]) (w3 := w) rfl rfl ?_
    refine sx_RP.ild (c := k) rfl hI.1.a122.1 hI.1.a122.2 (sx_in_nI (show k < 4 by omega) (by decide)) (show (nI k).toNatClampNeg = k from nI_clamp (by omega)) (show _ = 34 from rfl) ?_
    refine sx_RP.step (pc2 := 36) (ls2 := [(0, .ref 111), (1, .int (nI k)), (2, .int (nI i)), (3, .long v)]) (st2 := [.int 16, .int ((ia w 122).getD k 0), .int (nI ((40 * k) + i)), .ref 124]) (w3 := w) rfl rfl ?_
    refine sx_RP.br (p1 := 46) (l1 := [(0, .ref 111), (1, .int (nI k)), (2, .int (nI i)), (3, .long v)]) (s1 := [.int (nI ((40 * k) + i)), .ref 124]) (v1 := w) (p2 := 39) (l2 := [(0, .ref 111), (1, .int (nI k)), (2, .int (nI i)), (3, .long v)]) (s2 := [.int (nI ((40 * k) + i)), .ref 124]) (v2 := w) rfl rfl (fun q2 => ?_) (fun q2 => ?_)
    · replace q2 := of_decide_eq_true q2
      refine sx_RP.step (pc2 := 47) (ls2 := [(0, .ref 111), (1, .int (nI k)), (2, .int (nI i)), (3, .long v)]) (st2 := [.long v, .int (nI ((40 * k) + i)), .ref 124]) (w3 := w) rfl rfl ?_
      refine sx_RP.mN hI hE rfl hI.1.a124 (sx_in_nI (show ((40 * k) + i) < 160 by omega) (by decide)) (by decide) (show _ = 48 from rfl) (fun w3 hI4 hE5 hk6 => ?_)
      refine sx_RP.ret (r := none) rfl rfl ?_
      exact ⟨rfl, hI4, hE5⟩
    · replace q2 := Decidable.not_not.mp (of_decide_eq_false q2)
      refine sx_RP.step (pc2 := 40) (ls2 := [(0, .ref 111), (1, .int (nI k)), (2, .int (nI i)), (3, .long v)]) (st2 := [.long v, .int (nI ((40 * k) + i)), .ref 124]) (w3 := w) rfl rfl ?_
      refine sx_RP.step (pc2 := 41) (ls2 := [(0, .ref 111), (1, .int (nI k)), (2, .int (nI i)), (3, .long v)]) (st2 := [.int v.toInt32, .int (nI ((40 * k) + i)), .ref 124]) (w3 := w) rfl rfl ?_
      refine sx_RP.step (pc2 := 42) (ls2 := [(0, .ref 111), (1, .int (nI k)), (2, .int (nI i)), (3, .long v)]) (st2 := [.int v.toInt32.toInt16.toInt32, .int (nI ((40 * k) + i)), .ref 124]) (w3 := w) rfl rfl ?_
      refine sx_RP.step (pc2 := 43) (ls2 := [(0, .ref 111), (1, .int (nI k)), (2, .int (nI i)), (3, .long v)]) (st2 := [.long v.toInt32.toInt16.toInt32.toInt64, .int (nI ((40 * k) + i)), .ref 124]) (w3 := w) rfl rfl ?_
      refine sx_RP.step (pc2 := 47) (ls2 := [(0, .ref 111), (1, .int (nI k)), (2, .int (nI i)), (3, .long v)]) (st2 := [.long v.toInt32.toInt16.toInt32.toInt64, .int (nI ((40 * k) + i)), .ref 124]) (w3 := w) rfl rfl ?_
      refine sx_RP.mN hI hE rfl hI.1.a124 (sx_in_nI (show ((40 * k) + i) < 160 by omega) (by decide)) (by decide) (show _ = 48 from rfl) (fun w7 hI8 hE9 hk10 => ?_)
      refine sx_RP.ret (r := none) rfl rfl ?_
      exact ⟨rfl, hI8, hE9⟩
  · replace q1 := Decidable.not_not.mp (of_decide_eq_false q1)
    refine sx_RP.step (pc2 := 22) (ls2 := [(0, .ref 111), (1, .int (nI k)), (2, .int (nI i)), (3, .long v)]) (st2 := [.long v, .int (nI ((40 * k) + i)), .ref 124]) (w3 := w) rfl rfl ?_
    refine sx_RP.step (pc2 := 23) (ls2 := [(0, .ref 111), (1, .int (nI k)), (2, .int (nI i)), (3, .long v)]) (st2 := [.int v.toInt32, .int (nI ((40 * k) + i)), .ref 124]) (w3 := w) rfl rfl ?_
    refine sx_RP.step (pc2 := 24) (ls2 := [(0, .ref 111), (1, .int (nI k)), (2, .int (nI i)), (3, .long v)]) (st2 := [.int v.toInt32.toInt8.toInt32, .int (nI ((40 * k) + i)), .ref 124]) (w3 := w) rfl rfl ?_
    refine sx_RP.step (pc2 := 25) (ls2 := [(0, .ref 111), (1, .int (nI k)), (2, .int (nI i)), (3, .long v)]) (st2 := [.long v.toInt32.toInt8.toInt32.toInt64, .int (nI ((40 * k) + i)), .ref 124]) (w3 := w) rfl rfl ?_
    refine sx_RP.step (pc2 := 47) (ls2 := [(0, .ref 111), (1, .int (nI k)), (2, .int (nI i)), (3, .long v)]) (st2 := [.long v.toInt32.toInt8.toInt32.toInt64, .int (nI ((40 * k) + i)), .ref 124]) (w3 := w) rfl rfl ?_
    refine sx_RP.mN hI hE rfl hI.1.a124 (sx_in_nI (show ((40 * k) + i) < 160 by omega) (by decide)) (by decide) (show _ = 48 from rfl) (fun w11 hI12 hE13 hk14 => ?_)
    refine sx_RP.ret (r := none) rfl rfl ?_
    exact ⟨rfl, hI12, hE13⟩
set_option maxRecDepth 20000 in
set_option maxHeartbeats 4000000 in
theorem s232 {xs : Option (List Int32)} {d : Nat} {w : List sx_C} (hI : WI w) (a1 a2 : Int32) (v : Int64) : sx_RP xs (d + 7) 232 0 (lv_args 0 [.ref 111, .int a1, .int a2, .long v]) [] w (fun r w2 => (∃ v : Int64, r = some (.long v)) ∧ WI w2 ∧ EM w w2) := by
  have hE : EM w w := EM.rf
  refine sx_RP.step (pc2 := 1) (ls2 := [(0, .ref 111), (1, .int a1), (2, .int a2), (3, .long v)]) (st2 := [.int a1]) (w3 := w) rfl rfl ?_
  rcases in_cases a1 0 3 (m := 0) (n := 3) rfl rfl (by decide) (by decide) with q1 | ⟨x2, hx3, hx4, rfl⟩
  · refine sx_RP.cu (as := [.int a1]) (rest2 := []) (st3 := [.int 0]) rfl rfl rfl rfl rfl (cx_231n q1) rfl ?_
    refine sx_RP.step (pc2 := 7) (ls2 := [(0, .ref 111), (1, .int a1), (2, .int a2), (3, .long v)]) (st2 := []) (w3 := w) rfl rfl ?_
    refine sx_RP.step (pc2 := 8) (ls2 := [(0, .ref 111), (1, .int a1), (2, .int a2), (3, .long v)]) (st2 := [.ref 111]) (w3 := w) rfl rfl ?_
    refine sx_RP.step (pc2 := 9) (ls2 := [(0, .ref 111), (1, .int a1), (2, .int a2), (3, .long v)]) (st2 := [.int 0, .ref 111]) (w3 := w) rfl rfl ?_
    refine sx_RP.callp (as2 := [.ref 111, .int 0]) (rest2 := []) rfl rfl (sx_inv_v2 (mi := 232) (k := 70) (st := [.int 0, .ref 111]) (w := w) rfl rfl hI.1.o111 rfl rfl rfl) rfl rfl rfl (s133_0 hI) (show _ = 12 from rfl) ?_
    rintro r4 w6 ⟨rfl, hI7, hE9⟩
    have hE8 := hE.tr (hE9)
    show sx_RP _ _ _ _ _ [.int (-1000000001)] _ _
    refine sx_RP.step (pc2 := 13) (ls2 := [(0, .ref 111), (1, .int a1), (2, .int a2), (3, .long v)]) (st2 := [.long (-1000000001)]) (w3 := w6) rfl rfl ?_
    refine sx_RP.ret (r := (some (.long (-1000000001)))) rfl rfl ?_
    exact ⟨⟨_, rfl⟩, hI7, hE8⟩
  · refine sx_RP.cu (as := [.int (nI x2)]) (rest2 := []) (st3 := [.int 1]) rfl rfl rfl rfl rfl (cx_231p ⟨nI_le (a := 0) hx3 (by omega), nI_le (b := 3) hx4 (by decide)⟩) rfl ?_
    refine sx_RP.step (pc2 := 14) (ls2 := [(0, .ref 111), (1, .int (nI x2)), (2, .int a2), (3, .long v)]) (st2 := []) (w3 := w) rfl rfl ?_
    refine sx_RP.step (pc2 := 15) (ls2 := [(0, .ref 111), (1, .int (nI x2)), (2, .int a2), (3, .long v)]) (st2 := [.ref 111]) (w3 := w) rfl rfl ?_
    refine sx_RP.gf (v := .ref 122) rfl rfl hI.1.o111 rfl rfl (show _ = 18 from rfl) ?_
    refine sx_RP.step (pc2 := 19) (ls2 := [(0, .ref 111), (1, .int (nI x2)), (2, .int a2), (3, .long v)]) (st2 := [.int (nI x2), .ref 122]) (w3 := w) rfl rfl ?_
    refine sx_RP.ild (c := x2) rfl hI.1.a122.1 hI.1.a122.2 (sx_in_nI (show x2 < 4 by omega) (by decide)) (show (nI x2).toNatClampNeg = x2 from nI_clamp (by omega)) (show _ = 20 from rfl) ?_
    refine sx_RP.br (p1 := 30) (l1 := [(0, .ref 111), (1, .int (nI x2)), (2, .int a2), (3, .long v)]) (s1 := []) (v1 := w) (p2 := 23) (l2 := [(0, .ref 111), (1, .int (nI x2)), (2, .int a2), (3, .long v)]) (s2 := []) (v2 := w) rfl rfl (fun q10 => ?_) (fun q10 => ?_)
    · replace q10 := of_decide_eq_true q10
      refine sx_RP.step (pc2 := 31) (ls2 := [(0, .ref 111), (1, .int (nI x2)), (2, .int a2), (3, .long v)]) (st2 := [.int a2]) (w3 := w) rfl rfl ?_
      refine sx_RP.step (pc2 := 32) (ls2 := [(0, .ref 111), (1, .int (nI x2)), (2, .int a2), (3, .long v)]) (st2 := [.int 0, .int a2]) (w3 := w) rfl rfl ?_
      refine sx_RP.step (pc2 := 33) (ls2 := [(0, .ref 111), (1, .int (nI x2)), (2, .int a2), (3, .long v)]) (st2 := [.ref 111, .int 0, .int a2]) (w3 := w) rfl rfl ?_
      refine sx_RP.gf (v := .ref 123) rfl rfl hI.1.o111 rfl rfl (show _ = 36 from rfl) ?_
      refine sx_RP.step (pc2 := 37) (ls2 := [(0, .ref 111), (1, .int (nI x2)), (2, .int a2), (3, .long v)]) (st2 := [.int (nI x2), .ref 123, .int 0, .int a2]) (w3 := w) rfl rfl ?_
      refine sx_RP.ild (c := x2) rfl hI.1.a123.1 hI.1.a123.2 (sx_in_nI (show x2 < 4 by omega) (by decide)) (show (nI x2).toNatClampNeg = x2 from nI_clamp (by omega)) (show _ = 38 from rfl) ?_
      obtain ⟨x11, hx12, ex13⟩ : inR ((ia w 123).getD x2 0) 40 := hI.l (show x2 < 4 by omega)
      rw [ex13]
      refine sx_RP.step (pc2 := 39) (ls2 := [(0, .ref 111), (1, .int (nI x2)), (2, .int a2), (3, .long v)]) (st2 := [.int 1, .int (nI x11), .int 0, .int a2]) (w3 := w) rfl rfl ?_
      refine sx_RP.step (pc2 := 40) (ls2 := [(0, .ref 111), (1, .int (nI x2)), (2, .int a2), (3, .long v)]) (st2 := [.int ((nI x11) - 1), .int 0, .int a2]) (w3 := w) rfl rfl ?_
      rcases in_casesS a2 (n := x11) (by omega) with q14 | ⟨q14, x15, hx16, rfl⟩
      · refine sx_RP.cu (as := [.int a2, .int 0, .int ((nI x11) - 1)]) (rest2 := []) (st3 := [.int 0]) rfl rfl rfl rfl rfl (cx_132o q14) rfl ?_
        refine sx_RP.step (pc2 := 46) (ls2 := [(0, .ref 111), (1, .int (nI x2)), (2, .int a2), (3, .long v)]) (st2 := []) (w3 := w) rfl rfl ?_
        refine sx_RP.step (pc2 := 47) (ls2 := [(0, .ref 111), (1, .int (nI x2)), (2, .int a2), (3, .long v)]) (st2 := [.ref 111]) (w3 := w) rfl rfl ?_
        refine sx_RP.step (pc2 := 48) (ls2 := [(0, .ref 111), (1, .int (nI x2)), (2, .int a2), (3, .long v)]) (st2 := [.int 0, .ref 111]) (w3 := w) rfl rfl ?_
        refine sx_RP.callp (as2 := [.ref 111, .int 0]) (rest2 := []) rfl rfl (sx_inv_v2 (mi := 232) (k := 70) (st := [.int 0, .ref 111]) (w := w) rfl rfl hI.1.o111 rfl rfl rfl) rfl rfl rfl (s133_0 hI) (show _ = 51 from rfl) ?_
        rintro r4 w18 ⟨rfl, hI19, hE21⟩
        have hE20 := hE.tr (hE21)
        show sx_RP _ _ _ _ _ [.int (-1000000001)] _ _
        refine sx_RP.step (pc2 := 52) (ls2 := [(0, .ref 111), (1, .int (nI x2)), (2, .int a2), (3, .long v)]) (st2 := [.long (-1000000001)]) (w3 := w18) rfl rfl ?_
        refine sx_RP.ret (r := (some (.long (-1000000001)))) rfl rfl ?_
        exact ⟨⟨_, rfl⟩, hI19, hE20⟩
      · refine sx_RP.cu (as := [.int (nI x15), .int 0, .int ((nI x11) - 1)]) (rest2 := []) (st3 := [.int 1]) rfl rfl rfl rfl rfl (cx_132p q14) rfl ?_
        refine sx_RP.step (pc2 := 53) (ls2 := [(0, .ref 111), (1, .int (nI x2)), (2, .int (nI x15)), (3, .long v)]) (st2 := []) (w3 := w) rfl rfl ?_
        refine sx_RP.step (pc2 := 54) (ls2 := [(0, .ref 111), (1, .int (nI x2)), (2, .int (nI x15)), (3, .long v)]) (st2 := [.ref 111]) (w3 := w) rfl rfl ?_
        refine sx_RP.gf (v := .ref 124) rfl rfl hI.1.o111 rfl rfl (show _ = 57 from rfl) ?_
        refine sx_RP.step (pc2 := 59) (ls2 := [(0, .ref 111), (1, .int (nI x2)), (2, .int (nI x15)), (3, .long v)]) (st2 := [.int 40, .ref 124]) (w3 := w) rfl rfl ?_
        refine sx_RP.step (pc2 := 60) (ls2 := [(0, .ref 111), (1, .int (nI x2)), (2, .int (nI x15)), (3, .long v)]) (st2 := [.int (nI x2), .int 40, .ref 124]) (w3 := w) rfl rfl ?_
        refine sx_RP.step (pc2 := 61) (ls2 := [(0, .ref 111), (1, .int (nI x2)), (2, .int (nI x15)), (3, .long v)]) (st2 := [.int (40 * (nI x2)), .ref 124]) (w3 := w) rfl rfl ?_
        rw [show (40 * (nI x2) : Int32) = nI (40 * x2) from nI_mul 40 x2]
        refine sx_RP.step (pc2 := 62) (ls2 := [(0, .ref 111), (1, .int (nI x2)), (2, .int (nI x15)), (3, .long v)]) (st2 := [.int (nI x15), .int (nI (40 * x2)), .ref 124]) (w3 := w) rfl rfl ?_
        refine sx_RP.step (pc2 := 63) (ls2 := [(0, .ref 111), (1, .int (nI x2)), (2, .int (nI x15)), (3, .long v)]) (st2 := [.int ((nI (40 * x2)) + (nI x15)), .ref 124]) (w3 := w) rfl rfl ?_
        rw [show ((nI (40 * x2)) + (nI x15) : Int32) = nI ((40 * x2) + x15) from nI_add (40 * x2) x15]
        refine sx_RP.lld (c := ((40 * x2) + x15)) rfl hI.1.a124.1 hI.1.a124.2 (sx_in_nI (show ((40 * x2) + x15) < 160 by omega) (by decide)) (show (nI ((40 * x2) + x15)).toNatClampNeg = ((40 * x2) + x15) from nI_clamp (by omega)) (show _ = 64 from rfl) ?_
        refine sx_RP.step (pc2 := 66) (ls2 := [(5, .long ((ja w 124).getD ((40 * x2) + x15) 0)), (0, .ref 111), (1, .int (nI x2)), (2, .int (nI x15)), (3, .long v)]) (st2 := []) (w3 := w) rfl rfl ?_
        refine sx_RP.step (pc2 := 67) (ls2 := [(5, .long ((ja w 124).getD ((40 * x2) + x15) 0)), (0, .ref 111), (1, .int (nI x2)), (2, .int (nI x15)), (3, .long v)]) (st2 := [.ref 111]) (w3 := w) rfl rfl ?_
        refine sx_RP.step (pc2 := 68) (ls2 := [(5, .long ((ja w 124).getD ((40 * x2) + x15) 0)), (0, .ref 111), (1, .int (nI x2)), (2, .int (nI x15)), (3, .long v)]) (st2 := [.int (nI x2), .ref 111]) (w3 := w) rfl rfl ?_
        refine sx_RP.step (pc2 := 69) (ls2 := [(5, .long ((ja w 124).getD ((40 * x2) + x15) 0)), (0, .ref 111), (1, .int (nI x2)), (2, .int (nI x15)), (3, .long v)]) (st2 := [.int (nI x15), .int (nI x2), .ref 111]) (w3 := w) rfl rfl ?_
        refine sx_RP.step (pc2 := 70) (ls2 := [(5, .long ((ja w 124).getD ((40 * x2) + x15) 0)), (0, .ref 111), (1, .int (nI x2)), (2, .int (nI x15)), (3, .long v)]) (st2 := [.long v, .int (nI x15), .int (nI x2), .ref 111]) (w3 := w) rfl rfl ?_
        refine sx_RP.callp (as2 := [.ref 111, .int (nI x2), .int (nI x15), .long v]) (rest2 := []) rfl rfl (sx_inv_v2 (mi := 232) (k := 339) (st := [.long v, .int (nI x15), .int (nI x2), .ref 111]) (w := w) rfl rfl hI.1.o111 rfl rfl rfl) rfl rfl rfl (s233 hI (show x2 < 4 by omega) (show x15 < 40 by omega) v) (show _ = 73 from rfl) ?_
        rintro r4 w22 ⟨rfl, hI23, hE25⟩
        have hE24 := hE.tr (hE25)
        show sx_RP _ _ _ _ _ [] _ _
        refine sx_RP.step (pc2 := 75) (ls2 := [(5, .long ((ja w 124).getD ((40 * x2) + x15) 0)), (0, .ref 111), (1, .int (nI x2)), (2, .int (nI x15)), (3, .long v)]) (st2 := [.long ((ja w 124).getD ((40 * x2) + x15) 0)]) (w3 := w22) rfl rfl ?_
        refine sx_RP.ret (r := (some (.long ((ja w 124).getD ((40 * x2) + x15) 0)))) rfl rfl ?_
        exact ⟨⟨_, rfl⟩, hI23, hE24⟩
    · replace q10 := Decidable.not_not.mp (of_decide_eq_false q10)
      refine sx_RP.step (pc2 := 24) (ls2 := [(0, .ref 111), (1, .int (nI x2)), (2, .int a2), (3, .long v)]) (st2 := [.ref 111]) (w3 := w) rfl rfl ?_
      refine sx_RP.step (pc2 := 25) (ls2 := [(0, .ref 111), (1, .int (nI x2)), (2, .int a2), (3, .long v)]) (st2 := [.int 5, .ref 111]) (w3 := w) rfl rfl ?_
      refine sx_RP.callp (as2 := [.ref 111, .int 5]) (rest2 := []) rfl rfl (sx_inv_v2 (mi := 232) (k := 70) (st := [.int 5, .ref 111]) (w := w) rfl rfl hI.1.o111 rfl rfl rfl) rfl rfl rfl (s133_5 hI) (show _ = 28 from rfl) ?_
      rintro r4 w26 ⟨rfl, hI27, hE29⟩
      have hE28 := hE.tr (hE29)
      show sx_RP _ _ _ _ _ [.int (-1000000006)] _ _
      refine sx_RP.step (pc2 := 29) (ls2 := [(0, .ref 111), (1, .int (nI x2)), (2, .int a2), (3, .long v)]) (st2 := [.long (-1000000006)]) (w3 := w26) rfl rfl ?_
      refine sx_RP.ret (r := (some (.long (-1000000006)))) rfl rfl ?_
      exact ⟨⟨_, rfl⟩, hI27, hE28⟩
end
-- 62.specM.lean.txt
section
-- the reference: runs that change what is kept
def EXm (b : Nat) (w w2 : List sx_C) : Prop := ∀ a, a ≠ b → (a < 111 → w2[a]? = w[a]?) ∧ (111 ≤ a → (w2[a]?).map (kp a) = (w[a]?).map (kp a))
theorem EM.ex {b : Nat} {w w2 : List sx_C} (h : EM w w2) : EXm b w w2 := fun a _ => h a
theorem EXm.rf {b : Nat} {w : List sx_C} : EXm b w w := fun _ _ => ⟨fun _ => rfl, fun _ => rfl⟩
theorem EXm.tr {b : Nat} {w w1 w2 : List sx_C} (h : EXm b w w1) (h2 : EXm b w1 w2) : EXm b w w2 := fun a ha => ⟨fun z => ((h2 a ha).1 z).trans ((h a ha).1 z), fun z => ((h2 a ha).2 z).trans ((h a ha).2 z)⟩
theorem EXm.at {b : Nat} {w : List sx_C} {c : sx_C} : EXm b w (w.set b c) := by
  intro a ha
  rw [List.getElem?_set_ne (Ne.symm ha)]
  exact ⟨fun _ => rfl, fun _ => rfl⟩
section SXX2
variable {xs : Option (List Int32)} {d mi pc pc2 idx p : Nat} {ls : sx_L} {r : List Value} {w w0 : List sx_C} {P : Option Value → List sx_C → Prop}
theorem sx_RP.pmk {v : Int32} (hI : WI w) (hi : sx_ins mi pc = some (.putfield idx, 3)) (hq : sx_lk (sx_fl (sx_own mi)) idx = some (6, 4, p)) (hf : sx_fin mi 6 4 = true) (hv : inR v 1) (hp : pc + 3 = pc2) (kk : ∀ w2, WI w2 → EXm 111 w w2 → fi w2 111 4 = v → fi w2 111 11 = fi w 111 11 → sx_RP xs d mi pc2 ls r w2 P) : sx_RP xs d mi pc ls (.int v :: .ref 111 :: r) w P := by
  have hw := hI.1.o111
  have q := hI.m
  exact sx_RP.pf hi hq hw (by rw [hf, show sx_okv (sx_ty 6 4) (.int v) = (v == 0 || v == 1) from rfl, inR.bo hv]; rfl) rfl rfl hp (kk _ (hI.set hw rfl (cOK.m ⟨hv, q.2⟩)) EXm.at (by unfold fi; rw [fs_set hw]; rfl) (by unfold fi; rw [fs_set hw]; rfl))
theorem sx_RP.pmt {v : Int32} (hI : WI w) (hi : sx_ins mi pc = some (.putfield idx, 3)) (hq : sx_lk (sx_fl (sx_own mi)) idx = some (6, 11, p)) (hf : sx_fin mi 6 11 = true) (hv : inR v 120) (hp : pc + 3 = pc2) (kk : ∀ w2, WI w2 → EXm 111 w w2 → fi w2 111 11 = v → fi w2 111 4 = fi w 111 4 → sx_RP xs d mi pc2 ls r w2 P) : sx_RP xs d mi pc ls (.int v :: .ref 111 :: r) w P := by
  have hw := hI.1.o111
  have q := hI.m
  exact sx_RP.pf hi hq hw (by rw [hf]; rfl) rfl rfl hp (kk _ (hI.set hw rfl (cOK.m ⟨q.1, hv, q.2.2⟩)) EXm.at (by unfold fi; rw [fs_set hw]; rfl) (by unfold fi; rw [fs_set hw]; rfl))
end SXX2
set_option maxRecDepth 20000 in
set_option maxHeartbeats 4000000 in
theorem s242 {xs : Option (List Int32)} {d : Nat} {w : List sx_C} (hI : WI w) : sx_RP xs (d + 7) 242 0 (lv_args 0 [.ref 111]) [] w (fun r w2 => r = some (.int (fi w 111 4)) ∧ WI w2 ∧ EXm 111 w w2 ∧ fi w2 111 4 = 0 ∧ fi w2 111 11 = fi w 111 11) := by
  obtain ⟨j, hj, e⟩ := hI.m.1
  refine sx_RP.step (pc2 := 1) (ls2 := [(0, .ref 111)]) (st2 := [.ref 111]) (w3 := w) rfl rfl ?_
  refine sx_RP.gf (v := .int (fi w 111 4)) rfl rfl hI.1.o111 rfl rfl (show _ = 4 from rfl) ?_
  rw [e]
  rcases (show j = 0 ∨ j = 1 by omega) with rfl | rfl
  · refine sx_RP.step (pc2 := 11) (ls2 := [(0, .ref 111)]) (st2 := []) (w3 := w) rfl rfl ?_
    refine sx_RP.step (pc2 := 12) (ls2 := [(0, .ref 111)]) (st2 := [.int 0]) (w3 := w) rfl rfl ?_
    refine sx_RP.step (pc2 := 13) (ls2 := [(1, .int 0), (0, .ref 111)]) (st2 := []) (w3 := w) rfl rfl ?_
    refine sx_RP.step (pc2 := 14) (ls2 := [(1, .int 0), (0, .ref 111)]) (st2 := [.ref 111]) (w3 := w) rfl rfl ?_
    refine sx_RP.step (pc2 := 15) (ls2 := [(1, .int 0), (0, .ref 111)]) (st2 := [.int 0, .ref 111]) (w3 := w) rfl rfl ?_
    refine sx_RP.pmk hI rfl rfl rfl ⟨0, by decide, rfl⟩ (show _ = 18 from rfl) (fun w2 hI2 hE2 h2 h3 => ?_)
    refine sx_RP.step (pc2 := 19) (ls2 := [(1, .int 0), (0, .ref 111)]) (st2 := [.int 0]) (w3 := w2) rfl rfl ?_
    refine sx_RP.ret rfl rfl ?_
    exact ⟨rfl, hI2, hE2, h2, h3⟩
  · refine sx_RP.step (pc2 := 7) (ls2 := [(0, .ref 111)]) (st2 := []) (w3 := w) rfl rfl ?_
    refine sx_RP.step (pc2 := 8) (ls2 := [(0, .ref 111)]) (st2 := [.int 1]) (w3 := w) rfl rfl ?_
    refine sx_RP.step (pc2 := 12) (ls2 := [(0, .ref 111)]) (st2 := [.int 1]) (w3 := w) rfl rfl ?_
    refine sx_RP.step (pc2 := 13) (ls2 := [(1, .int 1), (0, .ref 111)]) (st2 := []) (w3 := w) rfl rfl ?_
    refine sx_RP.step (pc2 := 14) (ls2 := [(1, .int 1), (0, .ref 111)]) (st2 := [.ref 111]) (w3 := w) rfl rfl ?_
    refine sx_RP.step (pc2 := 15) (ls2 := [(1, .int 1), (0, .ref 111)]) (st2 := [.int 0, .ref 111]) (w3 := w) rfl rfl ?_
    refine sx_RP.pmk hI rfl rfl rfl ⟨0, by decide, rfl⟩ (show _ = 18 from rfl) (fun w2 hI2 hE2 h2 h3 => ?_)
    refine sx_RP.step (pc2 := 19) (ls2 := [(1, .int 1), (0, .ref 111)]) (st2 := [.int 1]) (w3 := w2) rfl rfl ?_
    refine sx_RP.ret rfl rfl ?_
    exact ⟨rfl, hI2, hE2, h2, h3⟩
set_option maxRecDepth 20000 in
set_option maxHeartbeats 4000000 in
theorem s240 {xs : Option (List Int32)} {d : Nat} {w : List sx_C} (hI : WI w) : sx_RP xs (d + 7) 240 0 (lv_args 0 [.ref 111]) [] w (fun r w2 => r = some (.int 1) ∧ WI w2 ∧ EXm 111 w w2 ∧ fi w2 111 4 = 1 ∧ fi w2 111 11 = fi w 111 11) := by
  refine sx_RP.step (pc2 := 1) (ls2 := [(0, .ref 111)]) (st2 := [.ref 111]) (w3 := w) rfl rfl ?_
  refine sx_RP.gf (v := .ref 112) rfl rfl hI.1.o111 rfl rfl (show _ = 4 from rfl) ?_
  refine sx_RP.step (pc2 := 5) (ls2 := [(0, .ref 111)]) (st2 := [.ref 111, .ref 112]) (w3 := w) rfl rfl ?_
  refine sx_RP.gf (v := .ref 113) rfl rfl hI.1.o111 rfl rfl (show _ = 8 from rfl) ?_
  refine sx_RP.callp (as2 := [.ref 112, .ref 113]) (rest2 := []) rfl rfl rfl rfl rfl rfl (s175 hI (a := 112) (b := 113) (by decide) (by decide)) (show _ = 11 from rfl) ?_
  rintro r4 w1 ⟨rfl, hI1, hE1⟩
  show sx_RP _ _ _ _ _ [] _ _
  refine sx_RP.step (pc2 := 12) (ls2 := [(0, .ref 111)]) (st2 := [.ref 111]) (w3 := w1) rfl rfl ?_
  refine sx_RP.step (pc2 := 13) (ls2 := [(0, .ref 111)]) (st2 := [.int 1, .ref 111]) (w3 := w1) rfl rfl ?_
  refine sx_RP.pmk hI1 rfl rfl rfl ⟨1, by decide, rfl⟩ (show _ = 16 from rfl) (fun w2 hI2 hE2 h2 h3 => ?_)
  refine sx_RP.step (pc2 := 17) (ls2 := [(0, .ref 111)]) (st2 := [.int 1]) (w3 := w2) rfl rfl ?_
  refine sx_RP.ret rfl rfl ?_
  exact ⟨rfl, hI2, hE1.ex.tr hE2, h2, h3.trans (keep111 hI hI1 ((hE1 111).2 (by decide))).2⟩
set_option maxRecDepth 20000 in
set_option maxHeartbeats 4000000 in
theorem s209 {xs : Option (List Int32)} {d : Nat} {w : List sx_C} (hI : WI w) : sx_RP xs (d + 7) 209 0 (lv_args 0 [.ref 111]) [] w (fun r w2 => r = some (.int (fi w 111 11)) ∧ WI w2 ∧ EXm 111 w w2 ∧ fi w2 111 11 = 0 ∧ fi w2 111 4 = fi w 111 4) := by
  refine sx_RP.step (pc2 := 1) (ls2 := [(0, .ref 111)]) (st2 := [.ref 111]) (w3 := w) rfl rfl ?_
  refine sx_RP.gf (v := .int (fi w 111 11)) rfl rfl hI.1.o111 rfl rfl (show _ = 4 from rfl) ?_
  refine sx_RP.step (pc2 := 5) (ls2 := [(1, .int (fi w 111 11)), (0, .ref 111)]) (st2 := []) (w3 := w) rfl rfl ?_
  refine sx_RP.step (pc2 := 6) (ls2 := [(1, .int (fi w 111 11)), (0, .ref 111)]) (st2 := [.ref 111]) (w3 := w) rfl rfl ?_
  refine sx_RP.step (pc2 := 7) (ls2 := [(1, .int (fi w 111 11)), (0, .ref 111)]) (st2 := [.int 0, .ref 111]) (w3 := w) rfl rfl ?_
  refine sx_RP.pmt hI rfl rfl rfl ⟨0, by decide, rfl⟩ (show _ = 10 from rfl) (fun w2 hI2 hE2 h2 h3 => ?_)
  refine sx_RP.step (pc2 := 11) (ls2 := [(1, .int (fi w 111 11)), (0, .ref 111)]) (st2 := [.int (fi w 111 11)]) (w3 := w2) rfl rfl ?_
  refine sx_RP.ret rfl rfl ?_
  exact ⟨rfl, hI2, hE2, h2, h3⟩
end
-- 63.copyM.lean.txt
section
-- safety: lays and copy of the reference
set_option maxRecDepth 20000 in
set_option maxHeartbeats 4000000 in
theorem s235B {xs : Option (List Int32)} {d : Nat} {w w0 : List sx_C} {k c : Nat} (hk : k < 4) (hc : c < 48) (hI : WI w) (hE : EM w0 w) {j : Nat} (hj : j ≤ 40) (m : Int32) (kk : ∀ (w4 : List sx_C) (um : Int32), WI w4 → EM w0 w4 → j + 1 ≤ 40 → sx_RP xs (d + 7) 235 46 [(0, .ref 111), (1, .int (nI k)), (2, .int (nI c)), (3, .int um), (4, .int (nI (j + 1)))] [] w4 (fun r w2 => (∃ v : Int32, r = some (.int v)) ∧ WI w2 ∧ EM w0 w2)) : sx_RP xs (d + 7) 235 46 [(0, .ref 111), (1, .int (nI k)), (2, .int (nI c)), (3, .int m), (4, .int (nI j))] [] w (fun r w2 => (∃ v : Int32, r = some (.int v)) ∧ WI w2 ∧ EM w0 w2) := by
  refine sx_RP.step (pc2 := 48) (ls2 := [(0, .ref 111), (1, .int (nI k)), (2, .int (nI c)), (3, .int m), (4, .int (nI j))]) (st2 := [.int (nI j)]) (w3 := w) rfl rfl ?_
  refine sx_RP.step (pc2 := 49) (ls2 := [(0, .ref 111), (1, .int (nI k)), (2, .int (nI c)), (3, .int m), (4, .int (nI j))]) (st2 := [.ref 111, .int (nI j)]) (w3 := w) rfl rfl ?_
  refine sx_RP.gf (v := .ref 123) rfl rfl hI.1.o111 rfl rfl (show _ = 52 from rfl) ?_
  refine sx_RP.step (pc2 := 53) (ls2 := [(0, .ref 111), (1, .int (nI k)), (2, .int (nI c)), (3, .int m), (4, .int (nI j))]) (st2 := [.int (nI k), .ref 123, .int (nI j)]) (w3 := w) rfl rfl ?_
  refine sx_RP.ild (c := k) rfl hI.1.a123.1 hI.1.a123.2 (sx_in_nI (show k < 4 by omega) (by decide)) (show (nI k).toNatClampNeg = k from nI_clamp (by omega)) (show _ = 54 from rfl) ?_
  obtain ⟨x1, hx2, ex3⟩ : inR ((ia w 123).getD k 0) 40 := hI.l (show k < 4 by omega)
  rw [ex3]
  refine sx_RP.br (p1 := 120) (l1 := [(0, .ref 111), (1, .int (nI k)), (2, .int (nI c)), (3, .int m), (4, .int (nI j))]) (s1 := []) (v1 := w) (p2 := 57) (l2 := [(0, .ref 111), (1, .int (nI k)), (2, .int (nI c)), (3, .int m), (4, .int (nI j))]) (s2 := []) (v2 := w) rfl rfl (fun q4 => ?_) (fun q4 => ?_)
  · replace q4 := of_decide_eq_true q4
    replace q4 := (nI_leI (a := x1) (b := j) (by omega) (by omega)).mp q4
    refine sx_RP.step (pc2 := 121) (ls2 := [(0, .ref 111), (1, .int (nI k)), (2, .int (nI c)), (3, .int m), (4, .int (nI j))]) (st2 := [.int m]) (w3 := w) rfl rfl ?_
    refine sx_RP.ret (r := (some (.int m))) rfl rfl ?_
    exact ⟨⟨_, rfl⟩, hI, hE⟩
  · replace q4 := of_decide_eq_false q4
    replace q4 := mt (nI_leI (a := x1) (b := j) (by omega) (by omega)).mpr q4
    refine sx_RP.step (pc2 := 58) (ls2 := [(0, .ref 111), (1, .int (nI k)), (2, .int (nI c)), (3, .int m), (4, .int (nI j))]) (st2 := [.int (nI c)]) (w3 := w) rfl rfl ?_
    refine sx_RP.step (pc2 := 60) (ls2 := [(0, .ref 111), (1, .int (nI k)), (2, .int (nI c)), (3, .int m), (4, .int (nI j))]) (st2 := [.int (nI j), .int (nI c)]) (w3 := w) rfl rfl ?_
    refine sx_RP.step (pc2 := 61) (ls2 := [(0, .ref 111), (1, .int (nI k)), (2, .int (nI c)), (3, .int m), (4, .int (nI j))]) (st2 := [.int ((nI c) + (nI j))]) (w3 := w) rfl rfl ?_
    rw [show ((nI c) + (nI j) : Int32) = nI (c + j) from nI_add c j]
    refine sx_RP.step (pc2 := 63) (ls2 := [(0, .ref 111), (1, .int (nI k)), (2, .int (nI c)), (3, .int m), (4, .int (nI j))]) (st2 := [.int 48, .int (nI (c + j))]) (w3 := w) rfl rfl ?_
    refine sx_RP.br (p1 := 120) (l1 := [(0, .ref 111), (1, .int (nI k)), (2, .int (nI c)), (3, .int m), (4, .int (nI j))]) (s1 := []) (v1 := w) (p2 := 66) (l2 := [(0, .ref 111), (1, .int (nI k)), (2, .int (nI c)), (3, .int m), (4, .int (nI j))]) (s2 := []) (v2 := w) rfl rfl (fun q5 => ?_) (fun q5 => ?_)
    · replace q5 := of_decide_eq_true q5
      replace q5 := (nI_leI (a := 48) (b := (c + j)) (by omega) (by omega)).mp q5
      refine sx_RP.step (pc2 := 121) (ls2 := [(0, .ref 111), (1, .int (nI k)), (2, .int (nI c)), (3, .int m), (4, .int (nI j))]) (st2 := [.int m]) (w3 := w) rfl rfl ?_
      refine sx_RP.ret (r := (some (.int m))) rfl rfl ?_
      exact ⟨⟨_, rfl⟩, hI, hE⟩
    · replace q5 := of_decide_eq_false q5
      replace q5 := mt (nI_leI (a := 48) (b := (c + j)) (by omega) (by omega)).mpr q5
      refine sx_RP.step (pc2 := 67) (ls2 := [(0, .ref 111), (1, .int (nI k)), (2, .int (nI c)), (3, .int m), (4, .int (nI j))]) (st2 := [.ref 111]) (w3 := w) rfl rfl ?_
      refine sx_RP.gf (v := .ref 124) rfl rfl hI.1.o111 rfl rfl (show _ = 70 from rfl) ?_
      refine sx_RP.step (pc2 := 72) (ls2 := [(0, .ref 111), (1, .int (nI k)), (2, .int (nI c)), (3, .int m), (4, .int (nI j))]) (st2 := [.int 40, .ref 124]) (w3 := w) rfl rfl ?_
      refine sx_RP.step (pc2 := 73) (ls2 := [(0, .ref 111), (1, .int (nI k)), (2, .int (nI c)), (3, .int m), (4, .int (nI j))]) (st2 := [.int (nI k), .int 40, .ref 124]) (w3 := w) rfl rfl ?_
      refine sx_RP.step (pc2 := 74) (ls2 := [(0, .ref 111), (1, .int (nI k)), (2, .int (nI c)), (3, .int m), (4, .int (nI j))]) (st2 := [.int (40 * (nI k)), .ref 124]) (w3 := w) rfl rfl ?_
      rw [show (40 * (nI k) : Int32) = nI (40 * k) from nI_mul 40 k]
      refine sx_RP.step (pc2 := 76) (ls2 := [(0, .ref 111), (1, .int (nI k)), (2, .int (nI c)), (3, .int m), (4, .int (nI j))]) (st2 := [.int (nI j), .int (nI (40 * k)), .ref 124]) (w3 := w) rfl rfl ?_
      refine sx_RP.step (pc2 := 77) (ls2 := [(0, .ref 111), (1, .int (nI k)), (2, .int (nI c)), (3, .int m), (4, .int (nI j))]) (st2 := [.int ((nI (40 * k)) + (nI j)), .ref 124]) (w3 := w) rfl rfl ?_
      rw [show ((nI (40 * k)) + (nI j) : Int32) = nI ((40 * k) + j) from nI_add (40 * k) j]
      refine sx_RP.lld (c := ((40 * k) + j)) rfl hI.1.a124.1 hI.1.a124.2 (sx_in_nI (show ((40 * k) + j) < 160 by omega) (by decide)) (show (nI ((40 * k) + j)).toNatClampNeg = ((40 * k) + j) from nI_clamp (by omega)) (show _ = 78 from rfl) ?_
      refine sx_RP.step (pc2 := 80) (ls2 := [(5, .long ((ja w 124).getD ((40 * k) + j) 0)), (0, .ref 111), (1, .int (nI k)), (2, .int (nI c)), (3, .int m), (4, .int (nI j))]) (st2 := []) (w3 := w) rfl rfl ?_
      refine sx_RP.step (pc2 := 82) (ls2 := [(5, .long ((ja w 124).getD ((40 * k) + j) 0)), (0, .ref 111), (1, .int (nI k)), (2, .int (nI c)), (3, .int m), (4, .int (nI j))]) (st2 := [.long ((ja w 124).getD ((40 * k) + j) 0)]) (w3 := w) rfl rfl ?_
      refine sx_RP.step (pc2 := 83) (ls2 := [(5, .long ((ja w 124).getD ((40 * k) + j) 0)), (0, .ref 111), (1, .int (nI k)), (2, .int (nI c)), (3, .int m), (4, .int (nI j))]) (st2 := [.long 0, .long ((ja w 124).getD ((40 * k) + j) 0)]) (w3 := w) rfl rfl ?_
      refine sx_RP.step (pc2 := 84) (ls2 := [(5, .long ((ja w 124).getD ((40 * k) + j) 0)), (0, .ref 111), (1, .int (nI k)), (2, .int (nI c)), (3, .int m), (4, .int (nI j))]) (st2 := [.int (lg_cmp ((ja w 124).getD ((40 * k) + j) 0) 0)]) (w3 := w) rfl rfl ?_
      refine sx_RP.br (p1 := 114) (l1 := [(5, .long ((ja w 124).getD ((40 * k) + j) 0)), (0, .ref 111), (1, .int (nI k)), (2, .int (nI c)), (3, .int m), (4, .int (nI j))]) (s1 := []) (v1 := w) (p2 := 87) (l2 := [(5, .long ((ja w 124).getD ((40 * k) + j) 0)), (0, .ref 111), (1, .int (nI k)), (2, .int (nI c)), (3, .int m), (4, .int (nI j))]) (s2 := []) (v2 := w) rfl rfl (fun q6 => ?_) (fun q6 => ?_)
      · replace q6 := of_decide_eq_true q6
        refine sx_RP.step (pc2 := 117) (ls2 := [(4, .int ((nI j) + 1)), (5, .long ((ja w 124).getD ((40 * k) + j) 0)), (0, .ref 111), (1, .int (nI k)), (2, .int (nI c)), (3, .int m)]) (st2 := []) (w3 := w) rfl rfl ?_
        rw [nI_1 j]
        refine sx_RP.step (pc2 := 46) (ls2 := [(4, .int (nI (j + 1))), (5, .long ((ja w 124).getD ((40 * k) + j) 0)), (0, .ref 111), (1, .int (nI k)), (2, .int (nI c)), (3, .int m)]) (st2 := []) (w3 := w) rfl rfl ?_
        exact sx_RP.ls (sx_lr.cons rfl (sx_lr.cons rfl (sx_lr.cons rfl (sx_lr.cons rfl (sx_lr.cons rfl sx_lr.nil))))) (kk w m hI hE (by omega))
      · replace q6 := of_decide_eq_false q6
        refine sx_RP.step (pc2 := 89) (ls2 := [(5, .long ((ja w 124).getD ((40 * k) + j) 0)), (0, .ref 111), (1, .int (nI k)), (2, .int (nI c)), (3, .int m), (4, .int (nI j))]) (st2 := [.long ((ja w 124).getD ((40 * k) + j) 0)]) (w3 := w) rfl rfl ?_
        refine sx_RP.step (pc2 := 92) (ls2 := [(5, .long ((ja w 124).getD ((40 * k) + j) 0)), (0, .ref 111), (1, .int (nI k)), (2, .int (nI c)), (3, .int m), (4, .int (nI j))]) (st2 := [.long 3, .long ((ja w 124).getD ((40 * k) + j) 0)]) (w3 := w) rfl rfl ?_
        refine sx_RP.step (pc2 := 93) (ls2 := [(5, .long ((ja w 124).getD ((40 * k) + j) 0)), (0, .ref 111), (1, .int (nI k)), (2, .int (nI c)), (3, .int m), (4, .int (nI j))]) (st2 := [.int (lg_cmp ((ja w 124).getD ((40 * k) + j) 0) 3)]) (w3 := w) rfl rfl ?_
        refine sx_RP.br (p1 := 114) (l1 := [(5, .long ((ja w 124).getD ((40 * k) + j) 0)), (0, .ref 111), (1, .int (nI k)), (2, .int (nI c)), (3, .int m), (4, .int (nI j))]) (s1 := []) (v1 := w) (p2 := 96) (l2 := [(5, .long ((ja w 124).getD ((40 * k) + j) 0)), (0, .ref 111), (1, .int (nI k)), (2, .int (nI c)), (3, .int m), (4, .int (nI j))]) (s2 := []) (v2 := w) rfl rfl (fun q7 => ?_) (fun q7 => ?_)
        · replace q7 := of_decide_eq_true q7
          refine sx_RP.step (pc2 := 117) (ls2 := [(4, .int ((nI j) + 1)), (5, .long ((ja w 124).getD ((40 * k) + j) 0)), (0, .ref 111), (1, .int (nI k)), (2, .int (nI c)), (3, .int m)]) (st2 := []) (w3 := w) rfl rfl ?_
          rw [nI_1 j]
          refine sx_RP.step (pc2 := 46) (ls2 := [(4, .int (nI (j + 1))), (5, .long ((ja w 124).getD ((40 * k) + j) 0)), (0, .ref 111), (1, .int (nI k)), (2, .int (nI c)), (3, .int m)]) (st2 := []) (w3 := w) rfl rfl ?_
          exact sx_RP.ls (sx_lr.cons rfl (sx_lr.cons rfl (sx_lr.cons rfl (sx_lr.cons rfl (sx_lr.cons rfl sx_lr.nil))))) (kk w m hI hE (by omega))
        · replace q7 := of_decide_eq_false q7
          refine sx_RP.step (pc2 := 97) (ls2 := [(5, .long ((ja w 124).getD ((40 * k) + j) 0)), (0, .ref 111), (1, .int (nI k)), (2, .int (nI c)), (3, .int m), (4, .int (nI j))]) (st2 := [.ref 111]) (w3 := w) rfl rfl ?_
          refine sx_RP.gf (v := .ref 112) rfl rfl hI.1.o111 rfl rfl (show _ = 100 from rfl) ?_
          refine sx_RP.step (pc2 := 102) (ls2 := [(5, .long ((ja w 124).getD ((40 * k) + j) 0)), (0, .ref 111), (1, .int (nI k)), (2, .int (nI c)), (3, .int m), (4, .int (nI j))]) (st2 := [.int 7, .ref 112]) (w3 := w) rfl rfl ?_
          refine sx_RP.step (pc2 := 103) (ls2 := [(5, .long ((ja w 124).getD ((40 * k) + j) 0)), (0, .ref 111), (1, .int (nI k)), (2, .int (nI c)), (3, .int m), (4, .int (nI j))]) (st2 := [.int (nI c), .int 7, .ref 112]) (w3 := w) rfl rfl ?_
          refine sx_RP.step (pc2 := 104) (ls2 := [(5, .long ((ja w 124).getD ((40 * k) + j) 0)), (0, .ref 111), (1, .int (nI k)), (2, .int (nI c)), (3, .int m), (4, .int (nI j))]) (st2 := [.int (7 + (nI c)), .ref 112]) (w3 := w) rfl rfl ?_
          rw [show (7 + (nI c) : Int32) = nI (7 + c) from nI_add 7 c]
          refine sx_RP.step (pc2 := 106) (ls2 := [(5, .long ((ja w 124).getD ((40 * k) + j) 0)), (0, .ref 111), (1, .int (nI k)), (2, .int (nI c)), (3, .int m), (4, .int (nI j))]) (st2 := [.int (nI j), .int (nI (7 + c)), .ref 112]) (w3 := w) rfl rfl ?_
          refine sx_RP.step (pc2 := 107) (ls2 := [(5, .long ((ja w 124).getD ((40 * k) + j) 0)), (0, .ref 111), (1, .int (nI k)), (2, .int (nI c)), (3, .int m), (4, .int (nI j))]) (st2 := [.int ((nI (7 + c)) + (nI j)), .ref 112]) (w3 := w) rfl rfl ?_
          rw [show ((nI (7 + c)) + (nI j) : Int32) = nI ((7 + c) + j) from nI_add (7 + c) j]
          refine sx_RP.step (pc2 := 109) (ls2 := [(5, .long ((ja w 124).getD ((40 * k) + j) 0)), (0, .ref 111), (1, .int (nI k)), (2, .int (nI c)), (3, .int m), (4, .int (nI j))]) (st2 := [.long ((ja w 124).getD ((40 * k) + j) 0), .int (nI ((7 + c) + j)), .ref 112]) (w3 := w) rfl rfl ?_
          refine sx_RP.step (pc2 := 110) (ls2 := [(5, .long ((ja w 124).getD ((40 * k) + j) 0)), (0, .ref 111), (1, .int (nI k)), (2, .int (nI c)), (3, .int m), (4, .int (nI j))]) (st2 := [.int (((ja w 124).getD ((40 * k) + j) 0).toInt32), .int (nI ((7 + c) + j)), .ref 112]) (w3 := w) rfl rfl ?_
          obtain ⟨x8, hx9, ex10⟩ := lay_rng q6 q7
          rw [ex10]
          refine sx_RP.mS (k := ((7 + c) + j)) hI hE (by decide) rfl rfl (by omega) (eOK_st (by omega) (inR.n (show x8 ≤ 3 by omega))) (show _ = 111 from rfl) (fun w11 hI12 hE13 hk14 => ?_)
          refine sx_RP.step (pc2 := 114) (ls2 := [(3, .int (m + 1)), (5, .long ((ja w 124).getD ((40 * k) + j) 0)), (0, .ref 111), (1, .int (nI k)), (2, .int (nI c)), (4, .int (nI j))]) (st2 := []) (w3 := w11) rfl rfl ?_
          refine sx_RP.step (pc2 := 117) (ls2 := [(4, .int ((nI j) + 1)), (3, .int (m + 1)), (5, .long ((ja w 124).getD ((40 * k) + j) 0)), (0, .ref 111), (1, .int (nI k)), (2, .int (nI c))]) (st2 := []) (w3 := w11) rfl rfl ?_
          rw [nI_1 j]
          refine sx_RP.step (pc2 := 46) (ls2 := [(4, .int (nI (j + 1))), (3, .int (m + 1)), (5, .long ((ja w 124).getD ((40 * k) + j) 0)), (0, .ref 111), (1, .int (nI k)), (2, .int (nI c))]) (st2 := []) (w3 := w11) rfl rfl ?_
          exact sx_RP.ls (sx_lr.cons rfl (sx_lr.cons rfl (sx_lr.cons rfl (sx_lr.cons rfl (sx_lr.cons rfl sx_lr.nil))))) (kk w11 (m + 1) hI12 hE13 (by omega))
set_option maxRecDepth 20000 in
set_option maxHeartbeats 4000000 in
theorem s235L {xs : Option (List Int32)} {d : Nat} {w0 : List sx_C} {k c : Nat} (hk : k < 4) (hc : c < 48) : ∀ (fz j : Nat) (w : List sx_C) (m : Int32) , 40 ≤ j + fz * 1 → j ≤ 40 → WI w → EM w0 w → sx_RP xs (d + 7) 235 46 [(0, .ref 111), (1, .int (nI k)), (2, .int (nI c)), (3, .int m), (4, .int (nI j))] [] w (fun r w2 => (∃ v : Int32, r = some (.int v)) ∧ WI w2 ∧ EM w0 w2)
  | 0, j, w, m, h, hj, hI, hE => s235B hk hc hI hE hj m  (fun w4 um hI4 hE4 hlt  => absurd hlt (by omega)) 
  | fz + 1, j, w, m, h, hj, hI, hE => s235B hk hc hI hE hj m  (fun w4 um hI4 hE4 hlt  => s235L hk hc  fz (j + 1) w4 um (by omega) hlt hI4 hE4 ) 
set_option maxRecDepth 20000 in
set_option maxHeartbeats 4000000 in
theorem s235 {xs : Option (List Int32)} {d : Nat} {w : List sx_C} (hI : WI w) (a1 a2 : Int32) : sx_RP xs (d + 7) 235 0 (lv_args 0 [.ref 111, .int a1, .int a2]) [] w (fun r w2 => (∃ v : Int32, r = some (.int v)) ∧ WI w2 ∧ EM w w2) := by
  have hE : EM w w := EM.rf
  refine sx_RP.step (pc2 := 1) (ls2 := [(0, .ref 111), (1, .int a1), (2, .int a2)]) (st2 := [.int a1]) (w3 := w) rfl rfl ?_
  rcases in_cases a1 0 3 (m := 0) (n := 3) rfl rfl (by decide) (by decide) with q1 | ⟨x2, hx3, hx4, rfl⟩
  · refine sx_RP.cu (as := [.int a1]) (rest2 := []) (st3 := [.int 0]) rfl rfl rfl rfl rfl (cx_231n q1) rfl ?_
    refine sx_RP.step (pc2 := 7) (ls2 := [(0, .ref 111), (1, .int a1), (2, .int a2)]) (st2 := []) (w3 := w) rfl rfl ?_
    refine sx_RP.step (pc2 := 8) (ls2 := [(0, .ref 111), (1, .int a1), (2, .int a2)]) (st2 := [.ref 111]) (w3 := w) rfl rfl ?_
    refine sx_RP.step (pc2 := 9) (ls2 := [(0, .ref 111), (1, .int a1), (2, .int a2)]) (st2 := [.int 0, .ref 111]) (w3 := w) rfl rfl ?_
    refine sx_RP.callp (as2 := [.ref 111, .int 0]) (rest2 := []) rfl rfl (sx_inv_v2 (mi := 235) (k := 70) (st := [.int 0, .ref 111]) (w := w) rfl rfl hI.1.o111 rfl rfl rfl) rfl rfl rfl (s133_0 hI) (show _ = 12 from rfl) ?_
    rintro r4 w6 ⟨rfl, hI7, hE9⟩
    have hE8 := hE.tr (hE9)
    show sx_RP _ _ _ _ _ [.int (-1000000001)] _ _
    refine sx_RP.ret (r := (some (.int (-1000000001)))) rfl rfl ?_
    exact ⟨⟨_, rfl⟩, hI7, hE8⟩
  · refine sx_RP.cu (as := [.int (nI x2)]) (rest2 := []) (st3 := [.int 1]) rfl rfl rfl rfl rfl (cx_231p ⟨nI_le (a := 0) hx3 (by omega), nI_le (b := 3) hx4 (by decide)⟩) rfl ?_
    refine sx_RP.step (pc2 := 13) (ls2 := [(0, .ref 111), (1, .int (nI x2)), (2, .int a2)]) (st2 := []) (w3 := w) rfl rfl ?_
    refine sx_RP.step (pc2 := 14) (ls2 := [(0, .ref 111), (1, .int (nI x2)), (2, .int a2)]) (st2 := [.ref 111]) (w3 := w) rfl rfl ?_
    refine sx_RP.gf (v := .ref 122) rfl rfl hI.1.o111 rfl rfl (show _ = 17 from rfl) ?_
    refine sx_RP.step (pc2 := 18) (ls2 := [(0, .ref 111), (1, .int (nI x2)), (2, .int a2)]) (st2 := [.int (nI x2), .ref 122]) (w3 := w) rfl rfl ?_
    refine sx_RP.ild (c := x2) rfl hI.1.a122.1 hI.1.a122.2 (sx_in_nI (show x2 < 4 by omega) (by decide)) (show (nI x2).toNatClampNeg = x2 from nI_clamp (by omega)) (show _ = 19 from rfl) ?_
    refine sx_RP.br (p1 := 28) (l1 := [(0, .ref 111), (1, .int (nI x2)), (2, .int a2)]) (s1 := []) (v1 := w) (p2 := 22) (l2 := [(0, .ref 111), (1, .int (nI x2)), (2, .int a2)]) (s2 := []) (v2 := w) rfl rfl (fun q10 => ?_) (fun q10 => ?_)
    · replace q10 := of_decide_eq_true q10
      refine sx_RP.step (pc2 := 29) (ls2 := [(0, .ref 111), (1, .int (nI x2)), (2, .int a2)]) (st2 := [.int a2]) (w3 := w) rfl rfl ?_
      rcases in_cases a2 0 47 (m := 0) (n := 47) rfl rfl (by decide) (by decide) with q11 | ⟨x12, hx13, hx14, rfl⟩
      · refine sx_RP.cu (as := [.int a2]) (rest2 := []) (st3 := [.int 0]) rfl rfl rfl rfl rfl (cx_131n q11) rfl ?_
        refine sx_RP.step (pc2 := 35) (ls2 := [(0, .ref 111), (1, .int (nI x2)), (2, .int a2)]) (st2 := []) (w3 := w) rfl rfl ?_
        refine sx_RP.step (pc2 := 36) (ls2 := [(0, .ref 111), (1, .int (nI x2)), (2, .int a2)]) (st2 := [.ref 111]) (w3 := w) rfl rfl ?_
        refine sx_RP.step (pc2 := 37) (ls2 := [(0, .ref 111), (1, .int (nI x2)), (2, .int a2)]) (st2 := [.int 0, .ref 111]) (w3 := w) rfl rfl ?_
        refine sx_RP.callp (as2 := [.ref 111, .int 0]) (rest2 := []) rfl rfl (sx_inv_v2 (mi := 235) (k := 70) (st := [.int 0, .ref 111]) (w := w) rfl rfl hI.1.o111 rfl rfl rfl) rfl rfl rfl (s133_0 hI) (show _ = 40 from rfl) ?_
        rintro r4 w16 ⟨rfl, hI17, hE19⟩
        have hE18 := hE.tr (hE19)
        show sx_RP _ _ _ _ _ [.int (-1000000001)] _ _
        refine sx_RP.ret (r := (some (.int (-1000000001)))) rfl rfl ?_
        exact ⟨⟨_, rfl⟩, hI17, hE18⟩
      · refine sx_RP.cu (as := [.int (nI x12)]) (rest2 := []) (st3 := [.int 1]) rfl rfl rfl rfl rfl (cx_131p ⟨nI_le (a := 0) hx13 (by omega), nI_le (b := 47) hx14 (by decide)⟩) rfl ?_
        refine sx_RP.step (pc2 := 41) (ls2 := [(0, .ref 111), (1, .int (nI x2)), (2, .int (nI x12))]) (st2 := []) (w3 := w) rfl rfl ?_
        refine sx_RP.step (pc2 := 42) (ls2 := [(0, .ref 111), (1, .int (nI x2)), (2, .int (nI x12))]) (st2 := [.int 0]) (w3 := w) rfl rfl ?_
        refine sx_RP.step (pc2 := 43) (ls2 := [(3, .int 0), (0, .ref 111), (1, .int (nI x2)), (2, .int (nI x12))]) (st2 := []) (w3 := w) rfl rfl ?_
        refine sx_RP.step (pc2 := 44) (ls2 := [(3, .int 0), (0, .ref 111), (1, .int (nI x2)), (2, .int (nI x12))]) (st2 := [.int 0]) (w3 := w) rfl rfl ?_
        refine sx_RP.step (pc2 := 46) (ls2 := [(4, .int 0), (3, .int 0), (0, .ref 111), (1, .int (nI x2)), (2, .int (nI x12))]) (st2 := []) (w3 := w) rfl rfl ?_
        exact sx_RP.ls (sx_lr.cons rfl (sx_lr.cons rfl (sx_lr.cons rfl (sx_lr.cons rfl (sx_lr.cons rfl sx_lr.nil))))) (s235L (show x2 < 4 by omega) (show x12 < 48 by omega) 40 0 w 0 (by omega) (by omega) hI hE )
    · replace q10 := Decidable.not_not.mp (of_decide_eq_false q10)
      refine sx_RP.step (pc2 := 23) (ls2 := [(0, .ref 111), (1, .int (nI x2)), (2, .int a2)]) (st2 := [.ref 111]) (w3 := w) rfl rfl ?_
      refine sx_RP.step (pc2 := 24) (ls2 := [(0, .ref 111), (1, .int (nI x2)), (2, .int a2)]) (st2 := [.int 5, .ref 111]) (w3 := w) rfl rfl ?_
      refine sx_RP.callp (as2 := [.ref 111, .int 5]) (rest2 := []) rfl rfl (sx_inv_v2 (mi := 235) (k := 70) (st := [.int 5, .ref 111]) (w := w) rfl rfl hI.1.o111 rfl rfl rfl) rfl rfl rfl (s133_5 hI) (show _ = 27 from rfl) ?_
      rintro r4 w20 ⟨rfl, hI21, hE23⟩
      have hE22 := hE.tr (hE23)
      show sx_RP _ _ _ _ _ [.int (-1000000006)] _ _
      refine sx_RP.ret (r := (some (.int (-1000000006)))) rfl rfl ?_
      exact ⟨⟨_, rfl⟩, hI21, hE22⟩
theorem cop_of {x y : Int32} {n : Nat} (hn : n ≤ 40) (q1 : ¬ x < 0) (q2 : ¬ y < 0) (q4 : ¬ nI n - y < x) : ∃ f m, x = nI f ∧ y = nI m ∧ f + m ≤ n := by
  obtain ⟨f, hf, rfl⟩ := nI_of q1
  obtain ⟨m, hm, rfl⟩ := nI_of q2
  refine ⟨f, m, rfl, rfl, ?_⟩
  have h := mt Int32.lt_iff_toInt_lt.mpr q4
  rw [nI_toInt hf] at h
  have h2 := Int32.toInt_sub (nI n) (nI m)
  rw [nI_toInt (by omega), nI_toInt hm] at h2
  rw [h2] at h
  have h3 : Int.bmod ((n : Int) - m) (2 ^ 32) = (n : Int) - m := by
    rw [Int.bmod_def]
    split <;> omega
  rw [h3] at h
  omega
set_option maxRecDepth 20000 in
set_option maxHeartbeats 4000000 in
theorem s234bB {xs : Option (List Int32)} {d : Nat} {w w0 : List sx_C} {s f t g n : Nat} (hs : s < 4) (ht : t < 4) (hf : f + n ≤ 40) (hg : g + n ≤ 40) (hI : WI w) (hE : EM w0 w) {j : Nat} (hj : j ≤ 40) (kk : ∀ (w4 : List sx_C), WI w4 → EM w0 w4 → j + 1 ≤ 40 → sx_RP xs (d + 7) 234 152 [(0, .ref 111), (1, .int (nI s)), (2, .int (nI f)), (3, .int (nI t)), (4, .int (nI g)), (5, .int (nI n)), (6, .int (nI (j + 1)))] [] w4 (fun r w2 => (∃ v : Int32, r = some (.int v)) ∧ WI w2 ∧ EM w0 w2)) : sx_RP xs (d + 7) 234 152 [(0, .ref 111), (1, .int (nI s)), (2, .int (nI f)), (3, .int (nI t)), (4, .int (nI g)), (5, .int (nI n)), (6, .int (nI j))] [] w (fun r w2 => (∃ v : Int32, r = some (.int v)) ∧ WI w2 ∧ EM w0 w2) := by
  refine sx_RP.step (pc2 := 154) (ls2 := [(0, .ref 111), (1, .int (nI s)), (2, .int (nI f)), (3, .int (nI t)), (4, .int (nI g)), (5, .int (nI n)), (6, .int (nI j))]) (st2 := [.int (nI j)]) (w3 := w) rfl rfl ?_
  refine sx_RP.step (pc2 := 156) (ls2 := [(0, .ref 111), (1, .int (nI s)), (2, .int (nI f)), (3, .int (nI t)), (4, .int (nI g)), (5, .int (nI n)), (6, .int (nI j))]) (st2 := [.int (nI n), .int (nI j)]) (w3 := w) rfl rfl ?_
  refine sx_RP.br (p1 := 187) (l1 := [(0, .ref 111), (1, .int (nI s)), (2, .int (nI f)), (3, .int (nI t)), (4, .int (nI g)), (5, .int (nI n)), (6, .int (nI j))]) (s1 := []) (v1 := w) (p2 := 159) (l2 := [(0, .ref 111), (1, .int (nI s)), (2, .int (nI f)), (3, .int (nI t)), (4, .int (nI g)), (5, .int (nI n)), (6, .int (nI j))]) (s2 := []) (v2 := w) rfl rfl (fun q1 => ?_) (fun q1 => ?_)
  · replace q1 := of_decide_eq_true q1
    replace q1 := (nI_leI (a := n) (b := j) (by omega) (by omega)).mp q1
    refine sx_RP.step (pc2 := 189) (ls2 := [(0, .ref 111), (1, .int (nI s)), (2, .int (nI f)), (3, .int (nI t)), (4, .int (nI g)), (5, .int (nI n)), (6, .int (nI j))]) (st2 := [.int (nI n)]) (w3 := w) rfl rfl ?_
    refine sx_RP.ret (r := (some (.int (nI n)))) rfl rfl ?_
    exact ⟨⟨_, rfl⟩, hI, hE⟩
  · replace q1 := of_decide_eq_false q1
    replace q1 := mt (nI_leI (a := n) (b := j) (by omega) (by omega)).mpr q1
    refine sx_RP.step (pc2 := 160) (ls2 := [(0, .ref 111), (1, .int (nI s)), (2, .int (nI f)), (3, .int (nI t)), (4, .int (nI g)), (5, .int (nI n)), (6, .int (nI j))]) (st2 := [.ref 111]) (w3 := w) rfl rfl ?_
    refine sx_RP.gf (v := .ref 124) rfl rfl hI.1.o111 rfl rfl (show _ = 163 from rfl) ?_
    refine sx_RP.step (pc2 := 165) (ls2 := [(0, .ref 111), (1, .int (nI s)), (2, .int (nI f)), (3, .int (nI t)), (4, .int (nI g)), (5, .int (nI n)), (6, .int (nI j))]) (st2 := [.int 40, .ref 124]) (w3 := w) rfl rfl ?_
    refine sx_RP.step (pc2 := 166) (ls2 := [(0, .ref 111), (1, .int (nI s)), (2, .int (nI f)), (3, .int (nI t)), (4, .int (nI g)), (5, .int (nI n)), (6, .int (nI j))]) (st2 := [.int (nI t), .int 40, .ref 124]) (w3 := w) rfl rfl ?_
    refine sx_RP.step (pc2 := 167) (ls2 := [(0, .ref 111), (1, .int (nI s)), (2, .int (nI f)), (3, .int (nI t)), (4, .int (nI g)), (5, .int (nI n)), (6, .int (nI j))]) (st2 := [.int (40 * (nI t)), .ref 124]) (w3 := w) rfl rfl ?_
    rw [show (40 * (nI t) : Int32) = nI (40 * t) from nI_mul 40 t]
    refine sx_RP.step (pc2 := 169) (ls2 := [(0, .ref 111), (1, .int (nI s)), (2, .int (nI f)), (3, .int (nI t)), (4, .int (nI g)), (5, .int (nI n)), (6, .int (nI j))]) (st2 := [.int (nI g), .int (nI (40 * t)), .ref 124]) (w3 := w) rfl rfl ?_
    refine sx_RP.step (pc2 := 170) (ls2 := [(0, .ref 111), (1, .int (nI s)), (2, .int (nI f)), (3, .int (nI t)), (4, .int (nI g)), (5, .int (nI n)), (6, .int (nI j))]) (st2 := [.int ((nI (40 * t)) + (nI g)), .ref 124]) (w3 := w) rfl rfl ?_
    rw [show ((nI (40 * t)) + (nI g) : Int32) = nI ((40 * t) + g) from nI_add (40 * t) g]
    refine sx_RP.step (pc2 := 172) (ls2 := [(0, .ref 111), (1, .int (nI s)), (2, .int (nI f)), (3, .int (nI t)), (4, .int (nI g)), (5, .int (nI n)), (6, .int (nI j))]) (st2 := [.int (nI j), .int (nI ((40 * t) + g)), .ref 124]) (w3 := w) rfl rfl ?_
    refine sx_RP.step (pc2 := 173) (ls2 := [(0, .ref 111), (1, .int (nI s)), (2, .int (nI f)), (3, .int (nI t)), (4, .int (nI g)), (5, .int (nI n)), (6, .int (nI j))]) (st2 := [.int ((nI ((40 * t) + g)) + (nI j)), .ref 124]) (w3 := w) rfl rfl ?_
    rw [show ((nI ((40 * t) + g)) + (nI j) : Int32) = nI (((40 * t) + g) + j) from nI_add ((40 * t) + g) j]
    refine sx_RP.step (pc2 := 174) (ls2 := [(0, .ref 111), (1, .int (nI s)), (2, .int (nI f)), (3, .int (nI t)), (4, .int (nI g)), (5, .int (nI n)), (6, .int (nI j))]) (st2 := [.ref 111, .int (nI (((40 * t) + g) + j)), .ref 124]) (w3 := w) rfl rfl ?_
    refine sx_RP.gf (v := .ref 125) rfl rfl hI.1.o111 rfl rfl (show _ = 177 from rfl) ?_
    refine sx_RP.step (pc2 := 179) (ls2 := [(0, .ref 111), (1, .int (nI s)), (2, .int (nI f)), (3, .int (nI t)), (4, .int (nI g)), (5, .int (nI n)), (6, .int (nI j))]) (st2 := [.int (nI j), .ref 125, .int (nI (((40 * t) + g) + j)), .ref 124]) (w3 := w) rfl rfl ?_
    refine sx_RP.lld (c := j) rfl hI.1.a125.1 hI.1.a125.2 (sx_in_nI (show j < 40 by omega) (by decide)) (show (nI j).toNatClampNeg = j from nI_clamp (by omega)) (show _ = 180 from rfl) ?_
    refine sx_RP.mN hI hE rfl hI.1.a124 (sx_in_nI (show (((40 * t) + g) + j) < 160 by omega) (by decide)) (by decide) (show _ = 181 from rfl) (fun w2 hI3 hE4 hk5 => ?_)
    refine sx_RP.step (pc2 := 184) (ls2 := [(6, .int ((nI j) + 1)), (0, .ref 111), (1, .int (nI s)), (2, .int (nI f)), (3, .int (nI t)), (4, .int (nI g)), (5, .int (nI n))]) (st2 := []) (w3 := w2) rfl rfl ?_
    rw [nI_1 j]
    refine sx_RP.step (pc2 := 152) (ls2 := [(6, .int (nI (j + 1))), (0, .ref 111), (1, .int (nI s)), (2, .int (nI f)), (3, .int (nI t)), (4, .int (nI g)), (5, .int (nI n))]) (st2 := []) (w3 := w2) rfl rfl ?_
    exact sx_RP.ls (sx_lr.cons rfl (sx_lr.cons rfl (sx_lr.cons rfl (sx_lr.cons rfl (sx_lr.cons rfl (sx_lr.cons rfl (sx_lr.cons rfl sx_lr.nil))))))) (kk w2 hI3 hE4 (by omega))
set_option maxRecDepth 20000 in
set_option maxHeartbeats 4000000 in
theorem s234bL {xs : Option (List Int32)} {d : Nat} {w0 : List sx_C} {s f t g n : Nat} (hs : s < 4) (ht : t < 4) (hf : f + n ≤ 40) (hg : g + n ≤ 40) : ∀ (fz j : Nat) (w : List sx_C) , 40 ≤ j + fz * 1 → j ≤ 40 → WI w → EM w0 w → sx_RP xs (d + 7) 234 152 [(0, .ref 111), (1, .int (nI s)), (2, .int (nI f)), (3, .int (nI t)), (4, .int (nI g)), (5, .int (nI n)), (6, .int (nI j))] [] w (fun r w2 => (∃ v : Int32, r = some (.int v)) ∧ WI w2 ∧ EM w0 w2)
  | 0, j, w, h, hj, hI, hE => s234bB hs ht hf hg hI hE hj   (fun w4  hI4 hE4 hlt  => absurd hlt (by omega)) 
  | fz + 1, j, w, h, hj, hI, hE => s234bB hs ht hf hg hI hE hj   (fun w4  hI4 hE4 hlt  => s234bL hs ht hf hg  fz (j + 1) w4  (by omega) hlt hI4 hE4 ) 
set_option maxRecDepth 20000 in
set_option maxHeartbeats 4000000 in
theorem s234aB {xs : Option (List Int32)} {d : Nat} {w w0 : List sx_C} {s f t g n : Nat} (hs : s < 4) (ht : t < 4) (hf : f + n ≤ 40) (hg : g + n ≤ 40) (hI : WI w) (hE : EM w0 w) {j : Nat} (hj : j ≤ 40) (kk : ∀ (w4 : List sx_C), WI w4 → EM w0 w4 → j + 1 ≤ 40 → sx_RP xs (d + 7) 234 115 [(0, .ref 111), (1, .int (nI s)), (2, .int (nI f)), (3, .int (nI t)), (4, .int (nI g)), (5, .int (nI n)), (6, .int (nI (j + 1)))] [] w4 (fun r w2 => (∃ v : Int32, r = some (.int v)) ∧ WI w2 ∧ EM w0 w2)) (kx149 : ∀ (w4 : List sx_C), WI w4 → EM w0 w4 → sx_RP xs (d + 7) 234 149 [(0, .ref 111), (1, .int (nI s)), (2, .int (nI f)), (3, .int (nI t)), (4, .int (nI g)), (5, .int (nI n))] [] w4 (fun r w2 => (∃ v : Int32, r = some (.int v)) ∧ WI w2 ∧ EM w0 w2)) : sx_RP xs (d + 7) 234 115 [(0, .ref 111), (1, .int (nI s)), (2, .int (nI f)), (3, .int (nI t)), (4, .int (nI g)), (5, .int (nI n)), (6, .int (nI j))] [] w (fun r w2 => (∃ v : Int32, r = some (.int v)) ∧ WI w2 ∧ EM w0 w2) := by
  refine sx_RP.step (pc2 := 117) (ls2 := [(0, .ref 111), (1, .int (nI s)), (2, .int (nI f)), (3, .int (nI t)), (4, .int (nI g)), (5, .int (nI n)), (6, .int (nI j))]) (st2 := [.int (nI j)]) (w3 := w) rfl rfl ?_
  refine sx_RP.step (pc2 := 119) (ls2 := [(0, .ref 111), (1, .int (nI s)), (2, .int (nI f)), (3, .int (nI t)), (4, .int (nI g)), (5, .int (nI n)), (6, .int (nI j))]) (st2 := [.int (nI n), .int (nI j)]) (w3 := w) rfl rfl ?_
  refine sx_RP.br (p1 := 149) (l1 := [(0, .ref 111), (1, .int (nI s)), (2, .int (nI f)), (3, .int (nI t)), (4, .int (nI g)), (5, .int (nI n)), (6, .int (nI j))]) (s1 := []) (v1 := w) (p2 := 122) (l2 := [(0, .ref 111), (1, .int (nI s)), (2, .int (nI f)), (3, .int (nI t)), (4, .int (nI g)), (5, .int (nI n)), (6, .int (nI j))]) (s2 := []) (v2 := w) rfl rfl (fun q1 => ?_) (fun q1 => ?_)
  · replace q1 := of_decide_eq_true q1
    replace q1 := (nI_leI (a := n) (b := j) (by omega) (by omega)).mp q1
    exact sx_RP.ls (sx_lr.cons rfl (sx_lr.cons rfl (sx_lr.cons rfl (sx_lr.cons rfl (sx_lr.cons rfl (sx_lr.cons rfl sx_lr.nil)))))) (kx149 w hI hE)
  · replace q1 := of_decide_eq_false q1
    replace q1 := mt (nI_leI (a := n) (b := j) (by omega) (by omega)).mpr q1
    refine sx_RP.step (pc2 := 123) (ls2 := [(0, .ref 111), (1, .int (nI s)), (2, .int (nI f)), (3, .int (nI t)), (4, .int (nI g)), (5, .int (nI n)), (6, .int (nI j))]) (st2 := [.ref 111]) (w3 := w) rfl rfl ?_
    refine sx_RP.gf (v := .ref 125) rfl rfl hI.1.o111 rfl rfl (show _ = 126 from rfl) ?_
    refine sx_RP.step (pc2 := 128) (ls2 := [(0, .ref 111), (1, .int (nI s)), (2, .int (nI f)), (3, .int (nI t)), (4, .int (nI g)), (5, .int (nI n)), (6, .int (nI j))]) (st2 := [.int (nI j), .ref 125]) (w3 := w) rfl rfl ?_
    refine sx_RP.step (pc2 := 129) (ls2 := [(0, .ref 111), (1, .int (nI s)), (2, .int (nI f)), (3, .int (nI t)), (4, .int (nI g)), (5, .int (nI n)), (6, .int (nI j))]) (st2 := [.ref 111, .int (nI j), .ref 125]) (w3 := w) rfl rfl ?_
    refine sx_RP.gf (v := .ref 124) rfl rfl hI.1.o111 rfl rfl (show _ = 132 from rfl) ?_
    refine sx_RP.step (pc2 := 134) (ls2 := [(0, .ref 111), (1, .int (nI s)), (2, .int (nI f)), (3, .int (nI t)), (4, .int (nI g)), (5, .int (nI n)), (6, .int (nI j))]) (st2 := [.int 40, .ref 124, .int (nI j), .ref 125]) (w3 := w) rfl rfl ?_
    refine sx_RP.step (pc2 := 135) (ls2 := [(0, .ref 111), (1, .int (nI s)), (2, .int (nI f)), (3, .int (nI t)), (4, .int (nI g)), (5, .int (nI n)), (6, .int (nI j))]) (st2 := [.int (nI s), .int 40, .ref 124, .int (nI j), .ref 125]) (w3 := w) rfl rfl ?_
    refine sx_RP.step (pc2 := 136) (ls2 := [(0, .ref 111), (1, .int (nI s)), (2, .int (nI f)), (3, .int (nI t)), (4, .int (nI g)), (5, .int (nI n)), (6, .int (nI j))]) (st2 := [.int (40 * (nI s)), .ref 124, .int (nI j), .ref 125]) (w3 := w) rfl rfl ?_
    rw [show (40 * (nI s) : Int32) = nI (40 * s) from nI_mul 40 s]
    refine sx_RP.step (pc2 := 137) (ls2 := [(0, .ref 111), (1, .int (nI s)), (2, .int (nI f)), (3, .int (nI t)), (4, .int (nI g)), (5, .int (nI n)), (6, .int (nI j))]) (st2 := [.int (nI f), .int (nI (40 * s)), .ref 124, .int (nI j), .ref 125]) (w3 := w) rfl rfl ?_
    refine sx_RP.step (pc2 := 138) (ls2 := [(0, .ref 111), (1, .int (nI s)), (2, .int (nI f)), (3, .int (nI t)), (4, .int (nI g)), (5, .int (nI n)), (6, .int (nI j))]) (st2 := [.int ((nI (40 * s)) + (nI f)), .ref 124, .int (nI j), .ref 125]) (w3 := w) rfl rfl ?_
    rw [show ((nI (40 * s)) + (nI f) : Int32) = nI ((40 * s) + f) from nI_add (40 * s) f]
    refine sx_RP.step (pc2 := 140) (ls2 := [(0, .ref 111), (1, .int (nI s)), (2, .int (nI f)), (3, .int (nI t)), (4, .int (nI g)), (5, .int (nI n)), (6, .int (nI j))]) (st2 := [.int (nI j), .int (nI ((40 * s) + f)), .ref 124, .int (nI j), .ref 125]) (w3 := w) rfl rfl ?_
    refine sx_RP.step (pc2 := 141) (ls2 := [(0, .ref 111), (1, .int (nI s)), (2, .int (nI f)), (3, .int (nI t)), (4, .int (nI g)), (5, .int (nI n)), (6, .int (nI j))]) (st2 := [.int ((nI ((40 * s) + f)) + (nI j)), .ref 124, .int (nI j), .ref 125]) (w3 := w) rfl rfl ?_
    rw [show ((nI ((40 * s) + f)) + (nI j) : Int32) = nI (((40 * s) + f) + j) from nI_add ((40 * s) + f) j]
    refine sx_RP.lld (c := (((40 * s) + f) + j)) rfl hI.1.a124.1 hI.1.a124.2 (sx_in_nI (show (((40 * s) + f) + j) < 160 by omega) (by decide)) (show (nI (((40 * s) + f) + j)).toNatClampNeg = (((40 * s) + f) + j) from nI_clamp (by omega)) (show _ = 142 from rfl) ?_
    refine sx_RP.mN hI hE rfl hI.1.a125 (sx_in_nI (show j < 40 by omega) (by decide)) (by decide) (show _ = 143 from rfl) (fun w2 hI3 hE4 hk5 => ?_)
    refine sx_RP.step (pc2 := 146) (ls2 := [(6, .int ((nI j) + 1)), (0, .ref 111), (1, .int (nI s)), (2, .int (nI f)), (3, .int (nI t)), (4, .int (nI g)), (5, .int (nI n))]) (st2 := []) (w3 := w2) rfl rfl ?_
    rw [nI_1 j]
    refine sx_RP.step (pc2 := 115) (ls2 := [(6, .int (nI (j + 1))), (0, .ref 111), (1, .int (nI s)), (2, .int (nI f)), (3, .int (nI t)), (4, .int (nI g)), (5, .int (nI n))]) (st2 := []) (w3 := w2) rfl rfl ?_
    exact sx_RP.ls (sx_lr.cons rfl (sx_lr.cons rfl (sx_lr.cons rfl (sx_lr.cons rfl (sx_lr.cons rfl (sx_lr.cons rfl (sx_lr.cons rfl sx_lr.nil))))))) (kk w2 hI3 hE4 (by omega))
set_option maxRecDepth 20000 in
set_option maxHeartbeats 4000000 in
theorem s234aL {xs : Option (List Int32)} {d : Nat} {w0 : List sx_C} {s f t g n : Nat} (hs : s < 4) (ht : t < 4) (hf : f + n ≤ 40) (hg : g + n ≤ 40) (kx149 : ∀ (w4 : List sx_C), WI w4 → EM w0 w4 → sx_RP xs (d + 7) 234 149 [(0, .ref 111), (1, .int (nI s)), (2, .int (nI f)), (3, .int (nI t)), (4, .int (nI g)), (5, .int (nI n))] [] w4 (fun r w2 => (∃ v : Int32, r = some (.int v)) ∧ WI w2 ∧ EM w0 w2)) : ∀ (fz j : Nat) (w : List sx_C) , 40 ≤ j + fz * 1 → j ≤ 40 → WI w → EM w0 w → sx_RP xs (d + 7) 234 115 [(0, .ref 111), (1, .int (nI s)), (2, .int (nI f)), (3, .int (nI t)), (4, .int (nI g)), (5, .int (nI n)), (6, .int (nI j))] [] w (fun r w2 => (∃ v : Int32, r = some (.int v)) ∧ WI w2 ∧ EM w0 w2)
  | 0, j, w, h, hj, hI, hE => s234aB hs ht hf hg hI hE hj   (fun w4  hI4 hE4 hlt  => absurd hlt (by omega)) kx149
  | fz + 1, j, w, h, hj, hI, hE => s234aB hs ht hf hg hI hE hj   (fun w4  hI4 hE4 hlt  => s234aL hs ht hf hg kx149 fz (j + 1) w4  (by omega) hlt hI4 hE4 ) kx149
set_option maxRecDepth 20000 in
set_option maxHeartbeats 4000000 in
theorem s234 {xs : Option (List Int32)} {d : Nat} {w : List sx_C} (hI : WI w) (a1 a2 a3 a4 a5 : Int32) : sx_RP xs (d + 7) 234 0 (lv_args 0 [.ref 111, .int a1, .int a2, .int a3, .int a4, .int a5]) [] w (fun r w2 => (∃ v : Int32, r = some (.int v)) ∧ WI w2 ∧ EM w w2) := by
  have hE : EM w w := EM.rf
  refine sx_RP.step (pc2 := 1) (ls2 := [(0, .ref 111), (1, .int a1), (2, .int a2), (3, .int a3), (4, .int a4), (5, .int a5)]) (st2 := [.int a1]) (w3 := w) rfl rfl ?_
  rcases in_cases a1 0 3 (m := 0) (n := 3) rfl rfl (by decide) (by decide) with q1 | ⟨x2, hx3, hx4, rfl⟩
  · refine sx_RP.cu (as := [.int a1]) (rest2 := []) (st3 := [.int 0]) rfl rfl rfl rfl rfl (cx_231n q1) rfl ?_
    refine sx_RP.step (pc2 := 14) (ls2 := [(0, .ref 111), (1, .int a1), (2, .int a2), (3, .int a3), (4, .int a4), (5, .int a5)]) (st2 := []) (w3 := w) rfl rfl ?_
    refine sx_RP.step (pc2 := 15) (ls2 := [(0, .ref 111), (1, .int a1), (2, .int a2), (3, .int a3), (4, .int a4), (5, .int a5)]) (st2 := [.ref 111]) (w3 := w) rfl rfl ?_
    refine sx_RP.step (pc2 := 16) (ls2 := [(0, .ref 111), (1, .int a1), (2, .int a2), (3, .int a3), (4, .int a4), (5, .int a5)]) (st2 := [.int 0, .ref 111]) (w3 := w) rfl rfl ?_
    refine sx_RP.callp (as2 := [.ref 111, .int 0]) (rest2 := []) rfl rfl (sx_inv_v2 (mi := 234) (k := 70) (st := [.int 0, .ref 111]) (w := w) rfl rfl hI.1.o111 rfl rfl rfl) rfl rfl rfl (s133_0 hI) (show _ = 19 from rfl) ?_
    rintro r4 w6 ⟨rfl, hI7, hE9⟩
    have hE8 := hE.tr (hE9)
    show sx_RP _ _ _ _ _ [.int (-1000000001)] _ _
    refine sx_RP.ret (r := (some (.int (-1000000001)))) rfl rfl ?_
    exact ⟨⟨_, rfl⟩, hI7, hE8⟩
  · refine sx_RP.cu (as := [.int (nI x2)]) (rest2 := []) (st3 := [.int 1]) rfl rfl rfl rfl rfl (cx_231p ⟨nI_le (a := 0) hx3 (by omega), nI_le (b := 3) hx4 (by decide)⟩) rfl ?_
    refine sx_RP.step (pc2 := 7) (ls2 := [(0, .ref 111), (1, .int (nI x2)), (2, .int a2), (3, .int a3), (4, .int a4), (5, .int a5)]) (st2 := []) (w3 := w) rfl rfl ?_
    refine sx_RP.step (pc2 := 8) (ls2 := [(0, .ref 111), (1, .int (nI x2)), (2, .int a2), (3, .int a3), (4, .int a4), (5, .int a5)]) (st2 := [.int a3]) (w3 := w) rfl rfl ?_
    rcases in_cases a3 0 3 (m := 0) (n := 3) rfl rfl (by decide) (by decide) with q10 | ⟨x11, hx12, hx13, rfl⟩
    · refine sx_RP.cu (as := [.int a3]) (rest2 := []) (st3 := [.int 0]) rfl rfl rfl rfl rfl (cx_231n q10) rfl ?_
      refine sx_RP.step (pc2 := 14) (ls2 := [(0, .ref 111), (1, .int (nI x2)), (2, .int a2), (3, .int a3), (4, .int a4), (5, .int a5)]) (st2 := []) (w3 := w) rfl rfl ?_
      refine sx_RP.step (pc2 := 15) (ls2 := [(0, .ref 111), (1, .int (nI x2)), (2, .int a2), (3, .int a3), (4, .int a4), (5, .int a5)]) (st2 := [.ref 111]) (w3 := w) rfl rfl ?_
      refine sx_RP.step (pc2 := 16) (ls2 := [(0, .ref 111), (1, .int (nI x2)), (2, .int a2), (3, .int a3), (4, .int a4), (5, .int a5)]) (st2 := [.int 0, .ref 111]) (w3 := w) rfl rfl ?_
      refine sx_RP.callp (as2 := [.ref 111, .int 0]) (rest2 := []) rfl rfl (sx_inv_v2 (mi := 234) (k := 70) (st := [.int 0, .ref 111]) (w := w) rfl rfl hI.1.o111 rfl rfl rfl) rfl rfl rfl (s133_0 hI) (show _ = 19 from rfl) ?_
      rintro r4 w15 ⟨rfl, hI16, hE18⟩
      have hE17 := hE.tr (hE18)
      show sx_RP _ _ _ _ _ [.int (-1000000001)] _ _
      refine sx_RP.ret (r := (some (.int (-1000000001)))) rfl rfl ?_
      exact ⟨⟨_, rfl⟩, hI16, hE17⟩
    · refine sx_RP.cu (as := [.int (nI x11)]) (rest2 := []) (st3 := [.int 1]) rfl rfl rfl rfl rfl (cx_231p ⟨nI_le (a := 0) hx12 (by omega), nI_le (b := 3) hx13 (by decide)⟩) rfl ?_
      refine sx_RP.step (pc2 := 20) (ls2 := [(0, .ref 111), (1, .int (nI x2)), (2, .int a2), (3, .int (nI x11)), (4, .int a4), (5, .int a5)]) (st2 := []) (w3 := w) rfl rfl ?_
      refine sx_RP.step (pc2 := 21) (ls2 := [(0, .ref 111), (1, .int (nI x2)), (2, .int a2), (3, .int (nI x11)), (4, .int a4), (5, .int a5)]) (st2 := [.ref 111]) (w3 := w) rfl rfl ?_
      refine sx_RP.gf (v := .ref 122) rfl rfl hI.1.o111 rfl rfl (show _ = 24 from rfl) ?_
      refine sx_RP.step (pc2 := 25) (ls2 := [(0, .ref 111), (1, .int (nI x2)), (2, .int a2), (3, .int (nI x11)), (4, .int a4), (5, .int a5)]) (st2 := [.int (nI x2), .ref 122]) (w3 := w) rfl rfl ?_
      refine sx_RP.ild (c := x2) rfl hI.1.a122.1 hI.1.a122.2 (sx_in_nI (show x2 < 4 by omega) (by decide)) (show (nI x2).toNatClampNeg = x2 from nI_clamp (by omega)) (show _ = 26 from rfl) ?_
      refine sx_RP.br (p1 := 38) (l1 := [(0, .ref 111), (1, .int (nI x2)), (2, .int a2), (3, .int (nI x11)), (4, .int a4), (5, .int a5)]) (s1 := []) (v1 := w) (p2 := 29) (l2 := [(0, .ref 111), (1, .int (nI x2)), (2, .int a2), (3, .int (nI x11)), (4, .int a4), (5, .int a5)]) (s2 := []) (v2 := w) rfl rfl (fun q19 => ?_) (fun q19 => ?_)
      · replace q19 := of_decide_eq_true q19
        refine sx_RP.step (pc2 := 39) (ls2 := [(0, .ref 111), (1, .int (nI x2)), (2, .int a2), (3, .int (nI x11)), (4, .int a4), (5, .int a5)]) (st2 := [.ref 111]) (w3 := w) rfl rfl ?_
        refine sx_RP.step (pc2 := 40) (ls2 := [(0, .ref 111), (1, .int (nI x2)), (2, .int a2), (3, .int (nI x11)), (4, .int a4), (5, .int a5)]) (st2 := [.int 5, .ref 111]) (w3 := w) rfl rfl ?_
        refine sx_RP.callp (as2 := [.ref 111, .int 5]) (rest2 := []) rfl rfl (sx_inv_v2 (mi := 234) (k := 70) (st := [.int 5, .ref 111]) (w := w) rfl rfl hI.1.o111 rfl rfl rfl) rfl rfl rfl (s133_5 hI) (show _ = 43 from rfl) ?_
        rintro r4 w20 ⟨rfl, hI21, hE23⟩
        have hE22 := hE.tr (hE23)
        show sx_RP _ _ _ _ _ [.int (-1000000006)] _ _
        refine sx_RP.ret (r := (some (.int (-1000000006)))) rfl rfl ?_
        exact ⟨⟨_, rfl⟩, hI21, hE22⟩
      · replace q19 := of_decide_eq_false q19
        refine sx_RP.step (pc2 := 30) (ls2 := [(0, .ref 111), (1, .int (nI x2)), (2, .int a2), (3, .int (nI x11)), (4, .int a4), (5, .int a5)]) (st2 := [.ref 111]) (w3 := w) rfl rfl ?_
        refine sx_RP.gf (v := .ref 122) rfl rfl hI.1.o111 rfl rfl (show _ = 33 from rfl) ?_
        refine sx_RP.step (pc2 := 34) (ls2 := [(0, .ref 111), (1, .int (nI x2)), (2, .int a2), (3, .int (nI x11)), (4, .int a4), (5, .int a5)]) (st2 := [.int (nI x11), .ref 122]) (w3 := w) rfl rfl ?_
        refine sx_RP.ild (c := x11) rfl hI.1.a122.1 hI.1.a122.2 (sx_in_nI (show x11 < 4 by omega) (by decide)) (show (nI x11).toNatClampNeg = x11 from nI_clamp (by omega)) (show _ = 35 from rfl) ?_
        refine sx_RP.br (p1 := 44) (l1 := [(0, .ref 111), (1, .int (nI x2)), (2, .int a2), (3, .int (nI x11)), (4, .int a4), (5, .int a5)]) (s1 := []) (v1 := w) (p2 := 38) (l2 := [(0, .ref 111), (1, .int (nI x2)), (2, .int a2), (3, .int (nI x11)), (4, .int a4), (5, .int a5)]) (s2 := []) (v2 := w) rfl rfl (fun q24 => ?_) (fun q24 => ?_)
        · replace q24 := of_decide_eq_true q24
          refine sx_RP.step (pc2 := 45) (ls2 := [(0, .ref 111), (1, .int (nI x2)), (2, .int a2), (3, .int (nI x11)), (4, .int a4), (5, .int a5)]) (st2 := [.ref 111]) (w3 := w) rfl rfl ?_
          refine sx_RP.gf (v := .ref 122) rfl rfl hI.1.o111 rfl rfl (show _ = 48 from rfl) ?_
          refine sx_RP.step (pc2 := 49) (ls2 := [(0, .ref 111), (1, .int (nI x2)), (2, .int a2), (3, .int (nI x11)), (4, .int a4), (5, .int a5)]) (st2 := [.int (nI x2), .ref 122]) (w3 := w) rfl rfl ?_
          refine sx_RP.ild (c := x2) rfl hI.1.a122.1 hI.1.a122.2 (sx_in_nI (show x2 < 4 by omega) (by decide)) (show (nI x2).toNatClampNeg = x2 from nI_clamp (by omega)) (show _ = 50 from rfl) ?_
          refine sx_RP.step (pc2 := 51) (ls2 := [(0, .ref 111), (1, .int (nI x2)), (2, .int a2), (3, .int (nI x11)), (4, .int a4), (5, .int a5)]) (st2 := [.ref 111, .int ((ia w 122).getD x2 0)]) (w3 := w) rfl rfl ?_
          refine sx_RP.gf (v := .ref 122) rfl rfl hI.1.o111 rfl rfl (show _ = 54 from rfl) ?_
          refine sx_RP.step (pc2 := 55) (ls2 := [(0, .ref 111), (1, .int (nI x2)), (2, .int a2), (3, .int (nI x11)), (4, .int a4), (5, .int a5)]) (st2 := [.int (nI x11), .ref 122, .int ((ia w 122).getD x2 0)]) (w3 := w) rfl rfl ?_
          refine sx_RP.ild (c := x11) rfl hI.1.a122.1 hI.1.a122.2 (sx_in_nI (show x11 < 4 by omega) (by decide)) (show (nI x11).toNatClampNeg = x11 from nI_clamp (by omega)) (show _ = 56 from rfl) ?_
          refine sx_RP.br (p1 := 65) (l1 := [(0, .ref 111), (1, .int (nI x2)), (2, .int a2), (3, .int (nI x11)), (4, .int a4), (5, .int a5)]) (s1 := []) (v1 := w) (p2 := 59) (l2 := [(0, .ref 111), (1, .int (nI x2)), (2, .int a2), (3, .int (nI x11)), (4, .int a4), (5, .int a5)]) (s2 := []) (v2 := w) rfl rfl (fun q25 => ?_) (fun q25 => ?_)
          · replace q25 := of_decide_eq_true q25
            refine sx_RP.step (pc2 := 67) (ls2 := [(0, .ref 111), (1, .int (nI x2)), (2, .int a2), (3, .int (nI x11)), (4, .int a4), (5, .int a5)]) (st2 := [.int a5]) (w3 := w) rfl rfl ?_
            refine sx_RP.br (p1 := 106) (l1 := [(0, .ref 111), (1, .int (nI x2)), (2, .int a2), (3, .int (nI x11)), (4, .int a4), (5, .int a5)]) (s1 := []) (v1 := w) (p2 := 70) (l2 := [(0, .ref 111), (1, .int (nI x2)), (2, .int a2), (3, .int (nI x11)), (4, .int a4), (5, .int a5)]) (s2 := []) (v2 := w) rfl rfl (fun q26 => ?_) (fun q26 => ?_)
            · replace q26 := of_decide_eq_true q26
              refine sx_RP.step (pc2 := 107) (ls2 := [(0, .ref 111), (1, .int (nI x2)), (2, .int a2), (3, .int (nI x11)), (4, .int a4), (5, .int a5)]) (st2 := [.ref 111]) (w3 := w) rfl rfl ?_
              refine sx_RP.step (pc2 := 108) (ls2 := [(0, .ref 111), (1, .int (nI x2)), (2, .int a2), (3, .int (nI x11)), (4, .int a4), (5, .int a5)]) (st2 := [.int 0, .ref 111]) (w3 := w) rfl rfl ?_
              refine sx_RP.callp (as2 := [.ref 111, .int 0]) (rest2 := []) rfl rfl (sx_inv_v2 (mi := 234) (k := 70) (st := [.int 0, .ref 111]) (w := w) rfl rfl hI.1.o111 rfl rfl rfl) rfl rfl rfl (s133_0 hI) (show _ = 111 from rfl) ?_
              rintro r4 w27 ⟨rfl, hI28, hE30⟩
              have hE29 := hE.tr (hE30)
              show sx_RP _ _ _ _ _ [.int (-1000000001)] _ _
              refine sx_RP.ret (r := (some (.int (-1000000001)))) rfl rfl ?_
              exact ⟨⟨_, rfl⟩, hI28, hE29⟩
            · replace q26 := of_decide_eq_false q26
              refine sx_RP.step (pc2 := 71) (ls2 := [(0, .ref 111), (1, .int (nI x2)), (2, .int a2), (3, .int (nI x11)), (4, .int a4), (5, .int a5)]) (st2 := [.int a2]) (w3 := w) rfl rfl ?_
              refine sx_RP.br (p1 := 106) (l1 := [(0, .ref 111), (1, .int (nI x2)), (2, .int a2), (3, .int (nI x11)), (4, .int a4), (5, .int a5)]) (s1 := []) (v1 := w) (p2 := 74) (l2 := [(0, .ref 111), (1, .int (nI x2)), (2, .int a2), (3, .int (nI x11)), (4, .int a4), (5, .int a5)]) (s2 := []) (v2 := w) rfl rfl (fun q31 => ?_) (fun q31 => ?_)
              · replace q31 := of_decide_eq_true q31
                refine sx_RP.step (pc2 := 107) (ls2 := [(0, .ref 111), (1, .int (nI x2)), (2, .int a2), (3, .int (nI x11)), (4, .int a4), (5, .int a5)]) (st2 := [.ref 111]) (w3 := w) rfl rfl ?_
                refine sx_RP.step (pc2 := 108) (ls2 := [(0, .ref 111), (1, .int (nI x2)), (2, .int a2), (3, .int (nI x11)), (4, .int a4), (5, .int a5)]) (st2 := [.int 0, .ref 111]) (w3 := w) rfl rfl ?_
                refine sx_RP.callp (as2 := [.ref 111, .int 0]) (rest2 := []) rfl rfl (sx_inv_v2 (mi := 234) (k := 70) (st := [.int 0, .ref 111]) (w := w) rfl rfl hI.1.o111 rfl rfl rfl) rfl rfl rfl (s133_0 hI) (show _ = 111 from rfl) ?_
                rintro r4 w32 ⟨rfl, hI33, hE35⟩
                have hE34 := hE.tr (hE35)
                show sx_RP _ _ _ _ _ [.int (-1000000001)] _ _
                refine sx_RP.ret (r := (some (.int (-1000000001)))) rfl rfl ?_
                exact ⟨⟨_, rfl⟩, hI33, hE34⟩
              · replace q31 := of_decide_eq_false q31
                refine sx_RP.step (pc2 := 76) (ls2 := [(0, .ref 111), (1, .int (nI x2)), (2, .int a2), (3, .int (nI x11)), (4, .int a4), (5, .int a5)]) (st2 := [.int a4]) (w3 := w) rfl rfl ?_
                refine sx_RP.br (p1 := 106) (l1 := [(0, .ref 111), (1, .int (nI x2)), (2, .int a2), (3, .int (nI x11)), (4, .int a4), (5, .int a5)]) (s1 := []) (v1 := w) (p2 := 79) (l2 := [(0, .ref 111), (1, .int (nI x2)), (2, .int a2), (3, .int (nI x11)), (4, .int a4), (5, .int a5)]) (s2 := []) (v2 := w) rfl rfl (fun q36 => ?_) (fun q36 => ?_)
                · replace q36 := of_decide_eq_true q36
                  refine sx_RP.step (pc2 := 107) (ls2 := [(0, .ref 111), (1, .int (nI x2)), (2, .int a2), (3, .int (nI x11)), (4, .int a4), (5, .int a5)]) (st2 := [.ref 111]) (w3 := w) rfl rfl ?_
                  refine sx_RP.step (pc2 := 108) (ls2 := [(0, .ref 111), (1, .int (nI x2)), (2, .int a2), (3, .int (nI x11)), (4, .int a4), (5, .int a5)]) (st2 := [.int 0, .ref 111]) (w3 := w) rfl rfl ?_
                  refine sx_RP.callp (as2 := [.ref 111, .int 0]) (rest2 := []) rfl rfl (sx_inv_v2 (mi := 234) (k := 70) (st := [.int 0, .ref 111]) (w := w) rfl rfl hI.1.o111 rfl rfl rfl) rfl rfl rfl (s133_0 hI) (show _ = 111 from rfl) ?_
                  rintro r4 w37 ⟨rfl, hI38, hE40⟩
                  have hE39 := hE.tr (hE40)
                  show sx_RP _ _ _ _ _ [.int (-1000000001)] _ _
                  refine sx_RP.ret (r := (some (.int (-1000000001)))) rfl rfl ?_
                  exact ⟨⟨_, rfl⟩, hI38, hE39⟩
                · replace q36 := of_decide_eq_false q36
                  refine sx_RP.step (pc2 := 80) (ls2 := [(0, .ref 111), (1, .int (nI x2)), (2, .int a2), (3, .int (nI x11)), (4, .int a4), (5, .int a5)]) (st2 := [.int a2]) (w3 := w) rfl rfl ?_
                  refine sx_RP.step (pc2 := 81) (ls2 := [(0, .ref 111), (1, .int (nI x2)), (2, .int a2), (3, .int (nI x11)), (4, .int a4), (5, .int a5)]) (st2 := [.ref 111, .int a2]) (w3 := w) rfl rfl ?_
                  refine sx_RP.gf (v := .ref 123) rfl rfl hI.1.o111 rfl rfl (show _ = 84 from rfl) ?_
                  refine sx_RP.step (pc2 := 85) (ls2 := [(0, .ref 111), (1, .int (nI x2)), (2, .int a2), (3, .int (nI x11)), (4, .int a4), (5, .int a5)]) (st2 := [.int (nI x2), .ref 123, .int a2]) (w3 := w) rfl rfl ?_
                  refine sx_RP.ild (c := x2) rfl hI.1.a123.1 hI.1.a123.2 (sx_in_nI (show x2 < 4 by omega) (by decide)) (show (nI x2).toNatClampNeg = x2 from nI_clamp (by omega)) (show _ = 86 from rfl) ?_
                  obtain ⟨x41, hx42, ex43⟩ : inR ((ia w 123).getD x2 0) 40 := hI.l (show x2 < 4 by omega)
                  rw [ex43]
                  refine sx_RP.step (pc2 := 88) (ls2 := [(0, .ref 111), (1, .int (nI x2)), (2, .int a2), (3, .int (nI x11)), (4, .int a4), (5, .int a5)]) (st2 := [.int a5, .int (nI x41), .int a2]) (w3 := w) rfl rfl ?_
                  refine sx_RP.step (pc2 := 89) (ls2 := [(0, .ref 111), (1, .int (nI x2)), (2, .int a2), (3, .int (nI x11)), (4, .int a4), (5, .int a5)]) (st2 := [.int ((nI x41) - a5), .int a2]) (w3 := w) rfl rfl ?_
                  refine sx_RP.br (p1 := 106) (l1 := [(0, .ref 111), (1, .int (nI x2)), (2, .int a2), (3, .int (nI x11)), (4, .int a4), (5, .int a5)]) (s1 := []) (v1 := w) (p2 := 92) (l2 := [(0, .ref 111), (1, .int (nI x2)), (2, .int a2), (3, .int (nI x11)), (4, .int a4), (5, .int a5)]) (s2 := []) (v2 := w) rfl rfl (fun q44 => ?_) (fun q44 => ?_)
                  · replace q44 := of_decide_eq_true q44
                    refine sx_RP.step (pc2 := 107) (ls2 := [(0, .ref 111), (1, .int (nI x2)), (2, .int a2), (3, .int (nI x11)), (4, .int a4), (5, .int a5)]) (st2 := [.ref 111]) (w3 := w) rfl rfl ?_
                    refine sx_RP.step (pc2 := 108) (ls2 := [(0, .ref 111), (1, .int (nI x2)), (2, .int a2), (3, .int (nI x11)), (4, .int a4), (5, .int a5)]) (st2 := [.int 0, .ref 111]) (w3 := w) rfl rfl ?_
                    refine sx_RP.callp (as2 := [.ref 111, .int 0]) (rest2 := []) rfl rfl (sx_inv_v2 (mi := 234) (k := 70) (st := [.int 0, .ref 111]) (w := w) rfl rfl hI.1.o111 rfl rfl rfl) rfl rfl rfl (s133_0 hI) (show _ = 111 from rfl) ?_
                    rintro r4 w45 ⟨rfl, hI46, hE48⟩
                    have hE47 := hE.tr (hE48)
                    show sx_RP _ _ _ _ _ [.int (-1000000001)] _ _
                    refine sx_RP.ret (r := (some (.int (-1000000001)))) rfl rfl ?_
                    exact ⟨⟨_, rfl⟩, hI46, hE47⟩
                  · replace q44 := of_decide_eq_false q44
                    refine sx_RP.step (pc2 := 94) (ls2 := [(0, .ref 111), (1, .int (nI x2)), (2, .int a2), (3, .int (nI x11)), (4, .int a4), (5, .int a5)]) (st2 := [.int a4]) (w3 := w) rfl rfl ?_
                    refine sx_RP.step (pc2 := 95) (ls2 := [(0, .ref 111), (1, .int (nI x2)), (2, .int a2), (3, .int (nI x11)), (4, .int a4), (5, .int a5)]) (st2 := [.ref 111, .int a4]) (w3 := w) rfl rfl ?_
                    refine sx_RP.gf (v := .ref 123) rfl rfl hI.1.o111 rfl rfl (show _ = 98 from rfl) ?_
                    refine sx_RP.step (pc2 := 99) (ls2 := [(0, .ref 111), (1, .int (nI x2)), (2, .int a2), (3, .int (nI x11)), (4, .int a4), (5, .int a5)]) (st2 := [.int (nI x11), .ref 123, .int a4]) (w3 := w) rfl rfl ?_
                    refine sx_RP.ild (c := x11) rfl hI.1.a123.1 hI.1.a123.2 (sx_in_nI (show x11 < 4 by omega) (by decide)) (show (nI x11).toNatClampNeg = x11 from nI_clamp (by omega)) (show _ = 100 from rfl) ?_
                    obtain ⟨x49, hx50, ex51⟩ : inR ((ia w 123).getD x11 0) 40 := hI.l (show x11 < 4 by omega)
                    rw [ex51]
                    refine sx_RP.step (pc2 := 102) (ls2 := [(0, .ref 111), (1, .int (nI x2)), (2, .int a2), (3, .int (nI x11)), (4, .int a4), (5, .int a5)]) (st2 := [.int a5, .int (nI x49), .int a4]) (w3 := w) rfl rfl ?_
                    refine sx_RP.step (pc2 := 103) (ls2 := [(0, .ref 111), (1, .int (nI x2)), (2, .int a2), (3, .int (nI x11)), (4, .int a4), (5, .int a5)]) (st2 := [.int ((nI x49) - a5), .int a4]) (w3 := w) rfl rfl ?_
                    refine sx_RP.br (p1 := 112) (l1 := [(0, .ref 111), (1, .int (nI x2)), (2, .int a2), (3, .int (nI x11)), (4, .int a4), (5, .int a5)]) (s1 := []) (v1 := w) (p2 := 106) (l2 := [(0, .ref 111), (1, .int (nI x2)), (2, .int a2), (3, .int (nI x11)), (4, .int a4), (5, .int a5)]) (s2 := []) (v2 := w) rfl rfl (fun q52 => ?_) (fun q52 => ?_)
                    · replace q52 := of_decide_eq_true q52
                      refine sx_RP.step (pc2 := 113) (ls2 := [(0, .ref 111), (1, .int (nI x2)), (2, .int a2), (3, .int (nI x11)), (4, .int a4), (5, .int a5)]) (st2 := [.int 0]) (w3 := w) rfl rfl ?_
                      refine sx_RP.step (pc2 := 115) (ls2 := [(6, .int 0), (0, .ref 111), (1, .int (nI x2)), (2, .int a2), (3, .int (nI x11)), (4, .int a4), (5, .int a5)]) (st2 := []) (w3 := w) rfl rfl ?_
                      obtain ⟨x53, x54, rfl, rfl, hx55⟩ := cop_of (by omega) q31 q26 q44
                      obtain ⟨x56, x57, rfl, ex58, hx59⟩ := cop_of (by omega) q36 q26 (Int32.not_lt.mpr q52)
                      have ex60 := (nI_eq (a := x54) (b := x57) (by omega) (by omega)).mp ex58
                      refine sx_RP.ls (sx_lr.cons rfl (sx_lr.cons rfl (sx_lr.cons rfl (sx_lr.cons rfl (sx_lr.cons rfl (sx_lr.cons rfl (sx_lr.cons rfl sx_lr.nil))))))) (s234aL (show x2 < 4 by omega) (show x11 < 4 by omega) (show x53 + x54 ≤ 40 by omega) (show x56 + x54 ≤ 40 by omega) (fun w61 hI62 hE63 => ?_) 40 0 w (by omega) (by omega) hI hE)
                      refine sx_RP.step (pc2 := 150) (ls2 := [(0, .ref 111), (1, .int (nI x2)), (2, .int (nI x53)), (3, .int (nI x11)), (4, .int (nI x56)), (5, .int (nI x54))]) (st2 := [.int 0]) (w3 := w61) rfl rfl ?_
                      refine sx_RP.step (pc2 := 152) (ls2 := [(6, .int 0), (0, .ref 111), (1, .int (nI x2)), (2, .int (nI x53)), (3, .int (nI x11)), (4, .int (nI x56)), (5, .int (nI x54))]) (st2 := []) (w3 := w61) rfl rfl ?_
                      exact sx_RP.ls (sx_lr.cons rfl (sx_lr.cons rfl (sx_lr.cons rfl (sx_lr.cons rfl (sx_lr.cons rfl (sx_lr.cons rfl (sx_lr.cons rfl sx_lr.nil))))))) (s234bL (show x2 < 4 by omega) (show x11 < 4 by omega) (show x53 + x54 ≤ 40 by omega) (show x56 + x54 ≤ 40 by omega) 40 0 w61 (by omega) (by omega) hI62 hE63)
                    · replace q52 := of_decide_eq_false q52
                      refine sx_RP.step (pc2 := 107) (ls2 := [(0, .ref 111), (1, .int (nI x2)), (2, .int a2), (3, .int (nI x11)), (4, .int a4), (5, .int a5)]) (st2 := [.ref 111]) (w3 := w) rfl rfl ?_
                      refine sx_RP.step (pc2 := 108) (ls2 := [(0, .ref 111), (1, .int (nI x2)), (2, .int a2), (3, .int (nI x11)), (4, .int a4), (5, .int a5)]) (st2 := [.int 0, .ref 111]) (w3 := w) rfl rfl ?_
                      refine sx_RP.callp (as2 := [.ref 111, .int 0]) (rest2 := []) rfl rfl (sx_inv_v2 (mi := 234) (k := 70) (st := [.int 0, .ref 111]) (w := w) rfl rfl hI.1.o111 rfl rfl rfl) rfl rfl rfl (s133_0 hI) (show _ = 111 from rfl) ?_
                      rintro r4 w64 ⟨rfl, hI65, hE67⟩
                      have hE66 := hE.tr (hE67)
                      show sx_RP _ _ _ _ _ [.int (-1000000001)] _ _
                      refine sx_RP.ret (r := (some (.int (-1000000001)))) rfl rfl ?_
                      exact ⟨⟨_, rfl⟩, hI65, hE66⟩
          · replace q25 := of_decide_eq_false q25
            refine sx_RP.step (pc2 := 60) (ls2 := [(0, .ref 111), (1, .int (nI x2)), (2, .int a2), (3, .int (nI x11)), (4, .int a4), (5, .int a5)]) (st2 := [.ref 111]) (w3 := w) rfl rfl ?_
            refine sx_RP.step (pc2 := 61) (ls2 := [(0, .ref 111), (1, .int (nI x2)), (2, .int a2), (3, .int (nI x11)), (4, .int a4), (5, .int a5)]) (st2 := [.int 2, .ref 111]) (w3 := w) rfl rfl ?_
            refine sx_RP.callp (as2 := [.ref 111, .int 2]) (rest2 := []) rfl rfl (sx_inv_v2 (mi := 234) (k := 70) (st := [.int 2, .ref 111]) (w := w) rfl rfl hI.1.o111 rfl rfl rfl) rfl rfl rfl (s133_2 hI) (show _ = 64 from rfl) ?_
            rintro r4 w68 ⟨rfl, hI69, hE71⟩
            have hE70 := hE.tr (hE71)
            show sx_RP _ _ _ _ _ [.int (-1000000003)] _ _
            refine sx_RP.ret (r := (some (.int (-1000000003)))) rfl rfl ?_
            exact ⟨⟨_, rfl⟩, hI69, hE70⟩
        · replace q24 := Decidable.not_not.mp (of_decide_eq_false q24)
          refine sx_RP.step (pc2 := 39) (ls2 := [(0, .ref 111), (1, .int (nI x2)), (2, .int a2), (3, .int (nI x11)), (4, .int a4), (5, .int a5)]) (st2 := [.ref 111]) (w3 := w) rfl rfl ?_
          refine sx_RP.step (pc2 := 40) (ls2 := [(0, .ref 111), (1, .int (nI x2)), (2, .int a2), (3, .int (nI x11)), (4, .int a4), (5, .int a5)]) (st2 := [.int 5, .ref 111]) (w3 := w) rfl rfl ?_
          refine sx_RP.callp (as2 := [.ref 111, .int 5]) (rest2 := []) rfl rfl (sx_inv_v2 (mi := 234) (k := 70) (st := [.int 5, .ref 111]) (w := w) rfl rfl hI.1.o111 rfl rfl rfl) rfl rfl rfl (s133_5 hI) (show _ = 43 from rfl) ?_
          rintro r4 w72 ⟨rfl, hI73, hE75⟩
          have hE74 := hE.tr (hE75)
          show sx_RP _ _ _ _ _ [.int (-1000000006)] _ _
          refine sx_RP.ret (r := (some (.int (-1000000006)))) rfl rfl ?_
          exact ⟨⟨_, rfl⟩, hI73, hE74⟩
end
-- 64.sound.lean.txt
section
-- by sound every cell is reached
theorem bsd_v : ∀ c, c < 48 → (8 ≤ c → bsd c 0 = nI (c - 8)) ∧ (c % 8 < 7 → bsd c 1 = nI (c + 1)) ∧ (c < 40 → bsd c 2 = nI (c + 8)) ∧ (0 < c % 8 → bsd c 3 = nI (c - 1)) := by decide +kernel
theorem bsd_self : ∀ c, c < 48 → ∀ j, j < 4 → bsd c j ≠ nI c := by decide +kernel
def clo (S : Nat → Prop) : Prop := ∀ c, c < 48 → S c → ∀ j, j < 4 → ∀ n, n < 48 → bsd c j = nI n → S n
theorem conn0 {S : Nat → Prop} (h : clo S) : ∀ (k c : Nat), c ≤ k → c < 48 → S c → S 0
  | 0, c, hk, _, hs => by
    obtain rfl : c = 0 := by omega
    exact hs
  | k + 1, c, hk, hc, hs => by
    by_cases h8 : 8 ≤ c
    · exact conn0 h k (c - 8) (by omega) (by omega) (h c hc hs 0 (by decide) (c - 8) (by omega) ((bsd_v c hc).1 h8))
    · by_cases h0 : c = 0
      · subst h0
        exact hs
      · exact conn0 h k (c - 1) (by omega) (by omega) (h c hc hs 3 (by decide) (c - 1) (by omega) ((bsd_v c hc).2.2.2 (by omega)))
theorem conn1 {S : Nat → Prop} (h : clo S) (h0 : S 0) : ∀ (k c : Nat), c ≤ k → c < 48 → S c
  | 0, c, hk, _ => by
    obtain rfl : c = 0 := by omega
    exact h0
  | k + 1, c, hk, hc => by
    by_cases hz : c = 0
    · subst hz
      exact h0
    · by_cases h8 : c % 8 = 0
      · have := conn1 h h0 k (c - 8) (by omega) (by omega)
        exact h (c - 8) (by omega) this 2 (by decide) c hc (by rw [(bsd_v (c - 8) (by omega)).2.2.1 (by omega)]; congr 1; omega)
      · have := conn1 h h0 k (c - 1) (by omega) (by omega)
        exact h (c - 1) (by omega) this 1 (by decide) c hc (by rw [(bsd_v (c - 1) (by omega)).2.1 (by omega)]; congr 1; omega)
theorem conn {S : Nat → Prop} {src : Nat} (h : clo S) (hsrc : src < 48) (hs : S src) : ∀ c, c < 48 → S c := fun c hc => conn1 h (conn0 h 48 src (by omega) hsrc hs) 48 c (by omega) hc
theorem crF_n (x : Int32) : ∃ j, 1 ≤ j ∧ j ≤ 4 ∧ crF x = nI j := by
  unfold crF
  split
  · exact ⟨2, by decide, by decide, rfl⟩
  · split
    · exact ⟨4, by decide, by decide, rfl⟩
    · exact ⟨1, by decide, by decide, rfl⟩
theorem gd_set {l : List Int32} {i : Nat} {v : Int32} (hi : i < l.length) (k : Nat) : (l.set i v).getD k 0 = if k = i then v else l.getD k 0 := by
  rw [List.getD_eq_getElem?_getD, List.getElem?_set]
  by_cases e : i = k
  · subst e
    rw [if_pos rfl, if_pos hi, if_pos rfl]
    rfl
  · rw [if_neg e, if_neg (Ne.symm e), ← List.getD_eq_getElem?_getD]
/-- the ways so far: none, or a sum not less than what going into the cell costs -/
def wA (s : List Int32) (src M : Nat) (wy : List Int32) : Prop := ∀ c, c < 48 → wy.getD c 0 = -1 ∨ ∃ v, v ≤ M ∧ wy.getD c 0 = nI v ∧ (c ≠ src → ∃ j, j ≤ v ∧ crF (s.getD (7 + c) 0) = nI j)
theorem wA.up {s wy : List Int32} {src M M2 : Nat} (h : wA s src M wy) (hm : M ≤ M2) : wA s src M2 wy := by
  intro c hc
  rcases h c hc with h1 | ⟨v, h1, h2, h3⟩
  · exact Or.inl h1
  · exact Or.inr ⟨v, by omega, h2, h3⟩
theorem wr1_inv {s wy : List Int32} {src M c v j : Nat} (hM : M < 2 ^ 20) (hl : wy.length = 48) (hA : wA s src (M + 4) wy) (hc : c < 48) (hv : wy.getD c 0 = nI v) (hvM : v ≤ M) (hj : j < 4) : wA s src (M + 4) (wr1 s c wy (bsd c j)) ∧ (wr1 s c wy (bsd c j)).getD c 0 = nI v ∧ (∀ x, x < 48 → wy.getD x 0 ≠ -1 → (wr1 s c wy (bsd c j)).getD x 0 ≠ -1) ∧ (∀ n, n < 48 → bsd c j = nI n → (wr1 s c wy (bsd c j)).getD n 0 ≠ -1) := by
  rcases bes_cases hc hj with hb | ⟨n, hn, hb⟩
  · have e : wr1 s c wy (bsd c j) = wy := by
      unfold wr1
      rw [if_pos (by rw [hb]; decide)]
    rw [e]
    exact ⟨hA, hv, fun _ _ h => h, fun n hn z => absurd (hb.symm.trans z).symm (nI_ne1 (by omega))⟩
  · have hne : n ≠ c := fun z => bsd_self c hc j hj (by rw [hb, z])
    obtain ⟨k, hk1, hk4, hk⟩ := crF_n (s.getD (7 + n) 0)
    have hsum : nI v + nI k = nI (v + k) := nI_add v k
    have eq : wr1 s c wy (bsd c j) = if wy.getD n 0 < 0 then wy.set n (nI (v + k)) else if wy.getD n 0 ≤ nI (v + k) then wy else wy.set n (nI (v + k)) := by
      unfold wr1
      rw [if_neg (by rw [hb]; exact nI_pos (by omega)), hb, nI_clamp (by omega), hv, hk, hsum]
    have hset : wA s src (M + 4) (wy.set n (nI (v + k))) ∧ (wy.set n (nI (v + k))).getD c 0 = nI v ∧ (∀ x, x < 48 → wy.getD x 0 ≠ -1 → (wy.set n (nI (v + k))).getD x 0 ≠ -1) ∧ (∀ m, m < 48 → bsd c j = nI m → (wy.set n (nI (v + k))).getD m 0 ≠ -1) := by
      refine ⟨fun x hx => ?_, ?_, fun x hx h => ?_, fun m hm z => ?_⟩
      · rw [gd_set (by omega)]
        split
        · rename_i e
          subst e
          exact Or.inr ⟨v + k, by omega, rfl, fun _ => ⟨k, by omega, hk⟩⟩
        · exact hA x hx
      · rw [gd_set (by omega), if_neg (Ne.symm hne)]
        exact hv
      · rw [gd_set (by omega)]
        split
        · exact nI_ne1 (by omega)
        · exact h
      · obtain rfl : n = m := (nI_eq (by omega) (by omega)).mp (hb.symm.trans z)
        rw [gd_set (by omega), if_pos rfl]
        exact nI_ne1 (by omega)
    rw [eq]
    by_cases q1 : wy.getD n 0 < 0
    · rw [if_pos q1]
      exact hset
    · rw [if_neg q1]
      split
      · refine ⟨hA, hv, fun _ _ h => h, fun m hm z => ?_⟩
        obtain rfl : n = m := (nI_eq (by omega) (by omega)).mp (hb.symm.trans z)
        intro y
        rw [y] at q1
        exact q1 (by decide)
      · exact hset
theorem wrF_inv {s : List Int32} {src M c v : Nat} (hM : M < 2 ^ 20) (hc : c < 48) (hvM : v ≤ M) : ∀ (k j : Nat) (wy : List Int32), j + k = 4 → wy.length = 48 → wA s src (M + 4) wy → wy.getD c 0 = nI v → (∀ i, i < j → ∀ n, n < 48 → bsd c i = nI n → wy.getD n 0 ≠ -1) → wA s src (M + 4) (wrF s c k j wy) ∧ (wrF s c k j wy).getD c 0 = nI v ∧ (∀ x, x < 48 → wy.getD x 0 ≠ -1 → (wrF s c k j wy).getD x 0 ≠ -1) ∧ (∀ i, i < 4 → ∀ n, n < 48 → bsd c i = nI n → (wrF s c k j wy).getD n 0 ≠ -1)
  | 0, j, wy, hjk, hl, hA, hv, hN => by
    refine ⟨hA, hv, fun _ _ h => h, fun i hi => hN i (by omega)⟩
  | k + 1, j, wy, hjk, hl, hA, hv, hN => by
    obtain ⟨a1, a2, a3, a4⟩ := wr1_inv hM hl hA hc hv hvM (show j < 4 by omega)
    obtain ⟨b1, b2, b3, b4⟩ := wrF_inv hM hc hvM k (j + 1) (wr1 s c wy (bsd c j)) (by omega) (wr1_len hl) a1 a2 (fun i hi n hn z => by
      by_cases e : i = j
      · subst e
        exact a4 n hn z
      · exact a3 n hn (hN i (by omega) n hn z))
    exact ⟨b1, b2, fun x hx h => b3 x hx (a3 x hx h), b4⟩
theorem nrF_inv {wy su : List Int32} : ∀ (k c : Nat) (b : Int32), c + k = 48 → ((b < 0 ∧ ∀ x, x < c → ¬ su.getD x 0 = 0 ∨ wy.getD x 0 < 0) ∨ ∃ x, x < 48 ∧ b = nI x ∧ su.getD x 0 = 0 ∧ ¬ wy.getD x 0 < 0) → ((nrF wy su k c b < 0 ∧ ∀ x, x < 48 → ¬ su.getD x 0 = 0 ∨ wy.getD x 0 < 0) ∨ ∃ x, x < 48 ∧ nrF wy su k c b = nI x ∧ su.getD x 0 = 0 ∧ ¬ wy.getD x 0 < 0)
  | 0, c, b, h, hb => by
    obtain rfl : c = 48 := by omega
    exact hb
  | k + 1, c, b, h, hb => by
    refine nrF_inv k (c + 1) (nr1 wy su b c) (by omega) ?_
    unfold nr1
    by_cases q1 : ¬ su.getD c 0 = 0
    · rw [if_pos q1]
      rcases hb with ⟨h1, h2⟩ | hb
      · refine Or.inl ⟨h1, fun x hx => ?_⟩
        by_cases e : x = c
        · subst e
          exact Or.inl q1
        · exact h2 x (by omega)
      · exact Or.inr hb
    · rw [if_neg q1]
      by_cases q2 : wy.getD c 0 < 0
      · rw [if_pos q2]
        rcases hb with ⟨h1, h2⟩ | hb
        · refine Or.inl ⟨h1, fun x hx => ?_⟩
          by_cases e : x = c
          · subst e
            exact Or.inr q2
          · exact h2 x (by omega)
        · exact Or.inr hb
      · rw [if_neg q2]
        have hc : ∃ x, x < 48 ∧ nI c = nI x ∧ su.getD x 0 = 0 ∧ ¬ wy.getD x 0 < 0 := ⟨c, by omega, rfl, Decidable.not_not.mp q1, q2⟩
        by_cases q3 : b < 0
        · rw [if_pos q3]
          exact Or.inr hc
        · rw [if_neg q3]
          have hb2 : ∃ x, x < 48 ∧ b = nI x ∧ su.getD x 0 = 0 ∧ ¬ wy.getD x 0 < 0 := by
            rcases hb with hb | hb
            · exact absurd hb.1 q3
            · exact hb
          split
          · exact Or.inr hb2
          · exact Or.inr hc
theorem wkF_inv {s : List Int32} {src : Nat} (hsrc : src < 48) : ∀ (f : Nat) (b : Int32) (wy su : List Int32) (M : Nat), M + 4 * f ≤ 1000 → wy.length = 48 → su.length = 48 → su.count 0 < f → wA s src M wy → wy.getD src 0 ≠ -1 → (∀ c, c < 48 → ¬ su.getD c 0 = 0 → wy.getD c 0 ≠ -1) → (∀ c, c < 48 → ¬ su.getD c 0 = 0 → ∀ j, j < 4 → ∀ n, n < 48 → bsd c j = nI n → wy.getD n 0 ≠ -1) → ((b < 0 ∧ ∀ x, x < 48 → ¬ su.getD x 0 = 0 ∨ wy.getD x 0 < 0) ∨ ∃ x, x < 48 ∧ b = nI x ∧ su.getD x 0 = 0 ∧ ¬ wy.getD x 0 < 0) → wA s src 1000 (wkF s f b wy su).1 ∧ ∀ c, c < 48 → (wkF s f b wy su).1.getD c 0 ≠ -1
  | 0, _, _, _, _, _, _, _, hf, _, _, _, _, _ => absurd hf (by omega)
  | f + 1, b, wy, su, M, hM, hl, hs, hf, hA, hS, hB, hN, hb => by
    rw [wkF]
    rcases hb with ⟨h1, h2⟩ | ⟨c, hc, rfl, h0, hw⟩
    · rw [if_pos h1]
      have hpos : ∀ x, x < 48 → wy.getD x 0 ≠ -1 → ¬ wy.getD x 0 < 0 := by
        intro x hx h
        rcases hA x hx with h3 | ⟨v, hv, h3, _⟩
        · exact absurd h3 h
        · rw [h3]
          exact nI_pos (by omega)
      have hcl : clo (fun x => ¬ su.getD x 0 = 0) := fun x hx hsx j hj n hn z => (h2 n hn).resolve_right (hpos n hn (hN x hx hsx j hj n hn z))
      have hall := conn hcl hsrc ((h2 src hsrc).resolve_right (hpos src hsrc hS))
      exact ⟨hA.up (by omega), fun x hx => hB x hx (hall x hx)⟩
    · rw [if_neg (nI_pos (by omega)), nI_clamp (by omega)]
      obtain ⟨v, hv, hvc⟩ : ∃ v, v ≤ M ∧ wy.getD c 0 = nI v := by
        rcases hA c hc with h3 | ⟨v, hv, h3, _⟩
        · exact absurd (show wy.getD c 0 < 0 by rw [h3]; decide) hw
        · exact ⟨v, hv, h3⟩
      obtain ⟨b1, b2, b3, b4⟩ := wrF_inv (s := s) (src := src) (show M < 2 ^ 20 by omega) hc hv 4 0 wy rfl hl (hA.up (by omega)) hvc (fun i hi => absurd hi (by omega))
      have hsu : ∀ x, x < 48 → ¬ (su.set c 1).getD x 0 = 0 → x = c ∨ ¬ su.getD x 0 = 0 := by
        intro x hx h
        rw [gd_set (by omega)] at h
        by_cases e : x = c
        · exact Or.inl e
        · rw [if_neg e] at h
          exact Or.inr h
      refine wkF_inv hsrc f _ _ _ (M + 4) (by omega) (wrF_len 4 0 _ hl) (sx_ls hs) ?_ b1 (b3 src hsrc hS) ?_ ?_ (nrF_inv 48 0 (-1) rfl (Or.inl ⟨by decide, fun x hx => absurd hx (by omega)⟩))
      · have := cnt_set (f := f) (by omega) h0 (by omega)
        have h5 := cnt_pos (su := su) (c := c) (by omega) h0
        have h6 : (su.set c 1).count 0 ≤ su.count 0 - 1 := cnt_set (f := su.count 0 - 1) (by omega) h0 (by omega)
        omega
      · intro x hx h
        rcases hsu x hx h with rfl | h
        · rw [b2]
          exact nI_ne1 (by omega)
        · exact b3 x hx (hB x hx h)
      · intro x hx h j hj n hn z
        rcases hsu x hx h with rfl | h
        · exact b4 j hj n hn z
        · exact b3 n hn (hN x hx h j hj n hn z)
theorem wiF_at {src : Nat} : ∀ (k j : Nat) (l : List Int32), j + k = l.length → ∀ c, c < l.length → (j ≤ c → (wiF src k j l).getD c 0 = if nI c = nI src then 0 else -1) ∧ (c < j → (wiF src k j l).getD c 0 = l.getD c 0)
  | 0, j, l, h, c, hc => ⟨fun z => by omega, fun _ => rfl⟩
  | k + 1, j, l, h, c, hc => by
    have IH := wiF_at (src := src) k (j + 1) (l.set j (if nI j = nI src then 0 else -1)) (by rw [List.length_set]; omega) c (by rw [List.length_set]; exact hc)
    refine ⟨fun z => ?_, fun z => ?_⟩
    · by_cases e : c = j
      · subst e
        show (wiF src k (c + 1) (l.set c (if nI c = nI src then 0 else -1))).getD c 0 = _
        rw [IH.2 (by omega), gd_set hc, if_pos rfl]
      · exact IH.1 (by omega)
    · show (wiF src k (j + 1) (l.set j (if nI j = nI src then 0 else -1))).getD c 0 = l.getD c 0
      rw [IH.2 (by omega), gd_set (by omega), if_neg (by omega)]
theorem wlF_inv {s wy0 su0 : List Int32} {src : Nat} (hsrc : src < 48) (h1 : wy0.length = 48) (h2 : su0.length = 48) : wA s src 1000 (wlF s src wy0 su0).1 ∧ ∀ c, c < 48 → (wlF s src wy0 su0).1.getD c 0 ≠ -1 := by
  unfold wlF
  have hw : ∀ c, c < 48 → (wiF src 48 0 wy0).getD c 0 = if nI c = nI src then 0 else -1 := fun c hc => (wiF_at 48 0 wy0 (by omega) c (by omega)).1 (Nat.zero_le _)
  have hsz : ∀ c, c < 48 → (flF 0 48 0 su0).getD c 0 = 0 := fun c hc => (flF_at 48 0 su0 (by omega) c (by omega)).1 (Nat.zero_le _)
  refine wkF_inv hsrc 49 (nI src) _ _ 0 (by decide) (wiF_len 48 0 _ h1) (flF_len 48 0 _ h2) ?_ ?_ ?_ ?_ ?_ ?_
  · exact Nat.lt_succ_of_le (Nat.le_trans List.count_le_length (by rw [flF_len 48 0 _ h2]; exact Nat.le_refl _))
  · intro c hc
    rw [hw c hc]
    split
    · rename_i e
      have e2 : c = src := (nI_eq (by omega) (by omega)).mp e
      exact Or.inr ⟨0, by omega, rfl, fun z => absurd e2 z⟩
    · exact Or.inl rfl
  · rw [hw src hsrc, if_pos rfl]
    decide
  · intro c hc h
    exact absurd (hsz c hc) h
  · intro c hc h
    exact absurd (hsz c hc) h
  · refine Or.inr ⟨src, hsrc, rfl, hsz src hsrc, ?_⟩
    rw [hw src hsrc, if_pos rfl]
    decide
end
-- 65.walksM.lean.txt
section
-- safety: walks of the reference
/-- as EM, and cell 118 as it was -/
def EW (w w2 : List sx_C) : Prop := EM w w2 ∧ ia w2 118 = ia w 118
theorem EW.rf {w : List sx_C} : EW w w := ⟨EM.rf, rfl⟩
theorem sx_RP.mFW {xs : Option (List Int32)} {d mi pc pc2 : Nat} {ls : sx_L} {r : List Value} {w w0 : List sx_C} {P : Option Value → List sx_C → Prop} {a : Nat} {i x : Int32} {n : Nat} (hI : WI w) (hE : EW w0 w) (hi : sx_ins mi pc = some (.iastore, 1)) (hw : w[a]? = some (.inl (0, ia w a)) ∧ (ia w a).length = n) (hn : sx_in i n = true) (hf : a = 116 ∨ a = 117 ∨ a = 119 ∨ a = 121) (hp : pc + 1 = pc2) (kk : ∀ w2, WI w2 → EW w0 w2 → (∀ j, (ia w2 112).getD j 0 = (ia w 112).getD j 0) → sx_RP xs d mi pc2 ls r w2 P) : sx_RP xs d mi pc ls (.int x :: .int i :: .ref a :: r) w P :=
  sx_RP.ist hi hw.1 hw.2 hn rfl rfl hp (kk _ (hI.set hw.1 sh_set (cOK.free (by omega))) ⟨hE.1.set hw.1 (by omega) (kp_n (by omega)), by rw [ia_ne (by omega)]; exact hE.2⟩ (fun j => by rw [ia_ne (by omega)]))
set_option maxRecDepth 20000 in
set_option maxHeartbeats 4000000 in
theorem s141nB {xs : Option (List Int32)} {d : Nat} {w w0 : List sx_C} {P : Option Value → List sx_C → Prop} {src g : Nat} (hs : src < 48) (hI : WI w) (hE : EM w0 w) {j : Nat} (hj : j ≤ 48) (kk : ∀ (w4 : List sx_C), WI w4 → EM w0 w4 → j + 1 ≤ 48 → sx_RP xs (d + 3) 141 2 [(0, .ref 111), (1, .int (nI src)), (2, .int (nI g)), (3, .int (nI (j + 1)))] [] w4 P) (kx37 : ∀ (w4 : List sx_C), WI w4 → EM w0 w4 → sx_RP xs (d + 3) 141 37 [(0, .ref 111), (1, .int (nI src)), (2, .int (nI g))] [] w4 P) : sx_RP xs (d + 3) 141 2 [(0, .ref 111), (1, .int (nI src)), (2, .int (nI g)), (3, .int (nI j))] [] w P := by
  refine sx_RP.step (pc2 := 3) (ls2 := [(0, .ref 111), (1, .int (nI src)), (2, .int (nI g)), (3, .int (nI j))]) (st2 := [.int (nI j)]) (w3 := w) rfl rfl ?_
  refine sx_RP.step (pc2 := 5) (ls2 := [(0, .ref 111), (1, .int (nI src)), (2, .int (nI g)), (3, .int (nI j))]) (st2 := [.int 48, .int (nI j)]) (w3 := w) rfl rfl ?_
  refine sx_RP.br (p1 := 37) (l1 := [(0, .ref 111), (1, .int (nI src)), (2, .int (nI g)), (3, .int (nI j))]) (s1 := []) (v1 := w) (p2 := 8) (l2 := [(0, .ref 111), (1, .int (nI src)), (2, .int (nI g)), (3, .int (nI j))]) (s2 := []) (v2 := w) rfl rfl (fun q1 => ?_) (fun q1 => ?_)
  · replace q1 := of_decide_eq_true q1
    replace q1 := (nI_leI (a := 48) (b := j) (by omega) (by omega)).mp q1
    exact sx_RP.ls (sx_lr.cons rfl (sx_lr.cons rfl (sx_lr.cons rfl sx_lr.nil))) (kx37 w hI hE)
  · replace q1 := of_decide_eq_false q1
    replace q1 := mt (nI_leI (a := 48) (b := j) (by omega) (by omega)).mpr q1
    refine sx_RP.step (pc2 := 9) (ls2 := [(0, .ref 111), (1, .int (nI src)), (2, .int (nI g)), (3, .int (nI j))]) (st2 := [.ref 111]) (w3 := w) rfl rfl ?_
    refine sx_RP.gf (v := .ref 117) rfl rfl hI.1.o111 rfl rfl (show _ = 12 from rfl) ?_
    refine sx_RP.step (pc2 := 13) (ls2 := [(0, .ref 111), (1, .int (nI src)), (2, .int (nI g)), (3, .int (nI j))]) (st2 := [.int (nI j), .ref 117]) (w3 := w) rfl rfl ?_
    refine sx_RP.step (pc2 := 14) (ls2 := [(0, .ref 111), (1, .int (nI src)), (2, .int (nI g)), (3, .int (nI j))]) (st2 := [.int (nI j), .int (nI j), .ref 117]) (w3 := w) rfl rfl ?_
    refine sx_RP.step (pc2 := 15) (ls2 := [(0, .ref 111), (1, .int (nI src)), (2, .int (nI g)), (3, .int (nI j))]) (st2 := [.int (nI src), .int (nI j), .int (nI j), .ref 117]) (w3 := w) rfl rfl ?_
    refine sx_RP.br (p1 := 22) (l1 := [(0, .ref 111), (1, .int (nI src)), (2, .int (nI g)), (3, .int (nI j))]) (s1 := [.int (nI j), .ref 117]) (v1 := w) (p2 := 18) (l2 := [(0, .ref 111), (1, .int (nI src)), (2, .int (nI g)), (3, .int (nI j))]) (s2 := [.int (nI j), .ref 117]) (v2 := w) rfl rfl (fun q2 => ?_) (fun q2 => ?_)
    · replace q2 := of_decide_eq_true q2
      replace q2 := mt (nI_eq (a := j) (b := src) (by omega) (by omega)).mpr q2
      refine sx_RP.step (pc2 := 23) (ls2 := [(0, .ref 111), (1, .int (nI src)), (2, .int (nI g)), (3, .int (nI j))]) (st2 := [.int (-1), .int (nI j), .ref 117]) (w3 := w) rfl rfl ?_
      refine sx_RP.mF hI hE rfl hI.1.a117 (sx_in_nI (show j < 48 by omega) (by decide)) (by decide) (show _ = 24 from rfl) (fun w3 hI4 hE5 hk6 => ?_)
      refine sx_RP.step (pc2 := 25) (ls2 := [(0, .ref 111), (1, .int (nI src)), (2, .int (nI g)), (3, .int (nI j))]) (st2 := [.ref 111]) (w3 := w3) rfl rfl ?_
      refine sx_RP.gf (v := .ref 118) rfl rfl hI4.1.o111 rfl rfl (show _ = 28 from rfl) ?_
      refine sx_RP.step (pc2 := 29) (ls2 := [(0, .ref 111), (1, .int (nI src)), (2, .int (nI g)), (3, .int (nI j))]) (st2 := [.int (nI j), .ref 118]) (w3 := w3) rfl rfl ?_
      refine sx_RP.step (pc2 := 30) (ls2 := [(0, .ref 111), (1, .int (nI src)), (2, .int (nI g)), (3, .int (nI j))]) (st2 := [.int 0, .int (nI j), .ref 118]) (w3 := w3) rfl rfl ?_
      refine sx_RP.mB hI4 hE5 rfl hI4.1.a118 (sx_in_nI (show j < 48 by omega) (by decide)) (by decide) (show _ = 31 from rfl) (fun w7 hI8 hE9 hk10 => ?_)
      refine sx_RP.step (pc2 := 34) (ls2 := [(3, .int ((nI j) + 1)), (0, .ref 111), (1, .int (nI src)), (2, .int (nI g))]) (st2 := []) (w3 := w7) rfl rfl ?_
      rw [nI_1 j]
      refine sx_RP.step (pc2 := 2) (ls2 := [(3, .int (nI (j + 1))), (0, .ref 111), (1, .int (nI src)), (2, .int (nI g))]) (st2 := []) (w3 := w7) rfl rfl ?_
      exact sx_RP.ls (sx_lr.cons rfl (sx_lr.cons rfl (sx_lr.cons rfl (sx_lr.cons rfl sx_lr.nil)))) (kk w7 hI8 hE9 (by omega))
    · replace q2 := Decidable.not_not.mp (of_decide_eq_false q2)
      replace q2 := (nI_eq (a := j) (b := src) (by omega) (by omega)).mp q2
      refine sx_RP.step (pc2 := 19) (ls2 := [(0, .ref 111), (1, .int (nI src)), (2, .int (nI g)), (3, .int (nI j))]) (st2 := [.int 0, .int (nI j), .ref 117]) (w3 := w) rfl rfl ?_
      refine sx_RP.step (pc2 := 23) (ls2 := [(0, .ref 111), (1, .int (nI src)), (2, .int (nI g)), (3, .int (nI j))]) (st2 := [.int 0, .int (nI j), .ref 117]) (w3 := w) rfl rfl ?_
      refine sx_RP.mF hI hE rfl hI.1.a117 (sx_in_nI (show j < 48 by omega) (by decide)) (by decide) (show _ = 24 from rfl) (fun w11 hI12 hE13 hk14 => ?_)
      refine sx_RP.step (pc2 := 25) (ls2 := [(0, .ref 111), (1, .int (nI src)), (2, .int (nI g)), (3, .int (nI j))]) (st2 := [.ref 111]) (w3 := w11) rfl rfl ?_
      refine sx_RP.gf (v := .ref 118) rfl rfl hI12.1.o111 rfl rfl (show _ = 28 from rfl) ?_
      refine sx_RP.step (pc2 := 29) (ls2 := [(0, .ref 111), (1, .int (nI src)), (2, .int (nI g)), (3, .int (nI j))]) (st2 := [.int (nI j), .ref 118]) (w3 := w11) rfl rfl ?_
      refine sx_RP.step (pc2 := 30) (ls2 := [(0, .ref 111), (1, .int (nI src)), (2, .int (nI g)), (3, .int (nI j))]) (st2 := [.int 0, .int (nI j), .ref 118]) (w3 := w11) rfl rfl ?_
      refine sx_RP.mB hI12 hE13 rfl hI12.1.a118 (sx_in_nI (show j < 48 by omega) (by decide)) (by decide) (show _ = 31 from rfl) (fun w15 hI16 hE17 hk18 => ?_)
      refine sx_RP.step (pc2 := 34) (ls2 := [(3, .int ((nI j) + 1)), (0, .ref 111), (1, .int (nI src)), (2, .int (nI g))]) (st2 := []) (w3 := w15) rfl rfl ?_
      rw [nI_1 j]
      refine sx_RP.step (pc2 := 2) (ls2 := [(3, .int (nI (j + 1))), (0, .ref 111), (1, .int (nI src)), (2, .int (nI g))]) (st2 := []) (w3 := w15) rfl rfl ?_
      exact sx_RP.ls (sx_lr.cons rfl (sx_lr.cons rfl (sx_lr.cons rfl (sx_lr.cons rfl sx_lr.nil)))) (kk w15 hI16 hE17 (by omega))
set_option maxRecDepth 20000 in
set_option maxHeartbeats 4000000 in
theorem s141nL {xs : Option (List Int32)} {d : Nat} {w0 : List sx_C} {P : Option Value → List sx_C → Prop} {src g : Nat} (hs : src < 48) (kx37 : ∀ (w4 : List sx_C), WI w4 → EM w0 w4 → sx_RP xs (d + 3) 141 37 [(0, .ref 111), (1, .int (nI src)), (2, .int (nI g))] [] w4 P) : ∀ (fz j : Nat) (w : List sx_C) , 48 ≤ j + fz * 1 → j ≤ 48 → WI w → EM w0 w → sx_RP xs (d + 3) 141 2 [(0, .ref 111), (1, .int (nI src)), (2, .int (nI g)), (3, .int (nI j))] [] w P
  | 0, j, w, h, hj, hI, hE => s141nB hs hI hE hj   (fun w4  hI4 hE4 hlt  => absurd hlt (by omega)) kx37
  | fz + 1, j, w, h, hj, hI, hE => s141nB hs hI hE hj   (fun w4  hI4 hE4 hlt  => s141nL hs kx37 fz (j + 1) w4  (by omega) hlt hI4 hE4 ) kx37
set_option maxRecDepth 20000 in
set_option maxHeartbeats 4000000 in
theorem s141jB {xs : Option (List Int32)} {d : Nat} {w w0 : List sx_C} {P : Option Value → List sx_C → Prop} {src g c : Nat} (hg : g < 10) (hc : c < 48) (hI : WI w) (hE : EW w0 w) {j : Nat} (hj : j ≤ 4) (kk : ∀ (w4 : List sx_C), WI w4 → EW w0 w4 → j + 1 ≤ 4 → sx_RP xs (d + 3) 141 53 [(0, .ref 111), (1, .int (nI src)), (2, .int (nI g)), (3, .int (nI c)), (4, .int (nI (j + 1)))] [] w4 P) (kx173 : ∀ (w4 : List sx_C), WI w4 → EW w0 w4 → sx_RP xs (d + 3) 141 173 [(0, .ref 111), (1, .int (nI src)), (2, .int (nI g))] [] w4 P) : sx_RP xs (d + 3) 141 53 [(0, .ref 111), (1, .int (nI src)), (2, .int (nI g)), (3, .int (nI c)), (4, .int (nI j))] [] w P := by
  refine sx_RP.step (pc2 := 55) (ls2 := [(0, .ref 111), (1, .int (nI src)), (2, .int (nI g)), (3, .int (nI c)), (4, .int (nI j))]) (st2 := [.int (nI j)]) (w3 := w) rfl rfl ?_
  refine sx_RP.step (pc2 := 56) (ls2 := [(0, .ref 111), (1, .int (nI src)), (2, .int (nI g)), (3, .int (nI c)), (4, .int (nI j))]) (st2 := [.int 4, .int (nI j)]) (w3 := w) rfl rfl ?_
  refine sx_RP.br (p1 := 173) (l1 := [(0, .ref 111), (1, .int (nI src)), (2, .int (nI g)), (3, .int (nI c)), (4, .int (nI j))]) (s1 := []) (v1 := w) (p2 := 59) (l2 := [(0, .ref 111), (1, .int (nI src)), (2, .int (nI g)), (3, .int (nI c)), (4, .int (nI j))]) (s2 := []) (v2 := w) rfl rfl (fun q1 => ?_) (fun q1 => ?_)
  · replace q1 := of_decide_eq_true q1
    replace q1 := (nI_leI (a := 4) (b := j) (by omega) (by omega)).mp q1
    exact sx_RP.ls (sx_lr.cons rfl (sx_lr.cons rfl (sx_lr.cons rfl sx_lr.nil))) (kx173 w hI hE)
  · replace q1 := of_decide_eq_false q1
    replace q1 := mt (nI_leI (a := 4) (b := j) (by omega) (by omega)).mpr q1
    refine sx_RP.step (pc2 := 60) (ls2 := [(0, .ref 111), (1, .int (nI src)), (2, .int (nI g)), (3, .int (nI c)), (4, .int (nI j))]) (st2 := [.int (nI c)]) (w3 := w) rfl rfl ?_
    refine sx_RP.step (pc2 := 62) (ls2 := [(0, .ref 111), (1, .int (nI src)), (2, .int (nI g)), (3, .int (nI c)), (4, .int (nI j))]) (st2 := [.int (nI j), .int (nI c)]) (w3 := w) rfl rfl ?_
    rcases bes_cases (c := c) (j := j) (by omega) (by omega) with q2 | ⟨x3, hx4, q2⟩
    · refine sx_RP.cu (as := [.int (nI c), .int (nI j)]) (rest2 := []) (st3 := [.int (-1)]) rfl rfl rfl rfl rfl (cb_142e (by omega) (by omega) q2) rfl ?_
      refine sx_RP.step (pc2 := 67) (ls2 := [(5, .int (-1)), (0, .ref 111), (1, .int (nI src)), (2, .int (nI g)), (3, .int (nI c)), (4, .int (nI j))]) (st2 := []) (w3 := w) rfl rfl ?_
      refine sx_RP.step (pc2 := 69) (ls2 := [(5, .int (-1)), (0, .ref 111), (1, .int (nI src)), (2, .int (nI g)), (3, .int (nI c)), (4, .int (nI j))]) (st2 := [.int (-1)]) (w3 := w) rfl rfl ?_
      refine sx_RP.step (pc2 := 90) (ls2 := [(5, .int (-1)), (0, .ref 111), (1, .int (nI src)), (2, .int (nI g)), (3, .int (nI c)), (4, .int (nI j))]) (st2 := []) (w3 := w) rfl rfl ?_
      refine sx_RP.step (pc2 := 91) (ls2 := [(5, .int (-1)), (0, .ref 111), (1, .int (nI src)), (2, .int (nI g)), (3, .int (nI c)), (4, .int (nI j))]) (st2 := [.int 0]) (w3 := w) rfl rfl ?_
      refine sx_RP.step (pc2 := 93) (ls2 := [(6, .int 0), (5, .int (-1)), (0, .ref 111), (1, .int (nI src)), (2, .int (nI g)), (3, .int (nI c)), (4, .int (nI j))]) (st2 := []) (w3 := w) rfl rfl ?_
      refine sx_RP.step (pc2 := 95) (ls2 := [(6, .int 0), (5, .int (-1)), (0, .ref 111), (1, .int (nI src)), (2, .int (nI g)), (3, .int (nI c)), (4, .int (nI j))]) (st2 := [.int 0]) (w3 := w) rfl rfl ?_
      refine sx_RP.step (pc2 := 98) (ls2 := [(6, .int 0), (5, .int (-1)), (0, .ref 111), (1, .int (nI src)), (2, .int (nI g)), (3, .int (nI c)), (4, .int (nI j))]) (st2 := []) (w3 := w) rfl rfl ?_
      refine sx_RP.step (pc2 := 99) (ls2 := [(6, .int 0), (5, .int (-1)), (0, .ref 111), (1, .int (nI src)), (2, .int (nI g)), (3, .int (nI c)), (4, .int (nI j))]) (st2 := [.int 0]) (w3 := w) rfl rfl ?_
      refine sx_RP.step (pc2 := 129) (ls2 := [(6, .int 0), (5, .int (-1)), (0, .ref 111), (1, .int (nI src)), (2, .int (nI g)), (3, .int (nI c)), (4, .int (nI j))]) (st2 := [.int 0]) (w3 := w) rfl rfl ?_
      refine sx_RP.step (pc2 := 131) (ls2 := [(7, .int 0), (6, .int 0), (5, .int (-1)), (0, .ref 111), (1, .int (nI src)), (2, .int (nI g)), (3, .int (nI c)), (4, .int (nI j))]) (st2 := []) (w3 := w) rfl rfl ?_
      refine sx_RP.step (pc2 := 133) (ls2 := [(7, .int 0), (6, .int 0), (5, .int (-1)), (0, .ref 111), (1, .int (nI src)), (2, .int (nI g)), (3, .int (nI c)), (4, .int (nI j))]) (st2 := [.int 0]) (w3 := w) rfl rfl ?_
      refine sx_RP.step (pc2 := 167) (ls2 := [(7, .int 0), (6, .int 0), (5, .int (-1)), (0, .ref 111), (1, .int (nI src)), (2, .int (nI g)), (3, .int (nI c)), (4, .int (nI j))]) (st2 := []) (w3 := w) rfl rfl ?_
      refine sx_RP.step (pc2 := 170) (ls2 := [(4, .int ((nI j) + 1)), (7, .int 0), (6, .int 0), (5, .int (-1)), (0, .ref 111), (1, .int (nI src)), (2, .int (nI g)), (3, .int (nI c))]) (st2 := []) (w3 := w) rfl rfl ?_
      rw [nI_1 j]
      refine sx_RP.step (pc2 := 53) (ls2 := [(4, .int (nI (j + 1))), (7, .int 0), (6, .int 0), (5, .int (-1)), (0, .ref 111), (1, .int (nI src)), (2, .int (nI g)), (3, .int (nI c))]) (st2 := []) (w3 := w) rfl rfl ?_
      exact sx_RP.ls (sx_lr.cons rfl (sx_lr.cons rfl (sx_lr.cons rfl (sx_lr.cons rfl (sx_lr.cons rfl sx_lr.nil))))) (kk w hI hE (by omega))
    · refine sx_RP.cu (as := [.int (nI c), .int (nI j)]) (rest2 := []) (st3 := [.int (nI x3)]) rfl rfl rfl rfl rfl (cb_142e (by omega) (by omega) q2) rfl ?_
      refine sx_RP.step (pc2 := 67) (ls2 := [(5, .int (nI x3)), (0, .ref 111), (1, .int (nI src)), (2, .int (nI g)), (3, .int (nI c)), (4, .int (nI j))]) (st2 := []) (w3 := w) rfl rfl ?_
      refine sx_RP.step (pc2 := 69) (ls2 := [(5, .int (nI x3)), (0, .ref 111), (1, .int (nI src)), (2, .int (nI g)), (3, .int (nI c)), (4, .int (nI j))]) (st2 := [.int (nI x3)]) (w3 := w) rfl rfl ?_
      refine sx_RP.br (p2 := 72) (l2 := [(5, .int (nI x3)), (0, .ref 111), (1, .int (nI src)), (2, .int (nI g)), (3, .int (nI c)), (4, .int (nI j))]) (s2 := []) (v2 := w) rfl rfl (fun q => absurd (of_decide_eq_true q) (nI_pos (by omega))) (fun _ => ?_)
      refine sx_RP.step (pc2 := 73) (ls2 := [(5, .int (nI x3)), (0, .ref 111), (1, .int (nI src)), (2, .int (nI g)), (3, .int (nI c)), (4, .int (nI j))]) (st2 := [.int (nI g)]) (w3 := w) rfl rfl ?_
      refine sx_RP.br (p2 := 76) (l2 := [(5, .int (nI x3)), (0, .ref 111), (1, .int (nI src)), (2, .int (nI g)), (3, .int (nI c)), (4, .int (nI j))]) (s2 := []) (v2 := w) rfl rfl (fun q => absurd (of_decide_eq_true q) (nI_pos (by omega))) (fun _ => ?_)
      refine sx_RP.step (pc2 := 77) (ls2 := [(5, .int (nI x3)), (0, .ref 111), (1, .int (nI src)), (2, .int (nI g)), (3, .int (nI c)), (4, .int (nI j))]) (st2 := [.ref 111]) (w3 := w) rfl rfl ?_
      refine sx_RP.step (pc2 := 78) (ls2 := [(5, .int (nI x3)), (0, .ref 111), (1, .int (nI src)), (2, .int (nI g)), (3, .int (nI c)), (4, .int (nI j))]) (st2 := [.int (nI g), .ref 111]) (w3 := w) rfl rfl ?_
      refine sx_RP.step (pc2 := 80) (ls2 := [(5, .int (nI x3)), (0, .ref 111), (1, .int (nI src)), (2, .int (nI g)), (3, .int (nI c)), (4, .int (nI j))]) (st2 := [.int (nI x3), .int (nI g), .ref 111]) (w3 := w) rfl rfl ?_
      obtain ⟨x5, hx6, c7⟩ := p143 hI (show g < 10 by omega) (show x3 < 48 by omega)
      refine sx_RP.cu (as := [.ref 111, .int (nI g), .int (nI x3)]) (rest2 := []) (st3 := [.int (nI x5)]) rfl rfl (sx_inv_v2 (mi := 141) (k := 80) (st := [.int (nI x3), .int (nI g), .ref 111]) (w := w) rfl rfl hI.1.o111 rfl rfl rfl) rfl rfl (c7) rfl ?_
      refine sx_RP.br (p1 := 90) (l1 := [(5, .int (nI x3)), (0, .ref 111), (1, .int (nI src)), (2, .int (nI g)), (3, .int (nI c)), (4, .int (nI j))]) (s1 := []) (v1 := w) (p2 := 86) (l2 := [(5, .int (nI x3)), (0, .ref 111), (1, .int (nI src)), (2, .int (nI g)), (3, .int (nI c)), (4, .int (nI j))]) (s2 := []) (v2 := w) rfl rfl (fun q8 => ?_) (fun q8 => ?_)
      · replace q8 := of_decide_eq_true q8
        replace q8 := (nI_eq (a := x5) (b := 0) (by omega) (by omega)).mp q8
        refine sx_RP.step (pc2 := 91) (ls2 := [(5, .int (nI x3)), (0, .ref 111), (1, .int (nI src)), (2, .int (nI g)), (3, .int (nI c)), (4, .int (nI j))]) (st2 := [.int 0]) (w3 := w) rfl rfl ?_
        refine sx_RP.step (pc2 := 93) (ls2 := [(6, .int 0), (5, .int (nI x3)), (0, .ref 111), (1, .int (nI src)), (2, .int (nI g)), (3, .int (nI c)), (4, .int (nI j))]) (st2 := []) (w3 := w) rfl rfl ?_
        refine sx_RP.step (pc2 := 95) (ls2 := [(6, .int 0), (5, .int (nI x3)), (0, .ref 111), (1, .int (nI src)), (2, .int (nI g)), (3, .int (nI c)), (4, .int (nI j))]) (st2 := [.int 0]) (w3 := w) rfl rfl ?_
        refine sx_RP.step (pc2 := 98) (ls2 := [(6, .int 0), (5, .int (nI x3)), (0, .ref 111), (1, .int (nI src)), (2, .int (nI g)), (3, .int (nI c)), (4, .int (nI j))]) (st2 := []) (w3 := w) rfl rfl ?_
        refine sx_RP.step (pc2 := 99) (ls2 := [(6, .int 0), (5, .int (nI x3)), (0, .ref 111), (1, .int (nI src)), (2, .int (nI g)), (3, .int (nI c)), (4, .int (nI j))]) (st2 := [.int 0]) (w3 := w) rfl rfl ?_
        refine sx_RP.step (pc2 := 129) (ls2 := [(6, .int 0), (5, .int (nI x3)), (0, .ref 111), (1, .int (nI src)), (2, .int (nI g)), (3, .int (nI c)), (4, .int (nI j))]) (st2 := [.int 0]) (w3 := w) rfl rfl ?_
        refine sx_RP.step (pc2 := 131) (ls2 := [(7, .int 0), (6, .int 0), (5, .int (nI x3)), (0, .ref 111), (1, .int (nI src)), (2, .int (nI g)), (3, .int (nI c)), (4, .int (nI j))]) (st2 := []) (w3 := w) rfl rfl ?_
        refine sx_RP.step (pc2 := 133) (ls2 := [(7, .int 0), (6, .int 0), (5, .int (nI x3)), (0, .ref 111), (1, .int (nI src)), (2, .int (nI g)), (3, .int (nI c)), (4, .int (nI j))]) (st2 := [.int 0]) (w3 := w) rfl rfl ?_
        refine sx_RP.step (pc2 := 167) (ls2 := [(7, .int 0), (6, .int 0), (5, .int (nI x3)), (0, .ref 111), (1, .int (nI src)), (2, .int (nI g)), (3, .int (nI c)), (4, .int (nI j))]) (st2 := []) (w3 := w) rfl rfl ?_
        refine sx_RP.step (pc2 := 170) (ls2 := [(4, .int ((nI j) + 1)), (7, .int 0), (6, .int 0), (5, .int (nI x3)), (0, .ref 111), (1, .int (nI src)), (2, .int (nI g)), (3, .int (nI c))]) (st2 := []) (w3 := w) rfl rfl ?_
        rw [nI_1 j]
        refine sx_RP.step (pc2 := 53) (ls2 := [(4, .int (nI (j + 1))), (7, .int 0), (6, .int 0), (5, .int (nI x3)), (0, .ref 111), (1, .int (nI src)), (2, .int (nI g)), (3, .int (nI c))]) (st2 := []) (w3 := w) rfl rfl ?_
        exact sx_RP.ls (sx_lr.cons rfl (sx_lr.cons rfl (sx_lr.cons rfl (sx_lr.cons rfl (sx_lr.cons rfl sx_lr.nil))))) (kk w hI hE (by omega))
      · replace q8 := of_decide_eq_false q8
        replace q8 := mt (nI_eq (a := x5) (b := 0) (by omega) (by omega)).mpr q8
        refine sx_RP.step (pc2 := 87) (ls2 := [(5, .int (nI x3)), (0, .ref 111), (1, .int (nI src)), (2, .int (nI g)), (3, .int (nI c)), (4, .int (nI j))]) (st2 := [.int 1]) (w3 := w) rfl rfl ?_
        refine sx_RP.step (pc2 := 91) (ls2 := [(5, .int (nI x3)), (0, .ref 111), (1, .int (nI src)), (2, .int (nI g)), (3, .int (nI c)), (4, .int (nI j))]) (st2 := [.int 1]) (w3 := w) rfl rfl ?_
        refine sx_RP.step (pc2 := 93) (ls2 := [(6, .int 1), (5, .int (nI x3)), (0, .ref 111), (1, .int (nI src)), (2, .int (nI g)), (3, .int (nI c)), (4, .int (nI j))]) (st2 := []) (w3 := w) rfl rfl ?_
        refine sx_RP.step (pc2 := 95) (ls2 := [(6, .int 1), (5, .int (nI x3)), (0, .ref 111), (1, .int (nI src)), (2, .int (nI g)), (3, .int (nI c)), (4, .int (nI j))]) (st2 := [.int 1]) (w3 := w) rfl rfl ?_
        refine sx_RP.step (pc2 := 102) (ls2 := [(6, .int 1), (5, .int (nI x3)), (0, .ref 111), (1, .int (nI src)), (2, .int (nI g)), (3, .int (nI c)), (4, .int (nI j))]) (st2 := []) (w3 := w) rfl rfl ?_
        refine sx_RP.step (pc2 := 103) (ls2 := [(6, .int 1), (5, .int (nI x3)), (0, .ref 111), (1, .int (nI src)), (2, .int (nI g)), (3, .int (nI c)), (4, .int (nI j))]) (st2 := [.ref 111]) (w3 := w) rfl rfl ?_
        refine sx_RP.gf (v := .ref 117) rfl rfl hI.1.o111 rfl rfl (show _ = 106 from rfl) ?_
        refine sx_RP.step (pc2 := 107) (ls2 := [(6, .int 1), (5, .int (nI x3)), (0, .ref 111), (1, .int (nI src)), (2, .int (nI g)), (3, .int (nI c)), (4, .int (nI j))]) (st2 := [.int (nI c), .ref 117]) (w3 := w) rfl rfl ?_
        refine sx_RP.ild (c := c) rfl hI.1.a117.1 hI.1.a117.2 (sx_in_nI (show c < 48 by omega) (by decide)) (show (nI c).toNatClampNeg = c from nI_clamp (by omega)) (show _ = 108 from rfl) ?_
        refine sx_RP.step (pc2 := 109) (ls2 := [(6, .int 1), (5, .int (nI x3)), (0, .ref 111), (1, .int (nI src)), (2, .int (nI g)), (3, .int (nI c)), (4, .int (nI j))]) (st2 := [.int (nI g), .int ((ia w 117).getD c 0)]) (w3 := w) rfl rfl ?_
        refine sx_RP.br (p1 := 121) (l1 := [(6, .int 1), (5, .int (nI x3)), (0, .ref 111), (1, .int (nI src)), (2, .int (nI g)), (3, .int (nI c)), (4, .int (nI j))]) (s1 := [.int ((ia w 117).getD c 0)]) (v1 := w) rfl rfl (fun _ => ?_) (fun q => absurd (nI_pos' (by omega)) (of_decide_eq_false q))
        refine sx_RP.step (pc2 := 122) (ls2 := [(6, .int 1), (5, .int (nI x3)), (0, .ref 111), (1, .int (nI src)), (2, .int (nI g)), (3, .int (nI c)), (4, .int (nI j))]) (st2 := [.ref 111, .int ((ia w 117).getD c 0)]) (w3 := w) rfl rfl ?_
        refine sx_RP.step (pc2 := 123) (ls2 := [(6, .int 1), (5, .int (nI x3)), (0, .ref 111), (1, .int (nI src)), (2, .int (nI g)), (3, .int (nI c)), (4, .int (nI j))]) (st2 := [.int (nI g), .ref 111, .int ((ia w 117).getD c 0)]) (w3 := w) rfl rfl ?_
        refine sx_RP.step (pc2 := 125) (ls2 := [(6, .int 1), (5, .int (nI x3)), (0, .ref 111), (1, .int (nI src)), (2, .int (nI g)), (3, .int (nI c)), (4, .int (nI j))]) (st2 := [.int (nI x3), .int (nI g), .ref 111, .int ((ia w 117).getD c 0)]) (w3 := w) rfl rfl ?_
        obtain ⟨v9, c10⟩ := p147 hI (show g < 10 by omega) (show x3 < 48 by omega)
        refine sx_RP.cu (as := [.ref 111, .int (nI g), .int (nI x3)]) (rest2 := [.int ((ia w 117).getD c 0)]) (st3 := [.int v9, .int ((ia w 117).getD c 0)]) rfl rfl (sx_inv_v2 (mi := 141) (k := 87) (st := [.int (nI x3), .int (nI g), .ref 111, .int ((ia w 117).getD c 0)]) (w := w) rfl rfl hI.1.o111 rfl rfl rfl) rfl rfl (c10) rfl ?_
        refine sx_RP.step (pc2 := 129) (ls2 := [(6, .int 1), (5, .int (nI x3)), (0, .ref 111), (1, .int (nI src)), (2, .int (nI g)), (3, .int (nI c)), (4, .int (nI j))]) (st2 := [.int (((ia w 117).getD c 0) + v9)]) (w3 := w) rfl rfl ?_
        refine sx_RP.step (pc2 := 131) (ls2 := [(7, .int (((ia w 117).getD c 0) + v9)), (6, .int 1), (5, .int (nI x3)), (0, .ref 111), (1, .int (nI src)), (2, .int (nI g)), (3, .int (nI c)), (4, .int (nI j))]) (st2 := []) (w3 := w) rfl rfl ?_
        refine sx_RP.step (pc2 := 133) (ls2 := [(7, .int (((ia w 117).getD c 0) + v9)), (6, .int 1), (5, .int (nI x3)), (0, .ref 111), (1, .int (nI src)), (2, .int (nI g)), (3, .int (nI c)), (4, .int (nI j))]) (st2 := [.int 1]) (w3 := w) rfl rfl ?_
        refine sx_RP.step (pc2 := 136) (ls2 := [(7, .int (((ia w 117).getD c 0) + v9)), (6, .int 1), (5, .int (nI x3)), (0, .ref 111), (1, .int (nI src)), (2, .int (nI g)), (3, .int (nI c)), (4, .int (nI j))]) (st2 := []) (w3 := w) rfl rfl ?_
        refine sx_RP.step (pc2 := 137) (ls2 := [(7, .int (((ia w 117).getD c 0) + v9)), (6, .int 1), (5, .int (nI x3)), (0, .ref 111), (1, .int (nI src)), (2, .int (nI g)), (3, .int (nI c)), (4, .int (nI j))]) (st2 := [.ref 111]) (w3 := w) rfl rfl ?_
        refine sx_RP.gf (v := .ref 117) rfl rfl hI.1.o111 rfl rfl (show _ = 140 from rfl) ?_
        refine sx_RP.step (pc2 := 142) (ls2 := [(7, .int (((ia w 117).getD c 0) + v9)), (6, .int 1), (5, .int (nI x3)), (0, .ref 111), (1, .int (nI src)), (2, .int (nI g)), (3, .int (nI c)), (4, .int (nI j))]) (st2 := [.int (nI x3), .ref 117]) (w3 := w) rfl rfl ?_
        refine sx_RP.ild (c := x3) rfl hI.1.a117.1 hI.1.a117.2 (sx_in_nI (show x3 < 48 by omega) (by decide)) (show (nI x3).toNatClampNeg = x3 from nI_clamp (by omega)) (show _ = 143 from rfl) ?_
        refine sx_RP.br (p1 := 158) (l1 := [(7, .int (((ia w 117).getD c 0) + v9)), (6, .int 1), (5, .int (nI x3)), (0, .ref 111), (1, .int (nI src)), (2, .int (nI g)), (3, .int (nI c)), (4, .int (nI j))]) (s1 := []) (v1 := w) (p2 := 146) (l2 := [(7, .int (((ia w 117).getD c 0) + v9)), (6, .int 1), (5, .int (nI x3)), (0, .ref 111), (1, .int (nI src)), (2, .int (nI g)), (3, .int (nI c)), (4, .int (nI j))]) (s2 := []) (v2 := w) rfl rfl (fun q11 => ?_) (fun q11 => ?_)
        · replace q11 := of_decide_eq_true q11
          refine sx_RP.step (pc2 := 159) (ls2 := [(7, .int (((ia w 117).getD c 0) + v9)), (6, .int 1), (5, .int (nI x3)), (0, .ref 111), (1, .int (nI src)), (2, .int (nI g)), (3, .int (nI c)), (4, .int (nI j))]) (st2 := [.ref 111]) (w3 := w) rfl rfl ?_
          refine sx_RP.gf (v := .ref 117) rfl rfl hI.1.o111 rfl rfl (show _ = 162 from rfl) ?_
          refine sx_RP.step (pc2 := 164) (ls2 := [(7, .int (((ia w 117).getD c 0) + v9)), (6, .int 1), (5, .int (nI x3)), (0, .ref 111), (1, .int (nI src)), (2, .int (nI g)), (3, .int (nI c)), (4, .int (nI j))]) (st2 := [.int (nI x3), .ref 117]) (w3 := w) rfl rfl ?_
          refine sx_RP.step (pc2 := 166) (ls2 := [(7, .int (((ia w 117).getD c 0) + v9)), (6, .int 1), (5, .int (nI x3)), (0, .ref 111), (1, .int (nI src)), (2, .int (nI g)), (3, .int (nI c)), (4, .int (nI j))]) (st2 := [.int (((ia w 117).getD c 0) + v9), .int (nI x3), .ref 117]) (w3 := w) rfl rfl ?_
          refine sx_RP.mFW hI hE rfl hI.1.a117 (sx_in_nI (show x3 < 48 by omega) (by decide)) (by decide) (show _ = 167 from rfl) (fun w12 hI13 hE14 hk15 => ?_)
          refine sx_RP.step (pc2 := 170) (ls2 := [(4, .int ((nI j) + 1)), (7, .int (((ia w 117).getD c 0) + v9)), (6, .int 1), (5, .int (nI x3)), (0, .ref 111), (1, .int (nI src)), (2, .int (nI g)), (3, .int (nI c))]) (st2 := []) (w3 := w12) rfl rfl ?_
          rw [nI_1 j]
          refine sx_RP.step (pc2 := 53) (ls2 := [(4, .int (nI (j + 1))), (7, .int (((ia w 117).getD c 0) + v9)), (6, .int 1), (5, .int (nI x3)), (0, .ref 111), (1, .int (nI src)), (2, .int (nI g)), (3, .int (nI c))]) (st2 := []) (w3 := w12) rfl rfl ?_
          exact sx_RP.ls (sx_lr.cons rfl (sx_lr.cons rfl (sx_lr.cons rfl (sx_lr.cons rfl (sx_lr.cons rfl sx_lr.nil))))) (kk w12 hI13 hE14 (by omega))
        · replace q11 := of_decide_eq_false q11
          refine sx_RP.step (pc2 := 148) (ls2 := [(7, .int (((ia w 117).getD c 0) + v9)), (6, .int 1), (5, .int (nI x3)), (0, .ref 111), (1, .int (nI src)), (2, .int (nI g)), (3, .int (nI c)), (4, .int (nI j))]) (st2 := [.int (((ia w 117).getD c 0) + v9)]) (w3 := w) rfl rfl ?_
          refine sx_RP.step (pc2 := 149) (ls2 := [(7, .int (((ia w 117).getD c 0) + v9)), (6, .int 1), (5, .int (nI x3)), (0, .ref 111), (1, .int (nI src)), (2, .int (nI g)), (3, .int (nI c)), (4, .int (nI j))]) (st2 := [.ref 111, .int (((ia w 117).getD c 0) + v9)]) (w3 := w) rfl rfl ?_
          refine sx_RP.gf (v := .ref 117) rfl rfl hI.1.o111 rfl rfl (show _ = 152 from rfl) ?_
          refine sx_RP.step (pc2 := 154) (ls2 := [(7, .int (((ia w 117).getD c 0) + v9)), (6, .int 1), (5, .int (nI x3)), (0, .ref 111), (1, .int (nI src)), (2, .int (nI g)), (3, .int (nI c)), (4, .int (nI j))]) (st2 := [.int (nI x3), .ref 117, .int (((ia w 117).getD c 0) + v9)]) (w3 := w) rfl rfl ?_
          refine sx_RP.ild (c := x3) rfl hI.1.a117.1 hI.1.a117.2 (sx_in_nI (show x3 < 48 by omega) (by decide)) (show (nI x3).toNatClampNeg = x3 from nI_clamp (by omega)) (show _ = 155 from rfl) ?_
          refine sx_RP.br (p1 := 167) (l1 := [(7, .int (((ia w 117).getD c 0) + v9)), (6, .int 1), (5, .int (nI x3)), (0, .ref 111), (1, .int (nI src)), (2, .int (nI g)), (3, .int (nI c)), (4, .int (nI j))]) (s1 := []) (v1 := w) (p2 := 158) (l2 := [(7, .int (((ia w 117).getD c 0) + v9)), (6, .int 1), (5, .int (nI x3)), (0, .ref 111), (1, .int (nI src)), (2, .int (nI g)), (3, .int (nI c)), (4, .int (nI j))]) (s2 := []) (v2 := w) rfl rfl (fun q16 => ?_) (fun q16 => ?_)
          · replace q16 := of_decide_eq_true q16
            refine sx_RP.step (pc2 := 170) (ls2 := [(4, .int ((nI j) + 1)), (7, .int (((ia w 117).getD c 0) + v9)), (6, .int 1), (5, .int (nI x3)), (0, .ref 111), (1, .int (nI src)), (2, .int (nI g)), (3, .int (nI c))]) (st2 := []) (w3 := w) rfl rfl ?_
            rw [nI_1 j]
            refine sx_RP.step (pc2 := 53) (ls2 := [(4, .int (nI (j + 1))), (7, .int (((ia w 117).getD c 0) + v9)), (6, .int 1), (5, .int (nI x3)), (0, .ref 111), (1, .int (nI src)), (2, .int (nI g)), (3, .int (nI c))]) (st2 := []) (w3 := w) rfl rfl ?_
            exact sx_RP.ls (sx_lr.cons rfl (sx_lr.cons rfl (sx_lr.cons rfl (sx_lr.cons rfl (sx_lr.cons rfl sx_lr.nil))))) (kk w hI hE (by omega))
          · replace q16 := of_decide_eq_false q16
            refine sx_RP.step (pc2 := 159) (ls2 := [(7, .int (((ia w 117).getD c 0) + v9)), (6, .int 1), (5, .int (nI x3)), (0, .ref 111), (1, .int (nI src)), (2, .int (nI g)), (3, .int (nI c)), (4, .int (nI j))]) (st2 := [.ref 111]) (w3 := w) rfl rfl ?_
            refine sx_RP.gf (v := .ref 117) rfl rfl hI.1.o111 rfl rfl (show _ = 162 from rfl) ?_
            refine sx_RP.step (pc2 := 164) (ls2 := [(7, .int (((ia w 117).getD c 0) + v9)), (6, .int 1), (5, .int (nI x3)), (0, .ref 111), (1, .int (nI src)), (2, .int (nI g)), (3, .int (nI c)), (4, .int (nI j))]) (st2 := [.int (nI x3), .ref 117]) (w3 := w) rfl rfl ?_
            refine sx_RP.step (pc2 := 166) (ls2 := [(7, .int (((ia w 117).getD c 0) + v9)), (6, .int 1), (5, .int (nI x3)), (0, .ref 111), (1, .int (nI src)), (2, .int (nI g)), (3, .int (nI c)), (4, .int (nI j))]) (st2 := [.int (((ia w 117).getD c 0) + v9), .int (nI x3), .ref 117]) (w3 := w) rfl rfl ?_
            refine sx_RP.mFW hI hE rfl hI.1.a117 (sx_in_nI (show x3 < 48 by omega) (by decide)) (by decide) (show _ = 167 from rfl) (fun w17 hI18 hE19 hk20 => ?_)
            refine sx_RP.step (pc2 := 170) (ls2 := [(4, .int ((nI j) + 1)), (7, .int (((ia w 117).getD c 0) + v9)), (6, .int 1), (5, .int (nI x3)), (0, .ref 111), (1, .int (nI src)), (2, .int (nI g)), (3, .int (nI c))]) (st2 := []) (w3 := w17) rfl rfl ?_
            rw [nI_1 j]
            refine sx_RP.step (pc2 := 53) (ls2 := [(4, .int (nI (j + 1))), (7, .int (((ia w 117).getD c 0) + v9)), (6, .int 1), (5, .int (nI x3)), (0, .ref 111), (1, .int (nI src)), (2, .int (nI g)), (3, .int (nI c))]) (st2 := []) (w3 := w17) rfl rfl ?_
            exact sx_RP.ls (sx_lr.cons rfl (sx_lr.cons rfl (sx_lr.cons rfl (sx_lr.cons rfl (sx_lr.cons rfl sx_lr.nil))))) (kk w17 hI18 hE19 (by omega))
set_option maxRecDepth 20000 in
set_option maxHeartbeats 4000000 in
theorem s141jL {xs : Option (List Int32)} {d : Nat} {w0 : List sx_C} {P : Option Value → List sx_C → Prop} {src g c : Nat} (hg : g < 10) (hc : c < 48) (kx173 : ∀ (w4 : List sx_C), WI w4 → EW w0 w4 → sx_RP xs (d + 3) 141 173 [(0, .ref 111), (1, .int (nI src)), (2, .int (nI g))] [] w4 P) : ∀ (fz j : Nat) (w : List sx_C) , 4 ≤ j + fz * 1 → j ≤ 4 → WI w → EW w0 w → sx_RP xs (d + 3) 141 53 [(0, .ref 111), (1, .int (nI src)), (2, .int (nI g)), (3, .int (nI c)), (4, .int (nI j))] [] w P
  | 0, j, w, h, hj, hI, hE => s141jB hg hc hI hE hj   (fun w4  hI4 hE4 hlt  => absurd hlt (by omega)) kx173
  | fz + 1, j, w, h, hj, hI, hE => s141jB hg hc hI hE hj   (fun w4  hI4 hE4 hlt  => s141jL hg hc kx173 fz (j + 1) w4  (by omega) hlt hI4 hE4 ) kx173

set_option maxRecDepth 20000 in
set_option maxHeartbeats 4000000 in
theorem s141z {xs : Option (List Int32)} {d : Nat} {w : List sx_C} {P : Option Value → List sx_C → Prop} {src g : Nat} {b : Int32} (q : b < 0) (kk : P none w) : sx_RP xs d 141 39 [(0, .ref 111), (1, .int (nI src)), (2, .int (nI g)), (3, .int b)] [] w P := by
  refine sx_RP.step (pc2 := 40) (ls2 := [(0, .ref 111), (1, .int (nI src)), (2, .int (nI g)), (3, .int b)]) (st2 := [.int b]) (w3 := w) rfl rfl ?_
  refine sx_RP.br (p1 := 181) (l1 := [(0, .ref 111), (1, .int (nI src)), (2, .int (nI g)), (3, .int b)]) (s1 := []) (v1 := w) rfl rfl (fun _ => ?_) (fun z => absurd q (of_decide_eq_false z))
  exact ⟨none, w, sx_RU.ret rfl rfl, kk⟩
set_option maxRecDepth 20000 in
set_option maxHeartbeats 4000000 in
theorem s141m {xs : Option (List Int32)} {d : Nat} {w w0 : List sx_C} {P : Option Value → List sx_C → Prop} {src g c : Nat} (hg : g < 10) (hI : WI w) (hE : EM w0 w) (hc : c < 48) (kk : ∀ w2 wy, WI w2 → EM w0 w2 → ia w2 118 = (ia w 118).set c 1 → sx_RP xs (d + 3) 141 39 [(0, .ref 111), (1, .int (nI src)), (2, .int (nI g)), (3, .int (nrF wy (ia w2 118) 48 0 (-1)))] [] w2 P) : sx_RP xs (d + 3) 141 39 [(0, .ref 111), (1, .int (nI src)), (2, .int (nI g)), (3, .int (nI c))] [] w P := by
  have h8 := hI.1.a118
  have hI1 : WI (w.set 118 (.inl (1, (ia w 118).set c 1))) := hI.set h8.1 sh_set (cOK.free (by omega))
  have hE1 : EM w0 (w.set 118 (.inl (1, (ia w 118).set c 1))) := hE.set h8.1 (by omega) (kp_n (by omega))
  have e1 : ia (w.set 118 (.inl (1, (ia w 118).set c 1))) 118 = (ia w 118).set c 1 := ia_set h8.1
  refine sx_RP.step (pc2 := 40) (ls2 := [(0, .ref 111), (1, .int (nI src)), (2, .int (nI g)), (3, .int (nI c))]) (st2 := [.int (nI c)]) (w3 := w) rfl rfl ?_
  refine sx_RP.br (p2 := 43) (l2 := [(0, .ref 111), (1, .int (nI src)), (2, .int (nI g)), (3, .int (nI c))]) (s2 := []) (v2 := w) rfl rfl (fun q => absurd (of_decide_eq_true q) (nI_pos (by omega))) (fun _ => ?_)
  refine sx_RP.step (pc2 := 44) (ls2 := [(0, .ref 111), (1, .int (nI src)), (2, .int (nI g)), (3, .int (nI c))]) (st2 := [.ref 111]) (w3 := w) rfl rfl ?_
  refine sx_RP.gf (v := .ref 118) rfl rfl hI.1.o111 rfl rfl (show _ = 47 from rfl) ?_
  refine sx_RP.step (pc2 := 48) (ls2 := [(0, .ref 111), (1, .int (nI src)), (2, .int (nI g)), (3, .int (nI c))]) (st2 := [.int (nI c), .ref 118]) (w3 := w) rfl rfl ?_
  refine sx_RP.step (pc2 := 49) (ls2 := [(0, .ref 111), (1, .int (nI src)), (2, .int (nI g)), (3, .int (nI c))]) (st2 := [.int 1, .int (nI c), .ref 118]) (w3 := w) rfl rfl ?_
  refine sx_RP.bst1 (c := c) (w2 := (w.set 118 (.inl (1, (ia w 118).set c 1)))) rfl h8.1 h8.2 (sx_in_nI hc (by decide)) (nI_clamp (by have := hc; omega)) rfl (show _ = 50 from rfl) ?_
  revert hI1 hE1 e1
  generalize w.set 118 (.inl (1, (ia w 118).set c 1)) = w1
  intro hI1 hE1 e1
  refine sx_RP.step (pc2 := 51) (ls2 := [(0, .ref 111), (1, .int (nI src)), (2, .int (nI g)), (3, .int (nI c))]) (st2 := [.int 0]) (w3 := w1) rfl rfl ?_
  refine sx_RP.step (pc2 := 53) (ls2 := [(4, .int (nI 0)), (0, .ref 111), (1, .int (nI src)), (2, .int (nI g)), (3, .int (nI c))]) (st2 := []) (w3 := w1) rfl rfl ?_
  refine sx_RP.ls (sx_lr.cons rfl (sx_lr.cons rfl (sx_lr.cons rfl (sx_lr.cons rfl (sx_lr.cons rfl sx_lr.nil))))) (s141jL hg hc (fun w4 hI4 hE4 => ?_) 4 0 w1 (by omega) (by omega) hI1 EW.rf)
  refine sx_RP.step (pc2 := 174) (ls2 := [(0, .ref 111), (1, .int (nI src)), (2, .int (nI g))]) (st2 := [.ref 111]) (w3 := w4) rfl rfl ?_
  refine sx_RP.cu (as := [.ref 111]) (rest2 := []) (st3 := [.int (nrF (ia w4 117) (ia w4 118) 48 0 (-1))]) rfl rfl (sx_inv_v2 (mi := 141) (k := 90) (st := [.ref 111]) (w := w4) rfl rfl hI4.1.o111 rfl rfl rfl) rfl rfl (cp_149 hI4.1.o111 hI4.1.a117.1 hI4.1.a118.1 hI4.1.a117.2 hI4.1.a118.2) rfl ?_
  refine sx_RP.step (pc2 := 178) (ls2 := [(3, .int (nrF (ia w4 117) (ia w4 118) 48 0 (-1))), (0, .ref 111), (1, .int (nI src)), (2, .int (nI g))]) (st2 := []) (w3 := w4) rfl rfl ?_
  refine sx_RP.step (pc2 := 39) (ls2 := [(3, .int (nrF (ia w4 117) (ia w4 118) 48 0 (-1))), (0, .ref 111), (1, .int (nI src)), (2, .int (nI g))]) (st2 := []) (w3 := w4) rfl rfl ?_
  exact sx_RP.ls (sx_lr.cons rfl (sx_lr.cons rfl (sx_lr.cons rfl (sx_lr.cons rfl sx_lr.nil)))) (kk w4 _ hI4 (hE1.tr hE4.1) (hE4.2.trans e1))
theorem s141o {xs : Option (List Int32)} {d : Nat} {w0 : List sx_C} {src g : Nat} (hg : g < 10) : ∀ (f : Nat) (b : Int32) (w : List sx_C), (ia w 118).count 0 ≤ f → nrOK (ia w 118) b → WI w → EM w0 w → sx_RP xs (d + 3) 141 39 [(0, .ref 111), (1, .int (nI src)), (2, .int (nI g)), (3, .int b)] [] w (fun r w2 => r = none ∧ WI w2 ∧ EM w0 w2)
  | 0, b, w, hf, hb, hI, hE => by
    rcases hb with hb | ⟨c, hc, rfl, h0⟩
    · exact s141z hb ⟨rfl, hI, hE⟩
    · exact absurd (cnt_pos (by rw [hI.1.a118.2]; exact hc) h0) (by omega)
  | f + 1, b, w, hf, hb, hI, hE => by
    rcases hb with hb | ⟨c, hc, rfl, h0⟩
    · exact s141z hb ⟨rfl, hI, hE⟩
    · refine s141m hg hI hE hc (fun w2 wy h1 h2 h3 => s141o hg f _ w2 ?_ (nrF_ok 48 0 _ rfl (Or.inl (by decide))) h1 h2)
      rw [h3]
      exact cnt_set (by rw [hI.1.a118.2]; exact hc) h0 hf
set_option maxRecDepth 20000 in
set_option maxHeartbeats 4000000 in
theorem s141d {xs : Option (List Int32)} {d : Nat} {w : List sx_C} (hI : WI w) {src g : Nat} (hs : src < 48) (hg : g < 10) : sx_RP xs (d + 3) 141 0 (lv_args 0 [.ref 111, .int (nI src), .int (nI g)]) [] w (fun r w2 => r = none ∧ WI w2 ∧ EM w w2) := by
  refine sx_RP.step (pc2 := 1) (ls2 := [(0, .ref 111), (1, .int (nI src)), (2, .int (nI g))]) (st2 := [.int 0]) (w3 := w) rfl rfl ?_
  refine sx_RP.step (pc2 := 2) (ls2 := [(3, .int (nI 0)), (0, .ref 111), (1, .int (nI src)), (2, .int (nI g))]) (st2 := []) (w3 := w) rfl rfl ?_
  refine sx_RP.ls (sx_lr.cons rfl (sx_lr.cons rfl (sx_lr.cons rfl (sx_lr.cons rfl sx_lr.nil)))) (s141nL hs (fun w4 hI4 hE4 => ?_) 48 0 w (by omega) (by omega) hI EM.rf)
  refine sx_RP.step (pc2 := 38) (ls2 := [(0, .ref 111), (1, .int (nI src)), (2, .int (nI g))]) (st2 := [.int (nI src)]) (w3 := w4) rfl rfl ?_
  refine sx_RP.step (pc2 := 39) (ls2 := [(3, .int (nI src)), (0, .ref 111), (1, .int (nI src)), (2, .int (nI g))]) (st2 := []) (w3 := w4) rfl rfl ?_
  refine sx_RP.ls (sx_lr.cons rfl (sx_lr.cons rfl (sx_lr.cons rfl (sx_lr.cons rfl sx_lr.nil)))) (s141m hg hI4 hE4 hs (fun w2 wy h1 h2 _ => s141o hg 48 _ w2 ?_ (nrF_ok 48 0 _ rfl (Or.inl (by decide))) h1 h2))
  exact Nat.le_trans List.count_le_length (by rw [h1.1.a118.2]; exact Nat.le_refl _)
theorem wkF_len {s : List Int32} : ∀ (f : Nat) (b : Int32) (wy su : List Int32), wy.length = 48 → su.length = 48 → (wkF s f b wy su).1.length = 48 ∧ (wkF s f b wy su).2.length = 48
  | 0, b, wy, su, h1, h2 => ⟨h1, h2⟩
  | f + 1, b, wy, su, h1, h2 => by
    rw [wkF]
    split
    · exact ⟨h1, h2⟩
    · exact wkF_len f _ _ _ (wrF_len 4 0 _ h1) (sx_ls h2)
theorem s141s {xs : Option (List Int32)} {d : Nat} {w : List sx_C} (hI : WI w) {src : Nat} (hs : src < 48) : sx_RP xs (d + 1) 141 0 (lv_args 0 [.ref 111, .int (nI src), .int (-1)]) [] w (fun r w2 => r = none ∧ WI w2 ∧ EM w w2 ∧ ia w2 112 = ia w 112 ∧ wA (ia w 112) src 1000 (ia w2 117) ∧ ∀ c, c < 48 → (ia w2 117).getD c 0 ≠ -1) := by
  have h2 := hI.1.aM (a := 112) (by omega)
  have h7 := hI.1.a117
  have h8 := hI.1.a118
  have hw := wlF_inv (s := ia w 112) hs h7.2 h8.2
  have hl : (wlF (ia w 112) src (ia w 117) (ia w 118)).1.length = 48 ∧ (wlF (ia w 112) src (ia w 117) (ia w 118)).2.length = 48 := wkF_len 49 _ _ _ (wiF_len 48 0 _ h7.2) (flF_len 48 0 _ h8.2)
  have hc := cp_141 (xs := xs) (d := d) hI.1.o111 h2.1 h7.1 h8.1 h2.2 h7.2 h8.2 hs
  revert hw hl hc
  generalize wlF (ia w 112) src (ia w 117) (ia w 118) = p
  obtain ⟨wy, su⟩ := p
  intro hw hl hc
  have e7 : sx_sh (.inl (0, wy)) = sx_sh (.inl (0, ia w 117)) := by
    show (Sum.inl (0, List.replicate wy.length (0 : Int32)) : sx_C) = Sum.inl (0, List.replicate (ia w 117).length 0)
    rw [h7.2, hl.1]
  have e8 : sx_sh (.inl (1, su)) = sx_sh (.inl (1, ia w 118)) := by
    show (Sum.inl (1, List.replicate su.length (0 : Int32)) : sx_C) = Sum.inl (1, List.replicate (ia w 118).length 0)
    rw [h8.2, hl.2]
  have h8b : (w.set 117 (.inl (0, wy)))[118]? = some (.inl (1, ia w 118)) := by
    rw [List.getElem?_set_ne (by decide)]
    exact h8.1
  refine ⟨none, _, hc, rfl, (hI.set h7.1 e7 (cOK.free (by omega))).set h8b e8 (cOK.free (by omega)), (EM.rf.set h7.1 (by omega) (kp_n (by omega))).set h8b (by omega) (kp_n (by omega)), ?_, ?_⟩
  · rw [ia_ne (by omega), ia_ne (by omega)]
  · rw [ia_ne (by omega), ia_set h7.1]
    exact hw
end
