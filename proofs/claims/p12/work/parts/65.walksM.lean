-- safety: walks of the reference
/-- as EM, and cell 118 as it was -/
def EW (w w2 : List sx_C) : Prop := EM w w2 ∧ ia w2 118 = ia w 118
theorem EW.rf {w : List sx_C} : EW w w := ⟨EM.rf, rfl⟩
theorem sx_RP.mFW {xs : Option (List Int32)} {d mi pc pc2 : Nat} {ls : sx_L} {r : List Value} {w w0 : List sx_C} {P : Option Value → List sx_C → Prop} {a : Nat} {i x : Int32} {n : Nat} (hI : WI w) (hE : EW w0 w) (hi : sx_ins mi pc = some (.iastore, 1)) (hw : w[a]? = some (.inl (0, ia w a)) ∧ (ia w a).length = n) (hn : sx_in i n = true) (hf : a = 116 ∨ a = 117 ∨ a = 119 ∨ a = 121) (hp : pc + 1 = pc2) (kk : ∀ w2, WI w2 → EW w0 w2 → (∀ j, (ia w2 112).getD j 0 = (ia w 112).getD j 0) → sx_RP xs d mi pc2 ls r w2 P) : sx_RP xs d mi pc ls (.int x :: .int i :: .ref a :: r) w P :=
  sx_RP.ist hi hw.1 hw.2 hn rfl rfl hp (kk _ (hI.set hw.1 sh_set (cOK.free (by omega))) ⟨hE.1.set hw.1 (by omega) (kp_n (by omega)), by rw [ia_ne (by omega)]; exact hE.2⟩ (fun j => by rw [ia_ne (by omega)]))
set_option maxRecDepth 20000 in
set_option maxHeartbeats 4000000 in
theorem s141nB {xs : Option (List Int32)} {d : Nat} {w w0 : List sx_C} {P : Option Value → List sx_C → Prop} {src g : Nat} (hs : src < 48) (hI : WI w) (hE : EM w0 w) {j : Nat} (hj : j ≤ 48) (kk : ∀ (w4 : List sx_C), WI w4 → EM w0 w4 → j + 1 ≤ 48 → sx_RP xs (d + 3) 141 2 [(0, .ref 111), (1, .int (nI src)), (2, .int (nI g)), (3, .int (nI (j + 1)))] [] w4 P) (kx37 : ∀ (w4 : List sx_C), WI w4 → EM w0 w4 → sx_RP xs (d + 3) 141 37 [(0, .ref 111), (1, .int (nI src)), (2, .int (nI g))] [] w4 P) : sx_RP xs (d + 3) 141 2 [(0, .ref 111), (1, .int (nI src)), (2, .int (nI g)), (3, .int (nI j))] [] w P := by
  refine sx_RP.step (pc2 := 3) (ls2 := [(0, .ref 111), (1, .int (nI src)), (2, .int (nI g)), (3, .int (nI j))]) (st2 := [.int (nI j)]) (w3 := w) rfl rfl ?_
  refine sx_RP.step (pc2 := 5) (ls2 := [(0, .ref 111), (1, .int (nI src)), (2, .int (nI g)), (3, .int (nI j))]) (st2 := [.int 48, .int (nI j)]) (w3 := w) rfl rfl ?_
  refine sx_RP.br (p1 := 37) (l1 := [(0, .ref 111), (1, .int (nI src)), (2, .int (nI g)), (3, .int (nI j))]) (s1 := []) (v1 := w) (p2 := 8) (l2 := [(0, .ref 111), (1, .int (nI src)), (2, .int (nI g)), (3, .int (nI j))]) (s2 := []) (v2 := w) rfl rfl (fun q1 => ?_) (fun q1 => ?_)
  · replace q1 := of_decide_eq_true q1
    replace q1 := (nI_leI (a := 48) (b := j) (by omega) (by omega)).mp q1
    exact sx_RP.ls (sx_lr.cons rfl (sx_lr.cons rfl (sx_lr.cons rfl sx_lr.nil))) (kx37 w hI hE)
  · replace q1 := of_decide_eq_false q1
    replace q1 := mt (nI_leI (a := 48) (b := j) (by omega) (by omega)).mpr q1
    refine sx_RP.step (pc2 := 9) (ls2 := [(0, .ref 111), (1, .int (nI src)), (2, .int (nI g)), (3, .int (nI j))]) (st2 := [.ref 111]) (w3 := w) rfl rfl ?_
    refine sx_RP.gf (v := .ref 117) rfl rfl hI.1.o111 rfl rfl (show _ = 12 from rfl) ?_
    refine sx_RP.step (pc2 := 13) (ls2 := [(0, .ref 111), (1, .int (nI src)), (2, .int (nI g)), (3, .int (nI j))]) (st2 := [.int (nI j), .ref 117]) (w3 := w) rfl rfl ?_
    refine sx_RP.step (pc2 := 14) (ls2 := [(0, .ref 111), (1, .int (nI src)), (2, .int (nI g)), (3, .int (nI j))]) (st2 := [.int (nI j), .int (nI j), .ref 117]) (w3 := w) rfl rfl ?_
    refine sx_RP.step (pc2 := 15) (ls2 := [(0, .ref 111), (1, .int (nI src)), (2, .int (nI g)), (3, .int (nI j))]) (st2 := [.int (nI src), .int (nI j), .int (nI j), .ref 117]) (w3 := w) rfl rfl ?_
    refine sx_RP.br (p1 := 22) (l1 := [(0, .ref 111), (1, .int (nI src)), (2, .int (nI g)), (3, .int (nI j))]) (s1 := [.int (nI j), .ref 117]) (v1 := w) (p2 := 18) (l2 := [(0, .ref 111), (1, .int (nI src)), (2, .int (nI g)), (3, .int (nI j))]) (s2 := [.int (nI j), .ref 117]) (v2 := w) rfl rfl (fun q2 => ?_) (fun q2 => ?_)
    · replace q2 := of_decide_eq_true q2
      replace q2 := mt (nI_eq (a := j) (b := src) (by omega) (by omega)).mpr q2
      refine sx_RP.step (pc2 := 23) (ls2 := [(0, .ref 111), (1, .int (nI src)), (2, .int (nI g)), (3, .int (nI j))]) (st2 := [.int (-1), .int (nI j), .ref 117]) (w3 := w) rfl rfl ?_
      refine sx_RP.mF hI hE rfl hI.1.a117 (sx_in_nI (show j < 48 by omega) (by decide)) (by decide) (show _ = 24 from rfl) (fun w3 hI4 hE5 hk6 => ?_)
      refine sx_RP.step (pc2 := 25) (ls2 := [(0, .ref 111), (1, .int (nI src)), (2, .int (nI g)), (3, .int (nI j))]) (st2 := [.ref 111]) (w3 := w3) rfl rfl ?_
      refine sx_RP.gf (v := .ref 118) rfl rfl hI4.1.o111 rfl rfl (show _ = 28 from rfl) ?_
      refine sx_RP.step (pc2 := 29) (ls2 := [(0, .ref 111), (1, .int (nI src)), (2, .int (nI g)), (3, .int (nI j))]) (st2 := [.int (nI j), .ref 118]) (w3 := w3) rfl rfl ?_
      refine sx_RP.step (pc2 := 30) (ls2 := [(0, .ref 111), (1, .int (nI src)), (2, .int (nI g)), (3, .int (nI j))]) (st2 := [.int 0, .int (nI j), .ref 118]) (w3 := w3) rfl rfl ?_
      refine sx_RP.mB hI4 hE5 rfl hI4.1.a118 (sx_in_nI (show j < 48 by omega) (by decide)) (by decide) (show _ = 31 from rfl) (fun w7 hI8 hE9 hk10 => ?_)
      refine sx_RP.step (pc2 := 34) (ls2 := [(3, .int ((nI j) + 1)), (0, .ref 111), (1, .int (nI src)), (2, .int (nI g))]) (st2 := []) (w3 := w7) rfl rfl ?_
      rw [nI_1 j]
      refine sx_RP.step (pc2 := 2) (ls2 := [(3, .int (nI (j + 1))), (0, .ref 111), (1, .int (nI src)), (2, .int (nI g))]) (st2 := []) (w3 := w7) rfl rfl ?_
      exact sx_RP.ls (sx_lr.cons rfl (sx_lr.cons rfl (sx_lr.cons rfl (sx_lr.cons rfl sx_lr.nil)))) (kk w7 hI8 hE9 (by omega))
    · replace q2 := Decidable.not_not.mp (of_decide_eq_false q2)
      replace q2 := (nI_eq (a := j) (b := src) (by omega) (by omega)).mp q2
      refine sx_RP.step (pc2 := 19) (ls2 := [(0, .ref 111), (1, .int (nI src)), (2, .int (nI g)), (3, .int (nI j))]) (st2 := [.int 0, .int (nI j), .ref 117]) (w3 := w) rfl rfl ?_
      refine sx_RP.step (pc2 := 23) (ls2 := [(0, .ref 111), (1, .int (nI src)), (2, .int (nI g)), (3, .int (nI j))]) (st2 := [.int 0, .int (nI j), .ref 117]) (w3 := w) rfl rfl ?_
      refine sx_RP.mF hI hE rfl hI.1.a117 (sx_in_nI (show j < 48 by omega) (by decide)) (by decide) (show _ = 24 from rfl) (fun w11 hI12 hE13 hk14 => ?_)
      refine sx_RP.step (pc2 := 25) (ls2 := [(0, .ref 111), (1, .int (nI src)), (2, .int (nI g)), (3, .int (nI j))]) (st2 := [.ref 111]) (w3 := w11) rfl rfl ?_
      refine sx_RP.gf (v := .ref 118) rfl rfl hI12.1.o111 rfl rfl (show _ = 28 from rfl) ?_
      refine sx_RP.step (pc2 := 29) (ls2 := [(0, .ref 111), (1, .int (nI src)), (2, .int (nI g)), (3, .int (nI j))]) (st2 := [.int (nI j), .ref 118]) (w3 := w11) rfl rfl ?_
      refine sx_RP.step (pc2 := 30) (ls2 := [(0, .ref 111), (1, .int (nI src)), (2, .int (nI g)), (3, .int (nI j))]) (st2 := [.int 0, .int (nI j), .ref 118]) (w3 := w11) rfl rfl ?_
      refine sx_RP.mB hI12 hE13 rfl hI12.1.a118 (sx_in_nI (show j < 48 by omega) (by decide)) (by decide) (show _ = 31 from rfl) (fun w15 hI16 hE17 hk18 => ?_)
      refine sx_RP.step (pc2 := 34) (ls2 := [(3, .int ((nI j) + 1)), (0, .ref 111), (1, .int (nI src)), (2, .int (nI g))]) (st2 := []) (w3 := w15) rfl rfl ?_
      rw [nI_1 j]
      refine sx_RP.step (pc2 := 2) (ls2 := [(3, .int (nI (j + 1))), (0, .ref 111), (1, .int (nI src)), (2, .int (nI g))]) (st2 := []) (w3 := w15) rfl rfl ?_
      exact sx_RP.ls (sx_lr.cons rfl (sx_lr.cons rfl (sx_lr.cons rfl (sx_lr.cons rfl sx_lr.nil)))) (kk w15 hI16 hE17 (by omega))
set_option maxRecDepth 20000 in
set_option maxHeartbeats 4000000 in
theorem s141nL {xs : Option (List Int32)} {d : Nat} {w0 : List sx_C} {P : Option Value → List sx_C → Prop} {src g : Nat} (hs : src < 48) (kx37 : ∀ (w4 : List sx_C), WI w4 → EM w0 w4 → sx_RP xs (d + 3) 141 37 [(0, .ref 111), (1, .int (nI src)), (2, .int (nI g))] [] w4 P) : ∀ (fz j : Nat) (w : List sx_C) , 48 ≤ j + fz * 1 → j ≤ 48 → WI w → EM w0 w → sx_RP xs (d + 3) 141 2 [(0, .ref 111), (1, .int (nI src)), (2, .int (nI g)), (3, .int (nI j))] [] w P
  | 0, j, w, h, hj, hI, hE => s141nB hs hI hE hj   (fun w4  hI4 hE4 hlt  => absurd hlt (by omega)) kx37
  | fz + 1, j, w, h, hj, hI, hE => s141nB hs hI hE hj   (fun w4  hI4 hE4 hlt  => s141nL hs kx37 fz (j + 1) w4  (by omega) hlt hI4 hE4 ) kx37
set_option maxRecDepth 20000 in
set_option maxHeartbeats 4000000 in
theorem s141jB {xs : Option (List Int32)} {d : Nat} {w w0 : List sx_C} {P : Option Value → List sx_C → Prop} {src g c : Nat} (hg : g < 10) (hc : c < 48) (hI : WI w) (hE : EW w0 w) {j : Nat} (hj : j ≤ 4) (kk : ∀ (w4 : List sx_C), WI w4 → EW w0 w4 → j + 1 ≤ 4 → sx_RP xs (d + 3) 141 53 [(0, .ref 111), (1, .int (nI src)), (2, .int (nI g)), (3, .int (nI c)), (4, .int (nI (j + 1)))] [] w4 P) (kx173 : ∀ (w4 : List sx_C), WI w4 → EW w0 w4 → sx_RP xs (d + 3) 141 173 [(0, .ref 111), (1, .int (nI src)), (2, .int (nI g))] [] w4 P) : sx_RP xs (d + 3) 141 53 [(0, .ref 111), (1, .int (nI src)), (2, .int (nI g)), (3, .int (nI c)), (4, .int (nI j))] [] w P := by
  refine sx_RP.step (pc2 := 55) (ls2 := [(0, .ref 111), (1, .int (nI src)), (2, .int (nI g)), (3, .int (nI c)), (4, .int (nI j))]) (st2 := [.int (nI j)]) (w3 := w) rfl rfl ?_
  refine sx_RP.step (pc2 := 56) (ls2 := [(0, .ref 111), (1, .int (nI src)), (2, .int (nI g)), (3, .int (nI c)), (4, .int (nI j))]) (st2 := [.int 4, .int (nI j)]) (w3 := w) rfl rfl ?_
  refine sx_RP.br (p1 := 173) (l1 := [(0, .ref 111), (1, .int (nI src)), (2, .int (nI g)), (3, .int (nI c)), (4, .int (nI j))]) (s1 := []) (v1 := w) (p2 := 59) (l2 := [(0, .ref 111), (1, .int (nI src)), (2, .int (nI g)), (3, .int (nI c)), (4, .int (nI j))]) (s2 := []) (v2 := w) rfl rfl (fun q1 => ?_) (fun q1 => ?_)
  · replace q1 := of_decide_eq_true q1
    replace q1 := (nI_leI (a := 4) (b := j) (by omega) (by omega)).mp q1
    exact sx_RP.ls (sx_lr.cons rfl (sx_lr.cons rfl (sx_lr.cons rfl sx_lr.nil))) (kx173 w hI hE)
  · replace q1 := of_decide_eq_false q1
    replace q1 := mt (nI_leI (a := 4) (b := j) (by omega) (by omega)).mpr q1
    refine sx_RP.step (pc2 := 60) (ls2 := [(0, .ref 111), (1, .int (nI src)), (2, .int (nI g)), (3, .int (nI c)), (4, .int (nI j))]) (st2 := [.int (nI c)]) (w3 := w) rfl rfl ?_
    refine sx_RP.step (pc2 := 62) (ls2 := [(0, .ref 111), (1, .int (nI src)), (2, .int (nI g)), (3, .int (nI c)), (4, .int (nI j))]) (st2 := [.int (nI j), .int (nI c)]) (w3 := w) rfl rfl ?_
    rcases bes_cases (c := c) (j := j) (by omega) (by omega) with q2 | ⟨x3, hx4, q2⟩
    · refine sx_RP.cu (as := [.int (nI c), .int (nI j)]) (rest2 := []) (st3 := [.int (-1)]) rfl rfl rfl rfl rfl (cb_142e (by omega) (by omega) q2) rfl ?_
      refine sx_RP.step (pc2 := 67) (ls2 := [(5, .int (-1)), (0, .ref 111), (1, .int (nI src)), (2, .int (nI g)), (3, .int (nI c)), (4, .int (nI j))]) (st2 := []) (w3 := w) rfl rfl ?_
      refine sx_RP.step (pc2 := 69) (ls2 := [(5, .int (-1)), (0, .ref 111), (1, .int (nI src)), (2, .int (nI g)), (3, .int (nI c)), (4, .int (nI j))]) (st2 := [.int (-1)]) (w3 := w) rfl rfl ?_
      refine sx_RP.step (pc2 := 90) (ls2 := [(5, .int (-1)), (0, .ref 111), (1, .int (nI src)), (2, .int (nI g)), (3, .int (nI c)), (4, .int (nI j))]) (st2 := []) (w3 := w) rfl rfl ?_
      refine sx_RP.step (pc2 := 91) (ls2 := [(5, .int (-1)), (0, .ref 111), (1, .int (nI src)), (2, .int (nI g)), (3, .int (nI c)), (4, .int (nI j))]) (st2 := [.int 0]) (w3 := w) rfl rfl ?_
      refine sx_RP.step (pc2 := 93) (ls2 := [(6, .int 0), (5, .int (-1)), (0, .ref 111), (1, .int (nI src)), (2, .int (nI g)), (3, .int (nI c)), (4, .int (nI j))]) (st2 := []) (w3 := w) rfl rfl ?_
      refine sx_RP.step (pc2 := 95) (ls2 := [(6, .int 0), (5, .int (-1)), (0, .ref 111), (1, .int (nI src)), (2, .int (nI g)), (3, .int (nI c)), (4, .int (nI j))]) (st2 := [.int 0]) (w3 := w) rfl rfl ?_
      refine sx_RP.step (pc2 := 98) (ls2 := [(6, .int 0), (5, .int (-1)), (0, .ref 111), (1, .int (nI src)), (2, .int (nI g)), (3, .int (nI c)), (4, .int (nI j))]) (st2 := []) (w3 := w) rfl rfl ?_
      refine sx_RP.step (pc2 := 99) (ls2 := [(6, .int 0), (5, .int (-1)), (0, .ref 111), (1, .int (nI src)), (2, .int (nI g)), (3, .int (nI c)), (4, .int (nI j))]) (st2 := [.int 0]) (w3 := w) rfl rfl ?_
      refine sx_RP.step (pc2 := 129) (ls2 := [(6, .int 0), (5, .int (-1)), (0, .ref 111), (1, .int (nI src)), (2, .int (nI g)), (3, .int (nI c)), (4, .int (nI j))]) (st2 := [.int 0]) (w3 := w) rfl rfl ?_
      refine sx_RP.step (pc2 := 131) (ls2 := [(7, .int 0), (6, .int 0), (5, .int (-1)), (0, .ref 111), (1, .int (nI src)), (2, .int (nI g)), (3, .int (nI c)), (4, .int (nI j))]) (st2 := []) (w3 := w) rfl rfl ?_
      refine sx_RP.step (pc2 := 133) (ls2 := [(7, .int 0), (6, .int 0), (5, .int (-1)), (0, .ref 111), (1, .int (nI src)), (2, .int (nI g)), (3, .int (nI c)), (4, .int (nI j))]) (st2 := [.int 0]) (w3 := w) rfl rfl ?_
      refine sx_RP.step (pc2 := 167) (ls2 := [(7, .int 0), (6, .int 0), (5, .int (-1)), (0, .ref 111), (1, .int (nI src)), (2, .int (nI g)), (3, .int (nI c)), (4, .int (nI j))]) (st2 := []) (w3 := w) rfl rfl ?_
      refine sx_RP.step (pc2 := 170) (ls2 := [(4, .int ((nI j) + 1)), (7, .int 0), (6, .int 0), (5, .int (-1)), (0, .ref 111), (1, .int (nI src)), (2, .int (nI g)), (3, .int (nI c))]) (st2 := []) (w3 := w) rfl rfl ?_
      rw [nI_1 j]
      refine sx_RP.step (pc2 := 53) (ls2 := [(4, .int (nI (j + 1))), (7, .int 0), (6, .int 0), (5, .int (-1)), (0, .ref 111), (1, .int (nI src)), (2, .int (nI g)), (3, .int (nI c))]) (st2 := []) (w3 := w) rfl rfl ?_
      exact sx_RP.ls (sx_lr.cons rfl (sx_lr.cons rfl (sx_lr.cons rfl (sx_lr.cons rfl (sx_lr.cons rfl sx_lr.nil))))) (kk w hI hE (by omega))
    · refine sx_RP.cu (as := [.int (nI c), .int (nI j)]) (rest2 := []) (st3 := [.int (nI x3)]) rfl rfl rfl rfl rfl (cb_142e (by omega) (by omega) q2) rfl ?_
      refine sx_RP.step (pc2 := 67) (ls2 := [(5, .int (nI x3)), (0, .ref 111), (1, .int (nI src)), (2, .int (nI g)), (3, .int (nI c)), (4, .int (nI j))]) (st2 := []) (w3 := w) rfl rfl ?_
      refine sx_RP.step (pc2 := 69) (ls2 := [(5, .int (nI x3)), (0, .ref 111), (1, .int (nI src)), (2, .int (nI g)), (3, .int (nI c)), (4, .int (nI j))]) (st2 := [.int (nI x3)]) (w3 := w) rfl rfl ?_
      refine sx_RP.br (p2 := 72) (l2 := [(5, .int (nI x3)), (0, .ref 111), (1, .int (nI src)), (2, .int (nI g)), (3, .int (nI c)), (4, .int (nI j))]) (s2 := []) (v2 := w) rfl rfl (fun q => absurd (of_decide_eq_true q) (nI_pos (by omega))) (fun _ => ?_)
      refine sx_RP.step (pc2 := 73) (ls2 := [(5, .int (nI x3)), (0, .ref 111), (1, .int (nI src)), (2, .int (nI g)), (3, .int (nI c)), (4, .int (nI j))]) (st2 := [.int (nI g)]) (w3 := w) rfl rfl ?_
      refine sx_RP.br (p2 := 76) (l2 := [(5, .int (nI x3)), (0, .ref 111), (1, .int (nI src)), (2, .int (nI g)), (3, .int (nI c)), (4, .int (nI j))]) (s2 := []) (v2 := w) rfl rfl (fun q => absurd (of_decide_eq_true q) (nI_pos (by omega))) (fun _ => ?_)
      refine sx_RP.step (pc2 := 77) (ls2 := [(5, .int (nI x3)), (0, .ref 111), (1, .int (nI src)), (2, .int (nI g)), (3, .int (nI c)), (4, .int (nI j))]) (st2 := [.ref 111]) (w3 := w) rfl rfl ?_
      refine sx_RP.step (pc2 := 78) (ls2 := [(5, .int (nI x3)), (0, .ref 111), (1, .int (nI src)), (2, .int (nI g)), (3, .int (nI c)), (4, .int (nI j))]) (st2 := [.int (nI g), .ref 111]) (w3 := w) rfl rfl ?_
      refine sx_RP.step (pc2 := 80) (ls2 := [(5, .int (nI x3)), (0, .ref 111), (1, .int (nI src)), (2, .int (nI g)), (3, .int (nI c)), (4, .int (nI j))]) (st2 := [.int (nI x3), .int (nI g), .ref 111]) (w3 := w) rfl rfl ?_
      obtain ⟨x5, hx6, c7⟩ := p143 hI (show g < 10 by omega) (show x3 < 48 by omega)
      refine sx_RP.cu (as := [.ref 111, .int (nI g), .int (nI x3)]) (rest2 := []) (st3 := [.int (nI x5)]) rfl rfl (sx_inv_v2 (mi := 141) (k := 80) (st := [.int (nI x3), .int (nI g), .ref 111]) (w := w) rfl rfl hI.1.o111 rfl rfl rfl) rfl rfl (c7) rfl ?_
      refine sx_RP.br (p1 := 90) (l1 := [(5, .int (nI x3)), (0, .ref 111), (1, .int (nI src)), (2, .int (nI g)), (3, .int (nI c)), (4, .int (nI j))]) (s1 := []) (v1 := w) (p2 := 86) (l2 := [(5, .int (nI x3)), (0, .ref 111), (1, .int (nI src)), (2, .int (nI g)), (3, .int (nI c)), (4, .int (nI j))]) (s2 := []) (v2 := w) rfl rfl (fun q8 => ?_) (fun q8 => ?_)
      · replace q8 := of_decide_eq_true q8
        replace q8 := (nI_eq (a := x5) (b := 0) (by omega) (by omega)).mp q8
        refine sx_RP.step (pc2 := 91) (ls2 := [(5, .int (nI x3)), (0, .ref 111), (1, .int (nI src)), (2, .int (nI g)), (3, .int (nI c)), (4, .int (nI j))]) (st2 := [.int 0]) (w3 := w) rfl rfl ?_
        refine sx_RP.step (pc2 := 93) (ls2 := [(6, .int 0), (5, .int (nI x3)), (0, .ref 111), (1, .int (nI src)), (2, .int (nI g)), (3, .int (nI c)), (4, .int (nI j))]) (st2 := []) (w3 := w) rfl rfl ?_
        refine sx_RP.step (pc2 := 95) (ls2 := [(6, .int 0), (5, .int (nI x3)), (0, .ref 111), (1, .int (nI src)), (2, .int (nI g)), (3, .int (nI c)), (4, .int (nI j))]) (st2 := [.int 0]) (w3 := w) rfl rfl ?_
        refine sx_RP.step (pc2 := 98) (ls2 := [(6, .int 0), (5, .int (nI x3)), (0, .ref 111), (1, .int (nI src)), (2, .int (nI g)), (3, .int (nI c)), (4, .int (nI j))]) (st2 := []) (w3 := w) rfl rfl ?_
        refine sx_RP.step (pc2 := 99) (ls2 := [(6, .int 0), (5, .int (nI x3)), (0, .ref 111), (1, .int (nI src)), (2, .int (nI g)), (3, .int (nI c)), (4, .int (nI j))]) (st2 := [.int 0]) (w3 := w) rfl rfl ?_
        refine sx_RP.step (pc2 := 129) (ls2 := [(6, .int 0), (5, .int (nI x3)), (0, .ref 111), (1, .int (nI src)), (2, .int (nI g)), (3, .int (nI c)), (4, .int (nI j))]) (st2 := [.int 0]) (w3 := w) rfl rfl ?_
        refine sx_RP.step (pc2 := 131) (ls2 := [(7, .int 0), (6, .int 0), (5, .int (nI x3)), (0, .ref 111), (1, .int (nI src)), (2, .int (nI g)), (3, .int (nI c)), (4, .int (nI j))]) (st2 := []) (w3 := w) rfl rfl ?_
        refine sx_RP.step (pc2 := 133) (ls2 := [(7, .int 0), (6, .int 0), (5, .int (nI x3)), (0, .ref 111), (1, .int (nI src)), (2, .int (nI g)), (3, .int (nI c)), (4, .int (nI j))]) (st2 := [.int 0]) (w3 := w) rfl rfl ?_
        refine sx_RP.step (pc2 := 167) (ls2 := [(7, .int 0), (6, .int 0), (5, .int (nI x3)), (0, .ref 111), (1, .int (nI src)), (2, .int (nI g)), (3, .int (nI c)), (4, .int (nI j))]) (st2 := []) (w3 := w) rfl rfl ?_
        refine sx_RP.step (pc2 := 170) (ls2 := [(4, .int ((nI j) + 1)), (7, .int 0), (6, .int 0), (5, .int (nI x3)), (0, .ref 111), (1, .int (nI src)), (2, .int (nI g)), (3, .int (nI c))]) (st2 := []) (w3 := w) rfl rfl ?_
        rw [nI_1 j]
        refine sx_RP.step (pc2 := 53) (ls2 := [(4, .int (nI (j + 1))), (7, .int 0), (6, .int 0), (5, .int (nI x3)), (0, .ref 111), (1, .int (nI src)), (2, .int (nI g)), (3, .int (nI c))]) (st2 := []) (w3 := w) rfl rfl ?_
        exact sx_RP.ls (sx_lr.cons rfl (sx_lr.cons rfl (sx_lr.cons rfl (sx_lr.cons rfl (sx_lr.cons rfl sx_lr.nil))))) (kk w hI hE (by omega))
      · replace q8 := of_decide_eq_false q8
        replace q8 := mt (nI_eq (a := x5) (b := 0) (by omega) (by omega)).mpr q8
        refine sx_RP.step (pc2 := 87) (ls2 := [(5, .int (nI x3)), (0, .ref 111), (1, .int (nI src)), (2, .int (nI g)), (3, .int (nI c)), (4, .int (nI j))]) (st2 := [.int 1]) (w3 := w) rfl rfl ?_
        refine sx_RP.step (pc2 := 91) (ls2 := [(5, .int (nI x3)), (0, .ref 111), (1, .int (nI src)), (2, .int (nI g)), (3, .int (nI c)), (4, .int (nI j))]) (st2 := [.int 1]) (w3 := w) rfl rfl ?_
        refine sx_RP.step (pc2 := 93) (ls2 := [(6, .int 1), (5, .int (nI x3)), (0, .ref 111), (1, .int (nI src)), (2, .int (nI g)), (3, .int (nI c)), (4, .int (nI j))]) (st2 := []) (w3 := w) rfl rfl ?_
        refine sx_RP.step (pc2 := 95) (ls2 := [(6, .int 1), (5, .int (nI x3)), (0, .ref 111), (1, .int (nI src)), (2, .int (nI g)), (3, .int (nI c)), (4, .int (nI j))]) (st2 := [.int 1]) (w3 := w) rfl rfl ?_
        refine sx_RP.step (pc2 := 102) (ls2 := [(6, .int 1), (5, .int (nI x3)), (0, .ref 111), (1, .int (nI src)), (2, .int (nI g)), (3, .int (nI c)), (4, .int (nI j))]) (st2 := []) (w3 := w) rfl rfl ?_
        refine sx_RP.step (pc2 := 103) (ls2 := [(6, .int 1), (5, .int (nI x3)), (0, .ref 111), (1, .int (nI src)), (2, .int (nI g)), (3, .int (nI c)), (4, .int (nI j))]) (st2 := [.ref 111]) (w3 := w) rfl rfl ?_
        refine sx_RP.gf (v := .ref 117) rfl rfl hI.1.o111 rfl rfl (show _ = 106 from rfl) ?_
        refine sx_RP.step (pc2 := 107) (ls2 := [(6, .int 1), (5, .int (nI x3)), (0, .ref 111), (1, .int (nI src)), (2, .int (nI g)), (3, .int (nI c)), (4, .int (nI j))]) (st2 := [.int (nI c), .ref 117]) (w3 := w) rfl rfl ?_
        refine sx_RP.ild (c := c) rfl hI.1.a117.1 hI.1.a117.2 (sx_in_nI (show c < 48 by omega) (by decide)) (show (nI c).toNatClampNeg = c from nI_clamp (by omega)) (show _ = 108 from rfl) ?_
        refine sx_RP.step (pc2 := 109) (ls2 := [(6, .int 1), (5, .int (nI x3)), (0, .ref 111), (1, .int (nI src)), (2, .int (nI g)), (3, .int (nI c)), (4, .int (nI j))]) (st2 := [.int (nI g), .int ((ia w 117).getD c 0)]) (w3 := w) rfl rfl ?_
        refine sx_RP.br (p1 := 121) (l1 := [(6, .int 1), (5, .int (nI x3)), (0, .ref 111), (1, .int (nI src)), (2, .int (nI g)), (3, .int (nI c)), (4, .int (nI j))]) (s1 := [.int ((ia w 117).getD c 0)]) (v1 := w) rfl rfl (fun _ => ?_) (fun q => absurd (nI_pos' (by omega)) (of_decide_eq_false q))
        refine sx_RP.step (pc2 := 122) (ls2 := [(6, .int 1), (5, .int (nI x3)), (0, .ref 111), (1, .int (nI src)), (2, .int (nI g)), (3, .int (nI c)), (4, .int (nI j))]) (st2 := [.ref 111, .int ((ia w 117).getD c 0)]) (w3 := w) rfl rfl ?_
        refine sx_RP.step (pc2 := 123) (ls2 := [(6, .int 1), (5, .int (nI x3)), (0, .ref 111), (1, .int (nI src)), (2, .int (nI g)), (3, .int (nI c)), (4, .int (nI j))]) (st2 := [.int (nI g), .ref 111, .int ((ia w 117).getD c 0)]) (w3 := w) rfl rfl ?_
        refine sx_RP.step (pc2 := 125) (ls2 := [(6, .int 1), (5, .int (nI x3)), (0, .ref 111), (1, .int (nI src)), (2, .int (nI g)), (3, .int (nI c)), (4, .int (nI j))]) (st2 := [.int (nI x3), .int (nI g), .ref 111, .int ((ia w 117).getD c 0)]) (w3 := w) rfl rfl ?_
        obtain ⟨v9, c10⟩ := p147 hI (show g < 10 by omega) (show x3 < 48 by omega)
        refine sx_RP.cu (as := [.ref 111, .int (nI g), .int (nI x3)]) (rest2 := [.int ((ia w 117).getD c 0)]) (st3 := [.int v9, .int ((ia w 117).getD c 0)]) rfl rfl (sx_inv_v2 (mi := 141) (k := 87) (st := [.int (nI x3), .int (nI g), .ref 111, .int ((ia w 117).getD c 0)]) (w := w) rfl rfl hI.1.o111 rfl rfl rfl) rfl rfl (c10) rfl ?_
        refine sx_RP.step (pc2 := 129) (ls2 := [(6, .int 1), (5, .int (nI x3)), (0, .ref 111), (1, .int (nI src)), (2, .int (nI g)), (3, .int (nI c)), (4, .int (nI j))]) (st2 := [.int (((ia w 117).getD c 0) + v9)]) (w3 := w) rfl rfl ?_
        refine sx_RP.step (pc2 := 131) (ls2 := [(7, .int (((ia w 117).getD c 0) + v9)), (6, .int 1), (5, .int (nI x3)), (0, .ref 111), (1, .int (nI src)), (2, .int (nI g)), (3, .int (nI c)), (4, .int (nI j))]) (st2 := []) (w3 := w) rfl rfl ?_
        refine sx_RP.step (pc2 := 133) (ls2 := [(7, .int (((ia w 117).getD c 0) + v9)), (6, .int 1), (5, .int (nI x3)), (0, .ref 111), (1, .int (nI src)), (2, .int (nI g)), (3, .int (nI c)), (4, .int (nI j))]) (st2 := [.int 1]) (w3 := w) rfl rfl ?_
        refine sx_RP.step (pc2 := 136) (ls2 := [(7, .int (((ia w 117).getD c 0) + v9)), (6, .int 1), (5, .int (nI x3)), (0, .ref 111), (1, .int (nI src)), (2, .int (nI g)), (3, .int (nI c)), (4, .int (nI j))]) (st2 := []) (w3 := w) rfl rfl ?_
        refine sx_RP.step (pc2 := 137) (ls2 := [(7, .int (((ia w 117).getD c 0) + v9)), (6, .int 1), (5, .int (nI x3)), (0, .ref 111), (1, .int (nI src)), (2, .int (nI g)), (3, .int (nI c)), (4, .int (nI j))]) (st2 := [.ref 111]) (w3 := w) rfl rfl ?_
        refine sx_RP.gf (v := .ref 117) rfl rfl hI.1.o111 rfl rfl (show _ = 140 from rfl) ?_
        refine sx_RP.step (pc2 := 142) (ls2 := [(7, .int (((ia w 117).getD c 0) + v9)), (6, .int 1), (5, .int (nI x3)), (0, .ref 111), (1, .int (nI src)), (2, .int (nI g)), (3, .int (nI c)), (4, .int (nI j))]) (st2 := [.int (nI x3), .ref 117]) (w3 := w) rfl rfl ?_
        refine sx_RP.ild (c := x3) rfl hI.1.a117.1 hI.1.a117.2 (sx_in_nI (show x3 < 48 by omega) (by decide)) (show (nI x3).toNatClampNeg = x3 from nI_clamp (by omega)) (show _ = 143 from rfl) ?_
        refine sx_RP.br (p1 := 158) (l1 := [(7, .int (((ia w 117).getD c 0) + v9)), (6, .int 1), (5, .int (nI x3)), (0, .ref 111), (1, .int (nI src)), (2, .int (nI g)), (3, .int (nI c)), (4, .int (nI j))]) (s1 := []) (v1 := w) (p2 := 146) (l2 := [(7, .int (((ia w 117).getD c 0) + v9)), (6, .int 1), (5, .int (nI x3)), (0, .ref 111), (1, .int (nI src)), (2, .int (nI g)), (3, .int (nI c)), (4, .int (nI j))]) (s2 := []) (v2 := w) rfl rfl (fun q11 => ?_) (fun q11 => ?_)
        · replace q11 := of_decide_eq_true q11
          refine sx_RP.step (pc2 := 159) (ls2 := [(7, .int (((ia w 117).getD c 0) + v9)), (6, .int 1), (5, .int (nI x3)), (0, .ref 111), (1, .int (nI src)), (2, .int (nI g)), (3, .int (nI c)), (4, .int (nI j))]) (st2 := [.ref 111]) (w3 := w) rfl rfl ?_
          refine sx_RP.gf (v := .ref 117) rfl rfl hI.1.o111 rfl rfl (show _ = 162 from rfl) ?_
          refine sx_RP.step (pc2 := 164) (ls2 := [(7, .int (((ia w 117).getD c 0) + v9)), (6, .int 1), (5, .int (nI x3)), (0, .ref 111), (1, .int (nI src)), (2, .int (nI g)), (3, .int (nI c)), (4, .int (nI j))]) (st2 := [.int (nI x3), .ref 117]) (w3 := w) rfl rfl ?_
          refine sx_RP.step (pc2 := 166) (ls2 := [(7, .int (((ia w 117).getD c 0) + v9)), (6, .int 1), (5, .int (nI x3)), (0, .ref 111), (1, .int (nI src)), (2, .int (nI g)), (3, .int (nI c)), (4, .int (nI j))]) (st2 := [.int (((ia w 117).getD c 0) + v9), .int (nI x3), .ref 117]) (w3 := w) rfl rfl ?_
          refine sx_RP.mFW hI hE rfl hI.1.a117 (sx_in_nI (show x3 < 48 by omega) (by decide)) (by decide) (show _ = 167 from rfl) (fun w12 hI13 hE14 hk15 => ?_)
          refine sx_RP.step (pc2 := 170) (ls2 := [(4, .int ((nI j) + 1)), (7, .int (((ia w 117).getD c 0) + v9)), (6, .int 1), (5, .int (nI x3)), (0, .ref 111), (1, .int (nI src)), (2, .int (nI g)), (3, .int (nI c))]) (st2 := []) (w3 := w12) rfl rfl ?_
          rw [nI_1 j]
          refine sx_RP.step (pc2 := 53) (ls2 := [(4, .int (nI (j + 1))), (7, .int (((ia w 117).getD c 0) + v9)), (6, .int 1), (5, .int (nI x3)), (0, .ref 111), (1, .int (nI src)), (2, .int (nI g)), (3, .int (nI c))]) (st2 := []) (w3 := w12) rfl rfl ?_
          exact sx_RP.ls (sx_lr.cons rfl (sx_lr.cons rfl (sx_lr.cons rfl (sx_lr.cons rfl (sx_lr.cons rfl sx_lr.nil))))) (kk w12 hI13 hE14 (by omega))
        · replace q11 := of_decide_eq_false q11
          refine sx_RP.step (pc2 := 148) (ls2 := [(7, .int (((ia w 117).getD c 0) + v9)), (6, .int 1), (5, .int (nI x3)), (0, .ref 111), (1, .int (nI src)), (2, .int (nI g)), (3, .int (nI c)), (4, .int (nI j))]) (st2 := [.int (((ia w 117).getD c 0) + v9)]) (w3 := w) rfl rfl ?_
          refine sx_RP.step (pc2 := 149) (ls2 := [(7, .int (((ia w 117).getD c 0) + v9)), (6, .int 1), (5, .int (nI x3)), (0, .ref 111), (1, .int (nI src)), (2, .int (nI g)), (3, .int (nI c)), (4, .int (nI j))]) (st2 := [.ref 111, .int (((ia w 117).getD c 0) + v9)]) (w3 := w) rfl rfl ?_
          refine sx_RP.gf (v := .ref 117) rfl rfl hI.1.o111 rfl rfl (show _ = 152 from rfl) ?_
          refine sx_RP.step (pc2 := 154) (ls2 := [(7, .int (((ia w 117).getD c 0) + v9)), (6, .int 1), (5, .int (nI x3)), (0, .ref 111), (1, .int (nI src)), (2, .int (nI g)), (3, .int (nI c)), (4, .int (nI j))]) (st2 := [.int (nI x3), .ref 117, .int (((ia w 117).getD c 0) + v9)]) (w3 := w) rfl rfl ?_
          refine sx_RP.ild (c := x3) rfl hI.1.a117.1 hI.1.a117.2 (sx_in_nI (show x3 < 48 by omega) (by decide)) (show (nI x3).toNatClampNeg = x3 from nI_clamp (by omega)) (show _ = 155 from rfl) ?_
          refine sx_RP.br (p1 := 167) (l1 := [(7, .int (((ia w 117).getD c 0) + v9)), (6, .int 1), (5, .int (nI x3)), (0, .ref 111), (1, .int (nI src)), (2, .int (nI g)), (3, .int (nI c)), (4, .int (nI j))]) (s1 := []) (v1 := w) (p2 := 158) (l2 := [(7, .int (((ia w 117).getD c 0) + v9)), (6, .int 1), (5, .int (nI x3)), (0, .ref 111), (1, .int (nI src)), (2, .int (nI g)), (3, .int (nI c)), (4, .int (nI j))]) (s2 := []) (v2 := w) rfl rfl (fun q16 => ?_) (fun q16 => ?_)
          · replace q16 := of_decide_eq_true q16
            refine sx_RP.step (pc2 := 170) (ls2 := [(4, .int ((nI j) + 1)), (7, .int (((ia w 117).getD c 0) + v9)), (6, .int 1), (5, .int (nI x3)), (0, .ref 111), (1, .int (nI src)), (2, .int (nI g)), (3, .int (nI c))]) (st2 := []) (w3 := w) rfl rfl ?_
            rw [nI_1 j]
            refine sx_RP.step (pc2 := 53) (ls2 := [(4, .int (nI (j + 1))), (7, .int (((ia w 117).getD c 0) + v9)), (6, .int 1), (5, .int (nI x3)), (0, .ref 111), (1, .int (nI src)), (2, .int (nI g)), (3, .int (nI c))]) (st2 := []) (w3 := w) rfl rfl ?_
            exact sx_RP.ls (sx_lr.cons rfl (sx_lr.cons rfl (sx_lr.cons rfl (sx_lr.cons rfl (sx_lr.cons rfl sx_lr.nil))))) (kk w hI hE (by omega))
          · replace q16 := of_decide_eq_false q16
            refine sx_RP.step (pc2 := 159) (ls2 := [(7, .int (((ia w 117).getD c 0) + v9)), (6, .int 1), (5, .int (nI x3)), (0, .ref 111), (1, .int (nI src)), (2, .int (nI g)), (3, .int (nI c)), (4, .int (nI j))]) (st2 := [.ref 111]) (w3 := w) rfl rfl ?_
            refine sx_RP.gf (v := .ref 117) rfl rfl hI.1.o111 rfl rfl (show _ = 162 from rfl) ?_
            refine sx_RP.step (pc2 := 164) (ls2 := [(7, .int (((ia w 117).getD c 0) + v9)), (6, .int 1), (5, .int (nI x3)), (0, .ref 111), (1, .int (nI src)), (2, .int (nI g)), (3, .int (nI c)), (4, .int (nI j))]) (st2 := [.int (nI x3), .ref 117]) (w3 := w) rfl rfl ?_
            refine sx_RP.step (pc2 := 166) (ls2 := [(7, .int (((ia w 117).getD c 0) + v9)), (6, .int 1), (5, .int (nI x3)), (0, .ref 111), (1, .int (nI src)), (2, .int (nI g)), (3, .int (nI c)), (4, .int (nI j))]) (st2 := [.int (((ia w 117).getD c 0) + v9), .int (nI x3), .ref 117]) (w3 := w) rfl rfl ?_
            refine sx_RP.mFW hI hE rfl hI.1.a117 (sx_in_nI (show x3 < 48 by omega) (by decide)) (by decide) (show _ = 167 from rfl) (fun w17 hI18 hE19 hk20 => ?_)
            refine sx_RP.step (pc2 := 170) (ls2 := [(4, .int ((nI j) + 1)), (7, .int (((ia w 117).getD c 0) + v9)), (6, .int 1), (5, .int (nI x3)), (0, .ref 111), (1, .int (nI src)), (2, .int (nI g)), (3, .int (nI c))]) (st2 := []) (w3 := w17) rfl rfl ?_
            rw [nI_1 j]
            refine sx_RP.step (pc2 := 53) (ls2 := [(4, .int (nI (j + 1))), (7, .int (((ia w 117).getD c 0) + v9)), (6, .int 1), (5, .int (nI x3)), (0, .ref 111), (1, .int (nI src)), (2, .int (nI g)), (3, .int (nI c))]) (st2 := []) (w3 := w17) rfl rfl ?_
            exact sx_RP.ls (sx_lr.cons rfl (sx_lr.cons rfl (sx_lr.cons rfl (sx_lr.cons rfl (sx_lr.cons rfl sx_lr.nil))))) (kk w17 hI18 hE19 (by omega))
set_option maxRecDepth 20000 in
set_option maxHeartbeats 4000000 in
theorem s141jL {xs : Option (List Int32)} {d : Nat} {w0 : List sx_C} {P : Option Value → List sx_C → Prop} {src g c : Nat} (hg : g < 10) (hc : c < 48) (kx173 : ∀ (w4 : List sx_C), WI w4 → EW w0 w4 → sx_RP xs (d + 3) 141 173 [(0, .ref 111), (1, .int (nI src)), (2, .int (nI g))] [] w4 P) : ∀ (fz j : Nat) (w : List sx_C) , 4 ≤ j + fz * 1 → j ≤ 4 → WI w → EW w0 w → sx_RP xs (d + 3) 141 53 [(0, .ref 111), (1, .int (nI src)), (2, .int (nI g)), (3, .int (nI c)), (4, .int (nI j))] [] w P
  | 0, j, w, h, hj, hI, hE => s141jB hg hc hI hE hj   (fun w4  hI4 hE4 hlt  => absurd hlt (by omega)) kx173
  | fz + 1, j, w, h, hj, hI, hE => s141jB hg hc hI hE hj   (fun w4  hI4 hE4 hlt  => s141jL hg hc kx173 fz (j + 1) w4  (by omega) hlt hI4 hE4 ) kx173

set_option maxRecDepth 20000 in
set_option maxHeartbeats 4000000 in
theorem s141z {xs : Option (List Int32)} {d : Nat} {w : List sx_C} {P : Option Value → List sx_C → Prop} {src g : Nat} {b : Int32} (q : b < 0) (kk : P none w) : sx_RP xs d 141 39 [(0, .ref 111), (1, .int (nI src)), (2, .int (nI g)), (3, .int b)] [] w P := by
  refine sx_RP.step (pc2 := 40) (ls2 := [(0, .ref 111), (1, .int (nI src)), (2, .int (nI g)), (3, .int b)]) (st2 := [.int b]) (w3 := w) rfl rfl ?_
  refine sx_RP.br (p1 := 181) (l1 := [(0, .ref 111), (1, .int (nI src)), (2, .int (nI g)), (3, .int b)]) (s1 := []) (v1 := w) rfl rfl (fun _ => ?_) (fun z => absurd q (of_decide_eq_false z))
  exact ⟨none, w, sx_RU.ret rfl rfl, kk⟩
set_option maxRecDepth 20000 in
set_option maxHeartbeats 4000000 in
theorem s141m {xs : Option (List Int32)} {d : Nat} {w w0 : List sx_C} {P : Option Value → List sx_C → Prop} {src g c : Nat} (hg : g < 10) (hI : WI w) (hE : EM w0 w) (hc : c < 48) (kk : ∀ w2 wy, WI w2 → EM w0 w2 → ia w2 118 = (ia w 118).set c 1 → sx_RP xs (d + 3) 141 39 [(0, .ref 111), (1, .int (nI src)), (2, .int (nI g)), (3, .int (nrF wy (ia w2 118) 48 0 (-1)))] [] w2 P) : sx_RP xs (d + 3) 141 39 [(0, .ref 111), (1, .int (nI src)), (2, .int (nI g)), (3, .int (nI c))] [] w P := by
  have h8 := hI.1.a118
  have hI1 : WI (w.set 118 (.inl (1, (ia w 118).set c 1))) := hI.set h8.1 sh_set (cOK.free (by omega))
  have hE1 : EM w0 (w.set 118 (.inl (1, (ia w 118).set c 1))) := hE.set h8.1 (by omega) (kp_n (by omega))
  have e1 : ia (w.set 118 (.inl (1, (ia w 118).set c 1))) 118 = (ia w 118).set c 1 := ia_set h8.1
  refine sx_RP.step (pc2 := 40) (ls2 := [(0, .ref 111), (1, .int (nI src)), (2, .int (nI g)), (3, .int (nI c))]) (st2 := [.int (nI c)]) (w3 := w) rfl rfl ?_
  refine sx_RP.br (p2 := 43) (l2 := [(0, .ref 111), (1, .int (nI src)), (2, .int (nI g)), (3, .int (nI c))]) (s2 := []) (v2 := w) rfl rfl (fun q => absurd (of_decide_eq_true q) (nI_pos (by omega))) (fun _ => ?_)
  refine sx_RP.step (pc2 := 44) (ls2 := [(0, .ref 111), (1, .int (nI src)), (2, .int (nI g)), (3, .int (nI c))]) (st2 := [.ref 111]) (w3 := w) rfl rfl ?_
  refine sx_RP.gf (v := .ref 118) rfl rfl hI.1.o111 rfl rfl (show _ = 47 from rfl) ?_
  refine sx_RP.step (pc2 := 48) (ls2 := [(0, .ref 111), (1, .int (nI src)), (2, .int (nI g)), (3, .int (nI c))]) (st2 := [.int (nI c), .ref 118]) (w3 := w) rfl rfl ?_
  refine sx_RP.step (pc2 := 49) (ls2 := [(0, .ref 111), (1, .int (nI src)), (2, .int (nI g)), (3, .int (nI c))]) (st2 := [.int 1, .int (nI c), .ref 118]) (w3 := w) rfl rfl ?_
  refine sx_RP.bst1 (c := c) (w2 := (w.set 118 (.inl (1, (ia w 118).set c 1)))) rfl h8.1 h8.2 (sx_in_nI hc (by decide)) (nI_clamp (by have := hc; omega)) rfl (show _ = 50 from rfl) ?_
  revert hI1 hE1 e1
  generalize w.set 118 (.inl (1, (ia w 118).set c 1)) = w1
  intro hI1 hE1 e1
  refine sx_RP.step (pc2 := 51) (ls2 := [(0, .ref 111), (1, .int (nI src)), (2, .int (nI g)), (3, .int (nI c))]) (st2 := [.int 0]) (w3 := w1) rfl rfl ?_
  refine sx_RP.step (pc2 := 53) (ls2 := [(4, .int (nI 0)), (0, .ref 111), (1, .int (nI src)), (2, .int (nI g)), (3, .int (nI c))]) (st2 := []) (w3 := w1) rfl rfl ?_
  refine sx_RP.ls (sx_lr.cons rfl (sx_lr.cons rfl (sx_lr.cons rfl (sx_lr.cons rfl (sx_lr.cons rfl sx_lr.nil))))) (s141jL hg hc (fun w4 hI4 hE4 => ?_) 4 0 w1 (by omega) (by omega) hI1 EW.rf)
  refine sx_RP.step (pc2 := 174) (ls2 := [(0, .ref 111), (1, .int (nI src)), (2, .int (nI g))]) (st2 := [.ref 111]) (w3 := w4) rfl rfl ?_
  refine sx_RP.cu (as := [.ref 111]) (rest2 := []) (st3 := [.int (nrF (ia w4 117) (ia w4 118) 48 0 (-1))]) rfl rfl (sx_inv_v2 (mi := 141) (k := 90) (st := [.ref 111]) (w := w4) rfl rfl hI4.1.o111 rfl rfl rfl) rfl rfl (cp_149 hI4.1.o111 hI4.1.a117.1 hI4.1.a118.1 hI4.1.a117.2 hI4.1.a118.2) rfl ?_
  refine sx_RP.step (pc2 := 178) (ls2 := [(3, .int (nrF (ia w4 117) (ia w4 118) 48 0 (-1))), (0, .ref 111), (1, .int (nI src)), (2, .int (nI g))]) (st2 := []) (w3 := w4) rfl rfl ?_
  refine sx_RP.step (pc2 := 39) (ls2 := [(3, .int (nrF (ia w4 117) (ia w4 118) 48 0 (-1))), (0, .ref 111), (1, .int (nI src)), (2, .int (nI g))]) (st2 := []) (w3 := w4) rfl rfl ?_
  exact sx_RP.ls (sx_lr.cons rfl (sx_lr.cons rfl (sx_lr.cons rfl (sx_lr.cons rfl sx_lr.nil)))) (kk w4 _ hI4 (hE1.tr hE4.1) (hE4.2.trans e1))
theorem s141o {xs : Option (List Int32)} {d : Nat} {w0 : List sx_C} {src g : Nat} (hg : g < 10) : ∀ (f : Nat) (b : Int32) (w : List sx_C), (ia w 118).count 0 ≤ f → nrOK (ia w 118) b → WI w → EM w0 w → sx_RP xs (d + 3) 141 39 [(0, .ref 111), (1, .int (nI src)), (2, .int (nI g)), (3, .int b)] [] w (fun r w2 => r = none ∧ WI w2 ∧ EM w0 w2)
  | 0, b, w, hf, hb, hI, hE => by
    rcases hb with hb | ⟨c, hc, rfl, h0⟩
    · exact s141z hb ⟨rfl, hI, hE⟩
    · exact absurd (cnt_pos (by rw [hI.1.a118.2]; exact hc) h0) (by omega)
  | f + 1, b, w, hf, hb, hI, hE => by
    rcases hb with hb | ⟨c, hc, rfl, h0⟩
    · exact s141z hb ⟨rfl, hI, hE⟩
    · refine s141m hg hI hE hc (fun w2 wy h1 h2 h3 => s141o hg f _ w2 ?_ (nrF_ok 48 0 _ rfl (Or.inl (by decide))) h1 h2)
      rw [h3]
      exact cnt_set (by rw [hI.1.a118.2]; exact hc) h0 hf
set_option maxRecDepth 20000 in
set_option maxHeartbeats 4000000 in
theorem s141d {xs : Option (List Int32)} {d : Nat} {w : List sx_C} (hI : WI w) {src g : Nat} (hs : src < 48) (hg : g < 10) : sx_RP xs (d + 3) 141 0 (lv_args 0 [.ref 111, .int (nI src), .int (nI g)]) [] w (fun r w2 => r = none ∧ WI w2 ∧ EM w w2) := by
  refine sx_RP.step (pc2 := 1) (ls2 := [(0, .ref 111), (1, .int (nI src)), (2, .int (nI g))]) (st2 := [.int 0]) (w3 := w) rfl rfl ?_
  refine sx_RP.step (pc2 := 2) (ls2 := [(3, .int (nI 0)), (0, .ref 111), (1, .int (nI src)), (2, .int (nI g))]) (st2 := []) (w3 := w) rfl rfl ?_
  refine sx_RP.ls (sx_lr.cons rfl (sx_lr.cons rfl (sx_lr.cons rfl (sx_lr.cons rfl sx_lr.nil)))) (s141nL hs (fun w4 hI4 hE4 => ?_) 48 0 w (by omega) (by omega) hI EM.rf)
  refine sx_RP.step (pc2 := 38) (ls2 := [(0, .ref 111), (1, .int (nI src)), (2, .int (nI g))]) (st2 := [.int (nI src)]) (w3 := w4) rfl rfl ?_
  refine sx_RP.step (pc2 := 39) (ls2 := [(3, .int (nI src)), (0, .ref 111), (1, .int (nI src)), (2, .int (nI g))]) (st2 := []) (w3 := w4) rfl rfl ?_
  refine sx_RP.ls (sx_lr.cons rfl (sx_lr.cons rfl (sx_lr.cons rfl (sx_lr.cons rfl sx_lr.nil)))) (s141m hg hI4 hE4 hs (fun w2 wy h1 h2 _ => s141o hg 48 _ w2 ?_ (nrF_ok 48 0 _ rfl (Or.inl (by decide))) h1 h2))
  exact Nat.le_trans List.count_le_length (by rw [h1.1.a118.2]; exact Nat.le_refl _)
theorem wkF_len {s : List Int32} : ∀ (f : Nat) (b : Int32) (wy su : List Int32), wy.length = 48 → su.length = 48 → (wkF s f b wy su).1.length = 48 ∧ (wkF s f b wy su).2.length = 48
  | 0, b, wy, su, h1, h2 => ⟨h1, h2⟩
  | f + 1, b, wy, su, h1, h2 => by
    rw [wkF]
    split
    · exact ⟨h1, h2⟩
    · exact wkF_len f _ _ _ (wrF_len 4 0 _ h1) (sx_ls h2)
theorem s141s {xs : Option (List Int32)} {d : Nat} {w : List sx_C} (hI : WI w) {src : Nat} (hs : src < 48) : sx_RP xs (d + 1) 141 0 (lv_args 0 [.ref 111, .int (nI src), .int (-1)]) [] w (fun r w2 => r = none ∧ WI w2 ∧ EM w w2 ∧ ia w2 112 = ia w 112 ∧ wA (ia w 112) src 1000 (ia w2 117) ∧ ∀ c, c < 48 → (ia w2 117).getD c 0 ≠ -1) := by
  have h2 := hI.1.aM (a := 112) (by omega)
  have h7 := hI.1.a117
  have h8 := hI.1.a118
  have hw := wlF_inv (s := ia w 112) hs h7.2 h8.2
  have hl : (wlF (ia w 112) src (ia w 117) (ia w 118)).1.length = 48 ∧ (wlF (ia w 112) src (ia w 117) (ia w 118)).2.length = 48 := wkF_len 49 _ _ _ (wiF_len 48 0 _ h7.2) (flF_len 48 0 _ h8.2)
  have hc := cp_141 (xs := xs) (d := d) hI.1.o111 h2.1 h7.1 h8.1 h2.2 h7.2 h8.2 hs
  revert hw hl hc
  generalize wlF (ia w 112) src (ia w 117) (ia w 118) = p
  obtain ⟨wy, su⟩ := p
  intro hw hl hc
  have e7 : sx_sh (.inl (0, wy)) = sx_sh (.inl (0, ia w 117)) := by
    show (Sum.inl (0, List.replicate wy.length (0 : Int32)) : sx_C) = Sum.inl (0, List.replicate (ia w 117).length 0)
    rw [h7.2, hl.1]
  have e8 : sx_sh (.inl (1, su)) = sx_sh (.inl (1, ia w 118)) := by
    show (Sum.inl (1, List.replicate su.length (0 : Int32)) : sx_C) = Sum.inl (1, List.replicate (ia w 118).length 0)
    rw [h8.2, hl.2]
  have h8b : (w.set 117 (.inl (0, wy)))[118]? = some (.inl (1, ia w 118)) := by
    rw [List.getElem?_set_ne (by decide)]
    exact h8.1
  refine ⟨none, _, hc, rfl, (hI.set h7.1 e7 (cOK.free (by omega))).set h8b e8 (cOK.free (by omega)), (EM.rf.set h7.1 (by omega) (kp_n (by omega))).set h8b (by omega) (kp_n (by omega)), ?_, ?_⟩
  · rw [ia_ne (by omega), ia_ne (by omega)]
  · rw [ia_ne (by omega), ia_set h7.1]
    exact hw
