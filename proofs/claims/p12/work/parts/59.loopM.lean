-- safety: loops of the reference
set_option maxRecDepth 20000 in
set_option maxHeartbeats 4000000 in
theorem p172B {xs : Option (List Int32)} {d : Nat} {w : List sx_C} {c : Nat} (hc : c < 48) (y : Int32) (hI : WI w) {j : Nat} (hj : j ≤ 4) (i : Nat) (hi : i ≤ 1) (kk : ∀ (ui : Nat), j + 1 ≤ 4 → ui ≤ 1 → sx_RP xs (d + 1) 172 13 [(0, .int (nI c)), (1, .int y), (2, .int (nI ui)), (3, .int (nI (j + 1)))] [] w (fun r w2 => (∃ j, j ≤ 1 ∧ r = some (.int (nI j))) ∧ w2 = w)) : sx_RP xs (d + 1) 172 13 [(0, .int (nI c)), (1, .int y), (2, .int (nI i)), (3, .int (nI j))] [] w (fun r w2 => (∃ j, j ≤ 1 ∧ r = some (.int (nI j))) ∧ w2 = w) := by
  refine sx_RP.step (pc2 := 14) (ls2 := [(0, .int (nI c)), (1, .int y), (2, .int (nI i)), (3, .int (nI j))]) (st2 := [.int (nI j)]) (w3 := w) rfl rfl ?_
  refine sx_RP.step (pc2 := 15) (ls2 := [(0, .int (nI c)), (1, .int y), (2, .int (nI i)), (3, .int (nI j))]) (st2 := [.int 4, .int (nI j)]) (w3 := w) rfl rfl ?_
  refine sx_RP.br (p1 := 43) (l1 := [(0, .int (nI c)), (1, .int y), (2, .int (nI i)), (3, .int (nI j))]) (s1 := []) (v1 := w) (p2 := 18) (l2 := [(0, .int (nI c)), (1, .int y), (2, .int (nI i)), (3, .int (nI j))]) (s2 := []) (v2 := w) rfl rfl (fun q1 => ?_) (fun q1 => ?_)
  · replace q1 := of_decide_eq_true q1
    replace q1 := (nI_leI (a := 4) (b := j) (by omega) (by omega)).mp q1
    refine sx_RP.step (pc2 := 44) (ls2 := [(0, .int (nI c)), (1, .int y), (2, .int (nI i)), (3, .int (nI j))]) (st2 := [.int (nI i)]) (w3 := w) rfl rfl ?_
    refine sx_RP.ret (r := (some (.int (nI i)))) rfl (bo_ret rfl (inR.n (show i ≤ 1 by omega))) ?_
    exact ⟨⟨i, by omega, rfl⟩, rfl⟩
  · replace q1 := of_decide_eq_false q1
    replace q1 := mt (nI_leI (a := 4) (b := j) (by omega) (by omega)).mpr q1
    refine sx_RP.step (pc2 := 19) (ls2 := [(0, .int (nI c)), (1, .int y), (2, .int (nI i)), (3, .int (nI j))]) (st2 := [.int (nI i)]) (w3 := w) rfl rfl ?_
    refine sx_RP.br (p1 := 43) (l1 := [(0, .int (nI c)), (1, .int y), (2, .int (nI i)), (3, .int (nI j))]) (s1 := []) (v1 := w) (p2 := 22) (l2 := [(0, .int (nI c)), (1, .int y), (2, .int (nI i)), (3, .int (nI j))]) (s2 := []) (v2 := w) rfl rfl (fun q2 => ?_) (fun q2 => ?_)
    · replace q2 := of_decide_eq_true q2
      replace q2 := mt (nI_eq (a := i) (b := 0) (by omega) (by omega)).mpr q2
      refine sx_RP.step (pc2 := 44) (ls2 := [(0, .int (nI c)), (1, .int y), (2, .int (nI i)), (3, .int (nI j))]) (st2 := [.int (nI i)]) (w3 := w) rfl rfl ?_
      refine sx_RP.ret (r := (some (.int (nI i)))) rfl (bo_ret rfl (inR.n (show i ≤ 1 by omega))) ?_
      exact ⟨⟨i, by omega, rfl⟩, rfl⟩
    · replace q2 := Decidable.not_not.mp (of_decide_eq_false q2)
      replace q2 := (nI_eq (a := i) (b := 0) (by omega) (by omega)).mp q2
      refine sx_RP.step (pc2 := 23) (ls2 := [(0, .int (nI c)), (1, .int y), (2, .int (nI i)), (3, .int (nI j))]) (st2 := [.int (nI c)]) (w3 := w) rfl rfl ?_
      refine sx_RP.step (pc2 := 24) (ls2 := [(0, .int (nI c)), (1, .int y), (2, .int (nI i)), (3, .int (nI j))]) (st2 := [.int (nI j), .int (nI c)]) (w3 := w) rfl rfl ?_
      rcases bes_cases (c := c) (j := j) (by omega) (by omega) with q3 | ⟨x4, hx5, q3⟩
      · refine sx_RP.cu (as := [.int (nI c), .int (nI j)]) (rest2 := []) (st3 := [.int (-1)]) rfl rfl rfl rfl rfl (cb_142e (by omega) (by omega) q3) rfl ?_
        refine sx_RP.step (pc2 := 28) (ls2 := [(0, .int (nI c)), (1, .int y), (2, .int (nI i)), (3, .int (nI j))]) (st2 := [.int y, .int (-1)]) (w3 := w) rfl rfl ?_
        refine sx_RP.br (p1 := 35) (l1 := [(0, .int (nI c)), (1, .int y), (2, .int (nI i)), (3, .int (nI j))]) (s1 := []) (v1 := w) (p2 := 31) (l2 := [(0, .int (nI c)), (1, .int y), (2, .int (nI i)), (3, .int (nI j))]) (s2 := []) (v2 := w) rfl rfl (fun q6 => ?_) (fun q6 => ?_)
        · replace q6 := of_decide_eq_true q6
          refine sx_RP.step (pc2 := 36) (ls2 := [(0, .int (nI c)), (1, .int y), (2, .int (nI i)), (3, .int (nI j))]) (st2 := [.int 0]) (w3 := w) rfl rfl ?_
          refine sx_RP.step (pc2 := 37) (ls2 := [(2, .int 0), (0, .int (nI c)), (1, .int y), (3, .int (nI j))]) (st2 := []) (w3 := w) rfl rfl ?_
          refine sx_RP.step (pc2 := 40) (ls2 := [(3, .int ((nI j) + 1)), (2, .int 0), (0, .int (nI c)), (1, .int y)]) (st2 := []) (w3 := w) rfl rfl ?_
          rw [nI_1 j]
          refine sx_RP.step (pc2 := 13) (ls2 := [(3, .int (nI (j + 1))), (2, .int 0), (0, .int (nI c)), (1, .int y)]) (st2 := []) (w3 := w) rfl rfl ?_
          exact sx_RP.ls (sx_lr.cons rfl (sx_lr.cons rfl (sx_lr.cons rfl (sx_lr.cons rfl sx_lr.nil)))) (kk 0 (by omega) (by omega))
        · replace q6 := Decidable.not_not.mp (of_decide_eq_false q6)
          refine sx_RP.step (pc2 := 32) (ls2 := [(0, .int (nI c)), (1, .int y), (2, .int (nI i)), (3, .int (nI j))]) (st2 := [.int 1]) (w3 := w) rfl rfl ?_
          refine sx_RP.step (pc2 := 36) (ls2 := [(0, .int (nI c)), (1, .int y), (2, .int (nI i)), (3, .int (nI j))]) (st2 := [.int 1]) (w3 := w) rfl rfl ?_
          refine sx_RP.step (pc2 := 37) (ls2 := [(2, .int 1), (0, .int (nI c)), (1, .int y), (3, .int (nI j))]) (st2 := []) (w3 := w) rfl rfl ?_
          refine sx_RP.step (pc2 := 40) (ls2 := [(3, .int ((nI j) + 1)), (2, .int 1), (0, .int (nI c)), (1, .int y)]) (st2 := []) (w3 := w) rfl rfl ?_
          rw [nI_1 j]
          refine sx_RP.step (pc2 := 13) (ls2 := [(3, .int (nI (j + 1))), (2, .int 1), (0, .int (nI c)), (1, .int y)]) (st2 := []) (w3 := w) rfl rfl ?_
          exact sx_RP.ls (sx_lr.cons rfl (sx_lr.cons rfl (sx_lr.cons rfl (sx_lr.cons rfl sx_lr.nil)))) (kk 1 (by omega) (by omega))
      · refine sx_RP.cu (as := [.int (nI c), .int (nI j)]) (rest2 := []) (st3 := [.int (nI x4)]) rfl rfl rfl rfl rfl (cb_142e (by omega) (by omega) q3) rfl ?_
        refine sx_RP.step (pc2 := 28) (ls2 := [(0, .int (nI c)), (1, .int y), (2, .int (nI i)), (3, .int (nI j))]) (st2 := [.int y, .int (nI x4)]) (w3 := w) rfl rfl ?_
        refine sx_RP.br (p1 := 35) (l1 := [(0, .int (nI c)), (1, .int y), (2, .int (nI i)), (3, .int (nI j))]) (s1 := []) (v1 := w) (p2 := 31) (l2 := [(0, .int (nI c)), (1, .int y), (2, .int (nI i)), (3, .int (nI j))]) (s2 := []) (v2 := w) rfl rfl (fun q7 => ?_) (fun q7 => ?_)
        · replace q7 := of_decide_eq_true q7
          refine sx_RP.step (pc2 := 36) (ls2 := [(0, .int (nI c)), (1, .int y), (2, .int (nI i)), (3, .int (nI j))]) (st2 := [.int 0]) (w3 := w) rfl rfl ?_
          refine sx_RP.step (pc2 := 37) (ls2 := [(2, .int 0), (0, .int (nI c)), (1, .int y), (3, .int (nI j))]) (st2 := []) (w3 := w) rfl rfl ?_
          refine sx_RP.step (pc2 := 40) (ls2 := [(3, .int ((nI j) + 1)), (2, .int 0), (0, .int (nI c)), (1, .int y)]) (st2 := []) (w3 := w) rfl rfl ?_
          rw [nI_1 j]
          refine sx_RP.step (pc2 := 13) (ls2 := [(3, .int (nI (j + 1))), (2, .int 0), (0, .int (nI c)), (1, .int y)]) (st2 := []) (w3 := w) rfl rfl ?_
          exact sx_RP.ls (sx_lr.cons rfl (sx_lr.cons rfl (sx_lr.cons rfl (sx_lr.cons rfl sx_lr.nil)))) (kk 0 (by omega) (by omega))
        · replace q7 := Decidable.not_not.mp (of_decide_eq_false q7)
          refine sx_RP.step (pc2 := 32) (ls2 := [(0, .int (nI c)), (1, .int y), (2, .int (nI i)), (3, .int (nI j))]) (st2 := [.int 1]) (w3 := w) rfl rfl ?_
          refine sx_RP.step (pc2 := 36) (ls2 := [(0, .int (nI c)), (1, .int y), (2, .int (nI i)), (3, .int (nI j))]) (st2 := [.int 1]) (w3 := w) rfl rfl ?_
          refine sx_RP.step (pc2 := 37) (ls2 := [(2, .int 1), (0, .int (nI c)), (1, .int y), (3, .int (nI j))]) (st2 := []) (w3 := w) rfl rfl ?_
          refine sx_RP.step (pc2 := 40) (ls2 := [(3, .int ((nI j) + 1)), (2, .int 1), (0, .int (nI c)), (1, .int y)]) (st2 := []) (w3 := w) rfl rfl ?_
          rw [nI_1 j]
          refine sx_RP.step (pc2 := 13) (ls2 := [(3, .int (nI (j + 1))), (2, .int 1), (0, .int (nI c)), (1, .int y)]) (st2 := []) (w3 := w) rfl rfl ?_
          exact sx_RP.ls (sx_lr.cons rfl (sx_lr.cons rfl (sx_lr.cons rfl (sx_lr.cons rfl sx_lr.nil)))) (kk 1 (by omega) (by omega))
set_option maxRecDepth 20000 in
set_option maxHeartbeats 4000000 in
theorem p172L {xs : Option (List Int32)} {d : Nat} {w : List sx_C} {c : Nat} (hc : c < 48) (y : Int32) (hI : WI w) : ∀ (fz j : Nat) (i : Nat) , 4 ≤ j + fz * 1 → j ≤ 4 → i ≤ 1 → sx_RP xs (d + 1) 172 13 [(0, .int (nI c)), (1, .int y), (2, .int (nI i)), (3, .int (nI j))] [] w (fun r w2 => (∃ j, j ≤ 1 ∧ r = some (.int (nI j))) ∧ w2 = w)
  | 0, j, i, h, hj, hi => p172B hc y hI hj i hi (fun ui  hlt hui => absurd hlt (by omega)) 
  | fz + 1, j, i, h, hj, hi => p172B hc y hI hj i hi (fun ui  hlt hui => p172L hc y hI  fz (j + 1) ui (by omega) hlt hui) 
set_option maxRecDepth 20000 in
set_option maxHeartbeats 4000000 in
theorem p172 {xs : Option (List Int32)} {d : Nat} {w : List sx_C} (hI : WI w) {c : Nat} (hc : c < 48) (y : Int32) : ∃ j, j ≤ 1 ∧ sx_RU xs (d + 1) 172 0 (lv_args 0 [.int (nI c), .int y]) [] w (some (.int (nI j))) w := by
  have h : sx_RP xs (d + 1) 172 0 (lv_args 0 [.int (nI c), .int y]) [] w (fun r w2 => (∃ j, j ≤ 1 ∧ r = some (.int (nI j))) ∧ w2 = w) := by
    refine sx_RP.step (pc2 := 1) (ls2 := [(0, .int (nI c)), (1, .int y)]) (st2 := [.int (nI c)]) (w3 := w) rfl rfl ?_
    refine sx_RP.step (pc2 := 2) (ls2 := [(0, .int (nI c)), (1, .int y)]) (st2 := [.int y, .int (nI c)]) (w3 := w) rfl rfl ?_
    refine sx_RP.br (p1 := 9) (l1 := [(0, .int (nI c)), (1, .int y)]) (s1 := []) (v1 := w) (p2 := 5) (l2 := [(0, .int (nI c)), (1, .int y)]) (s2 := []) (v2 := w) rfl rfl (fun q1 => ?_) (fun q1 => ?_)
    · replace q1 := of_decide_eq_true q1
      refine sx_RP.step (pc2 := 10) (ls2 := [(0, .int (nI c)), (1, .int y)]) (st2 := [.int 0]) (w3 := w) rfl rfl ?_
      refine sx_RP.step (pc2 := 11) (ls2 := [(2, .int 0), (0, .int (nI c)), (1, .int y)]) (st2 := []) (w3 := w) rfl rfl ?_
      refine sx_RP.step (pc2 := 12) (ls2 := [(2, .int 0), (0, .int (nI c)), (1, .int y)]) (st2 := [.int 0]) (w3 := w) rfl rfl ?_
      refine sx_RP.step (pc2 := 13) (ls2 := [(3, .int 0), (2, .int 0), (0, .int (nI c)), (1, .int y)]) (st2 := []) (w3 := w) rfl rfl ?_
      exact sx_RP.ls (sx_lr.cons rfl (sx_lr.cons rfl (sx_lr.cons rfl (sx_lr.cons rfl sx_lr.nil)))) (p172L hc y hI 4 0 0 (by omega) (by omega) (by omega))
    · replace q1 := Decidable.not_not.mp (of_decide_eq_false q1)
      refine sx_RP.step (pc2 := 6) (ls2 := [(0, .int (nI c)), (1, .int y)]) (st2 := [.int 1]) (w3 := w) rfl rfl ?_
      refine sx_RP.step (pc2 := 10) (ls2 := [(0, .int (nI c)), (1, .int y)]) (st2 := [.int 1]) (w3 := w) rfl rfl ?_
      refine sx_RP.step (pc2 := 11) (ls2 := [(2, .int 1), (0, .int (nI c)), (1, .int y)]) (st2 := []) (w3 := w) rfl rfl ?_
      refine sx_RP.step (pc2 := 12) (ls2 := [(2, .int 1), (0, .int (nI c)), (1, .int y)]) (st2 := [.int 0]) (w3 := w) rfl rfl ?_
      refine sx_RP.step (pc2 := 13) (ls2 := [(3, .int 0), (2, .int 1), (0, .int (nI c)), (1, .int y)]) (st2 := []) (w3 := w) rfl rfl ?_
      exact sx_RP.ls (sx_lr.cons rfl (sx_lr.cons rfl (sx_lr.cons rfl (sx_lr.cons rfl sx_lr.nil)))) (p172L hc y hI 4 0 1 (by omega) (by omega) (by omega))
  obtain ⟨r, w2, h1, ⟨j, hj, rfl⟩, rfl⟩ := h
  exact ⟨j, hj, h1⟩
set_option maxRecDepth 20000 in
set_option maxHeartbeats 4000000 in
theorem p136B {xs : Option (List Int32)} {d : Nat} {w : List sx_C} (x : Int32) (hI : WI w) {j : Nat} (hj : j ≤ 10) (n : Int32) (kk : ∀ (un : Int32), j + 1 ≤ 10 → sx_RP xs (d + 2) 136 4 [(0, .ref 111), (1, .int x), (2, .int un), (3, .int (nI (j + 1)))] [] w (fun r w2 => (∃ v : Int32, r = some (.int v)) ∧ w2 = w)) : sx_RP xs (d + 2) 136 4 [(0, .ref 111), (1, .int x), (2, .int n), (3, .int (nI j))] [] w (fun r w2 => (∃ v : Int32, r = some (.int v)) ∧ w2 = w) := by
  refine sx_RP.step (pc2 := 5) (ls2 := [(0, .ref 111), (1, .int x), (2, .int n), (3, .int (nI j))]) (st2 := [.int (nI j)]) (w3 := w) rfl rfl ?_
  refine sx_RP.step (pc2 := 6) (ls2 := [(0, .ref 111), (1, .int x), (2, .int n), (3, .int (nI j))]) (st2 := [.ref 111, .int (nI j)]) (w3 := w) rfl rfl ?_
  refine sx_RP.gf (v := .ref 112) rfl rfl hI.1.o111 rfl rfl (show _ = 9 from rfl) ?_
  refine sx_RP.step (pc2 := 10) (ls2 := [(0, .ref 111), (1, .int x), (2, .int n), (3, .int (nI j))]) (st2 := [.int 1, .ref 112, .int (nI j)]) (w3 := w) rfl rfl ?_
  refine sx_RP.ild (c := 1) rfl hI.1.a112.1 hI.1.a112.2 (sx_in_nI (show 1 < 172 by omega) (by decide)) (show (nI 1).toNatClampNeg = 1 from nI_clamp (by omega)) (show _ = 11 from rfl) ?_
  obtain ⟨x1, hx2, ex3⟩ : inR ((ia w 112).getD 1 0) 10 := (hI.s (1) (by omega)).1 rfl
  rw [ex3]
  refine sx_RP.br (p1 := 46) (l1 := [(0, .ref 111), (1, .int x), (2, .int n), (3, .int (nI j))]) (s1 := []) (v1 := w) (p2 := 14) (l2 := [(0, .ref 111), (1, .int x), (2, .int n), (3, .int (nI j))]) (s2 := []) (v2 := w) rfl rfl (fun q4 => ?_) (fun q4 => ?_)
  · replace q4 := of_decide_eq_true q4
    replace q4 := (nI_leI (a := x1) (b := j) (by omega) (by omega)).mp q4
    refine sx_RP.step (pc2 := 47) (ls2 := [(0, .ref 111), (1, .int x), (2, .int n), (3, .int (nI j))]) (st2 := [.int n]) (w3 := w) rfl rfl ?_
    refine sx_RP.ret (r := (some (.int n))) rfl rfl ?_
    exact ⟨⟨_, rfl⟩, rfl⟩
  · replace q4 := of_decide_eq_false q4
    replace q4 := mt (nI_leI (a := x1) (b := j) (by omega) (by omega)).mpr q4
    refine sx_RP.step (pc2 := 15) (ls2 := [(0, .ref 111), (1, .int x), (2, .int n), (3, .int (nI j))]) (st2 := [.int n]) (w3 := w) rfl rfl ?_
    refine sx_RP.step (pc2 := 16) (ls2 := [(0, .ref 111), (1, .int x), (2, .int n), (3, .int (nI j))]) (st2 := [.ref 111, .int n]) (w3 := w) rfl rfl ?_
    refine sx_RP.step (pc2 := 17) (ls2 := [(0, .ref 111), (1, .int x), (2, .int n), (3, .int (nI j))]) (st2 := [.int (nI j), .ref 111, .int n]) (w3 := w) rfl rfl ?_
    obtain ⟨x5, hx6, c7⟩ := p137 hI (show j < 10 by omega)
    refine sx_RP.cu (as := [.ref 111, .int (nI j)]) (rest2 := [.int n]) (st3 := [.int (nI x5), .int n]) rfl rfl (sx_inv_v2 (mi := 136) (k := 74) (st := [.int (nI j), .ref 111, .int n]) (w := w) rfl rfl hI.1.o111 rfl rfl rfl) rfl rfl (c7) rfl ?_
    refine sx_RP.br (p1 := 37) (l1 := [(0, .ref 111), (1, .int x), (2, .int n), (3, .int (nI j))]) (s1 := [.int n]) (v1 := w) (p2 := 23) (l2 := [(0, .ref 111), (1, .int x), (2, .int n), (3, .int (nI j))]) (s2 := [.int n]) (v2 := w) rfl rfl (fun q8 => ?_) (fun q8 => ?_)
    · replace q8 := of_decide_eq_true q8
      replace q8 := (nI_eq (a := x5) (b := 0) (by omega) (by omega)).mp q8
      refine sx_RP.step (pc2 := 38) (ls2 := [(0, .ref 111), (1, .int x), (2, .int n), (3, .int (nI j))]) (st2 := [.int 0, .int n]) (w3 := w) rfl rfl ?_
      refine sx_RP.step (pc2 := 39) (ls2 := [(0, .ref 111), (1, .int x), (2, .int n), (3, .int (nI j))]) (st2 := [.int (n + 0)]) (w3 := w) rfl rfl ?_
      refine sx_RP.step (pc2 := 40) (ls2 := [(2, .int (n + 0)), (0, .ref 111), (1, .int x), (3, .int (nI j))]) (st2 := []) (w3 := w) rfl rfl ?_
      refine sx_RP.step (pc2 := 43) (ls2 := [(3, .int ((nI j) + 1)), (2, .int (n + 0)), (0, .ref 111), (1, .int x)]) (st2 := []) (w3 := w) rfl rfl ?_
      rw [nI_1 j]
      refine sx_RP.step (pc2 := 4) (ls2 := [(3, .int (nI (j + 1))), (2, .int (n + 0)), (0, .ref 111), (1, .int x)]) (st2 := []) (w3 := w) rfl rfl ?_
      exact sx_RP.ls (sx_lr.cons rfl (sx_lr.cons rfl (sx_lr.cons rfl (sx_lr.cons rfl sx_lr.nil)))) (kk (n + 0) (by omega))
    · replace q8 := of_decide_eq_false q8
      replace q8 := mt (nI_eq (a := x5) (b := 0) (by omega) (by omega)).mpr q8
      refine sx_RP.step (pc2 := 24) (ls2 := [(0, .ref 111), (1, .int x), (2, .int n), (3, .int (nI j))]) (st2 := [.ref 111, .int n]) (w3 := w) rfl rfl ?_
      refine sx_RP.step (pc2 := 25) (ls2 := [(0, .ref 111), (1, .int x), (2, .int n), (3, .int (nI j))]) (st2 := [.int (nI j), .ref 111, .int n]) (w3 := w) rfl rfl ?_
      refine sx_RP.step (pc2 := 26) (ls2 := [(0, .ref 111), (1, .int x), (2, .int n), (3, .int (nI j))]) (st2 := [.int 2, .int (nI j), .ref 111, .int n]) (w3 := w) rfl rfl ?_
      obtain ⟨x9, hx10, c11⟩ := p138_2 hI (show j < 10 by omega)
      refine sx_RP.cu (as := [.ref 111, .int (nI j), .int 2]) (rest2 := [.int n]) (st3 := [.int (nI x9), .int n]) rfl rfl (sx_inv_v2 (mi := 136) (k := 59) (st := [.int 2, .int (nI j), .ref 111, .int n]) (w := w) rfl rfl hI.1.o111 rfl rfl rfl) rfl rfl (c11) rfl ?_
      refine sx_RP.step (pc2 := 30) (ls2 := [(0, .ref 111), (1, .int x), (2, .int n), (3, .int (nI j))]) (st2 := [.int x, .int (nI x9), .int n]) (w3 := w) rfl rfl ?_
      refine sx_RP.br (p1 := 37) (l1 := [(0, .ref 111), (1, .int x), (2, .int n), (3, .int (nI j))]) (s1 := [.int n]) (v1 := w) (p2 := 33) (l2 := [(0, .ref 111), (1, .int x), (2, .int n), (3, .int (nI j))]) (s2 := [.int n]) (v2 := w) rfl rfl (fun q12 => ?_) (fun q12 => ?_)
      · replace q12 := of_decide_eq_true q12
        refine sx_RP.step (pc2 := 38) (ls2 := [(0, .ref 111), (1, .int x), (2, .int n), (3, .int (nI j))]) (st2 := [.int 0, .int n]) (w3 := w) rfl rfl ?_
        refine sx_RP.step (pc2 := 39) (ls2 := [(0, .ref 111), (1, .int x), (2, .int n), (3, .int (nI j))]) (st2 := [.int (n + 0)]) (w3 := w) rfl rfl ?_
        refine sx_RP.step (pc2 := 40) (ls2 := [(2, .int (n + 0)), (0, .ref 111), (1, .int x), (3, .int (nI j))]) (st2 := []) (w3 := w) rfl rfl ?_
        refine sx_RP.step (pc2 := 43) (ls2 := [(3, .int ((nI j) + 1)), (2, .int (n + 0)), (0, .ref 111), (1, .int x)]) (st2 := []) (w3 := w) rfl rfl ?_
        rw [nI_1 j]
        refine sx_RP.step (pc2 := 4) (ls2 := [(3, .int (nI (j + 1))), (2, .int (n + 0)), (0, .ref 111), (1, .int x)]) (st2 := []) (w3 := w) rfl rfl ?_
        exact sx_RP.ls (sx_lr.cons rfl (sx_lr.cons rfl (sx_lr.cons rfl (sx_lr.cons rfl sx_lr.nil)))) (kk (n + 0) (by omega))
      · replace q12 := Decidable.not_not.mp (of_decide_eq_false q12)
        refine sx_RP.step (pc2 := 34) (ls2 := [(0, .ref 111), (1, .int x), (2, .int n), (3, .int (nI j))]) (st2 := [.int 1, .int n]) (w3 := w) rfl rfl ?_
        refine sx_RP.step (pc2 := 38) (ls2 := [(0, .ref 111), (1, .int x), (2, .int n), (3, .int (nI j))]) (st2 := [.int 1, .int n]) (w3 := w) rfl rfl ?_
        refine sx_RP.step (pc2 := 39) (ls2 := [(0, .ref 111), (1, .int x), (2, .int n), (3, .int (nI j))]) (st2 := [.int (n + 1)]) (w3 := w) rfl rfl ?_
        refine sx_RP.step (pc2 := 40) (ls2 := [(2, .int (n + 1)), (0, .ref 111), (1, .int x), (3, .int (nI j))]) (st2 := []) (w3 := w) rfl rfl ?_
        refine sx_RP.step (pc2 := 43) (ls2 := [(3, .int ((nI j) + 1)), (2, .int (n + 1)), (0, .ref 111), (1, .int x)]) (st2 := []) (w3 := w) rfl rfl ?_
        rw [nI_1 j]
        refine sx_RP.step (pc2 := 4) (ls2 := [(3, .int (nI (j + 1))), (2, .int (n + 1)), (0, .ref 111), (1, .int x)]) (st2 := []) (w3 := w) rfl rfl ?_
        exact sx_RP.ls (sx_lr.cons rfl (sx_lr.cons rfl (sx_lr.cons rfl (sx_lr.cons rfl sx_lr.nil)))) (kk (n + 1) (by omega))
set_option maxRecDepth 20000 in
set_option maxHeartbeats 4000000 in
theorem p136L {xs : Option (List Int32)} {d : Nat} {w : List sx_C} (x : Int32) (hI : WI w) : ∀ (fz j : Nat) (n : Int32) , 10 ≤ j + fz * 1 → j ≤ 10 → sx_RP xs (d + 2) 136 4 [(0, .ref 111), (1, .int x), (2, .int n), (3, .int (nI j))] [] w (fun r w2 => (∃ v : Int32, r = some (.int v)) ∧ w2 = w)
  | 0, j, n, h, hj => p136B x hI hj n  (fun un  hlt  => absurd hlt (by omega)) 
  | fz + 1, j, n, h, hj => p136B x hI hj n  (fun un  hlt  => p136L x hI  fz (j + 1) un (by omega) hlt ) 
set_option maxRecDepth 20000 in
set_option maxHeartbeats 4000000 in
theorem p136 {xs : Option (List Int32)} {d : Nat} {w : List sx_C} (hI : WI w) (x : Int32) : ∃ v : Int32, sx_RU xs (d + 2) 136 0 (lv_args 0 [.ref 111, .int x]) [] w (some (.int v)) w := by
  have h : sx_RP xs (d + 2) 136 0 (lv_args 0 [.ref 111, .int x]) [] w (fun r w2 => (∃ v : Int32, r = some (.int v)) ∧ w2 = w) := by
    refine sx_RP.step (pc2 := 1) (ls2 := [(0, .ref 111), (1, .int x)]) (st2 := [.int 0]) (w3 := w) rfl rfl ?_
    refine sx_RP.step (pc2 := 2) (ls2 := [(2, .int 0), (0, .ref 111), (1, .int x)]) (st2 := []) (w3 := w) rfl rfl ?_
    refine sx_RP.step (pc2 := 3) (ls2 := [(2, .int 0), (0, .ref 111), (1, .int x)]) (st2 := [.int 0]) (w3 := w) rfl rfl ?_
    refine sx_RP.step (pc2 := 4) (ls2 := [(3, .int 0), (2, .int 0), (0, .ref 111), (1, .int x)]) (st2 := []) (w3 := w) rfl rfl ?_
    exact sx_RP.ls (sx_lr.cons rfl (sx_lr.cons rfl (sx_lr.cons rfl (sx_lr.cons rfl sx_lr.nil)))) (p136L x hI 10 0 0 (by omega) (by omega) )
  obtain ⟨r, w2, h1, ⟨v, rfl⟩, rfl⟩ := h
  exact ⟨v, h1⟩
set_option maxRecDepth 20000 in
set_option maxHeartbeats 4000000 in
theorem p167B {xs : Option (List Int32)} {d : Nat} {w : List sx_C} (x : Int32) (hI : WI w) {j : Nat} (hj : j ≤ 10) (n : Int32) (kk : ∀ (un : Int32), j + 1 ≤ 10 → sx_RP xs (d + 2) 167 4 [(0, .ref 111), (1, .int x), (2, .int un), (3, .int (nI (j + 1)))] [] w (fun r w2 => (∃ v : Int32, r = some (.int v)) ∧ w2 = w)) : sx_RP xs (d + 2) 167 4 [(0, .ref 111), (1, .int x), (2, .int n), (3, .int (nI j))] [] w (fun r w2 => (∃ v : Int32, r = some (.int v)) ∧ w2 = w) := by
  refine sx_RP.step (pc2 := 5) (ls2 := [(0, .ref 111), (1, .int x), (2, .int n), (3, .int (nI j))]) (st2 := [.int (nI j)]) (w3 := w) rfl rfl ?_
  refine sx_RP.step (pc2 := 6) (ls2 := [(0, .ref 111), (1, .int x), (2, .int n), (3, .int (nI j))]) (st2 := [.ref 111, .int (nI j)]) (w3 := w) rfl rfl ?_
  refine sx_RP.gf (v := .ref 112) rfl rfl hI.1.o111 rfl rfl (show _ = 9 from rfl) ?_
  refine sx_RP.step (pc2 := 10) (ls2 := [(0, .ref 111), (1, .int x), (2, .int n), (3, .int (nI j))]) (st2 := [.int 1, .ref 112, .int (nI j)]) (w3 := w) rfl rfl ?_
  refine sx_RP.ild (c := 1) rfl hI.1.a112.1 hI.1.a112.2 (sx_in_nI (show 1 < 172 by omega) (by decide)) (show (nI 1).toNatClampNeg = 1 from nI_clamp (by omega)) (show _ = 11 from rfl) ?_
  obtain ⟨x1, hx2, ex3⟩ : inR ((ia w 112).getD 1 0) 10 := (hI.s (1) (by omega)).1 rfl
  rw [ex3]
  refine sx_RP.br (p1 := 46) (l1 := [(0, .ref 111), (1, .int x), (2, .int n), (3, .int (nI j))]) (s1 := []) (v1 := w) (p2 := 14) (l2 := [(0, .ref 111), (1, .int x), (2, .int n), (3, .int (nI j))]) (s2 := []) (v2 := w) rfl rfl (fun q4 => ?_) (fun q4 => ?_)
  · replace q4 := of_decide_eq_true q4
    replace q4 := (nI_leI (a := x1) (b := j) (by omega) (by omega)).mp q4
    refine sx_RP.step (pc2 := 47) (ls2 := [(0, .ref 111), (1, .int x), (2, .int n), (3, .int (nI j))]) (st2 := [.int n]) (w3 := w) rfl rfl ?_
    refine sx_RP.ret (r := (some (.int n))) rfl rfl ?_
    exact ⟨⟨_, rfl⟩, rfl⟩
  · replace q4 := of_decide_eq_false q4
    replace q4 := mt (nI_leI (a := x1) (b := j) (by omega) (by omega)).mpr q4
    refine sx_RP.step (pc2 := 15) (ls2 := [(0, .ref 111), (1, .int x), (2, .int n), (3, .int (nI j))]) (st2 := [.int n]) (w3 := w) rfl rfl ?_
    refine sx_RP.step (pc2 := 16) (ls2 := [(0, .ref 111), (1, .int x), (2, .int n), (3, .int (nI j))]) (st2 := [.ref 111, .int n]) (w3 := w) rfl rfl ?_
    refine sx_RP.step (pc2 := 17) (ls2 := [(0, .ref 111), (1, .int x), (2, .int n), (3, .int (nI j))]) (st2 := [.int (nI j), .ref 111, .int n]) (w3 := w) rfl rfl ?_
    obtain ⟨x5, hx6, c7⟩ := p137 hI (show j < 10 by omega)
    refine sx_RP.cu (as := [.ref 111, .int (nI j)]) (rest2 := [.int n]) (st3 := [.int (nI x5), .int n]) rfl rfl (sx_inv_v2 (mi := 167) (k := 74) (st := [.int (nI j), .ref 111, .int n]) (w := w) rfl rfl hI.1.o111 rfl rfl rfl) rfl rfl (c7) rfl ?_
    refine sx_RP.br (p1 := 37) (l1 := [(0, .ref 111), (1, .int x), (2, .int n), (3, .int (nI j))]) (s1 := [.int n]) (v1 := w) (p2 := 23) (l2 := [(0, .ref 111), (1, .int x), (2, .int n), (3, .int (nI j))]) (s2 := [.int n]) (v2 := w) rfl rfl (fun q8 => ?_) (fun q8 => ?_)
    · replace q8 := of_decide_eq_true q8
      replace q8 := (nI_eq (a := x5) (b := 0) (by omega) (by omega)).mp q8
      refine sx_RP.step (pc2 := 38) (ls2 := [(0, .ref 111), (1, .int x), (2, .int n), (3, .int (nI j))]) (st2 := [.int 0, .int n]) (w3 := w) rfl rfl ?_
      refine sx_RP.step (pc2 := 39) (ls2 := [(0, .ref 111), (1, .int x), (2, .int n), (3, .int (nI j))]) (st2 := [.int (n + 0)]) (w3 := w) rfl rfl ?_
      refine sx_RP.step (pc2 := 40) (ls2 := [(2, .int (n + 0)), (0, .ref 111), (1, .int x), (3, .int (nI j))]) (st2 := []) (w3 := w) rfl rfl ?_
      refine sx_RP.step (pc2 := 43) (ls2 := [(3, .int ((nI j) + 1)), (2, .int (n + 0)), (0, .ref 111), (1, .int x)]) (st2 := []) (w3 := w) rfl rfl ?_
      rw [nI_1 j]
      refine sx_RP.step (pc2 := 4) (ls2 := [(3, .int (nI (j + 1))), (2, .int (n + 0)), (0, .ref 111), (1, .int x)]) (st2 := []) (w3 := w) rfl rfl ?_
      exact sx_RP.ls (sx_lr.cons rfl (sx_lr.cons rfl (sx_lr.cons rfl (sx_lr.cons rfl sx_lr.nil)))) (kk (n + 0) (by omega))
    · replace q8 := of_decide_eq_false q8
      replace q8 := mt (nI_eq (a := x5) (b := 0) (by omega) (by omega)).mpr q8
      refine sx_RP.step (pc2 := 24) (ls2 := [(0, .ref 111), (1, .int x), (2, .int n), (3, .int (nI j))]) (st2 := [.ref 111, .int n]) (w3 := w) rfl rfl ?_
      refine sx_RP.step (pc2 := 25) (ls2 := [(0, .ref 111), (1, .int x), (2, .int n), (3, .int (nI j))]) (st2 := [.int (nI j), .ref 111, .int n]) (w3 := w) rfl rfl ?_
      refine sx_RP.step (pc2 := 26) (ls2 := [(0, .ref 111), (1, .int x), (2, .int n), (3, .int (nI j))]) (st2 := [.int 1, .int (nI j), .ref 111, .int n]) (w3 := w) rfl rfl ?_
      obtain ⟨x9, hx10, c11⟩ := p138_1 hI (show j < 10 by omega)
      refine sx_RP.cu (as := [.ref 111, .int (nI j), .int 1]) (rest2 := [.int n]) (st3 := [.int (nI x9), .int n]) rfl rfl (sx_inv_v2 (mi := 167) (k := 59) (st := [.int 1, .int (nI j), .ref 111, .int n]) (w := w) rfl rfl hI.1.o111 rfl rfl rfl) rfl rfl (c11) rfl ?_
      refine sx_RP.step (pc2 := 30) (ls2 := [(0, .ref 111), (1, .int x), (2, .int n), (3, .int (nI j))]) (st2 := [.int x, .int (nI x9), .int n]) (w3 := w) rfl rfl ?_
      refine sx_RP.br (p1 := 37) (l1 := [(0, .ref 111), (1, .int x), (2, .int n), (3, .int (nI j))]) (s1 := [.int n]) (v1 := w) (p2 := 33) (l2 := [(0, .ref 111), (1, .int x), (2, .int n), (3, .int (nI j))]) (s2 := [.int n]) (v2 := w) rfl rfl (fun q12 => ?_) (fun q12 => ?_)
      · replace q12 := of_decide_eq_true q12
        refine sx_RP.step (pc2 := 38) (ls2 := [(0, .ref 111), (1, .int x), (2, .int n), (3, .int (nI j))]) (st2 := [.int 0, .int n]) (w3 := w) rfl rfl ?_
        refine sx_RP.step (pc2 := 39) (ls2 := [(0, .ref 111), (1, .int x), (2, .int n), (3, .int (nI j))]) (st2 := [.int (n + 0)]) (w3 := w) rfl rfl ?_
        refine sx_RP.step (pc2 := 40) (ls2 := [(2, .int (n + 0)), (0, .ref 111), (1, .int x), (3, .int (nI j))]) (st2 := []) (w3 := w) rfl rfl ?_
        refine sx_RP.step (pc2 := 43) (ls2 := [(3, .int ((nI j) + 1)), (2, .int (n + 0)), (0, .ref 111), (1, .int x)]) (st2 := []) (w3 := w) rfl rfl ?_
        rw [nI_1 j]
        refine sx_RP.step (pc2 := 4) (ls2 := [(3, .int (nI (j + 1))), (2, .int (n + 0)), (0, .ref 111), (1, .int x)]) (st2 := []) (w3 := w) rfl rfl ?_
        exact sx_RP.ls (sx_lr.cons rfl (sx_lr.cons rfl (sx_lr.cons rfl (sx_lr.cons rfl sx_lr.nil)))) (kk (n + 0) (by omega))
      · replace q12 := Decidable.not_not.mp (of_decide_eq_false q12)
        refine sx_RP.step (pc2 := 34) (ls2 := [(0, .ref 111), (1, .int x), (2, .int n), (3, .int (nI j))]) (st2 := [.int 1, .int n]) (w3 := w) rfl rfl ?_
        refine sx_RP.step (pc2 := 38) (ls2 := [(0, .ref 111), (1, .int x), (2, .int n), (3, .int (nI j))]) (st2 := [.int 1, .int n]) (w3 := w) rfl rfl ?_
        refine sx_RP.step (pc2 := 39) (ls2 := [(0, .ref 111), (1, .int x), (2, .int n), (3, .int (nI j))]) (st2 := [.int (n + 1)]) (w3 := w) rfl rfl ?_
        refine sx_RP.step (pc2 := 40) (ls2 := [(2, .int (n + 1)), (0, .ref 111), (1, .int x), (3, .int (nI j))]) (st2 := []) (w3 := w) rfl rfl ?_
        refine sx_RP.step (pc2 := 43) (ls2 := [(3, .int ((nI j) + 1)), (2, .int (n + 1)), (0, .ref 111), (1, .int x)]) (st2 := []) (w3 := w) rfl rfl ?_
        rw [nI_1 j]
        refine sx_RP.step (pc2 := 4) (ls2 := [(3, .int (nI (j + 1))), (2, .int (n + 1)), (0, .ref 111), (1, .int x)]) (st2 := []) (w3 := w) rfl rfl ?_
        exact sx_RP.ls (sx_lr.cons rfl (sx_lr.cons rfl (sx_lr.cons rfl (sx_lr.cons rfl sx_lr.nil)))) (kk (n + 1) (by omega))
set_option maxRecDepth 20000 in
set_option maxHeartbeats 4000000 in
theorem p167L {xs : Option (List Int32)} {d : Nat} {w : List sx_C} (x : Int32) (hI : WI w) : ∀ (fz j : Nat) (n : Int32) , 10 ≤ j + fz * 1 → j ≤ 10 → sx_RP xs (d + 2) 167 4 [(0, .ref 111), (1, .int x), (2, .int n), (3, .int (nI j))] [] w (fun r w2 => (∃ v : Int32, r = some (.int v)) ∧ w2 = w)
  | 0, j, n, h, hj => p167B x hI hj n  (fun un  hlt  => absurd hlt (by omega)) 
  | fz + 1, j, n, h, hj => p167B x hI hj n  (fun un  hlt  => p167L x hI  fz (j + 1) un (by omega) hlt ) 
set_option maxRecDepth 20000 in
set_option maxHeartbeats 4000000 in
theorem p167 {xs : Option (List Int32)} {d : Nat} {w : List sx_C} (hI : WI w) (x : Int32) : ∃ v : Int32, sx_RU xs (d + 2) 167 0 (lv_args 0 [.ref 111, .int x]) [] w (some (.int v)) w := by
  have h : sx_RP xs (d + 2) 167 0 (lv_args 0 [.ref 111, .int x]) [] w (fun r w2 => (∃ v : Int32, r = some (.int v)) ∧ w2 = w) := by
    refine sx_RP.step (pc2 := 1) (ls2 := [(0, .ref 111), (1, .int x)]) (st2 := [.int 0]) (w3 := w) rfl rfl ?_
    refine sx_RP.step (pc2 := 2) (ls2 := [(2, .int 0), (0, .ref 111), (1, .int x)]) (st2 := []) (w3 := w) rfl rfl ?_
    refine sx_RP.step (pc2 := 3) (ls2 := [(2, .int 0), (0, .ref 111), (1, .int x)]) (st2 := [.int 0]) (w3 := w) rfl rfl ?_
    refine sx_RP.step (pc2 := 4) (ls2 := [(3, .int 0), (2, .int 0), (0, .ref 111), (1, .int x)]) (st2 := []) (w3 := w) rfl rfl ?_
    exact sx_RP.ls (sx_lr.cons rfl (sx_lr.cons rfl (sx_lr.cons rfl (sx_lr.cons rfl sx_lr.nil)))) (p167L x hI 10 0 0 (by omega) (by omega) )
  obtain ⟨r, w2, h1, ⟨v, rfl⟩, rfl⟩ := h
  exact ⟨v, h1⟩
set_option maxRecDepth 20000 in
set_option maxHeartbeats 4000000 in
theorem p166 {xs : Option (List Int32)} {d : Nat} {w : List sx_C} (hI : WI w) : ∃ v : Int32, sx_RU xs (d + 3) 166 0 (lv_args 0 [.ref 111]) [] w (some (.int v)) w := by
  have h : sx_RP xs (d + 3) 166 0 (lv_args 0 [.ref 111]) [] w (fun r w2 => (∃ v : Int32, r = some (.int v)) ∧ w2 = w) := by
    refine sx_RP.step (pc2 := 1) (ls2 := [(0, .ref 111)]) (st2 := [.ref 111]) (w3 := w) rfl rfl ?_
    refine sx_RP.step (pc2 := 2) (ls2 := [(0, .ref 111)]) (st2 := [.int 0, .ref 111]) (w3 := w) rfl rfl ?_
    obtain ⟨v1, c2⟩ := p167 hI 0
    refine sx_RP.cu (as := [.ref 111, .int 0]) (rest2 := []) (st3 := [.int v1]) rfl rfl (sx_inv_v2 (mi := 166) (k := 146) (st := [.int 0, .ref 111]) (w := w) rfl rfl hI.1.o111 rfl rfl rfl) rfl rfl (c2) rfl ?_
    refine sx_RP.step (pc2 := 6) (ls2 := [(0, .ref 111)]) (st2 := [.ref 111, .int v1]) (w3 := w) rfl rfl ?_
    refine sx_RP.step (pc2 := 7) (ls2 := [(0, .ref 111)]) (st2 := [.int 1, .ref 111, .int v1]) (w3 := w) rfl rfl ?_
    obtain ⟨v3, c4⟩ := p167 hI 1
    refine sx_RP.cu (as := [.ref 111, .int 1]) (rest2 := [.int v1]) (st3 := [.int v3, .int v1]) rfl rfl (sx_inv_v2 (mi := 166) (k := 146) (st := [.int 1, .ref 111, .int v1]) (w := w) rfl rfl hI.1.o111 rfl rfl rfl) rfl rfl (c4) rfl ?_
    refine sx_RP.step (pc2 := 11) (ls2 := [(0, .ref 111)]) (st2 := [.int (v1 + v3)]) (w3 := w) rfl rfl ?_
    refine sx_RP.ret (r := (some (.int (v1 + v3)))) rfl rfl ?_
    exact ⟨⟨_, rfl⟩, rfl⟩
  obtain ⟨r, w2, h1, ⟨v, rfl⟩, rfl⟩ := h
  exact ⟨v, h1⟩
set_option maxRecDepth 20000 in
set_option maxHeartbeats 4000000 in
theorem p171B {xs : Option (List Int32)} {d : Nat} {w : List sx_C} {g : Nat} (hg : g < 10) (hI : WI w) {j : Nat} (hj : j ≤ 10) (i : Nat) (hi : i ≤ 1) (kk : ∀ (ui : Nat), j + 1 ≤ 10 → ui ≤ 1 → sx_RP xs (d + 2) 171 4 [(0, .ref 111), (1, .int (nI g)), (2, .int (nI ui)), (3, .int (nI (j + 1)))] [] w (fun r w2 => (∃ j, j ≤ 1 ∧ r = some (.int (nI j))) ∧ w2 = w)) : sx_RP xs (d + 2) 171 4 [(0, .ref 111), (1, .int (nI g)), (2, .int (nI i)), (3, .int (nI j))] [] w (fun r w2 => (∃ j, j ≤ 1 ∧ r = some (.int (nI j))) ∧ w2 = w) := by
  refine sx_RP.step (pc2 := 5) (ls2 := [(0, .ref 111), (1, .int (nI g)), (2, .int (nI i)), (3, .int (nI j))]) (st2 := [.int (nI j)]) (w3 := w) rfl rfl ?_
  refine sx_RP.step (pc2 := 6) (ls2 := [(0, .ref 111), (1, .int (nI g)), (2, .int (nI i)), (3, .int (nI j))]) (st2 := [.ref 111, .int (nI j)]) (w3 := w) rfl rfl ?_
  refine sx_RP.gf (v := .ref 112) rfl rfl hI.1.o111 rfl rfl (show _ = 9 from rfl) ?_
  refine sx_RP.step (pc2 := 10) (ls2 := [(0, .ref 111), (1, .int (nI g)), (2, .int (nI i)), (3, .int (nI j))]) (st2 := [.int 1, .ref 112, .int (nI j)]) (w3 := w) rfl rfl ?_
  refine sx_RP.ild (c := 1) rfl hI.1.a112.1 hI.1.a112.2 (sx_in_nI (show 1 < 172 by omega) (by decide)) (show (nI 1).toNatClampNeg = 1 from nI_clamp (by omega)) (show _ = 11 from rfl) ?_
  obtain ⟨x1, hx2, ex3⟩ : inR ((ia w 112).getD 1 0) 10 := (hI.s (1) (by omega)).1 rfl
  rw [ex3]
  refine sx_RP.br (p1 := 66) (l1 := [(0, .ref 111), (1, .int (nI g)), (2, .int (nI i)), (3, .int (nI j))]) (s1 := []) (v1 := w) (p2 := 14) (l2 := [(0, .ref 111), (1, .int (nI g)), (2, .int (nI i)), (3, .int (nI j))]) (s2 := []) (v2 := w) rfl rfl (fun q4 => ?_) (fun q4 => ?_)
  · replace q4 := of_decide_eq_true q4
    replace q4 := (nI_leI (a := x1) (b := j) (by omega) (by omega)).mp q4
    refine sx_RP.step (pc2 := 67) (ls2 := [(0, .ref 111), (1, .int (nI g)), (2, .int (nI i)), (3, .int (nI j))]) (st2 := [.int (nI i)]) (w3 := w) rfl rfl ?_
    refine sx_RP.ret (r := (some (.int (nI i)))) rfl (bo_ret rfl (inR.n (show i ≤ 1 by omega))) ?_
    exact ⟨⟨i, by omega, rfl⟩, rfl⟩
  · replace q4 := of_decide_eq_false q4
    replace q4 := mt (nI_leI (a := x1) (b := j) (by omega) (by omega)).mpr q4
    refine sx_RP.step (pc2 := 15) (ls2 := [(0, .ref 111), (1, .int (nI g)), (2, .int (nI i)), (3, .int (nI j))]) (st2 := [.int (nI i)]) (w3 := w) rfl rfl ?_
    refine sx_RP.br (p1 := 66) (l1 := [(0, .ref 111), (1, .int (nI g)), (2, .int (nI i)), (3, .int (nI j))]) (s1 := []) (v1 := w) (p2 := 18) (l2 := [(0, .ref 111), (1, .int (nI g)), (2, .int (nI i)), (3, .int (nI j))]) (s2 := []) (v2 := w) rfl rfl (fun q5 => ?_) (fun q5 => ?_)
    · replace q5 := of_decide_eq_true q5
      replace q5 := mt (nI_eq (a := i) (b := 0) (by omega) (by omega)).mpr q5
      refine sx_RP.step (pc2 := 67) (ls2 := [(0, .ref 111), (1, .int (nI g)), (2, .int (nI i)), (3, .int (nI j))]) (st2 := [.int (nI i)]) (w3 := w) rfl rfl ?_
      refine sx_RP.ret (r := (some (.int (nI i)))) rfl (bo_ret rfl (inR.n (show i ≤ 1 by omega))) ?_
      exact ⟨⟨i, by omega, rfl⟩, rfl⟩
    · replace q5 := Decidable.not_not.mp (of_decide_eq_false q5)
      replace q5 := (nI_eq (a := i) (b := 0) (by omega) (by omega)).mp q5
      refine sx_RP.step (pc2 := 19) (ls2 := [(0, .ref 111), (1, .int (nI g)), (2, .int (nI i)), (3, .int (nI j))]) (st2 := [.ref 111]) (w3 := w) rfl rfl ?_
      refine sx_RP.step (pc2 := 20) (ls2 := [(0, .ref 111), (1, .int (nI g)), (2, .int (nI i)), (3, .int (nI j))]) (st2 := [.int (nI j), .ref 111]) (w3 := w) rfl rfl ?_
      refine sx_RP.step (pc2 := 21) (ls2 := [(0, .ref 111), (1, .int (nI g)), (2, .int (nI i)), (3, .int (nI j))]) (st2 := [.int 1, .int (nI j), .ref 111]) (w3 := w) rfl rfl ?_
      obtain ⟨x6, hx7, c8⟩ := p138_1 hI (show j < 10 by omega)
      refine sx_RP.cu (as := [.ref 111, .int (nI j), .int 1]) (rest2 := []) (st3 := [.int (nI x6)]) rfl rfl (sx_inv_v2 (mi := 171) (k := 59) (st := [.int 1, .int (nI j), .ref 111]) (w := w) rfl rfl hI.1.o111 rfl rfl rfl) rfl rfl (c8) rfl ?_
      refine sx_RP.step (pc2 := 25) (ls2 := [(0, .ref 111), (1, .int (nI g)), (2, .int (nI i)), (3, .int (nI j))]) (st2 := [.int 1, .int (nI x6)]) (w3 := w) rfl rfl ?_
      refine sx_RP.br (p1 := 58) (l1 := [(0, .ref 111), (1, .int (nI g)), (2, .int (nI i)), (3, .int (nI j))]) (s1 := []) (v1 := w) (p2 := 28) (l2 := [(0, .ref 111), (1, .int (nI g)), (2, .int (nI i)), (3, .int (nI j))]) (s2 := []) (v2 := w) rfl rfl (fun q9 => ?_) (fun q9 => ?_)
      · replace q9 := of_decide_eq_true q9
        replace q9 := mt (nI_eq (a := x6) (b := 1) (by omega) (by omega)).mpr q9
        refine sx_RP.step (pc2 := 59) (ls2 := [(0, .ref 111), (1, .int (nI g)), (2, .int (nI i)), (3, .int (nI j))]) (st2 := [.int 0]) (w3 := w) rfl rfl ?_
        refine sx_RP.step (pc2 := 60) (ls2 := [(2, .int 0), (0, .ref 111), (1, .int (nI g)), (3, .int (nI j))]) (st2 := []) (w3 := w) rfl rfl ?_
        refine sx_RP.step (pc2 := 63) (ls2 := [(3, .int ((nI j) + 1)), (2, .int 0), (0, .ref 111), (1, .int (nI g))]) (st2 := []) (w3 := w) rfl rfl ?_
        rw [nI_1 j]
        refine sx_RP.step (pc2 := 4) (ls2 := [(3, .int (nI (j + 1))), (2, .int 0), (0, .ref 111), (1, .int (nI g))]) (st2 := []) (w3 := w) rfl rfl ?_
        exact sx_RP.ls (sx_lr.cons rfl (sx_lr.cons rfl (sx_lr.cons rfl (sx_lr.cons rfl sx_lr.nil)))) (kk 0 (by omega) (by omega))
      · replace q9 := Decidable.not_not.mp (of_decide_eq_false q9)
        replace q9 := (nI_eq (a := x6) (b := 1) (by omega) (by omega)).mp q9
        refine sx_RP.step (pc2 := 29) (ls2 := [(0, .ref 111), (1, .int (nI g)), (2, .int (nI i)), (3, .int (nI j))]) (st2 := [.ref 111]) (w3 := w) rfl rfl ?_
        refine sx_RP.step (pc2 := 30) (ls2 := [(0, .ref 111), (1, .int (nI g)), (2, .int (nI i)), (3, .int (nI j))]) (st2 := [.int (nI j), .ref 111]) (w3 := w) rfl rfl ?_
        obtain ⟨x10, hx11, c12⟩ := p137 hI (show j < 10 by omega)
        refine sx_RP.cu (as := [.ref 111, .int (nI j)]) (rest2 := []) (st3 := [.int (nI x10)]) rfl rfl (sx_inv_v2 (mi := 171) (k := 74) (st := [.int (nI j), .ref 111]) (w := w) rfl rfl hI.1.o111 rfl rfl rfl) rfl rfl (c12) rfl ?_
        refine sx_RP.br (p1 := 58) (l1 := [(0, .ref 111), (1, .int (nI g)), (2, .int (nI i)), (3, .int (nI j))]) (s1 := []) (v1 := w) (p2 := 36) (l2 := [(0, .ref 111), (1, .int (nI g)), (2, .int (nI i)), (3, .int (nI j))]) (s2 := []) (v2 := w) rfl rfl (fun q13 => ?_) (fun q13 => ?_)
        · replace q13 := of_decide_eq_true q13
          replace q13 := (nI_eq (a := x10) (b := 0) (by omega) (by omega)).mp q13
          refine sx_RP.step (pc2 := 59) (ls2 := [(0, .ref 111), (1, .int (nI g)), (2, .int (nI i)), (3, .int (nI j))]) (st2 := [.int 0]) (w3 := w) rfl rfl ?_
          refine sx_RP.step (pc2 := 60) (ls2 := [(2, .int 0), (0, .ref 111), (1, .int (nI g)), (3, .int (nI j))]) (st2 := []) (w3 := w) rfl rfl ?_
          refine sx_RP.step (pc2 := 63) (ls2 := [(3, .int ((nI j) + 1)), (2, .int 0), (0, .ref 111), (1, .int (nI g))]) (st2 := []) (w3 := w) rfl rfl ?_
          rw [nI_1 j]
          refine sx_RP.step (pc2 := 4) (ls2 := [(3, .int (nI (j + 1))), (2, .int 0), (0, .ref 111), (1, .int (nI g))]) (st2 := []) (w3 := w) rfl rfl ?_
          exact sx_RP.ls (sx_lr.cons rfl (sx_lr.cons rfl (sx_lr.cons rfl (sx_lr.cons rfl sx_lr.nil)))) (kk 0 (by omega) (by omega))
        · replace q13 := of_decide_eq_false q13
          replace q13 := mt (nI_eq (a := x10) (b := 0) (by omega) (by omega)).mpr q13
          refine sx_RP.step (pc2 := 37) (ls2 := [(0, .ref 111), (1, .int (nI g)), (2, .int (nI i)), (3, .int (nI j))]) (st2 := [.ref 111]) (w3 := w) rfl rfl ?_
          refine sx_RP.step (pc2 := 38) (ls2 := [(0, .ref 111), (1, .int (nI g)), (2, .int (nI i)), (3, .int (nI j))]) (st2 := [.int (nI g), .ref 111]) (w3 := w) rfl rfl ?_
          refine sx_RP.step (pc2 := 39) (ls2 := [(0, .ref 111), (1, .int (nI g)), (2, .int (nI i)), (3, .int (nI j))]) (st2 := [.int 2, .int (nI g), .ref 111]) (w3 := w) rfl rfl ?_
          obtain ⟨x14, hx15, c16⟩ := p138_2 hI (show g < 10 by omega)
          refine sx_RP.cu (as := [.ref 111, .int (nI g), .int 2]) (rest2 := []) (st3 := [.int (nI x14)]) rfl rfl (sx_inv_v2 (mi := 171) (k := 59) (st := [.int 2, .int (nI g), .ref 111]) (w := w) rfl rfl hI.1.o111 rfl rfl rfl) rfl rfl (c16) rfl ?_
          refine sx_RP.step (pc2 := 43) (ls2 := [(0, .ref 111), (1, .int (nI g)), (2, .int (nI i)), (3, .int (nI j))]) (st2 := [.ref 111, .int (nI x14)]) (w3 := w) rfl rfl ?_
          refine sx_RP.step (pc2 := 44) (ls2 := [(0, .ref 111), (1, .int (nI g)), (2, .int (nI i)), (3, .int (nI j))]) (st2 := [.int (nI j), .ref 111, .int (nI x14)]) (w3 := w) rfl rfl ?_
          refine sx_RP.step (pc2 := 45) (ls2 := [(0, .ref 111), (1, .int (nI g)), (2, .int (nI i)), (3, .int (nI j))]) (st2 := [.int 2, .int (nI j), .ref 111, .int (nI x14)]) (w3 := w) rfl rfl ?_
          obtain ⟨x17, hx18, c19⟩ := p138_2 hI (show j < 10 by omega)
          refine sx_RP.cu (as := [.ref 111, .int (nI j), .int 2]) (rest2 := [.int (nI x14)]) (st3 := [.int (nI x17), .int (nI x14)]) rfl rfl (sx_inv_v2 (mi := 171) (k := 59) (st := [.int 2, .int (nI j), .ref 111, .int (nI x14)]) (w := w) rfl rfl hI.1.o111 rfl rfl rfl) rfl rfl (c19) rfl ?_
          obtain ⟨x20, hx21, c22⟩ := p172 hI (show x14 < 48 by omega) (nI x17)
          refine sx_RP.cu (as := [.int (nI x14), .int (nI x17)]) (rest2 := []) (st3 := [.int (nI x20)]) rfl rfl rfl rfl rfl (c22) rfl ?_
          refine sx_RP.br (p1 := 58) (l1 := [(0, .ref 111), (1, .int (nI g)), (2, .int (nI i)), (3, .int (nI j))]) (s1 := []) (v1 := w) (p2 := 54) (l2 := [(0, .ref 111), (1, .int (nI g)), (2, .int (nI i)), (3, .int (nI j))]) (s2 := []) (v2 := w) rfl rfl (fun q23 => ?_) (fun q23 => ?_)
          · replace q23 := of_decide_eq_true q23
            replace q23 := (nI_eq (a := x20) (b := 0) (by omega) (by omega)).mp q23
            refine sx_RP.step (pc2 := 59) (ls2 := [(0, .ref 111), (1, .int (nI g)), (2, .int (nI i)), (3, .int (nI j))]) (st2 := [.int 0]) (w3 := w) rfl rfl ?_
            refine sx_RP.step (pc2 := 60) (ls2 := [(2, .int 0), (0, .ref 111), (1, .int (nI g)), (3, .int (nI j))]) (st2 := []) (w3 := w) rfl rfl ?_
            refine sx_RP.step (pc2 := 63) (ls2 := [(3, .int ((nI j) + 1)), (2, .int 0), (0, .ref 111), (1, .int (nI g))]) (st2 := []) (w3 := w) rfl rfl ?_
            rw [nI_1 j]
            refine sx_RP.step (pc2 := 4) (ls2 := [(3, .int (nI (j + 1))), (2, .int 0), (0, .ref 111), (1, .int (nI g))]) (st2 := []) (w3 := w) rfl rfl ?_
            exact sx_RP.ls (sx_lr.cons rfl (sx_lr.cons rfl (sx_lr.cons rfl (sx_lr.cons rfl sx_lr.nil)))) (kk 0 (by omega) (by omega))
          · replace q23 := of_decide_eq_false q23
            replace q23 := mt (nI_eq (a := x20) (b := 0) (by omega) (by omega)).mpr q23
            refine sx_RP.step (pc2 := 55) (ls2 := [(0, .ref 111), (1, .int (nI g)), (2, .int (nI i)), (3, .int (nI j))]) (st2 := [.int 1]) (w3 := w) rfl rfl ?_
            refine sx_RP.step (pc2 := 59) (ls2 := [(0, .ref 111), (1, .int (nI g)), (2, .int (nI i)), (3, .int (nI j))]) (st2 := [.int 1]) (w3 := w) rfl rfl ?_
            refine sx_RP.step (pc2 := 60) (ls2 := [(2, .int 1), (0, .ref 111), (1, .int (nI g)), (3, .int (nI j))]) (st2 := []) (w3 := w) rfl rfl ?_
            refine sx_RP.step (pc2 := 63) (ls2 := [(3, .int ((nI j) + 1)), (2, .int 1), (0, .ref 111), (1, .int (nI g))]) (st2 := []) (w3 := w) rfl rfl ?_
            rw [nI_1 j]
            refine sx_RP.step (pc2 := 4) (ls2 := [(3, .int (nI (j + 1))), (2, .int 1), (0, .ref 111), (1, .int (nI g))]) (st2 := []) (w3 := w) rfl rfl ?_
            exact sx_RP.ls (sx_lr.cons rfl (sx_lr.cons rfl (sx_lr.cons rfl (sx_lr.cons rfl sx_lr.nil)))) (kk 1 (by omega) (by omega))
set_option maxRecDepth 20000 in
set_option maxHeartbeats 4000000 in
theorem p171L {xs : Option (List Int32)} {d : Nat} {w : List sx_C} {g : Nat} (hg : g < 10) (hI : WI w) : ∀ (fz j : Nat) (i : Nat) , 10 ≤ j + fz * 1 → j ≤ 10 → i ≤ 1 → sx_RP xs (d + 2) 171 4 [(0, .ref 111), (1, .int (nI g)), (2, .int (nI i)), (3, .int (nI j))] [] w (fun r w2 => (∃ j, j ≤ 1 ∧ r = some (.int (nI j))) ∧ w2 = w)
  | 0, j, i, h, hj, hi => p171B hg hI hj i hi (fun ui  hlt hui => absurd hlt (by omega)) 
  | fz + 1, j, i, h, hj, hi => p171B hg hI hj i hi (fun ui  hlt hui => p171L hg hI  fz (j + 1) ui (by omega) hlt hui) 
set_option maxRecDepth 20000 in
set_option maxHeartbeats 4000000 in
theorem p171 {xs : Option (List Int32)} {d : Nat} {w : List sx_C} (hI : WI w) {g : Nat} (hg : g < 10) : ∃ j, j ≤ 1 ∧ sx_RU xs (d + 2) 171 0 (lv_args 0 [.ref 111, .int (nI g)]) [] w (some (.int (nI j))) w := by
  have h : sx_RP xs (d + 2) 171 0 (lv_args 0 [.ref 111, .int (nI g)]) [] w (fun r w2 => (∃ j, j ≤ 1 ∧ r = some (.int (nI j))) ∧ w2 = w) := by
    refine sx_RP.step (pc2 := 1) (ls2 := [(0, .ref 111), (1, .int (nI g))]) (st2 := [.int 0]) (w3 := w) rfl rfl ?_
    refine sx_RP.step (pc2 := 2) (ls2 := [(2, .int 0), (0, .ref 111), (1, .int (nI g))]) (st2 := []) (w3 := w) rfl rfl ?_
    refine sx_RP.step (pc2 := 3) (ls2 := [(2, .int 0), (0, .ref 111), (1, .int (nI g))]) (st2 := [.int 0]) (w3 := w) rfl rfl ?_
    refine sx_RP.step (pc2 := 4) (ls2 := [(3, .int 0), (2, .int 0), (0, .ref 111), (1, .int (nI g))]) (st2 := []) (w3 := w) rfl rfl ?_
    exact sx_RP.ls (sx_lr.cons rfl (sx_lr.cons rfl (sx_lr.cons rfl (sx_lr.cons rfl sx_lr.nil)))) (p171L hg hI 10 0 0 (by omega) (by omega) (by omega))
  obtain ⟨r, w2, h1, ⟨j, hj, rfl⟩, rfl⟩ := h
  exact ⟨j, hj, h1⟩
set_option maxRecDepth 20000 in
set_option maxHeartbeats 4000000 in
theorem p181 {xs : Option (List Int32)} {d : Nat} {w : List sx_C} (hI : WI w) {g : Nat} (hg : g < 10) (x : Int32) : ∃ j, j ≤ 1 ∧ sx_RU xs (d + 2) 181 0 (lv_args 0 [.ref 111, .int (nI g), .int x]) [] w (some (.int (nI j))) w := by
  have h : sx_RP xs (d + 2) 181 0 (lv_args 0 [.ref 111, .int (nI g), .int x]) [] w (fun r w2 => (∃ j, j ≤ 1 ∧ r = some (.int (nI j))) ∧ w2 = w) := by
    refine sx_RP.step (pc2 := 1) (ls2 := [(0, .ref 111), (1, .int (nI g)), (2, .int x)]) (st2 := [.ref 111]) (w3 := w) rfl rfl ?_
    refine sx_RP.step (pc2 := 2) (ls2 := [(0, .ref 111), (1, .int (nI g)), (2, .int x)]) (st2 := [.int (nI g), .ref 111]) (w3 := w) rfl rfl ?_
    obtain ⟨x1, hx2, c3⟩ := p137 hI (show g < 10 by omega)
    refine sx_RP.cu (as := [.ref 111, .int (nI g)]) (rest2 := []) (st3 := [.int (nI x1)]) rfl rfl (sx_inv_v2 (mi := 181) (k := 74) (st := [.int (nI g), .ref 111]) (w := w) rfl rfl hI.1.o111 rfl rfl rfl) rfl rfl (c3) rfl ?_
    refine sx_RP.br (p1 := 22) (l1 := [(0, .ref 111), (1, .int (nI g)), (2, .int x)]) (s1 := []) (v1 := w) (p2 := 8) (l2 := [(0, .ref 111), (1, .int (nI g)), (2, .int x)]) (s2 := []) (v2 := w) rfl rfl (fun q4 => ?_) (fun q4 => ?_)
    · replace q4 := of_decide_eq_true q4
      replace q4 := (nI_eq (a := x1) (b := 0) (by omega) (by omega)).mp q4
      refine sx_RP.step (pc2 := 23) (ls2 := [(0, .ref 111), (1, .int (nI g)), (2, .int x)]) (st2 := [.int 0]) (w3 := w) rfl rfl ?_
      refine sx_RP.ret (r := (some (.int 0))) rfl rfl ?_
      exact ⟨⟨0, by decide, rfl⟩, rfl⟩
    · replace q4 := of_decide_eq_false q4
      replace q4 := mt (nI_eq (a := x1) (b := 0) (by omega) (by omega)).mpr q4
      refine sx_RP.step (pc2 := 9) (ls2 := [(0, .ref 111), (1, .int (nI g)), (2, .int x)]) (st2 := [.ref 111]) (w3 := w) rfl rfl ?_
      refine sx_RP.step (pc2 := 10) (ls2 := [(0, .ref 111), (1, .int (nI g)), (2, .int x)]) (st2 := [.int (nI g), .ref 111]) (w3 := w) rfl rfl ?_
      refine sx_RP.step (pc2 := 11) (ls2 := [(0, .ref 111), (1, .int (nI g)), (2, .int x)]) (st2 := [.int 1, .int (nI g), .ref 111]) (w3 := w) rfl rfl ?_
      obtain ⟨x5, hx6, c7⟩ := p138_1 hI (show g < 10 by omega)
      refine sx_RP.cu (as := [.ref 111, .int (nI g), .int 1]) (rest2 := []) (st3 := [.int (nI x5)]) rfl rfl (sx_inv_v2 (mi := 181) (k := 59) (st := [.int 1, .int (nI g), .ref 111]) (w := w) rfl rfl hI.1.o111 rfl rfl rfl) rfl rfl (c7) rfl ?_
      refine sx_RP.step (pc2 := 15) (ls2 := [(0, .ref 111), (1, .int (nI g)), (2, .int x)]) (st2 := [.int x, .int (nI x5)]) (w3 := w) rfl rfl ?_
      refine sx_RP.br (p1 := 22) (l1 := [(0, .ref 111), (1, .int (nI g)), (2, .int x)]) (s1 := []) (v1 := w) (p2 := 18) (l2 := [(0, .ref 111), (1, .int (nI g)), (2, .int x)]) (s2 := []) (v2 := w) rfl rfl (fun q8 => ?_) (fun q8 => ?_)
      · replace q8 := of_decide_eq_true q8
        refine sx_RP.step (pc2 := 23) (ls2 := [(0, .ref 111), (1, .int (nI g)), (2, .int x)]) (st2 := [.int 0]) (w3 := w) rfl rfl ?_
        refine sx_RP.ret (r := (some (.int 0))) rfl rfl ?_
        exact ⟨⟨0, by decide, rfl⟩, rfl⟩
      · replace q8 := Decidable.not_not.mp (of_decide_eq_false q8)
        refine sx_RP.step (pc2 := 19) (ls2 := [(0, .ref 111), (1, .int (nI g)), (2, .int x)]) (st2 := [.int 1]) (w3 := w) rfl rfl ?_
        refine sx_RP.step (pc2 := 23) (ls2 := [(0, .ref 111), (1, .int (nI g)), (2, .int x)]) (st2 := [.int 1]) (w3 := w) rfl rfl ?_
        refine sx_RP.ret (r := (some (.int 1))) rfl rfl ?_
        exact ⟨⟨1, by decide, rfl⟩, rfl⟩
  obtain ⟨r, w2, h1, ⟨j, hj, rfl⟩, rfl⟩ := h
  exact ⟨j, hj, h1⟩
set_option maxRecDepth 20000 in
set_option maxHeartbeats 4000000 in
theorem p178B {xs : Option (List Int32)} {d : Nat} {w : List sx_C} (hI : WI w) {j : Nat} (hj : j ≤ 10) (kk : j + 1 ≤ 10 → sx_RP xs (d + 2) 178 2 [(0, .ref 111), (1, .int (nI (j + 1)))] [] w (fun r w2 => (∃ v : Int32, r = some (.int v)) ∧ w2 = w)) : sx_RP xs (d + 2) 178 2 [(0, .ref 111), (1, .int (nI j))] [] w (fun r w2 => (∃ v : Int32, r = some (.int v)) ∧ w2 = w) := by
  refine sx_RP.step (pc2 := 3) (ls2 := [(0, .ref 111), (1, .int (nI j))]) (st2 := [.int (nI j)]) (w3 := w) rfl rfl ?_
  refine sx_RP.step (pc2 := 4) (ls2 := [(0, .ref 111), (1, .int (nI j))]) (st2 := [.ref 111, .int (nI j)]) (w3 := w) rfl rfl ?_
  refine sx_RP.gf (v := .ref 112) rfl rfl hI.1.o111 rfl rfl (show _ = 7 from rfl) ?_
  refine sx_RP.step (pc2 := 8) (ls2 := [(0, .ref 111), (1, .int (nI j))]) (st2 := [.int 1, .ref 112, .int (nI j)]) (w3 := w) rfl rfl ?_
  refine sx_RP.ild (c := 1) rfl hI.1.a112.1 hI.1.a112.2 (sx_in_nI (show 1 < 172 by omega) (by decide)) (show (nI 1).toNatClampNeg = 1 from nI_clamp (by omega)) (show _ = 9 from rfl) ?_
  obtain ⟨x1, hx2, ex3⟩ : inR ((ia w 112).getD 1 0) 10 := (hI.s (1) (by omega)).1 rfl
  rw [ex3]
  refine sx_RP.br (p1 := 53) (l1 := [(0, .ref 111), (1, .int (nI j))]) (s1 := []) (v1 := w) (p2 := 12) (l2 := [(0, .ref 111), (1, .int (nI j))]) (s2 := []) (v2 := w) rfl rfl (fun q4 => ?_) (fun q4 => ?_)
  · replace q4 := of_decide_eq_true q4
    replace q4 := (nI_leI (a := x1) (b := j) (by omega) (by omega)).mp q4
    refine sx_RP.step (pc2 := 54) (ls2 := [(0, .ref 111), (1, .int (nI j))]) (st2 := [.int (nI j)]) (w3 := w) rfl rfl ?_
    refine sx_RP.step (pc2 := 55) (ls2 := [(0, .ref 111), (1, .int (nI j))]) (st2 := [.ref 111, .int (nI j)]) (w3 := w) rfl rfl ?_
    refine sx_RP.gf (v := .ref 112) rfl rfl hI.1.o111 rfl rfl (show _ = 58 from rfl) ?_
    refine sx_RP.step (pc2 := 59) (ls2 := [(0, .ref 111), (1, .int (nI j))]) (st2 := [.int 1, .ref 112, .int (nI j)]) (w3 := w) rfl rfl ?_
    refine sx_RP.ild (c := 1) rfl hI.1.a112.1 hI.1.a112.2 (sx_in_nI (show 1 < 172 by omega) (by decide)) (show (nI 1).toNatClampNeg = 1 from nI_clamp (by omega)) (show _ = 60 from rfl) ?_
    rw [ex3]
    refine sx_RP.br (p1 := 67) (l1 := [(0, .ref 111), (1, .int (nI j))]) (s1 := []) (v1 := w) (p2 := 63) (l2 := [(0, .ref 111), (1, .int (nI j))]) (s2 := []) (v2 := w) rfl rfl (fun q5 => ?_) (fun q5 => ?_)
    · replace q5 := of_decide_eq_true q5
      replace q5 := (nI_leI (a := x1) (b := j) (by omega) (by omega)).mp q5
      refine sx_RP.step (pc2 := 68) (ls2 := [(0, .ref 111), (1, .int (nI j))]) (st2 := [.int (-1)]) (w3 := w) rfl rfl ?_
      refine sx_RP.ret (r := (some (.int (-1)))) rfl rfl ?_
      exact ⟨⟨_, rfl⟩, rfl⟩
    · replace q5 := of_decide_eq_false q5
      replace q5 := mt (nI_leI (a := x1) (b := j) (by omega) (by omega)).mpr q5
      refine sx_RP.step (pc2 := 64) (ls2 := [(0, .ref 111), (1, .int (nI j))]) (st2 := [.int (nI j)]) (w3 := w) rfl rfl ?_
      refine sx_RP.step (pc2 := 68) (ls2 := [(0, .ref 111), (1, .int (nI j))]) (st2 := [.int (nI j)]) (w3 := w) rfl rfl ?_
      refine sx_RP.ret (r := (some (.int (nI j)))) rfl rfl ?_
      exact ⟨⟨_, rfl⟩, rfl⟩
  · replace q4 := of_decide_eq_false q4
    replace q4 := mt (nI_leI (a := x1) (b := j) (by omega) (by omega)).mpr q4
    refine sx_RP.step (pc2 := 13) (ls2 := [(0, .ref 111), (1, .int (nI j))]) (st2 := [.ref 111]) (w3 := w) rfl rfl ?_
    refine sx_RP.step (pc2 := 14) (ls2 := [(0, .ref 111), (1, .int (nI j))]) (st2 := [.int (nI j), .ref 111]) (w3 := w) rfl rfl ?_
    refine sx_RP.step (pc2 := 15) (ls2 := [(0, .ref 111), (1, .int (nI j))]) (st2 := [.int 1, .int (nI j), .ref 111]) (w3 := w) rfl rfl ?_
    obtain ⟨x6, hx7, c8⟩ := p138_1 hI (show j < 10 by omega)
    refine sx_RP.cu (as := [.ref 111, .int (nI j), .int 1]) (rest2 := []) (st3 := [.int (nI x6)]) rfl rfl (sx_inv_v2 (mi := 178) (k := 59) (st := [.int 1, .int (nI j), .ref 111]) (w := w) rfl rfl hI.1.o111 rfl rfl rfl) rfl rfl (c8) rfl ?_
    refine sx_RP.br (p1 := 47) (l1 := [(0, .ref 111), (1, .int (nI j))]) (s1 := []) (v1 := w) (p2 := 21) (l2 := [(0, .ref 111), (1, .int (nI j))]) (s2 := []) (v2 := w) rfl rfl (fun q9 => ?_) (fun q9 => ?_)
    · replace q9 := of_decide_eq_true q9
      replace q9 := mt (nI_eq (a := x6) (b := 0) (by omega) (by omega)).mpr q9
      refine sx_RP.step (pc2 := 50) (ls2 := [(1, .int ((nI j) + 1)), (0, .ref 111)]) (st2 := []) (w3 := w) rfl rfl ?_
      rw [nI_1 j]
      refine sx_RP.step (pc2 := 2) (ls2 := [(1, .int (nI (j + 1))), (0, .ref 111)]) (st2 := []) (w3 := w) rfl rfl ?_
      exact sx_RP.ls (sx_lr.cons rfl (sx_lr.cons rfl sx_lr.nil)) (kk (by omega))
    · replace q9 := Decidable.not_not.mp (of_decide_eq_false q9)
      replace q9 := (nI_eq (a := x6) (b := 0) (by omega) (by omega)).mp q9
      refine sx_RP.step (pc2 := 22) (ls2 := [(0, .ref 111), (1, .int (nI j))]) (st2 := [.ref 111]) (w3 := w) rfl rfl ?_
      refine sx_RP.step (pc2 := 23) (ls2 := [(0, .ref 111), (1, .int (nI j))]) (st2 := [.int (nI j), .ref 111]) (w3 := w) rfl rfl ?_
      obtain ⟨x10, hx11, c12⟩ := p137 hI (show j < 10 by omega)
      refine sx_RP.cu (as := [.ref 111, .int (nI j)]) (rest2 := []) (st3 := [.int (nI x10)]) rfl rfl (sx_inv_v2 (mi := 178) (k := 74) (st := [.int (nI j), .ref 111]) (w := w) rfl rfl hI.1.o111 rfl rfl rfl) rfl rfl (c12) rfl ?_
      refine sx_RP.br (p1 := 47) (l1 := [(0, .ref 111), (1, .int (nI j))]) (s1 := []) (v1 := w) (p2 := 29) (l2 := [(0, .ref 111), (1, .int (nI j))]) (s2 := []) (v2 := w) rfl rfl (fun q13 => ?_) (fun q13 => ?_)
      · replace q13 := of_decide_eq_true q13
        replace q13 := (nI_eq (a := x10) (b := 0) (by omega) (by omega)).mp q13
        refine sx_RP.step (pc2 := 50) (ls2 := [(1, .int ((nI j) + 1)), (0, .ref 111)]) (st2 := []) (w3 := w) rfl rfl ?_
        rw [nI_1 j]
        refine sx_RP.step (pc2 := 2) (ls2 := [(1, .int (nI (j + 1))), (0, .ref 111)]) (st2 := []) (w3 := w) rfl rfl ?_
        exact sx_RP.ls (sx_lr.cons rfl (sx_lr.cons rfl sx_lr.nil)) (kk (by omega))
      · replace q13 := of_decide_eq_false q13
        replace q13 := mt (nI_eq (a := x10) (b := 0) (by omega) (by omega)).mpr q13
        refine sx_RP.step (pc2 := 30) (ls2 := [(0, .ref 111), (1, .int (nI j))]) (st2 := [.ref 111]) (w3 := w) rfl rfl ?_
        refine sx_RP.gf (v := .ref 112) rfl rfl hI.1.o111 rfl rfl (show _ = 33 from rfl) ?_
        refine sx_RP.step (pc2 := 35) (ls2 := [(0, .ref 111), (1, .int (nI j))]) (st2 := [.int 55, .ref 112]) (w3 := w) rfl rfl ?_
        refine sx_RP.step (pc2 := 36) (ls2 := [(0, .ref 111), (1, .int (nI j))]) (st2 := [.ref 111, .int 55, .ref 112]) (w3 := w) rfl rfl ?_
        refine sx_RP.step (pc2 := 37) (ls2 := [(0, .ref 111), (1, .int (nI j))]) (st2 := [.int (nI j), .ref 111, .int 55, .ref 112]) (w3 := w) rfl rfl ?_
        refine sx_RP.step (pc2 := 38) (ls2 := [(0, .ref 111), (1, .int (nI j))]) (st2 := [.int 2, .int (nI j), .ref 111, .int 55, .ref 112]) (w3 := w) rfl rfl ?_
        obtain ⟨x14, hx15, c16⟩ := p138_2 hI (show j < 10 by omega)
        refine sx_RP.cu (as := [.ref 111, .int (nI j), .int 2]) (rest2 := [.int 55, .ref 112]) (st3 := [.int (nI x14), .int 55, .ref 112]) rfl rfl (sx_inv_v2 (mi := 178) (k := 59) (st := [.int 2, .int (nI j), .ref 111, .int 55, .ref 112]) (w := w) rfl rfl hI.1.o111 rfl rfl rfl) rfl rfl (c16) rfl ?_
        refine sx_RP.step (pc2 := 42) (ls2 := [(0, .ref 111), (1, .int (nI j))]) (st2 := [.int (55 + (nI x14)), .ref 112]) (w3 := w) rfl rfl ?_
        rw [show (55 + (nI x14) : Int32) = nI (55 + x14) from nI_add 55 x14]
        refine sx_RP.ild (c := (55 + x14)) rfl hI.1.a112.1 hI.1.a112.2 (sx_in_nI (show (55 + x14) < 172 by omega) (by decide)) (show (nI (55 + x14)).toNatClampNeg = (55 + x14) from nI_clamp (by omega)) (show _ = 43 from rfl) ?_
        refine sx_RP.step (pc2 := 44) (ls2 := [(0, .ref 111), (1, .int (nI j))]) (st2 := [.int 1, .int ((ia w 112).getD (55 + x14) 0)]) (w3 := w) rfl rfl ?_
        refine sx_RP.br (p1 := 53) (l1 := [(0, .ref 111), (1, .int (nI j))]) (s1 := []) (v1 := w) (p2 := 47) (l2 := [(0, .ref 111), (1, .int (nI j))]) (s2 := []) (v2 := w) rfl rfl (fun q17 => ?_) (fun q17 => ?_)
        · replace q17 := of_decide_eq_true q17
          refine sx_RP.step (pc2 := 54) (ls2 := [(0, .ref 111), (1, .int (nI j))]) (st2 := [.int (nI j)]) (w3 := w) rfl rfl ?_
          refine sx_RP.step (pc2 := 55) (ls2 := [(0, .ref 111), (1, .int (nI j))]) (st2 := [.ref 111, .int (nI j)]) (w3 := w) rfl rfl ?_
          refine sx_RP.gf (v := .ref 112) rfl rfl hI.1.o111 rfl rfl (show _ = 58 from rfl) ?_
          refine sx_RP.step (pc2 := 59) (ls2 := [(0, .ref 111), (1, .int (nI j))]) (st2 := [.int 1, .ref 112, .int (nI j)]) (w3 := w) rfl rfl ?_
          refine sx_RP.ild (c := 1) rfl hI.1.a112.1 hI.1.a112.2 (sx_in_nI (show 1 < 172 by omega) (by decide)) (show (nI 1).toNatClampNeg = 1 from nI_clamp (by omega)) (show _ = 60 from rfl) ?_
          rw [ex3]
          refine sx_RP.br (p1 := 67) (l1 := [(0, .ref 111), (1, .int (nI j))]) (s1 := []) (v1 := w) (p2 := 63) (l2 := [(0, .ref 111), (1, .int (nI j))]) (s2 := []) (v2 := w) rfl rfl (fun q18 => ?_) (fun q18 => ?_)
          · replace q18 := of_decide_eq_true q18
            replace q18 := (nI_leI (a := x1) (b := j) (by omega) (by omega)).mp q18
            refine sx_RP.step (pc2 := 68) (ls2 := [(0, .ref 111), (1, .int (nI j))]) (st2 := [.int (-1)]) (w3 := w) rfl rfl ?_
            refine sx_RP.ret (r := (some (.int (-1)))) rfl rfl ?_
            exact ⟨⟨_, rfl⟩, rfl⟩
          · replace q18 := of_decide_eq_false q18
            replace q18 := mt (nI_leI (a := x1) (b := j) (by omega) (by omega)).mpr q18
            refine sx_RP.step (pc2 := 64) (ls2 := [(0, .ref 111), (1, .int (nI j))]) (st2 := [.int (nI j)]) (w3 := w) rfl rfl ?_
            refine sx_RP.step (pc2 := 68) (ls2 := [(0, .ref 111), (1, .int (nI j))]) (st2 := [.int (nI j)]) (w3 := w) rfl rfl ?_
            refine sx_RP.ret (r := (some (.int (nI j)))) rfl rfl ?_
            exact ⟨⟨_, rfl⟩, rfl⟩
        · replace q17 := of_decide_eq_false q17
          refine sx_RP.step (pc2 := 50) (ls2 := [(1, .int ((nI j) + 1)), (0, .ref 111)]) (st2 := []) (w3 := w) rfl rfl ?_
          rw [nI_1 j]
          refine sx_RP.step (pc2 := 2) (ls2 := [(1, .int (nI (j + 1))), (0, .ref 111)]) (st2 := []) (w3 := w) rfl rfl ?_
          exact sx_RP.ls (sx_lr.cons rfl (sx_lr.cons rfl sx_lr.nil)) (kk (by omega))
set_option maxRecDepth 20000 in
set_option maxHeartbeats 4000000 in
theorem p178L {xs : Option (List Int32)} {d : Nat} {w : List sx_C} (hI : WI w) : ∀ (fz j : Nat) , 10 ≤ j + fz * 1 → j ≤ 10 → sx_RP xs (d + 2) 178 2 [(0, .ref 111), (1, .int (nI j))] [] w (fun r w2 => (∃ v : Int32, r = some (.int v)) ∧ w2 = w)
  | 0, j, h, hj => p178B  hI hj   (fun   hlt  => absurd hlt (by omega)) 
  | fz + 1, j, h, hj => p178B  hI hj   (fun   hlt  => p178L  hI  fz (j + 1)  (by omega) hlt ) 
set_option maxRecDepth 20000 in
set_option maxHeartbeats 4000000 in
theorem p178 {xs : Option (List Int32)} {d : Nat} {w : List sx_C} (hI : WI w) : ∃ v : Int32, sx_RU xs (d + 2) 178 0 (lv_args 0 [.ref 111]) [] w (some (.int v)) w := by
  have h : sx_RP xs (d + 2) 178 0 (lv_args 0 [.ref 111]) [] w (fun r w2 => (∃ v : Int32, r = some (.int v)) ∧ w2 = w) := by
    refine sx_RP.step (pc2 := 1) (ls2 := [(0, .ref 111)]) (st2 := [.int 0]) (w3 := w) rfl rfl ?_
    refine sx_RP.step (pc2 := 2) (ls2 := [(1, .int 0), (0, .ref 111)]) (st2 := []) (w3 := w) rfl rfl ?_
    exact sx_RP.ls (sx_lr.cons rfl (sx_lr.cons rfl sx_lr.nil)) (p178L  hI 10 0  (by omega) (by omega) )
  obtain ⟨r, w2, h1, ⟨v, rfl⟩, rfl⟩ := h
  exact ⟨v, h1⟩
set_option maxRecDepth 20000 in
set_option maxHeartbeats 4000000 in
theorem s170 {xs : Option (List Int32)} {d : Nat} {w : List sx_C} (hI : WI w) {g : Nat} (hg : g < 10) : sx_RP xs (d + 2) 170 0 (lv_args 0 [.ref 111, .int (nI g)]) [] w (fun r w2 => (r = none) ∧ WI w2 ∧ EM w w2) := by
  have hE : EM w w := EM.rf
  refine sx_RP.step (pc2 := 1) (ls2 := [(0, .ref 111), (1, .int (nI g))]) (st2 := [.ref 111]) (w3 := w) rfl rfl ?_
  refine sx_RP.step (pc2 := 2) (ls2 := [(0, .ref 111), (1, .int (nI g))]) (st2 := [.int (nI g), .ref 111]) (w3 := w) rfl rfl ?_
  refine sx_RP.step (pc2 := 3) (ls2 := [(0, .ref 111), (1, .int (nI g))]) (st2 := [.int 2, .int (nI g), .ref 111]) (w3 := w) rfl rfl ?_
  obtain ⟨x1, hx2, c3⟩ := p138_2 hI (show g < 10 by omega)
  refine sx_RP.cu (as := [.ref 111, .int (nI g), .int 2]) (rest2 := []) (st3 := [.int (nI x1)]) rfl rfl (sx_inv_v2 (mi := 170) (k := 59) (st := [.int 2, .int (nI g), .ref 111]) (w := w) rfl rfl hI.1.o111 rfl rfl rfl) rfl rfl (c3) rfl ?_
  refine sx_RP.step (pc2 := 7) (ls2 := [(0, .ref 111), (1, .int (nI g))]) (st2 := [.ref 111, .int (nI x1)]) (w3 := w) rfl rfl ?_
  refine sx_RP.step (pc2 := 8) (ls2 := [(0, .ref 111), (1, .int (nI g))]) (st2 := [.int (nI g), .ref 111, .int (nI x1)]) (w3 := w) rfl rfl ?_
  refine sx_RP.step (pc2 := 9) (ls2 := [(0, .ref 111), (1, .int (nI g))]) (st2 := [.int 3, .int (nI g), .ref 111, .int (nI x1)]) (w3 := w) rfl rfl ?_
  obtain ⟨x4, hx5, c6⟩ := p138_3 hI (show g < 10 by omega)
  refine sx_RP.cu (as := [.ref 111, .int (nI g), .int 3]) (rest2 := [.int (nI x1)]) (st3 := [.int (nI x4), .int (nI x1)]) rfl rfl (sx_inv_v2 (mi := 170) (k := 59) (st := [.int 3, .int (nI g), .ref 111, .int (nI x1)]) (w := w) rfl rfl hI.1.o111 rfl rfl rfl) rfl rfl (c6) rfl ?_
  rcases bes_cases (c := x1) (j := x4) (by omega) (by omega) with q7 | ⟨x8, hx9, q7⟩
  · refine sx_RP.cu (as := [.int (nI x1), .int (nI x4)]) (rest2 := []) (st3 := [.int (-1)]) rfl rfl rfl rfl rfl (cb_142e (by omega) (by omega) q7) rfl ?_
    refine sx_RP.step (pc2 := 16) (ls2 := [(2, .int (-1)), (0, .ref 111), (1, .int (nI g))]) (st2 := []) (w3 := w) rfl rfl ?_
    refine sx_RP.step (pc2 := 17) (ls2 := [(2, .int (-1)), (0, .ref 111), (1, .int (nI g))]) (st2 := [.int (-1)]) (w3 := w) rfl rfl ?_
    refine sx_RP.step (pc2 := 20) (ls2 := [(2, .int (-1)), (0, .ref 111), (1, .int (nI g))]) (st2 := []) (w3 := w) rfl rfl ?_
    refine sx_RP.ret (r := none) rfl rfl ?_
    exact ⟨rfl, hI, hE⟩
  · refine sx_RP.cu (as := [.int (nI x1), .int (nI x4)]) (rest2 := []) (st3 := [.int (nI x8)]) rfl rfl rfl rfl rfl (cb_142e (by omega) (by omega) q7) rfl ?_
    refine sx_RP.step (pc2 := 16) (ls2 := [(2, .int (nI x8)), (0, .ref 111), (1, .int (nI g))]) (st2 := []) (w3 := w) rfl rfl ?_
    refine sx_RP.step (pc2 := 17) (ls2 := [(2, .int (nI x8)), (0, .ref 111), (1, .int (nI g))]) (st2 := [.int (nI x8)]) (w3 := w) rfl rfl ?_
    refine sx_RP.br (p1 := 21) (l1 := [(2, .int (nI x8)), (0, .ref 111), (1, .int (nI g))]) (s1 := []) (v1 := w) rfl rfl (fun _ => ?_) (fun q => absurd (nI_pos' (by omega)) (of_decide_eq_false q))
    refine sx_RP.step (pc2 := 22) (ls2 := [(2, .int (nI x8)), (0, .ref 111), (1, .int (nI g))]) (st2 := [.ref 111]) (w3 := w) rfl rfl ?_
    refine sx_RP.step (pc2 := 23) (ls2 := [(2, .int (nI x8)), (0, .ref 111), (1, .int (nI g))]) (st2 := [.int (nI g), .ref 111]) (w3 := w) rfl rfl ?_
    refine sx_RP.step (pc2 := 24) (ls2 := [(2, .int (nI x8)), (0, .ref 111), (1, .int (nI g))]) (st2 := [.int (nI x8), .int (nI g), .ref 111]) (w3 := w) rfl rfl ?_
    obtain ⟨v10, c11⟩ := p147 hI (show g < 10 by omega) (show x8 < 48 by omega)
    refine sx_RP.cu (as := [.ref 111, .int (nI g), .int (nI x8)]) (rest2 := []) (st3 := [.int v10]) rfl rfl (sx_inv_v2 (mi := 170) (k := 87) (st := [.int (nI x8), .int (nI g), .ref 111]) (w := w) rfl rfl hI.1.o111 rfl rfl rfl) rfl rfl (c11) rfl ?_
    refine sx_RP.step (pc2 := 28) (ls2 := [(3, .int v10), (2, .int (nI x8)), (0, .ref 111), (1, .int (nI g))]) (st2 := []) (w3 := w) rfl rfl ?_
    refine sx_RP.step (pc2 := 29) (ls2 := [(3, .int v10), (2, .int (nI x8)), (0, .ref 111), (1, .int (nI g))]) (st2 := [.int v10]) (w3 := w) rfl rfl ?_
    refine sx_RP.br (p1 := 41) (l1 := [(3, .int v10), (2, .int (nI x8)), (0, .ref 111), (1, .int (nI g))]) (s1 := []) (v1 := w) (p2 := 32) (l2 := [(3, .int v10), (2, .int (nI x8)), (0, .ref 111), (1, .int (nI g))]) (s2 := []) (v2 := w) rfl rfl (fun q12 => ?_) (fun q12 => ?_)
    · replace q12 := of_decide_eq_true q12
      refine sx_RP.step (pc2 := 42) (ls2 := [(3, .int v10), (2, .int (nI x8)), (0, .ref 111), (1, .int (nI g))]) (st2 := [.ref 111]) (w3 := w) rfl rfl ?_
      refine sx_RP.step (pc2 := 43) (ls2 := [(3, .int v10), (2, .int (nI x8)), (0, .ref 111), (1, .int (nI g))]) (st2 := [.int (nI g), .ref 111]) (w3 := w) rfl rfl ?_
      refine sx_RP.step (pc2 := 44) (ls2 := [(3, .int v10), (2, .int (nI x8)), (0, .ref 111), (1, .int (nI g))]) (st2 := [.int 4, .int (nI g), .ref 111]) (w3 := w) rfl rfl ?_
      obtain ⟨v13, c14⟩ := p138_4 hI (show g < 10 by omega)
      refine sx_RP.cu (as := [.ref 111, .int (nI g), .int 4]) (rest2 := []) (st3 := [.int v13]) rfl rfl (sx_inv_v2 (mi := 170) (k := 59) (st := [.int 4, .int (nI g), .ref 111]) (w := w) rfl rfl hI.1.o111 rfl rfl rfl) rfl rfl (c14) rfl ?_
      refine sx_RP.step (pc2 := 48) (ls2 := [(3, .int v10), (2, .int (nI x8)), (0, .ref 111), (1, .int (nI g))]) (st2 := [.int 1, .int v13]) (w3 := w) rfl rfl ?_
      refine sx_RP.step (pc2 := 49) (ls2 := [(3, .int v10), (2, .int (nI x8)), (0, .ref 111), (1, .int (nI g))]) (st2 := [.int (v13 + 1)]) (w3 := w) rfl rfl ?_
      refine sx_RP.step (pc2 := 51) (ls2 := [(4, .int (v13 + 1)), (3, .int v10), (2, .int (nI x8)), (0, .ref 111), (1, .int (nI g))]) (st2 := []) (w3 := w) rfl rfl ?_
      refine sx_RP.step (pc2 := 52) (ls2 := [(4, .int (v13 + 1)), (3, .int v10), (2, .int (nI x8)), (0, .ref 111), (1, .int (nI g))]) (st2 := [.ref 111]) (w3 := w) rfl rfl ?_
      refine sx_RP.step (pc2 := 53) (ls2 := [(4, .int (v13 + 1)), (3, .int v10), (2, .int (nI x8)), (0, .ref 111), (1, .int (nI g))]) (st2 := [.int (nI g), .ref 111]) (w3 := w) rfl rfl ?_
      refine sx_RP.step (pc2 := 54) (ls2 := [(4, .int (v13 + 1)), (3, .int v10), (2, .int (nI x8)), (0, .ref 111), (1, .int (nI g))]) (st2 := [.int 4, .int (nI g), .ref 111]) (w3 := w) rfl rfl ?_
      refine sx_RP.step (pc2 := 56) (ls2 := [(4, .int (v13 + 1)), (3, .int v10), (2, .int (nI x8)), (0, .ref 111), (1, .int (nI g))]) (st2 := [.int (v13 + 1), .int 4, .int (nI g), .ref 111]) (w3 := w) rfl rfl ?_
      refine sx_RP.step (pc2 := 57) (ls2 := [(4, .int (v13 + 1)), (3, .int v10), (2, .int (nI x8)), (0, .ref 111), (1, .int (nI g))]) (st2 := [.int v10, .int (v13 + 1), .int 4, .int (nI g), .ref 111]) (w3 := w) rfl rfl ?_
      refine sx_RP.br (p1 := 64) (l1 := [(4, .int (v13 + 1)), (3, .int v10), (2, .int (nI x8)), (0, .ref 111), (1, .int (nI g))]) (s1 := [.int 4, .int (nI g), .ref 111]) (v1 := w) (p2 := 60) (l2 := [(4, .int (v13 + 1)), (3, .int v10), (2, .int (nI x8)), (0, .ref 111), (1, .int (nI g))]) (s2 := [.int 4, .int (nI g), .ref 111]) (v2 := w) rfl rfl (fun q15 => ?_) (fun q15 => ?_)
      · replace q15 := of_decide_eq_true q15
        refine sx_RP.step (pc2 := 66) (ls2 := [(4, .int (v13 + 1)), (3, .int v10), (2, .int (nI x8)), (0, .ref 111), (1, .int (nI g))]) (st2 := [.int (v13 + 1), .int 4, .int (nI g), .ref 111]) (w3 := w) rfl rfl ?_
        refine sx_RP.callp (as2 := [.ref 111, .int (nI g), .int 4, .int (v13 + 1)]) (rest2 := []) rfl rfl (sx_inv_v2 (mi := 170) (k := 110) (st := [.int (v13 + 1), .int 4, .int (nI g), .ref 111]) (w := w) rfl rfl hI.1.o111 rfl rfl rfl) rfl rfl rfl (s154_4 hI (show g < 10 by omega) (v13 + 1)) (show _ = 69 from rfl) ?_
        rintro r4 w17 ⟨⟨v16, rfl⟩, hI18, hE20⟩
        have hE19 := hE.tr (hE20)
        show sx_RP _ _ _ _ _ [.int v16] _ _
        refine sx_RP.step (pc2 := 70) (ls2 := [(4, .int (v13 + 1)), (3, .int v10), (2, .int (nI x8)), (0, .ref 111), (1, .int (nI g))]) (st2 := []) (w3 := w17) rfl rfl ?_
        refine sx_RP.step (pc2 := 72) (ls2 := [(4, .int (v13 + 1)), (3, .int v10), (2, .int (nI x8)), (0, .ref 111), (1, .int (nI g))]) (st2 := [.int (v13 + 1)]) (w3 := w17) rfl rfl ?_
        refine sx_RP.step (pc2 := 73) (ls2 := [(4, .int (v13 + 1)), (3, .int v10), (2, .int (nI x8)), (0, .ref 111), (1, .int (nI g))]) (st2 := [.int v10, .int (v13 + 1)]) (w3 := w17) rfl rfl ?_
        refine sx_RP.br (p1 := 105) (l1 := [(4, .int (v13 + 1)), (3, .int v10), (2, .int (nI x8)), (0, .ref 111), (1, .int (nI g))]) (s1 := []) (v1 := w17) (p2 := 76) (l2 := [(4, .int (v13 + 1)), (3, .int v10), (2, .int (nI x8)), (0, .ref 111), (1, .int (nI g))]) (s2 := []) (v2 := w17) rfl rfl (fun q21 => ?_) (fun q21 => ?_)
        · replace q21 := of_decide_eq_true q21
          refine sx_RP.ret (r := none) rfl rfl ?_
          exact ⟨rfl, hI18, hE19⟩
        · replace q21 := of_decide_eq_false q21
          refine sx_RP.step (pc2 := 77) (ls2 := [(4, .int (v13 + 1)), (3, .int v10), (2, .int (nI x8)), (0, .ref 111), (1, .int (nI g))]) (st2 := [.ref 111]) (w3 := w17) rfl rfl ?_
          refine sx_RP.step (pc2 := 78) (ls2 := [(4, .int (v13 + 1)), (3, .int v10), (2, .int (nI x8)), (0, .ref 111), (1, .int (nI g))]) (st2 := [.int (nI g), .ref 111]) (w3 := w17) rfl rfl ?_
          refine sx_RP.step (pc2 := 79) (ls2 := [(4, .int (v13 + 1)), (3, .int v10), (2, .int (nI x8)), (0, .ref 111), (1, .int (nI g))]) (st2 := [.int 2, .int (nI g), .ref 111]) (w3 := w17) rfl rfl ?_
          refine sx_RP.step (pc2 := 80) (ls2 := [(4, .int (v13 + 1)), (3, .int v10), (2, .int (nI x8)), (0, .ref 111), (1, .int (nI g))]) (st2 := [.int (nI x8), .int 2, .int (nI g), .ref 111]) (w3 := w17) rfl rfl ?_
          refine sx_RP.callp (as2 := [.ref 111, .int (nI g), .int 2, .int (nI x8)]) (rest2 := []) rfl rfl (sx_inv_v2 (mi := 170) (k := 110) (st := [.int (nI x8), .int 2, .int (nI g), .ref 111]) (w := w17) rfl rfl hI18.1.o111 rfl rfl rfl) rfl rfl rfl (s154_2 hI18 (show g < 10 by omega) (show x8 ≤ 47 by omega)) (show _ = 83 from rfl) ?_
          rintro r4 w23 ⟨⟨v22, rfl⟩, hI24, hE26⟩
          have hE25 := hE19.tr (hE26)
          show sx_RP _ _ _ _ _ [.int v22] _ _
          refine sx_RP.step (pc2 := 84) (ls2 := [(4, .int (v13 + 1)), (3, .int v10), (2, .int (nI x8)), (0, .ref 111), (1, .int (nI g))]) (st2 := []) (w3 := w23) rfl rfl ?_
          refine sx_RP.step (pc2 := 85) (ls2 := [(4, .int (v13 + 1)), (3, .int v10), (2, .int (nI x8)), (0, .ref 111), (1, .int (nI g))]) (st2 := [.ref 111]) (w3 := w23) rfl rfl ?_
          refine sx_RP.step (pc2 := 86) (ls2 := [(4, .int (v13 + 1)), (3, .int v10), (2, .int (nI x8)), (0, .ref 111), (1, .int (nI g))]) (st2 := [.int (nI g), .ref 111]) (w3 := w23) rfl rfl ?_
          refine sx_RP.step (pc2 := 87) (ls2 := [(4, .int (v13 + 1)), (3, .int v10), (2, .int (nI x8)), (0, .ref 111), (1, .int (nI g))]) (st2 := [.int 5, .int (nI g), .ref 111]) (w3 := w23) rfl rfl ?_
          refine sx_RP.step (pc2 := 88) (ls2 := [(4, .int (v13 + 1)), (3, .int v10), (2, .int (nI x8)), (0, .ref 111), (1, .int (nI g))]) (st2 := [.ref 111, .int 5, .int (nI g), .ref 111]) (w3 := w23) rfl rfl ?_
          refine sx_RP.step (pc2 := 89) (ls2 := [(4, .int (v13 + 1)), (3, .int v10), (2, .int (nI x8)), (0, .ref 111), (1, .int (nI g))]) (st2 := [.int (nI g), .ref 111, .int 5, .int (nI g), .ref 111]) (w3 := w23) rfl rfl ?_
          refine sx_RP.step (pc2 := 90) (ls2 := [(4, .int (v13 + 1)), (3, .int v10), (2, .int (nI x8)), (0, .ref 111), (1, .int (nI g))]) (st2 := [.int (nI x8), .int (nI g), .ref 111, .int 5, .int (nI g), .ref 111]) (w3 := w23) rfl rfl ?_
          obtain ⟨x27, hx28, c29⟩ := p144 hI24 (show g < 10 by omega) (show x8 < 48 by omega)
          refine sx_RP.cu (as := [.ref 111, .int (nI g), .int (nI x8)]) (rest2 := [.int 5, .int (nI g), .ref 111]) (st3 := [.int (nI x27), .int 5, .int (nI g), .ref 111]) rfl rfl (sx_inv_v2 (mi := 170) (k := 107) (st := [.int (nI x8), .int (nI g), .ref 111, .int 5, .int (nI g), .ref 111]) (w := w23) rfl rfl hI24.1.o111 rfl rfl rfl) rfl rfl (c29) rfl ?_
          refine sx_RP.br (p1 := 100) (l1 := [(4, .int (v13 + 1)), (3, .int v10), (2, .int (nI x8)), (0, .ref 111), (1, .int (nI g))]) (s1 := [.int 5, .int (nI g), .ref 111]) (v1 := w23) (p2 := 96) (l2 := [(4, .int (v13 + 1)), (3, .int v10), (2, .int (nI x8)), (0, .ref 111), (1, .int (nI g))]) (s2 := [.int 5, .int (nI g), .ref 111]) (v2 := w23) rfl rfl (fun q30 => ?_) (fun q30 => ?_)
          · replace q30 := of_decide_eq_true q30
            replace q30 := (nI_eq (a := x27) (b := 0) (by omega) (by omega)).mp q30
            refine sx_RP.step (pc2 := 101) (ls2 := [(4, .int (v13 + 1)), (3, .int v10), (2, .int (nI x8)), (0, .ref 111), (1, .int (nI g))]) (st2 := [.int 1, .int 5, .int (nI g), .ref 111]) (w3 := w23) rfl rfl ?_
            refine sx_RP.callp (as2 := [.ref 111, .int (nI g), .int 5, .int 1]) (rest2 := []) rfl rfl (sx_inv_v2 (mi := 170) (k := 110) (st := [.int 1, .int 5, .int (nI g), .ref 111]) (w := w23) rfl rfl hI24.1.o111 rfl rfl rfl) rfl rfl rfl (s154_5 hI24 (show g < 10 by omega) (show 1 ≤ 1 by omega)) (show _ = 104 from rfl) ?_
            rintro r4 w32 ⟨⟨v31, rfl⟩, hI33, hE35⟩
            have hE34 := hE25.tr (hE35)
            show sx_RP _ _ _ _ _ [.int v31] _ _
            refine sx_RP.step (pc2 := 105) (ls2 := [(4, .int (v13 + 1)), (3, .int v10), (2, .int (nI x8)), (0, .ref 111), (1, .int (nI g))]) (st2 := []) (w3 := w32) rfl rfl ?_
            refine sx_RP.ret (r := none) rfl rfl ?_
            exact ⟨rfl, hI33, hE34⟩
          · replace q30 := of_decide_eq_false q30
            replace q30 := mt (nI_eq (a := x27) (b := 0) (by omega) (by omega)).mpr q30
            refine sx_RP.step (pc2 := 97) (ls2 := [(4, .int (v13 + 1)), (3, .int v10), (2, .int (nI x8)), (0, .ref 111), (1, .int (nI g))]) (st2 := [.int 0, .int 5, .int (nI g), .ref 111]) (w3 := w23) rfl rfl ?_
            refine sx_RP.step (pc2 := 101) (ls2 := [(4, .int (v13 + 1)), (3, .int v10), (2, .int (nI x8)), (0, .ref 111), (1, .int (nI g))]) (st2 := [.int 0, .int 5, .int (nI g), .ref 111]) (w3 := w23) rfl rfl ?_
            refine sx_RP.callp (as2 := [.ref 111, .int (nI g), .int 5, .int 0]) (rest2 := []) rfl rfl (sx_inv_v2 (mi := 170) (k := 110) (st := [.int 0, .int 5, .int (nI g), .ref 111]) (w := w23) rfl rfl hI24.1.o111 rfl rfl rfl) rfl rfl rfl (s154_5 hI24 (show g < 10 by omega) (show 0 ≤ 1 by omega)) (show _ = 104 from rfl) ?_
            rintro r4 w37 ⟨⟨v36, rfl⟩, hI38, hE40⟩
            have hE39 := hE25.tr (hE40)
            show sx_RP _ _ _ _ _ [.int v36] _ _
            refine sx_RP.step (pc2 := 105) (ls2 := [(4, .int (v13 + 1)), (3, .int v10), (2, .int (nI x8)), (0, .ref 111), (1, .int (nI g))]) (st2 := []) (w3 := w37) rfl rfl ?_
            refine sx_RP.ret (r := none) rfl rfl ?_
            exact ⟨rfl, hI38, hE39⟩
      · replace q15 := of_decide_eq_false q15
        refine sx_RP.step (pc2 := 61) (ls2 := [(4, .int (v13 + 1)), (3, .int v10), (2, .int (nI x8)), (0, .ref 111), (1, .int (nI g))]) (st2 := [.int 0, .int 4, .int (nI g), .ref 111]) (w3 := w) rfl rfl ?_
        refine sx_RP.step (pc2 := 66) (ls2 := [(4, .int (v13 + 1)), (3, .int v10), (2, .int (nI x8)), (0, .ref 111), (1, .int (nI g))]) (st2 := [.int 0, .int 4, .int (nI g), .ref 111]) (w3 := w) rfl rfl ?_
        refine sx_RP.callp (as2 := [.ref 111, .int (nI g), .int 4, .int 0]) (rest2 := []) rfl rfl (sx_inv_v2 (mi := 170) (k := 110) (st := [.int 0, .int 4, .int (nI g), .ref 111]) (w := w) rfl rfl hI.1.o111 rfl rfl rfl) rfl rfl rfl (s154_4 hI (show g < 10 by omega) 0) (show _ = 69 from rfl) ?_
        rintro r4 w42 ⟨⟨v41, rfl⟩, hI43, hE45⟩
        have hE44 := hE.tr (hE45)
        show sx_RP _ _ _ _ _ [.int v41] _ _
        refine sx_RP.step (pc2 := 70) (ls2 := [(4, .int (v13 + 1)), (3, .int v10), (2, .int (nI x8)), (0, .ref 111), (1, .int (nI g))]) (st2 := []) (w3 := w42) rfl rfl ?_
        refine sx_RP.step (pc2 := 72) (ls2 := [(4, .int (v13 + 1)), (3, .int v10), (2, .int (nI x8)), (0, .ref 111), (1, .int (nI g))]) (st2 := [.int (v13 + 1)]) (w3 := w42) rfl rfl ?_
        refine sx_RP.step (pc2 := 73) (ls2 := [(4, .int (v13 + 1)), (3, .int v10), (2, .int (nI x8)), (0, .ref 111), (1, .int (nI g))]) (st2 := [.int v10, .int (v13 + 1)]) (w3 := w42) rfl rfl ?_
        refine sx_RP.br (p1 := 105) (l1 := [(4, .int (v13 + 1)), (3, .int v10), (2, .int (nI x8)), (0, .ref 111), (1, .int (nI g))]) (s1 := []) (v1 := w42) (p2 := 76) (l2 := [(4, .int (v13 + 1)), (3, .int v10), (2, .int (nI x8)), (0, .ref 111), (1, .int (nI g))]) (s2 := []) (v2 := w42) rfl rfl (fun q46 => ?_) (fun q46 => ?_)
        · replace q46 := of_decide_eq_true q46
          refine sx_RP.ret (r := none) rfl rfl ?_
          exact ⟨rfl, hI43, hE44⟩
        · replace q46 := of_decide_eq_false q46
          refine sx_RP.step (pc2 := 77) (ls2 := [(4, .int (v13 + 1)), (3, .int v10), (2, .int (nI x8)), (0, .ref 111), (1, .int (nI g))]) (st2 := [.ref 111]) (w3 := w42) rfl rfl ?_
          refine sx_RP.step (pc2 := 78) (ls2 := [(4, .int (v13 + 1)), (3, .int v10), (2, .int (nI x8)), (0, .ref 111), (1, .int (nI g))]) (st2 := [.int (nI g), .ref 111]) (w3 := w42) rfl rfl ?_
          refine sx_RP.step (pc2 := 79) (ls2 := [(4, .int (v13 + 1)), (3, .int v10), (2, .int (nI x8)), (0, .ref 111), (1, .int (nI g))]) (st2 := [.int 2, .int (nI g), .ref 111]) (w3 := w42) rfl rfl ?_
          refine sx_RP.step (pc2 := 80) (ls2 := [(4, .int (v13 + 1)), (3, .int v10), (2, .int (nI x8)), (0, .ref 111), (1, .int (nI g))]) (st2 := [.int (nI x8), .int 2, .int (nI g), .ref 111]) (w3 := w42) rfl rfl ?_
          refine sx_RP.callp (as2 := [.ref 111, .int (nI g), .int 2, .int (nI x8)]) (rest2 := []) rfl rfl (sx_inv_v2 (mi := 170) (k := 110) (st := [.int (nI x8), .int 2, .int (nI g), .ref 111]) (w := w42) rfl rfl hI43.1.o111 rfl rfl rfl) rfl rfl rfl (s154_2 hI43 (show g < 10 by omega) (show x8 ≤ 47 by omega)) (show _ = 83 from rfl) ?_
          rintro r4 w48 ⟨⟨v47, rfl⟩, hI49, hE51⟩
          have hE50 := hE44.tr (hE51)
          show sx_RP _ _ _ _ _ [.int v47] _ _
          refine sx_RP.step (pc2 := 84) (ls2 := [(4, .int (v13 + 1)), (3, .int v10), (2, .int (nI x8)), (0, .ref 111), (1, .int (nI g))]) (st2 := []) (w3 := w48) rfl rfl ?_
          refine sx_RP.step (pc2 := 85) (ls2 := [(4, .int (v13 + 1)), (3, .int v10), (2, .int (nI x8)), (0, .ref 111), (1, .int (nI g))]) (st2 := [.ref 111]) (w3 := w48) rfl rfl ?_
          refine sx_RP.step (pc2 := 86) (ls2 := [(4, .int (v13 + 1)), (3, .int v10), (2, .int (nI x8)), (0, .ref 111), (1, .int (nI g))]) (st2 := [.int (nI g), .ref 111]) (w3 := w48) rfl rfl ?_
          refine sx_RP.step (pc2 := 87) (ls2 := [(4, .int (v13 + 1)), (3, .int v10), (2, .int (nI x8)), (0, .ref 111), (1, .int (nI g))]) (st2 := [.int 5, .int (nI g), .ref 111]) (w3 := w48) rfl rfl ?_
          refine sx_RP.step (pc2 := 88) (ls2 := [(4, .int (v13 + 1)), (3, .int v10), (2, .int (nI x8)), (0, .ref 111), (1, .int (nI g))]) (st2 := [.ref 111, .int 5, .int (nI g), .ref 111]) (w3 := w48) rfl rfl ?_
          refine sx_RP.step (pc2 := 89) (ls2 := [(4, .int (v13 + 1)), (3, .int v10), (2, .int (nI x8)), (0, .ref 111), (1, .int (nI g))]) (st2 := [.int (nI g), .ref 111, .int 5, .int (nI g), .ref 111]) (w3 := w48) rfl rfl ?_
          refine sx_RP.step (pc2 := 90) (ls2 := [(4, .int (v13 + 1)), (3, .int v10), (2, .int (nI x8)), (0, .ref 111), (1, .int (nI g))]) (st2 := [.int (nI x8), .int (nI g), .ref 111, .int 5, .int (nI g), .ref 111]) (w3 := w48) rfl rfl ?_
          obtain ⟨x52, hx53, c54⟩ := p144 hI49 (show g < 10 by omega) (show x8 < 48 by omega)
          refine sx_RP.cu (as := [.ref 111, .int (nI g), .int (nI x8)]) (rest2 := [.int 5, .int (nI g), .ref 111]) (st3 := [.int (nI x52), .int 5, .int (nI g), .ref 111]) rfl rfl (sx_inv_v2 (mi := 170) (k := 107) (st := [.int (nI x8), .int (nI g), .ref 111, .int 5, .int (nI g), .ref 111]) (w := w48) rfl rfl hI49.1.o111 rfl rfl rfl) rfl rfl (c54) rfl ?_
          refine sx_RP.br (p1 := 100) (l1 := [(4, .int (v13 + 1)), (3, .int v10), (2, .int (nI x8)), (0, .ref 111), (1, .int (nI g))]) (s1 := [.int 5, .int (nI g), .ref 111]) (v1 := w48) (p2 := 96) (l2 := [(4, .int (v13 + 1)), (3, .int v10), (2, .int (nI x8)), (0, .ref 111), (1, .int (nI g))]) (s2 := [.int 5, .int (nI g), .ref 111]) (v2 := w48) rfl rfl (fun q55 => ?_) (fun q55 => ?_)
          · replace q55 := of_decide_eq_true q55
            replace q55 := (nI_eq (a := x52) (b := 0) (by omega) (by omega)).mp q55
            refine sx_RP.step (pc2 := 101) (ls2 := [(4, .int (v13 + 1)), (3, .int v10), (2, .int (nI x8)), (0, .ref 111), (1, .int (nI g))]) (st2 := [.int 1, .int 5, .int (nI g), .ref 111]) (w3 := w48) rfl rfl ?_
            refine sx_RP.callp (as2 := [.ref 111, .int (nI g), .int 5, .int 1]) (rest2 := []) rfl rfl (sx_inv_v2 (mi := 170) (k := 110) (st := [.int 1, .int 5, .int (nI g), .ref 111]) (w := w48) rfl rfl hI49.1.o111 rfl rfl rfl) rfl rfl rfl (s154_5 hI49 (show g < 10 by omega) (show 1 ≤ 1 by omega)) (show _ = 104 from rfl) ?_
            rintro r4 w57 ⟨⟨v56, rfl⟩, hI58, hE60⟩
            have hE59 := hE50.tr (hE60)
            show sx_RP _ _ _ _ _ [.int v56] _ _
            refine sx_RP.step (pc2 := 105) (ls2 := [(4, .int (v13 + 1)), (3, .int v10), (2, .int (nI x8)), (0, .ref 111), (1, .int (nI g))]) (st2 := []) (w3 := w57) rfl rfl ?_
            refine sx_RP.ret (r := none) rfl rfl ?_
            exact ⟨rfl, hI58, hE59⟩
          · replace q55 := of_decide_eq_false q55
            replace q55 := mt (nI_eq (a := x52) (b := 0) (by omega) (by omega)).mpr q55
            refine sx_RP.step (pc2 := 97) (ls2 := [(4, .int (v13 + 1)), (3, .int v10), (2, .int (nI x8)), (0, .ref 111), (1, .int (nI g))]) (st2 := [.int 0, .int 5, .int (nI g), .ref 111]) (w3 := w48) rfl rfl ?_
            refine sx_RP.step (pc2 := 101) (ls2 := [(4, .int (v13 + 1)), (3, .int v10), (2, .int (nI x8)), (0, .ref 111), (1, .int (nI g))]) (st2 := [.int 0, .int 5, .int (nI g), .ref 111]) (w3 := w48) rfl rfl ?_
            refine sx_RP.callp (as2 := [.ref 111, .int (nI g), .int 5, .int 0]) (rest2 := []) rfl rfl (sx_inv_v2 (mi := 170) (k := 110) (st := [.int 0, .int 5, .int (nI g), .ref 111]) (w := w48) rfl rfl hI49.1.o111 rfl rfl rfl) rfl rfl rfl (s154_5 hI49 (show g < 10 by omega) (show 0 ≤ 1 by omega)) (show _ = 104 from rfl) ?_
            rintro r4 w62 ⟨⟨v61, rfl⟩, hI63, hE65⟩
            have hE64 := hE50.tr (hE65)
            show sx_RP _ _ _ _ _ [.int v61] _ _
            refine sx_RP.step (pc2 := 105) (ls2 := [(4, .int (v13 + 1)), (3, .int v10), (2, .int (nI x8)), (0, .ref 111), (1, .int (nI g))]) (st2 := []) (w3 := w62) rfl rfl ?_
            refine sx_RP.ret (r := none) rfl rfl ?_
            exact ⟨rfl, hI63, hE64⟩
    · replace q12 := of_decide_eq_false q12
      refine sx_RP.step (pc2 := 33) (ls2 := [(3, .int v10), (2, .int (nI x8)), (0, .ref 111), (1, .int (nI g))]) (st2 := [.ref 111]) (w3 := w) rfl rfl ?_
      refine sx_RP.step (pc2 := 34) (ls2 := [(3, .int v10), (2, .int (nI x8)), (0, .ref 111), (1, .int (nI g))]) (st2 := [.int (nI g), .ref 111]) (w3 := w) rfl rfl ?_
      refine sx_RP.step (pc2 := 35) (ls2 := [(3, .int v10), (2, .int (nI x8)), (0, .ref 111), (1, .int (nI g))]) (st2 := [.int 5, .int (nI g), .ref 111]) (w3 := w) rfl rfl ?_
      refine sx_RP.step (pc2 := 36) (ls2 := [(3, .int v10), (2, .int (nI x8)), (0, .ref 111), (1, .int (nI g))]) (st2 := [.int 1, .int 5, .int (nI g), .ref 111]) (w3 := w) rfl rfl ?_
      refine sx_RP.callp (as2 := [.ref 111, .int (nI g), .int 5, .int 1]) (rest2 := []) rfl rfl (sx_inv_v2 (mi := 170) (k := 110) (st := [.int 1, .int 5, .int (nI g), .ref 111]) (w := w) rfl rfl hI.1.o111 rfl rfl rfl) rfl rfl rfl (s154_5 hI (show g < 10 by omega) (show 1 ≤ 1 by omega)) (show _ = 39 from rfl) ?_
      rintro r4 w67 ⟨⟨v66, rfl⟩, hI68, hE70⟩
      have hE69 := hE.tr (hE70)
      show sx_RP _ _ _ _ _ [.int v66] _ _
      refine sx_RP.step (pc2 := 40) (ls2 := [(3, .int v10), (2, .int (nI x8)), (0, .ref 111), (1, .int (nI g))]) (st2 := []) (w3 := w67) rfl rfl ?_
      refine sx_RP.ret (r := none) rfl rfl ?_
      exact ⟨rfl, hI68, hE69⟩
set_option maxRecDepth 20000 in
set_option maxHeartbeats 4000000 in
theorem s169bB {xs : Option (List Int32)} {d : Nat} {w w0 : List sx_C} (hI : WI w) (hE : EM w0 w) {j : Nat} (hj : j ≤ 10) (kk : ∀ (w4 : List sx_C), WI w4 → EM w0 w4 → j + 1 ≤ 10 → sx_RP xs (d + 3) 169 33 [(0, .ref 111), (1, .int (nI (j + 1)))] [] w4 (fun r w2 => (r = none) ∧ WI w2 ∧ EM w0 w2)) : sx_RP xs (d + 3) 169 33 [(0, .ref 111), (1, .int (nI j))] [] w (fun r w2 => (r = none) ∧ WI w2 ∧ EM w0 w2) := by
  refine sx_RP.step (pc2 := 34) (ls2 := [(0, .ref 111), (1, .int (nI j))]) (st2 := [.int (nI j)]) (w3 := w) rfl rfl ?_
  refine sx_RP.step (pc2 := 35) (ls2 := [(0, .ref 111), (1, .int (nI j))]) (st2 := [.ref 111, .int (nI j)]) (w3 := w) rfl rfl ?_
  refine sx_RP.gf (v := .ref 112) rfl rfl hI.1.o111 rfl rfl (show _ = 38 from rfl) ?_
  refine sx_RP.step (pc2 := 39) (ls2 := [(0, .ref 111), (1, .int (nI j))]) (st2 := [.int 1, .ref 112, .int (nI j)]) (w3 := w) rfl rfl ?_
  refine sx_RP.ild (c := 1) rfl hI.1.a112.1 hI.1.a112.2 (sx_in_nI (show 1 < 172 by omega) (by decide)) (show (nI 1).toNatClampNeg = 1 from nI_clamp (by omega)) (show _ = 40 from rfl) ?_
  obtain ⟨x1, hx2, ex3⟩ : inR ((ia w 112).getD 1 0) 10 := (hI.s (1) (by omega)).1 rfl
  rw [ex3]
  refine sx_RP.br (p1 := 92) (l1 := [(0, .ref 111), (1, .int (nI j))]) (s1 := []) (v1 := w) (p2 := 43) (l2 := [(0, .ref 111), (1, .int (nI j))]) (s2 := []) (v2 := w) rfl rfl (fun q4 => ?_) (fun q4 => ?_)
  · replace q4 := of_decide_eq_true q4
    replace q4 := (nI_leI (a := x1) (b := j) (by omega) (by omega)).mp q4
    refine sx_RP.step (pc2 := 93) (ls2 := [(0, .ref 111), (1, .int (nI j))]) (st2 := [.ref 111]) (w3 := w) rfl rfl ?_
    refine sx_RP.gf (v := .ref 112) rfl rfl hI.1.o111 rfl rfl (show _ = 96 from rfl) ?_
    refine sx_RP.step (pc2 := 97) (ls2 := [(0, .ref 111), (1, .int (nI j))]) (st2 := [.int 0, .ref 112]) (w3 := w) rfl rfl ?_
    refine sx_RP.step (pc2 := 98) (ls2 := [(0, .ref 111), (1, .int (nI j))]) (st2 := [.int 0, .ref 112, .int 0, .ref 112]) (w3 := w) rfl rfl ?_
    refine sx_RP.ild (c := 0) rfl hI.1.a112.1 hI.1.a112.2 (sx_in_nI (show 0 < 172 by omega) (by decide)) (show (nI 0).toNatClampNeg = 0 from nI_clamp (by omega)) (show _ = 99 from rfl) ?_
    refine sx_RP.step (pc2 := 100) (ls2 := [(0, .ref 111), (1, .int (nI j))]) (st2 := [.int 1, .int ((ia w 112).getD 0 0), .int 0, .ref 112]) (w3 := w) rfl rfl ?_
    refine sx_RP.step (pc2 := 101) (ls2 := [(0, .ref 111), (1, .int (nI j))]) (st2 := [.int (((ia w 112).getD 0 0) + 1), .int 0, .ref 112]) (w3 := w) rfl rfl ?_
    refine sx_RP.mS (k := 0) hI hE (by decide) rfl rfl (by omega) (eOK_n (by decide)) (show _ = 102 from rfl) (fun w5 hI6 hE7 hk8 => ?_)
    have ex9 := (hk8 1 (by omega) (by omega)).trans ex3
    refine sx_RP.ret (r := none) rfl rfl ?_
    exact ⟨rfl, hI6, hE7⟩
  · replace q4 := of_decide_eq_false q4
    replace q4 := mt (nI_leI (a := x1) (b := j) (by omega) (by omega)).mpr q4
    refine sx_RP.step (pc2 := 44) (ls2 := [(0, .ref 111), (1, .int (nI j))]) (st2 := [.ref 111]) (w3 := w) rfl rfl ?_
    refine sx_RP.step (pc2 := 45) (ls2 := [(0, .ref 111), (1, .int (nI j))]) (st2 := [.int (nI j), .ref 111]) (w3 := w) rfl rfl ?_
    refine sx_RP.step (pc2 := 46) (ls2 := [(0, .ref 111), (1, .int (nI j))]) (st2 := [.int 1, .int (nI j), .ref 111]) (w3 := w) rfl rfl ?_
    obtain ⟨x10, hx11, c12⟩ := p138_1 hI (show j < 10 by omega)
    refine sx_RP.cu (as := [.ref 111, .int (nI j), .int 1]) (rest2 := []) (st3 := [.int (nI x10)]) rfl rfl (sx_inv_v2 (mi := 169) (k := 59) (st := [.int 1, .int (nI j), .ref 111]) (w := w) rfl rfl hI.1.o111 rfl rfl rfl) rfl rfl (c12) rfl ?_
    refine sx_RP.br (p1 := 86) (l1 := [(0, .ref 111), (1, .int (nI j))]) (s1 := []) (v1 := w) (p2 := 52) (l2 := [(0, .ref 111), (1, .int (nI j))]) (s2 := []) (v2 := w) rfl rfl (fun q13 => ?_) (fun q13 => ?_)
    · replace q13 := of_decide_eq_true q13
      replace q13 := mt (nI_eq (a := x10) (b := 0) (by omega) (by omega)).mpr q13
      refine sx_RP.step (pc2 := 89) (ls2 := [(1, .int ((nI j) + 1)), (0, .ref 111)]) (st2 := []) (w3 := w) rfl rfl ?_
      rw [nI_1 j]
      refine sx_RP.step (pc2 := 33) (ls2 := [(1, .int (nI (j + 1))), (0, .ref 111)]) (st2 := []) (w3 := w) rfl rfl ?_
      exact sx_RP.ls (sx_lr.cons rfl (sx_lr.cons rfl sx_lr.nil)) (kk w hI hE (by omega))
    · replace q13 := Decidable.not_not.mp (of_decide_eq_false q13)
      replace q13 := (nI_eq (a := x10) (b := 0) (by omega) (by omega)).mp q13
      refine sx_RP.step (pc2 := 53) (ls2 := [(0, .ref 111), (1, .int (nI j))]) (st2 := [.ref 111]) (w3 := w) rfl rfl ?_
      refine sx_RP.step (pc2 := 54) (ls2 := [(0, .ref 111), (1, .int (nI j))]) (st2 := [.int (nI j), .ref 111]) (w3 := w) rfl rfl ?_
      obtain ⟨x14, hx15, c16⟩ := p137 hI (show j < 10 by omega)
      refine sx_RP.cu (as := [.ref 111, .int (nI j)]) (rest2 := []) (st3 := [.int (nI x14)]) rfl rfl (sx_inv_v2 (mi := 169) (k := 74) (st := [.int (nI j), .ref 111]) (w := w) rfl rfl hI.1.o111 rfl rfl rfl) rfl rfl (c16) rfl ?_
      refine sx_RP.br (p1 := 86) (l1 := [(0, .ref 111), (1, .int (nI j))]) (s1 := []) (v1 := w) (p2 := 60) (l2 := [(0, .ref 111), (1, .int (nI j))]) (s2 := []) (v2 := w) rfl rfl (fun q17 => ?_) (fun q17 => ?_)
      · replace q17 := of_decide_eq_true q17
        replace q17 := (nI_eq (a := x14) (b := 0) (by omega) (by omega)).mp q17
        refine sx_RP.step (pc2 := 89) (ls2 := [(1, .int ((nI j) + 1)), (0, .ref 111)]) (st2 := []) (w3 := w) rfl rfl ?_
        rw [nI_1 j]
        refine sx_RP.step (pc2 := 33) (ls2 := [(1, .int (nI (j + 1))), (0, .ref 111)]) (st2 := []) (w3 := w) rfl rfl ?_
        exact sx_RP.ls (sx_lr.cons rfl (sx_lr.cons rfl sx_lr.nil)) (kk w hI hE (by omega))
      · replace q17 := of_decide_eq_false q17
        replace q17 := mt (nI_eq (a := x14) (b := 0) (by omega) (by omega)).mpr q17
        refine sx_RP.step (pc2 := 61) (ls2 := [(0, .ref 111), (1, .int (nI j))]) (st2 := [.ref 111]) (w3 := w) rfl rfl ?_
        refine sx_RP.step (pc2 := 62) (ls2 := [(0, .ref 111), (1, .int (nI j))]) (st2 := [.int (nI j), .ref 111]) (w3 := w) rfl rfl ?_
        obtain ⟨x18, hx19, c20⟩ := p171 hI (show j < 10 by omega)
        refine sx_RP.cu (as := [.ref 111, .int (nI j)]) (rest2 := []) (st3 := [.int (nI x18)]) rfl rfl (sx_inv_v2 (mi := 169) (k := 140) (st := [.int (nI j), .ref 111]) (w := w) rfl rfl hI.1.o111 rfl rfl rfl) rfl rfl (c20) rfl ?_
        refine sx_RP.br (p1 := 86) (l1 := [(0, .ref 111), (1, .int (nI j))]) (s1 := []) (v1 := w) (p2 := 68) (l2 := [(0, .ref 111), (1, .int (nI j))]) (s2 := []) (v2 := w) rfl rfl (fun q21 => ?_) (fun q21 => ?_)
        · replace q21 := of_decide_eq_true q21
          replace q21 := (nI_eq (a := x18) (b := 0) (by omega) (by omega)).mp q21
          refine sx_RP.step (pc2 := 89) (ls2 := [(1, .int ((nI j) + 1)), (0, .ref 111)]) (st2 := []) (w3 := w) rfl rfl ?_
          rw [nI_1 j]
          refine sx_RP.step (pc2 := 33) (ls2 := [(1, .int (nI (j + 1))), (0, .ref 111)]) (st2 := []) (w3 := w) rfl rfl ?_
          exact sx_RP.ls (sx_lr.cons rfl (sx_lr.cons rfl sx_lr.nil)) (kk w hI hE (by omega))
        · replace q21 := of_decide_eq_false q21
          replace q21 := mt (nI_eq (a := x18) (b := 0) (by omega) (by omega)).mpr q21
          refine sx_RP.step (pc2 := 69) (ls2 := [(0, .ref 111), (1, .int (nI j))]) (st2 := [.ref 111]) (w3 := w) rfl rfl ?_
          refine sx_RP.step (pc2 := 70) (ls2 := [(0, .ref 111), (1, .int (nI j))]) (st2 := [.int (nI j), .ref 111]) (w3 := w) rfl rfl ?_
          refine sx_RP.step (pc2 := 71) (ls2 := [(0, .ref 111), (1, .int (nI j))]) (st2 := [.int 5, .int (nI j), .ref 111]) (w3 := w) rfl rfl ?_
          refine sx_RP.step (pc2 := 72) (ls2 := [(0, .ref 111), (1, .int (nI j))]) (st2 := [.int 1, .int 5, .int (nI j), .ref 111]) (w3 := w) rfl rfl ?_
          refine sx_RP.callp (as2 := [.ref 111, .int (nI j), .int 5, .int 1]) (rest2 := []) rfl rfl (sx_inv_v2 (mi := 169) (k := 110) (st := [.int 1, .int 5, .int (nI j), .ref 111]) (w := w) rfl rfl hI.1.o111 rfl rfl rfl) rfl rfl rfl (s154_5 hI (show j < 10 by omega) (show 1 ≤ 1 by omega)) (show _ = 75 from rfl) ?_
          rintro r4 w23 ⟨⟨v22, rfl⟩, hI24, hE26⟩
          have hE25 := hE.tr (hE26)
          show sx_RP _ _ _ _ _ [.int v22] _ _
          refine sx_RP.step (pc2 := 76) (ls2 := [(0, .ref 111), (1, .int (nI j))]) (st2 := []) (w3 := w23) rfl rfl ?_
          refine sx_RP.step (pc2 := 77) (ls2 := [(0, .ref 111), (1, .int (nI j))]) (st2 := [.ref 111]) (w3 := w23) rfl rfl ?_
          refine sx_RP.gf (v := .ref 112) rfl rfl hI24.1.o111 rfl rfl (show _ = 80 from rfl) ?_
          refine sx_RP.step (pc2 := 81) (ls2 := [(0, .ref 111), (1, .int (nI j))]) (st2 := [.int 3, .ref 112]) (w3 := w23) rfl rfl ?_
          refine sx_RP.step (pc2 := 82) (ls2 := [(0, .ref 111), (1, .int (nI j))]) (st2 := [.int 3, .ref 112, .int 3, .ref 112]) (w3 := w23) rfl rfl ?_
          refine sx_RP.ild (c := 3) rfl hI24.1.a112.1 hI24.1.a112.2 (sx_in_nI (show 3 < 172 by omega) (by decide)) (show (nI 3).toNatClampNeg = 3 from nI_clamp (by omega)) (show _ = 83 from rfl) ?_
          refine sx_RP.step (pc2 := 84) (ls2 := [(0, .ref 111), (1, .int (nI j))]) (st2 := [.int 1, .int ((ia w23 112).getD 3 0), .int 3, .ref 112]) (w3 := w23) rfl rfl ?_
          refine sx_RP.step (pc2 := 85) (ls2 := [(0, .ref 111), (1, .int (nI j))]) (st2 := [.int (((ia w23 112).getD 3 0) + 1), .int 3, .ref 112]) (w3 := w23) rfl rfl ?_
          refine sx_RP.mS (k := 3) hI24 hE25 (by decide) rfl rfl (by omega) (eOK_n (by decide)) (show _ = 86 from rfl) (fun w27 hI28 hE29 hk30 => ?_)
          refine sx_RP.step (pc2 := 89) (ls2 := [(1, .int ((nI j) + 1)), (0, .ref 111)]) (st2 := []) (w3 := w27) rfl rfl ?_
          rw [nI_1 j]
          refine sx_RP.step (pc2 := 33) (ls2 := [(1, .int (nI (j + 1))), (0, .ref 111)]) (st2 := []) (w3 := w27) rfl rfl ?_
          exact sx_RP.ls (sx_lr.cons rfl (sx_lr.cons rfl sx_lr.nil)) (kk w27 hI28 hE29 (by omega))
set_option maxRecDepth 20000 in
set_option maxHeartbeats 4000000 in
theorem s169bL {xs : Option (List Int32)} {d : Nat} {w0 : List sx_C} : ∀ (fz j : Nat) (w : List sx_C) , 10 ≤ j + fz * 1 → j ≤ 10 → WI w → EM w0 w → sx_RP xs (d + 3) 169 33 [(0, .ref 111), (1, .int (nI j))] [] w (fun r w2 => (r = none) ∧ WI w2 ∧ EM w0 w2)
  | 0, j, w, h, hj, hI, hE => s169bB  hI hE hj   (fun w4  hI4 hE4 hlt  => absurd hlt (by omega)) 
  | fz + 1, j, w, h, hj, hI, hE => s169bB  hI hE hj   (fun w4  hI4 hE4 hlt  => s169bL   fz (j + 1) w4  (by omega) hlt hI4 hE4 ) 
set_option maxRecDepth 20000 in
set_option maxHeartbeats 4000000 in
theorem s169aB {xs : Option (List Int32)} {d : Nat} {w w0 : List sx_C} (hI : WI w) (hE : EM w0 w) {j : Nat} (hj : j ≤ 10) (kk : ∀ (w4 : List sx_C), WI w4 → EM w0 w4 → j + 1 ≤ 10 → sx_RP xs (d + 3) 169 2 [(0, .ref 111), (1, .int (nI (j + 1)))] [] w4 (fun r w2 => (r = none) ∧ WI w2 ∧ EM w0 w2)) (kx31 : ∀ (w4 : List sx_C), WI w4 → EM w0 w4 → sx_RP xs (d + 3) 169 31 [(0, .ref 111)] [] w4 (fun r w2 => (r = none) ∧ WI w2 ∧ EM w0 w2)) : sx_RP xs (d + 3) 169 2 [(0, .ref 111), (1, .int (nI j))] [] w (fun r w2 => (r = none) ∧ WI w2 ∧ EM w0 w2) := by
  refine sx_RP.step (pc2 := 3) (ls2 := [(0, .ref 111), (1, .int (nI j))]) (st2 := [.int (nI j)]) (w3 := w) rfl rfl ?_
  refine sx_RP.step (pc2 := 4) (ls2 := [(0, .ref 111), (1, .int (nI j))]) (st2 := [.ref 111, .int (nI j)]) (w3 := w) rfl rfl ?_
  refine sx_RP.gf (v := .ref 112) rfl rfl hI.1.o111 rfl rfl (show _ = 7 from rfl) ?_
  refine sx_RP.step (pc2 := 8) (ls2 := [(0, .ref 111), (1, .int (nI j))]) (st2 := [.int 1, .ref 112, .int (nI j)]) (w3 := w) rfl rfl ?_
  refine sx_RP.ild (c := 1) rfl hI.1.a112.1 hI.1.a112.2 (sx_in_nI (show 1 < 172 by omega) (by decide)) (show (nI 1).toNatClampNeg = 1 from nI_clamp (by omega)) (show _ = 9 from rfl) ?_
  obtain ⟨x1, hx2, ex3⟩ : inR ((ia w 112).getD 1 0) 10 := (hI.s (1) (by omega)).1 rfl
  rw [ex3]
  refine sx_RP.br (p1 := 31) (l1 := [(0, .ref 111), (1, .int (nI j))]) (s1 := []) (v1 := w) (p2 := 12) (l2 := [(0, .ref 111), (1, .int (nI j))]) (s2 := []) (v2 := w) rfl rfl (fun q4 => ?_) (fun q4 => ?_)
  · replace q4 := of_decide_eq_true q4
    replace q4 := (nI_leI (a := x1) (b := j) (by omega) (by omega)).mp q4
    exact sx_RP.ls (sx_lr.cons rfl sx_lr.nil) (kx31 w hI hE)
  · replace q4 := of_decide_eq_false q4
    replace q4 := mt (nI_leI (a := x1) (b := j) (by omega) (by omega)).mpr q4
    refine sx_RP.step (pc2 := 13) (ls2 := [(0, .ref 111), (1, .int (nI j))]) (st2 := [.ref 111]) (w3 := w) rfl rfl ?_
    refine sx_RP.step (pc2 := 14) (ls2 := [(0, .ref 111), (1, .int (nI j))]) (st2 := [.int (nI j), .ref 111]) (w3 := w) rfl rfl ?_
    obtain ⟨x5, hx6, c7⟩ := p137 hI (show j < 10 by omega)
    refine sx_RP.cu (as := [.ref 111, .int (nI j)]) (rest2 := []) (st3 := [.int (nI x5)]) rfl rfl (sx_inv_v2 (mi := 169) (k := 74) (st := [.int (nI j), .ref 111]) (w := w) rfl rfl hI.1.o111 rfl rfl rfl) rfl rfl (c7) rfl ?_
    refine sx_RP.br (p1 := 25) (l1 := [(0, .ref 111), (1, .int (nI j))]) (s1 := []) (v1 := w) (p2 := 20) (l2 := [(0, .ref 111), (1, .int (nI j))]) (s2 := []) (v2 := w) rfl rfl (fun q8 => ?_) (fun q8 => ?_)
    · replace q8 := of_decide_eq_true q8
      replace q8 := (nI_eq (a := x5) (b := 0) (by omega) (by omega)).mp q8
      refine sx_RP.step (pc2 := 28) (ls2 := [(1, .int ((nI j) + 1)), (0, .ref 111)]) (st2 := []) (w3 := w) rfl rfl ?_
      rw [nI_1 j]
      refine sx_RP.step (pc2 := 2) (ls2 := [(1, .int (nI (j + 1))), (0, .ref 111)]) (st2 := []) (w3 := w) rfl rfl ?_
      exact sx_RP.ls (sx_lr.cons rfl (sx_lr.cons rfl sx_lr.nil)) (kk w hI hE (by omega))
    · replace q8 := of_decide_eq_false q8
      replace q8 := mt (nI_eq (a := x5) (b := 0) (by omega) (by omega)).mpr q8
      refine sx_RP.step (pc2 := 21) (ls2 := [(0, .ref 111), (1, .int (nI j))]) (st2 := [.ref 111]) (w3 := w) rfl rfl ?_
      refine sx_RP.step (pc2 := 22) (ls2 := [(0, .ref 111), (1, .int (nI j))]) (st2 := [.int (nI j), .ref 111]) (w3 := w) rfl rfl ?_
      refine sx_RP.callp (as2 := [.ref 111, .int (nI j)]) (rest2 := []) rfl rfl (sx_inv_v2 (mi := 169) (k := 136) (st := [.int (nI j), .ref 111]) (w := w) rfl rfl hI.1.o111 rfl rfl rfl) rfl rfl rfl (s170 hI (show j < 10 by omega)) (show _ = 25 from rfl) ?_
      rintro r4 w9 ⟨rfl, hI10, hE12⟩
      have hE11 := hE.tr (hE12)
      show sx_RP _ _ _ _ _ [] _ _
      refine sx_RP.step (pc2 := 28) (ls2 := [(1, .int ((nI j) + 1)), (0, .ref 111)]) (st2 := []) (w3 := w9) rfl rfl ?_
      rw [nI_1 j]
      refine sx_RP.step (pc2 := 2) (ls2 := [(1, .int (nI (j + 1))), (0, .ref 111)]) (st2 := []) (w3 := w9) rfl rfl ?_
      exact sx_RP.ls (sx_lr.cons rfl (sx_lr.cons rfl sx_lr.nil)) (kk w9 hI10 hE11 (by omega))
set_option maxRecDepth 20000 in
set_option maxHeartbeats 4000000 in
theorem s169aL {xs : Option (List Int32)} {d : Nat} {w0 : List sx_C} (kx31 : ∀ (w4 : List sx_C), WI w4 → EM w0 w4 → sx_RP xs (d + 3) 169 31 [(0, .ref 111)] [] w4 (fun r w2 => (r = none) ∧ WI w2 ∧ EM w0 w2)) : ∀ (fz j : Nat) (w : List sx_C) , 10 ≤ j + fz * 1 → j ≤ 10 → WI w → EM w0 w → sx_RP xs (d + 3) 169 2 [(0, .ref 111), (1, .int (nI j))] [] w (fun r w2 => (r = none) ∧ WI w2 ∧ EM w0 w2)
  | 0, j, w, h, hj, hI, hE => s169aB  hI hE hj   (fun w4  hI4 hE4 hlt  => absurd hlt (by omega)) kx31
  | fz + 1, j, w, h, hj, hI, hE => s169aB  hI hE hj   (fun w4  hI4 hE4 hlt  => s169aL  kx31 fz (j + 1) w4  (by omega) hlt hI4 hE4 ) kx31
set_option maxRecDepth 20000 in
set_option maxHeartbeats 4000000 in
theorem s169 {xs : Option (List Int32)} {d : Nat} {w : List sx_C} (hI : WI w) : sx_RP xs (d + 3) 169 0 (lv_args 0 [.ref 111]) [] w (fun r w2 => (r = none) ∧ WI w2 ∧ EM w w2) := by
  have hE : EM w w := EM.rf
  refine sx_RP.step (pc2 := 1) (ls2 := [(0, .ref 111)]) (st2 := [.int 0]) (w3 := w) rfl rfl ?_
  refine sx_RP.step (pc2 := 2) (ls2 := [(1, .int 0), (0, .ref 111)]) (st2 := []) (w3 := w) rfl rfl ?_
  refine sx_RP.ls (sx_lr.cons rfl (sx_lr.cons rfl sx_lr.nil)) (s169aL  (fun w1 hI2 hE3 => ?_) 10 0 w  (by omega) (by omega) hI hE )
  refine sx_RP.step (pc2 := 32) (ls2 := [(0, .ref 111)]) (st2 := [.int 0]) (w3 := w1) rfl rfl ?_
  refine sx_RP.step (pc2 := 33) (ls2 := [(1, .int 0), (0, .ref 111)]) (st2 := []) (w3 := w1) rfl rfl ?_
  exact sx_RP.ls (sx_lr.cons rfl (sx_lr.cons rfl sx_lr.nil)) (s169bL  10 0 w1  (by omega) (by omega) hI2 hE3 )
set_option maxRecDepth 20000 in
set_option maxHeartbeats 4000000 in
theorem s168B {xs : Option (List Int32)} {d : Nat} {w w0 : List sx_C} {n : Nat} (hn : n ≤ 99) (hI : WI w) (hE : EM w0 w) {j : Nat} (hj : j ≤ 99) (kk : ∀ (w4 : List sx_C), WI w4 → EM w0 w4 → j + 1 ≤ 99 → sx_RP xs (d + 4) 168 2 [(0, .ref 111), (1, .int (nI n)), (2, .int (nI (j + 1)))] [] w4 (fun r w2 => (r = none) ∧ WI w2 ∧ EM w0 w2)) : sx_RP xs (d + 4) 168 2 [(0, .ref 111), (1, .int (nI n)), (2, .int (nI j))] [] w (fun r w2 => (r = none) ∧ WI w2 ∧ EM w0 w2) := by
  refine sx_RP.step (pc2 := 3) (ls2 := [(0, .ref 111), (1, .int (nI n)), (2, .int (nI j))]) (st2 := [.int (nI j)]) (w3 := w) rfl rfl ?_
  refine sx_RP.step (pc2 := 4) (ls2 := [(0, .ref 111), (1, .int (nI n)), (2, .int (nI j))]) (st2 := [.int (nI n), .int (nI j)]) (w3 := w) rfl rfl ?_
  refine sx_RP.br (p1 := 17) (l1 := [(0, .ref 111), (1, .int (nI n)), (2, .int (nI j))]) (s1 := []) (v1 := w) (p2 := 7) (l2 := [(0, .ref 111), (1, .int (nI n)), (2, .int (nI j))]) (s2 := []) (v2 := w) rfl rfl (fun q1 => ?_) (fun q1 => ?_)
  · replace q1 := of_decide_eq_true q1
    replace q1 := (nI_leI (a := n) (b := j) (by omega) (by omega)).mp q1
    refine sx_RP.ret (r := none) rfl rfl ?_
    exact ⟨rfl, hI, hE⟩
  · replace q1 := of_decide_eq_false q1
    replace q1 := mt (nI_leI (a := n) (b := j) (by omega) (by omega)).mpr q1
    refine sx_RP.step (pc2 := 8) (ls2 := [(0, .ref 111), (1, .int (nI n)), (2, .int (nI j))]) (st2 := [.ref 111]) (w3 := w) rfl rfl ?_
    refine sx_RP.callp (as2 := [.ref 111]) (rest2 := []) rfl rfl (sx_inv_v2 (mi := 168) (k := 143) (st := [.ref 111]) (w := w) rfl rfl hI.1.o111 rfl rfl rfl) rfl rfl rfl (s169 hI ) (show _ = 11 from rfl) ?_
    rintro r4 w2 ⟨rfl, hI3, hE5⟩
    have hE4 := hE.tr (hE5)
    show sx_RP _ _ _ _ _ [] _ _
    refine sx_RP.step (pc2 := 14) (ls2 := [(2, .int ((nI j) + 1)), (0, .ref 111), (1, .int (nI n))]) (st2 := []) (w3 := w2) rfl rfl ?_
    rw [nI_1 j]
    refine sx_RP.step (pc2 := 2) (ls2 := [(2, .int (nI (j + 1))), (0, .ref 111), (1, .int (nI n))]) (st2 := []) (w3 := w2) rfl rfl ?_
    exact sx_RP.ls (sx_lr.cons rfl (sx_lr.cons rfl (sx_lr.cons rfl sx_lr.nil))) (kk w2 hI3 hE4 (by omega))
set_option maxRecDepth 20000 in
set_option maxHeartbeats 4000000 in
theorem s168L {xs : Option (List Int32)} {d : Nat} {w0 : List sx_C} {n : Nat} (hn : n ≤ 99) : ∀ (fz j : Nat) (w : List sx_C) , 99 ≤ j + fz * 1 → j ≤ 99 → WI w → EM w0 w → sx_RP xs (d + 4) 168 2 [(0, .ref 111), (1, .int (nI n)), (2, .int (nI j))] [] w (fun r w2 => (r = none) ∧ WI w2 ∧ EM w0 w2)
  | 0, j, w, h, hj, hI, hE => s168B hn hI hE hj   (fun w4  hI4 hE4 hlt  => absurd hlt (by omega)) 
  | fz + 1, j, w, h, hj, hI, hE => s168B hn hI hE hj   (fun w4  hI4 hE4 hlt  => s168L hn  fz (j + 1) w4  (by omega) hlt hI4 hE4 ) 
set_option maxRecDepth 20000 in
set_option maxHeartbeats 4000000 in
theorem s168 {xs : Option (List Int32)} {d : Nat} {w : List sx_C} (hI : WI w) {n : Nat} (hn : n ≤ 99) : sx_RP xs (d + 4) 168 0 (lv_args 0 [.ref 111, .int (nI n)]) [] w (fun r w2 => (r = none) ∧ WI w2 ∧ EM w w2) := by
  have hE : EM w w := EM.rf
  refine sx_RP.step (pc2 := 1) (ls2 := [(0, .ref 111), (1, .int (nI n))]) (st2 := [.int 0]) (w3 := w) rfl rfl ?_
  refine sx_RP.step (pc2 := 2) (ls2 := [(2, .int 0), (0, .ref 111), (1, .int (nI n))]) (st2 := []) (w3 := w) rfl rfl ?_
  exact sx_RP.ls (sx_lr.cons rfl (sx_lr.cons rfl (sx_lr.cons rfl sx_lr.nil))) (s168L hn 99 0 w  (by omega) (by omega) hI hE )
set_option maxRecDepth 20000 in
set_option maxHeartbeats 4000000 in
theorem s175B {xs : Option (List Int32)} {d : Nat} {w w0 : List sx_C} {a b : Nat} (ha : 112 ≤ a ∧ a ≤ 115) (hb : 112 ≤ b ∧ b ≤ 115) (hI : WI w) (hE : EM w0 w) {j : Nat} (hj : j ≤ 172) (kk : ∀ (w4 : List sx_C), WI w4 → EM w0 w4 → j + 1 ≤ 172 → sx_RP xs d 175 2 [(0, .ref a), (1, .ref b), (2, .int (nI (j + 1)))] [] w4 (fun r w2 => (r = none) ∧ WI w2 ∧ EM w0 w2)) : sx_RP xs d 175 2 [(0, .ref a), (1, .ref b), (2, .int (nI j))] [] w (fun r w2 => (r = none) ∧ WI w2 ∧ EM w0 w2) := by
  refine sx_RP.step (pc2 := 3) (ls2 := [(0, .ref a), (1, .ref b), (2, .int (nI j))]) (st2 := [.int (nI j)]) (w3 := w) rfl rfl ?_
  refine sx_RP.step (pc2 := 6) (ls2 := [(0, .ref a), (1, .ref b), (2, .int (nI j))]) (st2 := [.int 172, .int (nI j)]) (w3 := w) rfl rfl ?_
  refine sx_RP.br (p1 := 21) (l1 := [(0, .ref a), (1, .ref b), (2, .int (nI j))]) (s1 := []) (v1 := w) (p2 := 9) (l2 := [(0, .ref a), (1, .ref b), (2, .int (nI j))]) (s2 := []) (v2 := w) rfl rfl (fun q1 => ?_) (fun q1 => ?_)
  · replace q1 := of_decide_eq_true q1
    replace q1 := (nI_leI (a := 172) (b := j) (by omega) (by omega)).mp q1
    refine sx_RP.ret (r := none) rfl rfl ?_
    exact ⟨rfl, hI, hE⟩
  · replace q1 := of_decide_eq_false q1
    replace q1 := mt (nI_leI (a := 172) (b := j) (by omega) (by omega)).mpr q1
    refine sx_RP.step (pc2 := 10) (ls2 := [(0, .ref a), (1, .ref b), (2, .int (nI j))]) (st2 := [.ref b]) (w3 := w) rfl rfl ?_
    refine sx_RP.step (pc2 := 11) (ls2 := [(0, .ref a), (1, .ref b), (2, .int (nI j))]) (st2 := [.int (nI j), .ref b]) (w3 := w) rfl rfl ?_
    refine sx_RP.step (pc2 := 12) (ls2 := [(0, .ref a), (1, .ref b), (2, .int (nI j))]) (st2 := [.ref a, .int (nI j), .ref b]) (w3 := w) rfl rfl ?_
    refine sx_RP.step (pc2 := 13) (ls2 := [(0, .ref a), (1, .ref b), (2, .int (nI j))]) (st2 := [.int (nI j), .ref a, .int (nI j), .ref b]) (w3 := w) rfl rfl ?_
    refine sx_RP.ild (c := j) rfl (hI.1.aM ha).1 (hI.1.aM ha).2 (sx_in_nI (show j < 172 by omega) (by decide)) (show (nI j).toNatClampNeg = j from nI_clamp (by omega)) (show _ = 14 from rfl) ?_
    refine sx_RP.mS (k := j) hI hE hb rfl rfl (by omega) (hI.sA ha j (by omega)) (show _ = 15 from rfl) (fun w2 hI3 hE4 hk5 => ?_)
    refine sx_RP.step (pc2 := 18) (ls2 := [(2, .int ((nI j) + 1)), (0, .ref a), (1, .ref b)]) (st2 := []) (w3 := w2) rfl rfl ?_
    rw [nI_1 j]
    refine sx_RP.step (pc2 := 2) (ls2 := [(2, .int (nI (j + 1))), (0, .ref a), (1, .ref b)]) (st2 := []) (w3 := w2) rfl rfl ?_
    exact sx_RP.ls (sx_lr.cons rfl (sx_lr.cons rfl (sx_lr.cons rfl sx_lr.nil))) (kk w2 hI3 hE4 (by omega))
set_option maxRecDepth 20000 in
set_option maxHeartbeats 4000000 in
theorem s175L {xs : Option (List Int32)} {d : Nat} {w0 : List sx_C} {a b : Nat} (ha : 112 ≤ a ∧ a ≤ 115) (hb : 112 ≤ b ∧ b ≤ 115) : ∀ (fz j : Nat) (w : List sx_C) , 172 ≤ j + fz * 1 → j ≤ 172 → WI w → EM w0 w → sx_RP xs d 175 2 [(0, .ref a), (1, .ref b), (2, .int (nI j))] [] w (fun r w2 => (r = none) ∧ WI w2 ∧ EM w0 w2)
  | 0, j, w, h, hj, hI, hE => s175B ha hb hI hE hj   (fun w4  hI4 hE4 hlt  => absurd hlt (by omega)) 
  | fz + 1, j, w, h, hj, hI, hE => s175B ha hb hI hE hj   (fun w4  hI4 hE4 hlt  => s175L ha hb  fz (j + 1) w4  (by omega) hlt hI4 hE4 ) 
set_option maxRecDepth 20000 in
set_option maxHeartbeats 4000000 in
theorem s175 {xs : Option (List Int32)} {d : Nat} {w : List sx_C} (hI : WI w) {a b : Nat} (ha : 112 ≤ a ∧ a ≤ 115) (hb : 112 ≤ b ∧ b ≤ 115) : sx_RP xs d 175 0 (lv_args 0 [.ref a, .ref b]) [] w (fun r w2 => (r = none) ∧ WI w2 ∧ EM w w2) := by
  have hE : EM w w := EM.rf
  refine sx_RP.step (pc2 := 1) (ls2 := [(0, .ref a), (1, .ref b)]) (st2 := [.int 0]) (w3 := w) rfl rfl ?_
  refine sx_RP.step (pc2 := 2) (ls2 := [(2, .int 0), (0, .ref a), (1, .ref b)]) (st2 := []) (w3 := w) rfl rfl ?_
  exact sx_RP.ls (sx_lr.cons rfl (sx_lr.cons rfl (sx_lr.cons rfl sx_lr.nil))) (s175L ha hb 172 0 w  (by omega) (by omega) hI hE )
set_option maxRecDepth 20000 in
set_option maxHeartbeats 4000000 in
theorem s153 {xs : Option (List Int32)} {d : Nat} {w : List sx_C} (hI : WI w) {n k s c y : Nat} (hn : n ≤ 9) (en : (ia w 112).getD 1 0 = nI n) (hk : k ≤ 5) (hs : s ≤ 1) (hc : c < 48) (hy : y ≤ 3) : sx_RP xs (d + 2) 153 0 (lv_args 0 [.ref 111, .int (nI k), .int (nI s), .int (nI c), .int (nI y)]) [] w (fun r w2 => (r = none) ∧ WI w2 ∧ EM w w2) := by
  have hE : EM w w := EM.rf
  refine sx_RP.step (pc2 := 1) (ls2 := [(0, .ref 111), (1, .int (nI k)), (2, .int (nI s)), (3, .int (nI c)), (4, .int (nI y))]) (st2 := [.ref 111]) (w3 := w) rfl rfl ?_
  refine sx_RP.gf (v := .ref 112) rfl rfl hI.1.o111 rfl rfl (show _ = 4 from rfl) ?_
  refine sx_RP.step (pc2 := 5) (ls2 := [(0, .ref 111), (1, .int (nI k)), (2, .int (nI s)), (3, .int (nI c)), (4, .int (nI y))]) (st2 := [.int 1, .ref 112]) (w3 := w) rfl rfl ?_
  refine sx_RP.ild (c := 1) rfl hI.1.a112.1 hI.1.a112.2 (sx_in_nI (show 1 < 172 by omega) (by decide)) (show (nI 1).toNatClampNeg = 1 from nI_clamp (by omega)) (show _ = 6 from rfl) ?_
  rw [en]
  refine sx_RP.step (pc2 := 8) (ls2 := [(5, .int (nI n)), (0, .ref 111), (1, .int (nI k)), (2, .int (nI s)), (3, .int (nI c)), (4, .int (nI y))]) (st2 := []) (w3 := w) rfl rfl ?_
  refine sx_RP.step (pc2 := 9) (ls2 := [(5, .int (nI n)), (0, .ref 111), (1, .int (nI k)), (2, .int (nI s)), (3, .int (nI c)), (4, .int (nI y))]) (st2 := [.ref 111]) (w3 := w) rfl rfl ?_
  refine sx_RP.gf (v := .ref 112) rfl rfl hI.1.o111 rfl rfl (show _ = 12 from rfl) ?_
  refine sx_RP.step (pc2 := 13) (ls2 := [(5, .int (nI n)), (0, .ref 111), (1, .int (nI k)), (2, .int (nI s)), (3, .int (nI c)), (4, .int (nI y))]) (st2 := [.int 1, .ref 112]) (w3 := w) rfl rfl ?_
  refine sx_RP.step (pc2 := 14) (ls2 := [(5, .int (nI n)), (0, .ref 111), (1, .int (nI k)), (2, .int (nI s)), (3, .int (nI c)), (4, .int (nI y))]) (st2 := [.int 1, .ref 112, .int 1, .ref 112]) (w3 := w) rfl rfl ?_
  refine sx_RP.ild (c := 1) rfl hI.1.a112.1 hI.1.a112.2 (sx_in_nI (show 1 < 172 by omega) (by decide)) (show (nI 1).toNatClampNeg = 1 from nI_clamp (by omega)) (show _ = 15 from rfl) ?_
  rw [en]
  refine sx_RP.step (pc2 := 16) (ls2 := [(5, .int (nI n)), (0, .ref 111), (1, .int (nI k)), (2, .int (nI s)), (3, .int (nI c)), (4, .int (nI y))]) (st2 := [.int 1, .int (nI n), .int 1, .ref 112]) (w3 := w) rfl rfl ?_
  refine sx_RP.step (pc2 := 17) (ls2 := [(5, .int (nI n)), (0, .ref 111), (1, .int (nI k)), (2, .int (nI s)), (3, .int (nI c)), (4, .int (nI y))]) (st2 := [.int ((nI n) + 1), .int 1, .ref 112]) (w3 := w) rfl rfl ?_
  rw [show ((nI n) + 1 : Int32) = nI (n + 1) from nI_add n 1]
  refine sx_RP.mS (k := 1) hI hE (by decide) rfl rfl (by omega) (eOK_1 (inR.n (show (n + 1) ≤ 10 by omega))) (show _ = 18 from rfl) (fun w1 hI2 hE3 hk4 => ?_)
  refine sx_RP.step (pc2 := 19) (ls2 := [(5, .int (nI n)), (0, .ref 111), (1, .int (nI k)), (2, .int (nI s)), (3, .int (nI c)), (4, .int (nI y))]) (st2 := [.ref 111]) (w3 := w1) rfl rfl ?_
  refine sx_RP.step (pc2 := 21) (ls2 := [(5, .int (nI n)), (0, .ref 111), (1, .int (nI k)), (2, .int (nI s)), (3, .int (nI c)), (4, .int (nI y))]) (st2 := [.int (nI n), .ref 111]) (w3 := w1) rfl rfl ?_
  refine sx_RP.step (pc2 := 22) (ls2 := [(5, .int (nI n)), (0, .ref 111), (1, .int (nI k)), (2, .int (nI s)), (3, .int (nI c)), (4, .int (nI y))]) (st2 := [.int 0, .int (nI n), .ref 111]) (w3 := w1) rfl rfl ?_
  refine sx_RP.step (pc2 := 23) (ls2 := [(5, .int (nI n)), (0, .ref 111), (1, .int (nI k)), (2, .int (nI s)), (3, .int (nI c)), (4, .int (nI y))]) (st2 := [.int (nI k), .int 0, .int (nI n), .ref 111]) (w3 := w1) rfl rfl ?_
  refine sx_RP.callp (as2 := [.ref 111, .int (nI n), .int 0, .int (nI k)]) (rest2 := []) rfl rfl (sx_inv_v2 (mi := 153) (k := 110) (st := [.int (nI k), .int 0, .int (nI n), .ref 111]) (w := w1) rfl rfl hI2.1.o111 rfl rfl rfl) rfl rfl rfl (s154_0 hI2 (show n < 10 by omega) (show k ≤ 5 by omega)) (show _ = 26 from rfl) ?_
  rintro r4 w6 ⟨⟨v5, rfl⟩, hI7, hE9⟩
  have hE8 := hE3.tr (hE9)
  show sx_RP _ _ _ _ _ [.int v5] _ _
  refine sx_RP.step (pc2 := 27) (ls2 := [(5, .int (nI n)), (0, .ref 111), (1, .int (nI k)), (2, .int (nI s)), (3, .int (nI c)), (4, .int (nI y))]) (st2 := []) (w3 := w6) rfl rfl ?_
  refine sx_RP.step (pc2 := 28) (ls2 := [(5, .int (nI n)), (0, .ref 111), (1, .int (nI k)), (2, .int (nI s)), (3, .int (nI c)), (4, .int (nI y))]) (st2 := [.ref 111]) (w3 := w6) rfl rfl ?_
  refine sx_RP.step (pc2 := 30) (ls2 := [(5, .int (nI n)), (0, .ref 111), (1, .int (nI k)), (2, .int (nI s)), (3, .int (nI c)), (4, .int (nI y))]) (st2 := [.int (nI n), .ref 111]) (w3 := w6) rfl rfl ?_
  refine sx_RP.step (pc2 := 31) (ls2 := [(5, .int (nI n)), (0, .ref 111), (1, .int (nI k)), (2, .int (nI s)), (3, .int (nI c)), (4, .int (nI y))]) (st2 := [.int 1, .int (nI n), .ref 111]) (w3 := w6) rfl rfl ?_
  refine sx_RP.step (pc2 := 32) (ls2 := [(5, .int (nI n)), (0, .ref 111), (1, .int (nI k)), (2, .int (nI s)), (3, .int (nI c)), (4, .int (nI y))]) (st2 := [.int (nI s), .int 1, .int (nI n), .ref 111]) (w3 := w6) rfl rfl ?_
  refine sx_RP.callp (as2 := [.ref 111, .int (nI n), .int 1, .int (nI s)]) (rest2 := []) rfl rfl (sx_inv_v2 (mi := 153) (k := 110) (st := [.int (nI s), .int 1, .int (nI n), .ref 111]) (w := w6) rfl rfl hI7.1.o111 rfl rfl rfl) rfl rfl rfl (s154_1 hI7 (show n < 10 by omega) (show s ≤ 1 by omega)) (show _ = 35 from rfl) ?_
  rintro r4 w11 ⟨⟨v10, rfl⟩, hI12, hE14⟩
  have hE13 := hE8.tr (hE14)
  show sx_RP _ _ _ _ _ [.int v10] _ _
  refine sx_RP.step (pc2 := 36) (ls2 := [(5, .int (nI n)), (0, .ref 111), (1, .int (nI k)), (2, .int (nI s)), (3, .int (nI c)), (4, .int (nI y))]) (st2 := []) (w3 := w11) rfl rfl ?_
  refine sx_RP.step (pc2 := 37) (ls2 := [(5, .int (nI n)), (0, .ref 111), (1, .int (nI k)), (2, .int (nI s)), (3, .int (nI c)), (4, .int (nI y))]) (st2 := [.ref 111]) (w3 := w11) rfl rfl ?_
  refine sx_RP.step (pc2 := 39) (ls2 := [(5, .int (nI n)), (0, .ref 111), (1, .int (nI k)), (2, .int (nI s)), (3, .int (nI c)), (4, .int (nI y))]) (st2 := [.int (nI n), .ref 111]) (w3 := w11) rfl rfl ?_
  refine sx_RP.step (pc2 := 40) (ls2 := [(5, .int (nI n)), (0, .ref 111), (1, .int (nI k)), (2, .int (nI s)), (3, .int (nI c)), (4, .int (nI y))]) (st2 := [.int 2, .int (nI n), .ref 111]) (w3 := w11) rfl rfl ?_
  refine sx_RP.step (pc2 := 41) (ls2 := [(5, .int (nI n)), (0, .ref 111), (1, .int (nI k)), (2, .int (nI s)), (3, .int (nI c)), (4, .int (nI y))]) (st2 := [.int (nI c), .int 2, .int (nI n), .ref 111]) (w3 := w11) rfl rfl ?_
  refine sx_RP.callp (as2 := [.ref 111, .int (nI n), .int 2, .int (nI c)]) (rest2 := []) rfl rfl (sx_inv_v2 (mi := 153) (k := 110) (st := [.int (nI c), .int 2, .int (nI n), .ref 111]) (w := w11) rfl rfl hI12.1.o111 rfl rfl rfl) rfl rfl rfl (s154_2 hI12 (show n < 10 by omega) (show c ≤ 47 by omega)) (show _ = 44 from rfl) ?_
  rintro r4 w16 ⟨⟨v15, rfl⟩, hI17, hE19⟩
  have hE18 := hE13.tr (hE19)
  show sx_RP _ _ _ _ _ [.int v15] _ _
  refine sx_RP.step (pc2 := 45) (ls2 := [(5, .int (nI n)), (0, .ref 111), (1, .int (nI k)), (2, .int (nI s)), (3, .int (nI c)), (4, .int (nI y))]) (st2 := []) (w3 := w16) rfl rfl ?_
  refine sx_RP.step (pc2 := 46) (ls2 := [(5, .int (nI n)), (0, .ref 111), (1, .int (nI k)), (2, .int (nI s)), (3, .int (nI c)), (4, .int (nI y))]) (st2 := [.ref 111]) (w3 := w16) rfl rfl ?_
  refine sx_RP.step (pc2 := 48) (ls2 := [(5, .int (nI n)), (0, .ref 111), (1, .int (nI k)), (2, .int (nI s)), (3, .int (nI c)), (4, .int (nI y))]) (st2 := [.int (nI n), .ref 111]) (w3 := w16) rfl rfl ?_
  refine sx_RP.step (pc2 := 49) (ls2 := [(5, .int (nI n)), (0, .ref 111), (1, .int (nI k)), (2, .int (nI s)), (3, .int (nI c)), (4, .int (nI y))]) (st2 := [.int 3, .int (nI n), .ref 111]) (w3 := w16) rfl rfl ?_
  refine sx_RP.step (pc2 := 51) (ls2 := [(5, .int (nI n)), (0, .ref 111), (1, .int (nI k)), (2, .int (nI s)), (3, .int (nI c)), (4, .int (nI y))]) (st2 := [.int (nI y), .int 3, .int (nI n), .ref 111]) (w3 := w16) rfl rfl ?_
  refine sx_RP.callp (as2 := [.ref 111, .int (nI n), .int 3, .int (nI y)]) (rest2 := []) rfl rfl (sx_inv_v2 (mi := 153) (k := 110) (st := [.int (nI y), .int 3, .int (nI n), .ref 111]) (w := w16) rfl rfl hI17.1.o111 rfl rfl rfl) rfl rfl rfl (s154_3 hI17 (show n < 10 by omega) (show y ≤ 3 by omega)) (show _ = 54 from rfl) ?_
  rintro r4 w21 ⟨⟨v20, rfl⟩, hI22, hE24⟩
  have hE23 := hE18.tr (hE24)
  show sx_RP _ _ _ _ _ [.int v20] _ _
  refine sx_RP.step (pc2 := 55) (ls2 := [(5, .int (nI n)), (0, .ref 111), (1, .int (nI k)), (2, .int (nI s)), (3, .int (nI c)), (4, .int (nI y))]) (st2 := []) (w3 := w21) rfl rfl ?_
  refine sx_RP.step (pc2 := 56) (ls2 := [(5, .int (nI n)), (0, .ref 111), (1, .int (nI k)), (2, .int (nI s)), (3, .int (nI c)), (4, .int (nI y))]) (st2 := [.ref 111]) (w3 := w21) rfl rfl ?_
  refine sx_RP.step (pc2 := 58) (ls2 := [(5, .int (nI n)), (0, .ref 111), (1, .int (nI k)), (2, .int (nI s)), (3, .int (nI c)), (4, .int (nI y))]) (st2 := [.int (nI n), .ref 111]) (w3 := w21) rfl rfl ?_
  refine sx_RP.step (pc2 := 59) (ls2 := [(5, .int (nI n)), (0, .ref 111), (1, .int (nI k)), (2, .int (nI s)), (3, .int (nI c)), (4, .int (nI y))]) (st2 := [.int 4, .int (nI n), .ref 111]) (w3 := w21) rfl rfl ?_
  refine sx_RP.step (pc2 := 60) (ls2 := [(5, .int (nI n)), (0, .ref 111), (1, .int (nI k)), (2, .int (nI s)), (3, .int (nI c)), (4, .int (nI y))]) (st2 := [.int 0, .int 4, .int (nI n), .ref 111]) (w3 := w21) rfl rfl ?_
  refine sx_RP.callp (as2 := [.ref 111, .int (nI n), .int 4, .int 0]) (rest2 := []) rfl rfl (sx_inv_v2 (mi := 153) (k := 110) (st := [.int 0, .int 4, .int (nI n), .ref 111]) (w := w21) rfl rfl hI22.1.o111 rfl rfl rfl) rfl rfl rfl (s154_4 hI22 (show n < 10 by omega) 0) (show _ = 63 from rfl) ?_
  rintro r4 w26 ⟨⟨v25, rfl⟩, hI27, hE29⟩
  have hE28 := hE23.tr (hE29)
  show sx_RP _ _ _ _ _ [.int v25] _ _
  refine sx_RP.step (pc2 := 64) (ls2 := [(5, .int (nI n)), (0, .ref 111), (1, .int (nI k)), (2, .int (nI s)), (3, .int (nI c)), (4, .int (nI y))]) (st2 := []) (w3 := w26) rfl rfl ?_
  refine sx_RP.step (pc2 := 65) (ls2 := [(5, .int (nI n)), (0, .ref 111), (1, .int (nI k)), (2, .int (nI s)), (3, .int (nI c)), (4, .int (nI y))]) (st2 := [.ref 111]) (w3 := w26) rfl rfl ?_
  refine sx_RP.step (pc2 := 67) (ls2 := [(5, .int (nI n)), (0, .ref 111), (1, .int (nI k)), (2, .int (nI s)), (3, .int (nI c)), (4, .int (nI y))]) (st2 := [.int (nI n), .ref 111]) (w3 := w26) rfl rfl ?_
  refine sx_RP.step (pc2 := 68) (ls2 := [(5, .int (nI n)), (0, .ref 111), (1, .int (nI k)), (2, .int (nI s)), (3, .int (nI c)), (4, .int (nI y))]) (st2 := [.int 5, .int (nI n), .ref 111]) (w3 := w26) rfl rfl ?_
  refine sx_RP.step (pc2 := 69) (ls2 := [(5, .int (nI n)), (0, .ref 111), (1, .int (nI k)), (2, .int (nI s)), (3, .int (nI c)), (4, .int (nI y))]) (st2 := [.int 0, .int 5, .int (nI n), .ref 111]) (w3 := w26) rfl rfl ?_
  refine sx_RP.callp (as2 := [.ref 111, .int (nI n), .int 5, .int 0]) (rest2 := []) rfl rfl (sx_inv_v2 (mi := 153) (k := 110) (st := [.int 0, .int 5, .int (nI n), .ref 111]) (w := w26) rfl rfl hI27.1.o111 rfl rfl rfl) rfl rfl rfl (s154_5 hI27 (show n < 10 by omega) (show 0 ≤ 1 by omega)) (show _ = 72 from rfl) ?_
  rintro r4 w31 ⟨⟨v30, rfl⟩, hI32, hE34⟩
  have hE33 := hE28.tr (hE34)
  show sx_RP _ _ _ _ _ [.int v30] _ _
  refine sx_RP.step (pc2 := 73) (ls2 := [(5, .int (nI n)), (0, .ref 111), (1, .int (nI k)), (2, .int (nI s)), (3, .int (nI c)), (4, .int (nI y))]) (st2 := []) (w3 := w31) rfl rfl ?_
  refine sx_RP.ret (r := none) rfl rfl ?_
  exact ⟨rfl, hI32, hE33⟩
set_option maxRecDepth 20000 in
set_option maxHeartbeats 4000000 in
theorem p198B {xs : Option (List Int32)} {d : Nat} {w : List sx_C} (x y : Int32) (hI : WI w) {j : Nat} (hj : j ≤ 48) (n : Int32) (kk : ∀ (un : Int32), j + 1 ≤ 48 → sx_RP xs (d + 2) 198 5 [(0, .ref 111), (1, .int x), (2, .int y), (3, .int un), (4, .int (nI (j + 1)))] [] w (fun r w2 => (∃ v : Int32, r = some (.int v)) ∧ w2 = w)) : sx_RP xs (d + 2) 198 5 [(0, .ref 111), (1, .int x), (2, .int y), (3, .int n), (4, .int (nI j))] [] w (fun r w2 => (∃ v : Int32, r = some (.int v)) ∧ w2 = w) := by
  refine sx_RP.step (pc2 := 7) (ls2 := [(0, .ref 111), (1, .int x), (2, .int y), (3, .int n), (4, .int (nI j))]) (st2 := [.int (nI j)]) (w3 := w) rfl rfl ?_
  refine sx_RP.step (pc2 := 9) (ls2 := [(0, .ref 111), (1, .int x), (2, .int y), (3, .int n), (4, .int (nI j))]) (st2 := [.int 48, .int (nI j)]) (w3 := w) rfl rfl ?_
  refine sx_RP.br (p1 := 51) (l1 := [(0, .ref 111), (1, .int x), (2, .int y), (3, .int n), (4, .int (nI j))]) (s1 := []) (v1 := w) (p2 := 12) (l2 := [(0, .ref 111), (1, .int x), (2, .int y), (3, .int n), (4, .int (nI j))]) (s2 := []) (v2 := w) rfl rfl (fun q1 => ?_) (fun q1 => ?_)
  · replace q1 := of_decide_eq_true q1
    replace q1 := (nI_leI (a := 48) (b := j) (by omega) (by omega)).mp q1
    refine sx_RP.step (pc2 := 52) (ls2 := [(0, .ref 111), (1, .int x), (2, .int y), (3, .int n), (4, .int (nI j))]) (st2 := [.int n]) (w3 := w) rfl rfl ?_
    refine sx_RP.ret (r := (some (.int n))) rfl rfl ?_
    exact ⟨⟨_, rfl⟩, rfl⟩
  · replace q1 := of_decide_eq_false q1
    replace q1 := mt (nI_leI (a := 48) (b := j) (by omega) (by omega)).mpr q1
    refine sx_RP.step (pc2 := 13) (ls2 := [(0, .ref 111), (1, .int x), (2, .int y), (3, .int n), (4, .int (nI j))]) (st2 := [.int n]) (w3 := w) rfl rfl ?_
    refine sx_RP.step (pc2 := 14) (ls2 := [(0, .ref 111), (1, .int x), (2, .int y), (3, .int n), (4, .int (nI j))]) (st2 := [.ref 111, .int n]) (w3 := w) rfl rfl ?_
    refine sx_RP.gf (v := .ref 112) rfl rfl hI.1.o111 rfl rfl (show _ = 17 from rfl) ?_
    refine sx_RP.step (pc2 := 19) (ls2 := [(0, .ref 111), (1, .int x), (2, .int y), (3, .int n), (4, .int (nI j))]) (st2 := [.int 55, .ref 112, .int n]) (w3 := w) rfl rfl ?_
    refine sx_RP.step (pc2 := 21) (ls2 := [(0, .ref 111), (1, .int x), (2, .int y), (3, .int n), (4, .int (nI j))]) (st2 := [.int (nI j), .int 55, .ref 112, .int n]) (w3 := w) rfl rfl ?_
    refine sx_RP.step (pc2 := 22) (ls2 := [(0, .ref 111), (1, .int x), (2, .int y), (3, .int n), (4, .int (nI j))]) (st2 := [.int (55 + (nI j)), .ref 112, .int n]) (w3 := w) rfl rfl ?_
    rw [show (55 + (nI j) : Int32) = nI (55 + j) from nI_add 55 j]
    refine sx_RP.ild (c := (55 + j)) rfl hI.1.a112.1 hI.1.a112.2 (sx_in_nI (show (55 + j) < 172 by omega) (by decide)) (show (nI (55 + j)).toNatClampNeg = (55 + j) from nI_clamp (by omega)) (show _ = 23 from rfl) ?_
    refine sx_RP.step (pc2 := 24) (ls2 := [(0, .ref 111), (1, .int x), (2, .int y), (3, .int n), (4, .int (nI j))]) (st2 := [.int 1, .int ((ia w 112).getD (55 + j) 0), .int n]) (w3 := w) rfl rfl ?_
    refine sx_RP.br (p1 := 42) (l1 := [(0, .ref 111), (1, .int x), (2, .int y), (3, .int n), (4, .int (nI j))]) (s1 := [.int n]) (v1 := w) (p2 := 27) (l2 := [(0, .ref 111), (1, .int x), (2, .int y), (3, .int n), (4, .int (nI j))]) (s2 := [.int n]) (v2 := w) rfl rfl (fun q2 => ?_) (fun q2 => ?_)
    · replace q2 := of_decide_eq_true q2
      refine sx_RP.step (pc2 := 43) (ls2 := [(0, .ref 111), (1, .int x), (2, .int y), (3, .int n), (4, .int (nI j))]) (st2 := [.int 0, .int n]) (w3 := w) rfl rfl ?_
      refine sx_RP.step (pc2 := 44) (ls2 := [(0, .ref 111), (1, .int x), (2, .int y), (3, .int n), (4, .int (nI j))]) (st2 := [.int (n + 0)]) (w3 := w) rfl rfl ?_
      refine sx_RP.step (pc2 := 45) (ls2 := [(3, .int (n + 0)), (0, .ref 111), (1, .int x), (2, .int y), (4, .int (nI j))]) (st2 := []) (w3 := w) rfl rfl ?_
      refine sx_RP.step (pc2 := 48) (ls2 := [(4, .int ((nI j) + 1)), (3, .int (n + 0)), (0, .ref 111), (1, .int x), (2, .int y)]) (st2 := []) (w3 := w) rfl rfl ?_
      rw [nI_1 j]
      refine sx_RP.step (pc2 := 5) (ls2 := [(4, .int (nI (j + 1))), (3, .int (n + 0)), (0, .ref 111), (1, .int x), (2, .int y)]) (st2 := []) (w3 := w) rfl rfl ?_
      exact sx_RP.ls (sx_lr.cons rfl (sx_lr.cons rfl (sx_lr.cons rfl (sx_lr.cons rfl (sx_lr.cons rfl sx_lr.nil))))) (kk (n + 0) (by omega))
    · replace q2 := Decidable.not_not.mp (of_decide_eq_false q2)
      refine sx_RP.step (pc2 := 28) (ls2 := [(0, .ref 111), (1, .int x), (2, .int y), (3, .int n), (4, .int (nI j))]) (st2 := [.ref 111, .int n]) (w3 := w) rfl rfl ?_
      refine sx_RP.step (pc2 := 29) (ls2 := [(0, .ref 111), (1, .int x), (2, .int y), (3, .int n), (4, .int (nI j))]) (st2 := [.int x, .ref 111, .int n]) (w3 := w) rfl rfl ?_
      refine sx_RP.step (pc2 := 30) (ls2 := [(0, .ref 111), (1, .int x), (2, .int y), (3, .int n), (4, .int (nI j))]) (st2 := [.int y, .int x, .ref 111, .int n]) (w3 := w) rfl rfl ?_
      refine sx_RP.step (pc2 := 32) (ls2 := [(0, .ref 111), (1, .int x), (2, .int y), (3, .int n), (4, .int (nI j))]) (st2 := [.int (nI j), .int y, .int x, .ref 111, .int n]) (w3 := w) rfl rfl ?_
      obtain ⟨x3, hx4, c5⟩ := p199 hI x y (show j < 48 by omega)
      refine sx_RP.cu (as := [.ref 111, .int x, .int y, .int (nI j)]) (rest2 := [.int n]) (st3 := [.int (nI x3), .int n]) rfl rfl (sx_inv_v2 (mi := 198) (k := 192) (st := [.int (nI j), .int y, .int x, .ref 111, .int n]) (w := w) rfl rfl hI.1.o111 rfl rfl rfl) rfl rfl (c5) rfl ?_
      refine sx_RP.br (p1 := 42) (l1 := [(0, .ref 111), (1, .int x), (2, .int y), (3, .int n), (4, .int (nI j))]) (s1 := [.int n]) (v1 := w) (p2 := 38) (l2 := [(0, .ref 111), (1, .int x), (2, .int y), (3, .int n), (4, .int (nI j))]) (s2 := [.int n]) (v2 := w) rfl rfl (fun q6 => ?_) (fun q6 => ?_)
      · replace q6 := of_decide_eq_true q6
        replace q6 := (nI_eq (a := x3) (b := 0) (by omega) (by omega)).mp q6
        refine sx_RP.step (pc2 := 43) (ls2 := [(0, .ref 111), (1, .int x), (2, .int y), (3, .int n), (4, .int (nI j))]) (st2 := [.int 0, .int n]) (w3 := w) rfl rfl ?_
        refine sx_RP.step (pc2 := 44) (ls2 := [(0, .ref 111), (1, .int x), (2, .int y), (3, .int n), (4, .int (nI j))]) (st2 := [.int (n + 0)]) (w3 := w) rfl rfl ?_
        refine sx_RP.step (pc2 := 45) (ls2 := [(3, .int (n + 0)), (0, .ref 111), (1, .int x), (2, .int y), (4, .int (nI j))]) (st2 := []) (w3 := w) rfl rfl ?_
        refine sx_RP.step (pc2 := 48) (ls2 := [(4, .int ((nI j) + 1)), (3, .int (n + 0)), (0, .ref 111), (1, .int x), (2, .int y)]) (st2 := []) (w3 := w) rfl rfl ?_
        rw [nI_1 j]
        refine sx_RP.step (pc2 := 5) (ls2 := [(4, .int (nI (j + 1))), (3, .int (n + 0)), (0, .ref 111), (1, .int x), (2, .int y)]) (st2 := []) (w3 := w) rfl rfl ?_
        exact sx_RP.ls (sx_lr.cons rfl (sx_lr.cons rfl (sx_lr.cons rfl (sx_lr.cons rfl (sx_lr.cons rfl sx_lr.nil))))) (kk (n + 0) (by omega))
      · replace q6 := of_decide_eq_false q6
        replace q6 := mt (nI_eq (a := x3) (b := 0) (by omega) (by omega)).mpr q6
        refine sx_RP.step (pc2 := 39) (ls2 := [(0, .ref 111), (1, .int x), (2, .int y), (3, .int n), (4, .int (nI j))]) (st2 := [.int 1, .int n]) (w3 := w) rfl rfl ?_
        refine sx_RP.step (pc2 := 43) (ls2 := [(0, .ref 111), (1, .int x), (2, .int y), (3, .int n), (4, .int (nI j))]) (st2 := [.int 1, .int n]) (w3 := w) rfl rfl ?_
        refine sx_RP.step (pc2 := 44) (ls2 := [(0, .ref 111), (1, .int x), (2, .int y), (3, .int n), (4, .int (nI j))]) (st2 := [.int (n + 1)]) (w3 := w) rfl rfl ?_
        refine sx_RP.step (pc2 := 45) (ls2 := [(3, .int (n + 1)), (0, .ref 111), (1, .int x), (2, .int y), (4, .int (nI j))]) (st2 := []) (w3 := w) rfl rfl ?_
        refine sx_RP.step (pc2 := 48) (ls2 := [(4, .int ((nI j) + 1)), (3, .int (n + 1)), (0, .ref 111), (1, .int x), (2, .int y)]) (st2 := []) (w3 := w) rfl rfl ?_
        rw [nI_1 j]
        refine sx_RP.step (pc2 := 5) (ls2 := [(4, .int (nI (j + 1))), (3, .int (n + 1)), (0, .ref 111), (1, .int x), (2, .int y)]) (st2 := []) (w3 := w) rfl rfl ?_
        exact sx_RP.ls (sx_lr.cons rfl (sx_lr.cons rfl (sx_lr.cons rfl (sx_lr.cons rfl (sx_lr.cons rfl sx_lr.nil))))) (kk (n + 1) (by omega))
set_option maxRecDepth 20000 in
set_option maxHeartbeats 4000000 in
theorem p198L {xs : Option (List Int32)} {d : Nat} {w : List sx_C} (x y : Int32) (hI : WI w) : ∀ (fz j : Nat) (n : Int32) , 48 ≤ j + fz * 1 → j ≤ 48 → sx_RP xs (d + 2) 198 5 [(0, .ref 111), (1, .int x), (2, .int y), (3, .int n), (4, .int (nI j))] [] w (fun r w2 => (∃ v : Int32, r = some (.int v)) ∧ w2 = w)
  | 0, j, n, h, hj => p198B x y hI hj n  (fun un  hlt  => absurd hlt (by omega)) 
  | fz + 1, j, n, h, hj => p198B x y hI hj n  (fun un  hlt  => p198L x y hI  fz (j + 1) un (by omega) hlt ) 
set_option maxRecDepth 20000 in
set_option maxHeartbeats 4000000 in
theorem p198 {xs : Option (List Int32)} {d : Nat} {w : List sx_C} (hI : WI w) (x y : Int32) : ∃ v : Int32, sx_RU xs (d + 2) 198 0 (lv_args 0 [.ref 111, .int x, .int y]) [] w (some (.int v)) w := by
  have h : sx_RP xs (d + 2) 198 0 (lv_args 0 [.ref 111, .int x, .int y]) [] w (fun r w2 => (∃ v : Int32, r = some (.int v)) ∧ w2 = w) := by
    refine sx_RP.step (pc2 := 1) (ls2 := [(0, .ref 111), (1, .int x), (2, .int y)]) (st2 := [.int 0]) (w3 := w) rfl rfl ?_
    refine sx_RP.step (pc2 := 2) (ls2 := [(3, .int 0), (0, .ref 111), (1, .int x), (2, .int y)]) (st2 := []) (w3 := w) rfl rfl ?_
    refine sx_RP.step (pc2 := 3) (ls2 := [(3, .int 0), (0, .ref 111), (1, .int x), (2, .int y)]) (st2 := [.int 0]) (w3 := w) rfl rfl ?_
    refine sx_RP.step (pc2 := 5) (ls2 := [(4, .int 0), (3, .int 0), (0, .ref 111), (1, .int x), (2, .int y)]) (st2 := []) (w3 := w) rfl rfl ?_
    exact sx_RP.ls (sx_lr.cons rfl (sx_lr.cons rfl (sx_lr.cons rfl (sx_lr.cons rfl (sx_lr.cons rfl sx_lr.nil))))) (p198L x y hI 48 0 0 (by omega) (by omega) )
  obtain ⟨r, w2, h1, ⟨v, rfl⟩, rfl⟩ := h
  exact ⟨v, h1⟩
set_option maxRecDepth 20000 in
set_option maxHeartbeats 4000000 in
theorem p204 {xs : Option (List Int32)} {d : Nat} {w : List sx_C} (hI : WI w) (x y : Int32) : ∃ j, j ≤ 1 ∧ sx_RU xs (d + 1) 204 0 (lv_args 0 [.int x, .int y]) [] w (some (.int (nI j))) w := by
  have h : sx_RP xs (d + 1) 204 0 (lv_args 0 [.int x, .int y]) [] w (fun r w2 => (∃ j, j ≤ 1 ∧ r = some (.int (nI j))) ∧ w2 = w) := by
    refine sx_RP.step (pc2 := 1) (ls2 := [(0, .int x), (1, .int y)]) (st2 := [.int x]) (w3 := w) rfl rfl ?_
    refine sx_RP.br (p1 := 14) (l1 := [(0, .int x), (1, .int y)]) (s1 := []) (v1 := w) (p2 := 4) (l2 := [(0, .int x), (1, .int y)]) (s2 := []) (v2 := w) rfl rfl (fun q1 => ?_) (fun q1 => ?_)
    · replace q1 := of_decide_eq_true q1
      refine sx_RP.step (pc2 := 15) (ls2 := [(0, .int x), (1, .int y)]) (st2 := [.int y]) (w3 := w) rfl rfl ?_
      refine sx_RP.step (pc2 := 16) (ls2 := [(0, .int x), (1, .int y)]) (st2 := [.int 1, .int y]) (w3 := w) rfl rfl ?_
      refine sx_RP.step (pc2 := 17) (ls2 := [(0, .int x), (1, .int y)]) (st2 := [.int x, .int 1, .int y]) (w3 := w) rfl rfl ?_
      refine sx_RP.step (pc2 := 18) (ls2 := [(0, .int x), (1, .int y)]) (st2 := [.int 1, .int x, .int 1, .int y]) (w3 := w) rfl rfl ?_
      refine sx_RP.br (p1 := 27) (l1 := [(0, .int x), (1, .int y)]) (s1 := [.int 1, .int y]) (v1 := w) (p2 := 21) (l2 := [(0, .int x), (1, .int y)]) (s2 := [.int 1, .int y]) (v2 := w) rfl rfl (fun q2 => ?_) (fun q2 => ?_)
      · replace q2 := of_decide_eq_true q2
        refine sx_RP.step (pc2 := 29) (ls2 := [(0, .int x), (1, .int y)]) (st2 := [.int 99, .int 1, .int y]) (w3 := w) rfl rfl ?_
        rcases in_cases y 1 99 (m := 1) (n := 99) rfl rfl (by decide) (by decide) with q3 | ⟨x4, hx5, hx6, rfl⟩
        · refine sx_RP.cu (as := [.int y, .int 1, .int 99]) (rest2 := []) (st3 := [.int 0]) rfl rfl rfl rfl rfl (cx_132o q3) rfl ?_
          refine sx_RP.ret (r := (some (.int 0))) rfl rfl ?_
          exact ⟨⟨0, by decide, rfl⟩, rfl⟩
        · refine sx_RP.cu (as := [.int (nI x4), .int 1, .int 99]) (rest2 := []) (st3 := [.int 1]) rfl rfl rfl rfl rfl (cx_132p ⟨nI_le (a := 1) hx5 (by omega), nI_le (b := 99) hx6 (by decide)⟩) rfl ?_
          refine sx_RP.ret (r := (some (.int 1))) rfl rfl ?_
          exact ⟨⟨1, by decide, rfl⟩, rfl⟩
      · replace q2 := Decidable.not_not.mp (of_decide_eq_false q2)
        refine sx_RP.step (pc2 := 24) (ls2 := [(0, .int x), (1, .int y)]) (st2 := [.int 999, .int 1, .int y]) (w3 := w) rfl rfl ?_
        refine sx_RP.step (pc2 := 29) (ls2 := [(0, .int x), (1, .int y)]) (st2 := [.int 999, .int 1, .int y]) (w3 := w) rfl rfl ?_
        rcases in_cases y 1 999 (m := 1) (n := 999) rfl rfl (by decide) (by decide) with q8 | ⟨x9, hx10, hx11, rfl⟩
        · refine sx_RP.cu (as := [.int y, .int 1, .int 999]) (rest2 := []) (st3 := [.int 0]) rfl rfl rfl rfl rfl (cx_132o q8) rfl ?_
          refine sx_RP.ret (r := (some (.int 0))) rfl rfl ?_
          exact ⟨⟨0, by decide, rfl⟩, rfl⟩
        · refine sx_RP.cu (as := [.int (nI x9), .int 1, .int 999]) (rest2 := []) (st3 := [.int 1]) rfl rfl rfl rfl rfl (cx_132p ⟨nI_le (a := 1) hx10 (by omega), nI_le (b := 999) hx11 (by decide)⟩) rfl ?_
          refine sx_RP.ret (r := (some (.int 1))) rfl rfl ?_
          exact ⟨⟨1, by decide, rfl⟩, rfl⟩
    · replace q1 := Decidable.not_not.mp (of_decide_eq_false q1)
      refine sx_RP.step (pc2 := 5) (ls2 := [(0, .int x), (1, .int y)]) (st2 := [.int y]) (w3 := w) rfl rfl ?_
      refine sx_RP.step (pc2 := 6) (ls2 := [(0, .int x), (1, .int y)]) (st2 := [.int 0, .int y]) (w3 := w) rfl rfl ?_
      refine sx_RP.step (pc2 := 8) (ls2 := [(0, .int x), (1, .int y)]) (st2 := [.int 999999, .int 0, .int y]) (w3 := w) rfl rfl ?_
      rcases in_cases y 0 999999 (m := 0) (n := 999999) rfl rfl (by decide) (by decide) with q13 | ⟨x14, hx15, hx16, rfl⟩
      · refine sx_RP.cu (as := [.int y, .int 0, .int 999999]) (rest2 := []) (st3 := [.int 0]) rfl rfl rfl rfl rfl (cx_132o q13) rfl ?_
        refine sx_RP.step (pc2 := 32) (ls2 := [(0, .int x), (1, .int y)]) (st2 := [.int 0]) (w3 := w) rfl rfl ?_
        refine sx_RP.ret (r := (some (.int 0))) rfl rfl ?_
        exact ⟨⟨0, by decide, rfl⟩, rfl⟩
      · refine sx_RP.cu (as := [.int (nI x14), .int 0, .int 999999]) (rest2 := []) (st3 := [.int 1]) rfl rfl rfl rfl rfl (cx_132p ⟨nI_le (a := 0) hx15 (by omega), nI_le (b := 999999) hx16 (by decide)⟩) rfl ?_
        refine sx_RP.step (pc2 := 32) (ls2 := [(0, .int x), (1, .int (nI x14))]) (st2 := [.int 1]) (w3 := w) rfl rfl ?_
        refine sx_RP.ret (r := (some (.int 1))) rfl rfl ?_
        exact ⟨⟨1, by decide, rfl⟩, rfl⟩
  obtain ⟨r, w2, h1, ⟨j, hj, rfl⟩, rfl⟩ := h
  exact ⟨j, hj, h1⟩
set_option maxRecDepth 20000 in
set_option maxHeartbeats 4000000 in
theorem q206B {xs : Option (List Int32)} {d : Nat} {w : List sx_C} (x : Int32) (hI : WI w) {j : Nat} (hj : j ≤ 999) (l : Int32) (m : Int32) (kk : ∀ (ul : Int32) (um : Int32), j + 1 ≤ 999 → sx_RP xs d 206 12 [(0, .ref 111), (1, .int x), (2, .int ul), (3, .int um), (4, .int (nI (j + 1)))] [] w (fun r w2 => (∃ v : Int32, r = some (.int v)) ∧ w2 = w)) : sx_RP xs d 206 12 [(0, .ref 111), (1, .int x), (2, .int l), (3, .int m), (4, .int (nI j))] [] w (fun r w2 => (∃ v : Int32, r = some (.int v)) ∧ w2 = w) := by
  refine sx_RP.step (pc2 := 14) (ls2 := [(0, .ref 111), (1, .int x), (2, .int l), (3, .int m), (4, .int (nI j))]) (st2 := [.int (nI j)]) (w3 := w) rfl rfl ?_
  refine sx_RP.step (pc2 := 17) (ls2 := [(0, .ref 111), (1, .int x), (2, .int l), (3, .int m), (4, .int (nI j))]) (st2 := [.int 999, .int (nI j)]) (w3 := w) rfl rfl ?_
  refine sx_RP.br (p1 := 69) (l1 := [(0, .ref 111), (1, .int x), (2, .int l), (3, .int m), (4, .int (nI j))]) (s1 := []) (v1 := w) (p2 := 20) (l2 := [(0, .ref 111), (1, .int x), (2, .int l), (3, .int m), (4, .int (nI j))]) (s2 := []) (v2 := w) rfl rfl (fun q1 => ?_) (fun q1 => ?_)
  · replace q1 := of_decide_eq_true q1
    replace q1 := (nI_leI (a := 999) (b := j) (by omega) (by omega)).mp q1
    refine sx_RP.step (pc2 := 71) (ls2 := [(0, .ref 111), (1, .int x), (2, .int l), (3, .int m), (4, .int (nI j))]) (st2 := [.int (nI j)]) (w3 := w) rfl rfl ?_
    refine sx_RP.ret (r := (some (.int (nI j)))) rfl rfl ?_
    exact ⟨⟨_, rfl⟩, rfl⟩
  · replace q1 := of_decide_eq_false q1
    replace q1 := mt (nI_leI (a := 999) (b := j) (by omega) (by omega)).mpr q1
    refine sx_RP.step (pc2 := 21) (ls2 := [(0, .ref 111), (1, .int x), (2, .int l), (3, .int m), (4, .int (nI j))]) (st2 := [.int l]) (w3 := w) rfl rfl ?_
    refine sx_RP.step (pc2 := 22) (ls2 := [(0, .ref 111), (1, .int x), (2, .int l), (3, .int m), (4, .int (nI j))]) (st2 := [.ref 111, .int l]) (w3 := w) rfl rfl ?_
    refine sx_RP.gf (v := .ref 112) rfl rfl hI.1.o111 rfl rfl (show _ = 25 from rfl) ?_
    refine sx_RP.step (pc2 := 26) (ls2 := [(0, .ref 111), (1, .int x), (2, .int l), (3, .int m), (4, .int (nI j))]) (st2 := [.int 5, .ref 112, .int l]) (w3 := w) rfl rfl ?_
    refine sx_RP.ild (c := 5) rfl hI.1.a112.1 hI.1.a112.2 (sx_in_nI (show 5 < 172 by omega) (by decide)) (show (nI 5).toNatClampNeg = 5 from nI_clamp (by omega)) (show _ = 27 from rfl) ?_
    refine sx_RP.step (pc2 := 28) (ls2 := [(0, .ref 111), (1, .int x), (2, .int l), (3, .int m), (4, .int (nI j))]) (st2 := [.int m, .int ((ia w 112).getD 5 0), .int l]) (w3 := w) rfl rfl ?_
    refine sx_RP.step (pc2 := 29) (ls2 := [(0, .ref 111), (1, .int x), (2, .int l), (3, .int m), (4, .int (nI j))]) (st2 := [.int (((ia w 112).getD 5 0) * m), .int l]) (w3 := w) rfl rfl ?_
    refine sx_RP.br (p1 := 69) (l1 := [(0, .ref 111), (1, .int x), (2, .int l), (3, .int m), (4, .int (nI j))]) (s1 := []) (v1 := w) (p2 := 32) (l2 := [(0, .ref 111), (1, .int x), (2, .int l), (3, .int m), (4, .int (nI j))]) (s2 := []) (v2 := w) rfl rfl (fun q2 => ?_) (fun q2 => ?_)
    · replace q2 := of_decide_eq_true q2
      refine sx_RP.step (pc2 := 71) (ls2 := [(0, .ref 111), (1, .int x), (2, .int l), (3, .int m), (4, .int (nI j))]) (st2 := [.int (nI j)]) (w3 := w) rfl rfl ?_
      refine sx_RP.ret (r := (some (.int (nI j)))) rfl rfl ?_
      exact ⟨⟨_, rfl⟩, rfl⟩
    · replace q2 := of_decide_eq_false q2
      refine sx_RP.step (pc2 := 33) (ls2 := [(0, .ref 111), (1, .int x), (2, .int l), (3, .int m), (4, .int (nI j))]) (st2 := [.int l]) (w3 := w) rfl rfl ?_
      refine sx_RP.step (pc2 := 34) (ls2 := [(0, .ref 111), (1, .int x), (2, .int l), (3, .int m), (4, .int (nI j))]) (st2 := [.ref 111, .int l]) (w3 := w) rfl rfl ?_
      refine sx_RP.gf (v := .ref 112) rfl rfl hI.1.o111 rfl rfl (show _ = 37 from rfl) ?_
      refine sx_RP.step (pc2 := 38) (ls2 := [(0, .ref 111), (1, .int x), (2, .int l), (3, .int m), (4, .int (nI j))]) (st2 := [.int 5, .ref 112, .int l]) (w3 := w) rfl rfl ?_
      refine sx_RP.ild (c := 5) rfl hI.1.a112.1 hI.1.a112.2 (sx_in_nI (show 5 < 172 by omega) (by decide)) (show (nI 5).toNatClampNeg = 5 from nI_clamp (by omega)) (show _ = 39 from rfl) ?_
      refine sx_RP.step (pc2 := 40) (ls2 := [(0, .ref 111), (1, .int x), (2, .int l), (3, .int m), (4, .int (nI j))]) (st2 := [.int m, .int ((ia w 112).getD 5 0), .int l]) (w3 := w) rfl rfl ?_
      refine sx_RP.step (pc2 := 41) (ls2 := [(0, .ref 111), (1, .int x), (2, .int l), (3, .int m), (4, .int (nI j))]) (st2 := [.int (((ia w 112).getD 5 0) * m), .int l]) (w3 := w) rfl rfl ?_
      refine sx_RP.step (pc2 := 42) (ls2 := [(0, .ref 111), (1, .int x), (2, .int l), (3, .int m), (4, .int (nI j))]) (st2 := [.int (l - (((ia w 112).getD 5 0) * m))]) (w3 := w) rfl rfl ?_
      refine sx_RP.step (pc2 := 43) (ls2 := [(2, .int (l - (((ia w 112).getD 5 0) * m))), (0, .ref 111), (1, .int x), (3, .int m), (4, .int (nI j))]) (st2 := []) (w3 := w) rfl rfl ?_
      refine sx_RP.step (pc2 := 46) (ls2 := [(4, .int ((nI j) + 1)), (2, .int (l - (((ia w 112).getD 5 0) * m))), (0, .ref 111), (1, .int x), (3, .int m)]) (st2 := []) (w3 := w) rfl rfl ?_
      rw [nI_1 j]
      refine sx_RP.step (pc2 := 47) (ls2 := [(4, .int (nI (j + 1))), (2, .int (l - (((ia w 112).getD 5 0) * m))), (0, .ref 111), (1, .int x), (3, .int m)]) (st2 := [.int m]) (w3 := w) rfl rfl ?_
      refine sx_RP.step (pc2 := 49) (ls2 := [(4, .int (nI (j + 1))), (2, .int (l - (((ia w 112).getD 5 0) * m))), (0, .ref 111), (1, .int x), (3, .int m)]) (st2 := [.int (nI (j + 1)), .int m]) (w3 := w) rfl rfl ?_
      refine sx_RP.step (pc2 := 50) (ls2 := [(4, .int (nI (j + 1))), (2, .int (l - (((ia w 112).getD 5 0) * m))), (0, .ref 111), (1, .int x), (3, .int m)]) (st2 := [.int 5, .int (nI (j + 1)), .int m]) (w3 := w) rfl rfl ?_
      refine sx_RP.step (pc2 := 51) (ls2 := [(4, .int (nI (j + 1))), (2, .int (l - (((ia w 112).getD 5 0) * m))), (0, .ref 111), (1, .int x), (3, .int m)]) (st2 := [.int ((nI (j + 1)) - (nI (j + 1)) / 5 * 5), .int m]) (w3 := w) rfl rfl ?_
      refine sx_RP.br (p1 := 63) (l1 := [(4, .int (nI (j + 1))), (2, .int (l - (((ia w 112).getD 5 0) * m))), (0, .ref 111), (1, .int x), (3, .int m)]) (s1 := [.int m]) (v1 := w) (p2 := 54) (l2 := [(4, .int (nI (j + 1))), (2, .int (l - (((ia w 112).getD 5 0) * m))), (0, .ref 111), (1, .int x), (3, .int m)]) (s2 := [.int m]) (v2 := w) rfl rfl (fun q3 => ?_) (fun q3 => ?_)
      · replace q3 := of_decide_eq_true q3
        refine sx_RP.step (pc2 := 64) (ls2 := [(4, .int (nI (j + 1))), (2, .int (l - (((ia w 112).getD 5 0) * m))), (0, .ref 111), (1, .int x), (3, .int m)]) (st2 := [.int 0, .int m]) (w3 := w) rfl rfl ?_
        refine sx_RP.step (pc2 := 65) (ls2 := [(4, .int (nI (j + 1))), (2, .int (l - (((ia w 112).getD 5 0) * m))), (0, .ref 111), (1, .int x), (3, .int m)]) (st2 := [.int (m - 0)]) (w3 := w) rfl rfl ?_
        refine sx_RP.step (pc2 := 66) (ls2 := [(3, .int (m - 0)), (4, .int (nI (j + 1))), (2, .int (l - (((ia w 112).getD 5 0) * m))), (0, .ref 111), (1, .int x)]) (st2 := []) (w3 := w) rfl rfl ?_
        refine sx_RP.step (pc2 := 12) (ls2 := [(3, .int (m - 0)), (4, .int (nI (j + 1))), (2, .int (l - (((ia w 112).getD 5 0) * m))), (0, .ref 111), (1, .int x)]) (st2 := []) (w3 := w) rfl rfl ?_
        exact sx_RP.ls (sx_lr.cons rfl (sx_lr.cons rfl (sx_lr.cons rfl (sx_lr.cons rfl (sx_lr.cons rfl sx_lr.nil))))) (kk (l - (((ia w 112).getD 5 0) * m)) (m - 0) (by omega))
      · replace q3 := Decidable.not_not.mp (of_decide_eq_false q3)
        refine sx_RP.step (pc2 := 55) (ls2 := [(4, .int (nI (j + 1))), (2, .int (l - (((ia w 112).getD 5 0) * m))), (0, .ref 111), (1, .int x), (3, .int m)]) (st2 := [.int m, .int m]) (w3 := w) rfl rfl ?_
        refine sx_RP.step (pc2 := 56) (ls2 := [(4, .int (nI (j + 1))), (2, .int (l - (((ia w 112).getD 5 0) * m))), (0, .ref 111), (1, .int x), (3, .int m)]) (st2 := [.int 1, .int m, .int m]) (w3 := w) rfl rfl ?_
        refine sx_RP.br (p1 := 63) (l1 := [(4, .int (nI (j + 1))), (2, .int (l - (((ia w 112).getD 5 0) * m))), (0, .ref 111), (1, .int x), (3, .int m)]) (s1 := [.int m]) (v1 := w) (p2 := 59) (l2 := [(4, .int (nI (j + 1))), (2, .int (l - (((ia w 112).getD 5 0) * m))), (0, .ref 111), (1, .int x), (3, .int m)]) (s2 := [.int m]) (v2 := w) rfl rfl (fun q4 => ?_) (fun q4 => ?_)
        · replace q4 := of_decide_eq_true q4
          refine sx_RP.step (pc2 := 64) (ls2 := [(4, .int (nI (j + 1))), (2, .int (l - (((ia w 112).getD 5 0) * m))), (0, .ref 111), (1, .int x), (3, .int m)]) (st2 := [.int 0, .int m]) (w3 := w) rfl rfl ?_
          refine sx_RP.step (pc2 := 65) (ls2 := [(4, .int (nI (j + 1))), (2, .int (l - (((ia w 112).getD 5 0) * m))), (0, .ref 111), (1, .int x), (3, .int m)]) (st2 := [.int (m - 0)]) (w3 := w) rfl rfl ?_
          refine sx_RP.step (pc2 := 66) (ls2 := [(3, .int (m - 0)), (4, .int (nI (j + 1))), (2, .int (l - (((ia w 112).getD 5 0) * m))), (0, .ref 111), (1, .int x)]) (st2 := []) (w3 := w) rfl rfl ?_
          refine sx_RP.step (pc2 := 12) (ls2 := [(3, .int (m - 0)), (4, .int (nI (j + 1))), (2, .int (l - (((ia w 112).getD 5 0) * m))), (0, .ref 111), (1, .int x)]) (st2 := []) (w3 := w) rfl rfl ?_
          exact sx_RP.ls (sx_lr.cons rfl (sx_lr.cons rfl (sx_lr.cons rfl (sx_lr.cons rfl (sx_lr.cons rfl sx_lr.nil))))) (kk (l - (((ia w 112).getD 5 0) * m)) (m - 0) (by omega))
        · replace q4 := of_decide_eq_false q4
          refine sx_RP.step (pc2 := 60) (ls2 := [(4, .int (nI (j + 1))), (2, .int (l - (((ia w 112).getD 5 0) * m))), (0, .ref 111), (1, .int x), (3, .int m)]) (st2 := [.int 1, .int m]) (w3 := w) rfl rfl ?_
          refine sx_RP.step (pc2 := 64) (ls2 := [(4, .int (nI (j + 1))), (2, .int (l - (((ia w 112).getD 5 0) * m))), (0, .ref 111), (1, .int x), (3, .int m)]) (st2 := [.int 1, .int m]) (w3 := w) rfl rfl ?_
          refine sx_RP.step (pc2 := 65) (ls2 := [(4, .int (nI (j + 1))), (2, .int (l - (((ia w 112).getD 5 0) * m))), (0, .ref 111), (1, .int x), (3, .int m)]) (st2 := [.int (m - 1)]) (w3 := w) rfl rfl ?_
          refine sx_RP.step (pc2 := 66) (ls2 := [(3, .int (m - 1)), (4, .int (nI (j + 1))), (2, .int (l - (((ia w 112).getD 5 0) * m))), (0, .ref 111), (1, .int x)]) (st2 := []) (w3 := w) rfl rfl ?_
          refine sx_RP.step (pc2 := 12) (ls2 := [(3, .int (m - 1)), (4, .int (nI (j + 1))), (2, .int (l - (((ia w 112).getD 5 0) * m))), (0, .ref 111), (1, .int x)]) (st2 := []) (w3 := w) rfl rfl ?_
          exact sx_RP.ls (sx_lr.cons rfl (sx_lr.cons rfl (sx_lr.cons rfl (sx_lr.cons rfl (sx_lr.cons rfl sx_lr.nil))))) (kk (l - (((ia w 112).getD 5 0) * m)) (m - 1) (by omega))
set_option maxRecDepth 20000 in
set_option maxHeartbeats 4000000 in
theorem q206L {xs : Option (List Int32)} {d : Nat} {w : List sx_C} (x : Int32) (hI : WI w) : ∀ (fz j : Nat) (l : Int32) (m : Int32) , 999 ≤ j + fz * 1 → j ≤ 999 → sx_RP xs d 206 12 [(0, .ref 111), (1, .int x), (2, .int l), (3, .int m), (4, .int (nI j))] [] w (fun r w2 => (∃ v : Int32, r = some (.int v)) ∧ w2 = w)
  | 0, j, l, m, h, hj => q206B x hI hj l m  (fun ul um  hlt  => absurd hlt (by omega)) 
  | fz + 1, j, l, m, h, hj => q206B x hI hj l m  (fun ul um  hlt  => q206L x hI  fz (j + 1) ul um (by omega) hlt ) 
set_option maxRecDepth 20000 in
set_option maxHeartbeats 4000000 in
theorem q206 {xs : Option (List Int32)} {d : Nat} {w : List sx_C} (hI : WI w) (x : Int32) : ∃ v : Int32, sx_RU xs d 206 0 (lv_args 0 [.ref 111, .int x]) [] w (some (.int v)) w := by
  have h : sx_RP xs d 206 0 (lv_args 0 [.ref 111, .int x]) [] w (fun r w2 => (∃ v : Int32, r = some (.int v)) ∧ w2 = w) := by
    refine sx_RP.step (pc2 := 1) (ls2 := [(0, .ref 111), (1, .int x)]) (st2 := [.ref 111]) (w3 := w) rfl rfl ?_
    refine sx_RP.gf (v := .ref 112) rfl rfl hI.1.o111 rfl rfl (show _ = 4 from rfl) ?_
    refine sx_RP.step (pc2 := 5) (ls2 := [(0, .ref 111), (1, .int x)]) (st2 := [.int 4, .ref 112]) (w3 := w) rfl rfl ?_
    refine sx_RP.ild (c := 4) rfl hI.1.a112.1 hI.1.a112.2 (sx_in_nI (show 4 < 172 by omega) (by decide)) (show (nI 4).toNatClampNeg = 4 from nI_clamp (by omega)) (show _ = 6 from rfl) ?_
    refine sx_RP.step (pc2 := 7) (ls2 := [(2, .int ((ia w 112).getD 4 0)), (0, .ref 111), (1, .int x)]) (st2 := []) (w3 := w) rfl rfl ?_
    refine sx_RP.step (pc2 := 8) (ls2 := [(2, .int ((ia w 112).getD 4 0)), (0, .ref 111), (1, .int x)]) (st2 := [.int x]) (w3 := w) rfl rfl ?_
    refine sx_RP.step (pc2 := 9) (ls2 := [(3, .int x), (2, .int ((ia w 112).getD 4 0)), (0, .ref 111), (1, .int x)]) (st2 := []) (w3 := w) rfl rfl ?_
    refine sx_RP.step (pc2 := 10) (ls2 := [(3, .int x), (2, .int ((ia w 112).getD 4 0)), (0, .ref 111), (1, .int x)]) (st2 := [.int 0]) (w3 := w) rfl rfl ?_
    refine sx_RP.step (pc2 := 12) (ls2 := [(4, .int 0), (3, .int x), (2, .int ((ia w 112).getD 4 0)), (0, .ref 111), (1, .int x)]) (st2 := []) (w3 := w) rfl rfl ?_
    exact sx_RP.ls (sx_lr.cons rfl (sx_lr.cons rfl (sx_lr.cons rfl (sx_lr.cons rfl (sx_lr.cons rfl sx_lr.nil))))) (q206L x hI 999 0 ((ia w 112).getD 4 0) x (by omega) (by omega) )
  obtain ⟨r, w2, h1, ⟨v, rfl⟩, rfl⟩ := h
  exact ⟨v, h1⟩
set_option maxRecDepth 20000 in
set_option maxHeartbeats 4000000 in
theorem p244B {xs : Option (List Int32)} {d : Nat} {w : List sx_C} (hI : WI w) {j : Nat} (hj : j ≤ 48) (n : Int32) (kk : ∀ (un : Int32), j + 1 ≤ 48 → sx_RP xs d 244 4 [(0, .ref 111), (1, .int un), (2, .int (nI (j + 1)))] [] w (fun r w2 => (∃ v : Int32, r = some (.int v)) ∧ w2 = w)) : sx_RP xs d 244 4 [(0, .ref 111), (1, .int n), (2, .int (nI j))] [] w (fun r w2 => (∃ v : Int32, r = some (.int v)) ∧ w2 = w) := by
  refine sx_RP.step (pc2 := 5) (ls2 := [(0, .ref 111), (1, .int n), (2, .int (nI j))]) (st2 := [.int (nI j)]) (w3 := w) rfl rfl ?_
  refine sx_RP.step (pc2 := 7) (ls2 := [(0, .ref 111), (1, .int n), (2, .int (nI j))]) (st2 := [.int 48, .int (nI j)]) (w3 := w) rfl rfl ?_
  refine sx_RP.br (p1 := 28) (l1 := [(0, .ref 111), (1, .int n), (2, .int (nI j))]) (s1 := []) (v1 := w) (p2 := 10) (l2 := [(0, .ref 111), (1, .int n), (2, .int (nI j))]) (s2 := []) (v2 := w) rfl rfl (fun q1 => ?_) (fun q1 => ?_)
  · replace q1 := of_decide_eq_true q1
    replace q1 := (nI_leI (a := 48) (b := j) (by omega) (by omega)).mp q1
    refine sx_RP.step (pc2 := 29) (ls2 := [(0, .ref 111), (1, .int n), (2, .int (nI j))]) (st2 := [.int n]) (w3 := w) rfl rfl ?_
    refine sx_RP.ret (r := (some (.int n))) rfl rfl ?_
    exact ⟨⟨_, rfl⟩, rfl⟩
  · replace q1 := of_decide_eq_false q1
    replace q1 := mt (nI_leI (a := 48) (b := j) (by omega) (by omega)).mpr q1
    refine sx_RP.step (pc2 := 11) (ls2 := [(0, .ref 111), (1, .int n), (2, .int (nI j))]) (st2 := [.int n]) (w3 := w) rfl rfl ?_
    refine sx_RP.step (pc2 := 12) (ls2 := [(0, .ref 111), (1, .int n), (2, .int (nI j))]) (st2 := [.ref 111, .int n]) (w3 := w) rfl rfl ?_
    refine sx_RP.gf (v := .ref 112) rfl rfl hI.1.o111 rfl rfl (show _ = 15 from rfl) ?_
    refine sx_RP.step (pc2 := 17) (ls2 := [(0, .ref 111), (1, .int n), (2, .int (nI j))]) (st2 := [.int 55, .ref 112, .int n]) (w3 := w) rfl rfl ?_
    refine sx_RP.step (pc2 := 18) (ls2 := [(0, .ref 111), (1, .int n), (2, .int (nI j))]) (st2 := [.int (nI j), .int 55, .ref 112, .int n]) (w3 := w) rfl rfl ?_
    refine sx_RP.step (pc2 := 19) (ls2 := [(0, .ref 111), (1, .int n), (2, .int (nI j))]) (st2 := [.int (55 + (nI j)), .ref 112, .int n]) (w3 := w) rfl rfl ?_
    rw [show (55 + (nI j) : Int32) = nI (55 + j) from nI_add 55 j]
    refine sx_RP.ild (c := (55 + j)) rfl hI.1.a112.1 hI.1.a112.2 (sx_in_nI (show (55 + j) < 172 by omega) (by decide)) (show (nI (55 + j)).toNatClampNeg = (55 + j) from nI_clamp (by omega)) (show _ = 20 from rfl) ?_
    refine sx_RP.step (pc2 := 21) (ls2 := [(0, .ref 111), (1, .int n), (2, .int (nI j))]) (st2 := [.int (n + ((ia w 112).getD (55 + j) 0))]) (w3 := w) rfl rfl ?_
    refine sx_RP.step (pc2 := 22) (ls2 := [(1, .int (n + ((ia w 112).getD (55 + j) 0))), (0, .ref 111), (2, .int (nI j))]) (st2 := []) (w3 := w) rfl rfl ?_
    refine sx_RP.step (pc2 := 25) (ls2 := [(2, .int ((nI j) + 1)), (1, .int (n + ((ia w 112).getD (55 + j) 0))), (0, .ref 111)]) (st2 := []) (w3 := w) rfl rfl ?_
    rw [nI_1 j]
    refine sx_RP.step (pc2 := 4) (ls2 := [(2, .int (nI (j + 1))), (1, .int (n + ((ia w 112).getD (55 + j) 0))), (0, .ref 111)]) (st2 := []) (w3 := w) rfl rfl ?_
    exact sx_RP.ls (sx_lr.cons rfl (sx_lr.cons rfl (sx_lr.cons rfl sx_lr.nil))) (kk (n + ((ia w 112).getD (55 + j) 0)) (by omega))
set_option maxRecDepth 20000 in
set_option maxHeartbeats 4000000 in
theorem p244L {xs : Option (List Int32)} {d : Nat} {w : List sx_C} (hI : WI w) : ∀ (fz j : Nat) (n : Int32) , 48 ≤ j + fz * 1 → j ≤ 48 → sx_RP xs d 244 4 [(0, .ref 111), (1, .int n), (2, .int (nI j))] [] w (fun r w2 => (∃ v : Int32, r = some (.int v)) ∧ w2 = w)
  | 0, j, n, h, hj => p244B  hI hj n  (fun un  hlt  => absurd hlt (by omega)) 
  | fz + 1, j, n, h, hj => p244B  hI hj n  (fun un  hlt  => p244L  hI  fz (j + 1) un (by omega) hlt ) 
set_option maxRecDepth 20000 in
set_option maxHeartbeats 4000000 in
theorem p244 {xs : Option (List Int32)} {d : Nat} {w : List sx_C} (hI : WI w) : ∃ v : Int32, sx_RU xs d 244 0 (lv_args 0 [.ref 111]) [] w (some (.int v)) w := by
  have h : sx_RP xs d 244 0 (lv_args 0 [.ref 111]) [] w (fun r w2 => (∃ v : Int32, r = some (.int v)) ∧ w2 = w) := by
    refine sx_RP.step (pc2 := 1) (ls2 := [(0, .ref 111)]) (st2 := [.int 0]) (w3 := w) rfl rfl ?_
    refine sx_RP.step (pc2 := 2) (ls2 := [(1, .int 0), (0, .ref 111)]) (st2 := []) (w3 := w) rfl rfl ?_
    refine sx_RP.step (pc2 := 3) (ls2 := [(1, .int 0), (0, .ref 111)]) (st2 := [.int 0]) (w3 := w) rfl rfl ?_
    refine sx_RP.step (pc2 := 4) (ls2 := [(2, .int 0), (1, .int 0), (0, .ref 111)]) (st2 := []) (w3 := w) rfl rfl ?_
    exact sx_RP.ls (sx_lr.cons rfl (sx_lr.cons rfl (sx_lr.cons rfl sx_lr.nil))) (p244L  hI 48 0 0 (by omega) (by omega) )
  obtain ⟨r, w2, h1, ⟨v, rfl⟩, rfl⟩ := h
  exact ⟨v, h1⟩
set_option maxRecDepth 20000 in
set_option maxHeartbeats 4000000 in
theorem p139B {xs : Option (List Int32)} {d : Nat} {w : List sx_C} (hI : WI w) {j : Nat} (hj : j ≤ 48) (n : Int64) (kk : ∀ (un : Int64), j + 1 ≤ 48 → sx_RP xs (d + 7) 139 4 [(0, .ref 111), (1, .long un), (3, .int (nI (j + 1)))] [] w (fun r w2 => (∃ v : Int64, r = some (.long v)) ∧ w2 = w)) : sx_RP xs (d + 7) 139 4 [(0, .ref 111), (1, .long n), (3, .int (nI j))] [] w (fun r w2 => (∃ v : Int64, r = some (.long v)) ∧ w2 = w) := by
  refine sx_RP.step (pc2 := 5) (ls2 := [(0, .ref 111), (1, .long n), (3, .int (nI j))]) (st2 := [.int (nI j)]) (w3 := w) rfl rfl ?_
  refine sx_RP.step (pc2 := 7) (ls2 := [(0, .ref 111), (1, .long n), (3, .int (nI j))]) (st2 := [.int 48, .int (nI j)]) (w3 := w) rfl rfl ?_
  refine sx_RP.br (p1 := 39) (l1 := [(0, .ref 111), (1, .long n), (3, .int (nI j))]) (s1 := []) (v1 := w) (p2 := 10) (l2 := [(0, .ref 111), (1, .long n), (3, .int (nI j))]) (s2 := []) (v2 := w) rfl rfl (fun q1 => ?_) (fun q1 => ?_)
  · replace q1 := of_decide_eq_true q1
    replace q1 := (nI_leI (a := 48) (b := j) (by omega) (by omega)).mp q1
    refine sx_RP.step (pc2 := 40) (ls2 := [(0, .ref 111), (1, .long n), (3, .int (nI j))]) (st2 := [.long n]) (w3 := w) rfl rfl ?_
    refine sx_RP.ret (r := (some (.long n))) rfl rfl ?_
    exact ⟨⟨_, rfl⟩, rfl⟩
  · replace q1 := of_decide_eq_false q1
    replace q1 := mt (nI_leI (a := 48) (b := j) (by omega) (by omega)).mpr q1
    refine sx_RP.step (pc2 := 11) (ls2 := [(0, .ref 111), (1, .long n), (3, .int (nI j))]) (st2 := [.long n]) (w3 := w) rfl rfl ?_
    refine sx_RP.step (pc2 := 12) (ls2 := [(0, .ref 111), (1, .long n), (3, .int (nI j))]) (st2 := [.ref 111, .long n]) (w3 := w) rfl rfl ?_
    refine sx_RP.gf (v := .ref 112) rfl rfl hI.1.o111 rfl rfl (show _ = 15 from rfl) ?_
    refine sx_RP.step (pc2 := 17) (ls2 := [(0, .ref 111), (1, .long n), (3, .int (nI j))]) (st2 := [.int 55, .ref 112, .long n]) (w3 := w) rfl rfl ?_
    refine sx_RP.step (pc2 := 18) (ls2 := [(0, .ref 111), (1, .long n), (3, .int (nI j))]) (st2 := [.int (nI j), .int 55, .ref 112, .long n]) (w3 := w) rfl rfl ?_
    refine sx_RP.step (pc2 := 19) (ls2 := [(0, .ref 111), (1, .long n), (3, .int (nI j))]) (st2 := [.int (55 + (nI j)), .ref 112, .long n]) (w3 := w) rfl rfl ?_
    rw [show (55 + (nI j) : Int32) = nI (55 + j) from nI_add 55 j]
    refine sx_RP.ild (c := (55 + j)) rfl hI.1.a112.1 hI.1.a112.2 (sx_in_nI (show (55 + j) < 172 by omega) (by decide)) (show (nI (55 + j)).toNatClampNeg = (55 + j) from nI_clamp (by omega)) (show _ = 20 from rfl) ?_
    refine sx_RP.step (pc2 := 21) (ls2 := [(0, .ref 111), (1, .long n), (3, .int (nI j))]) (st2 := [.int 1, .int ((ia w 112).getD (55 + j) 0), .long n]) (w3 := w) rfl rfl ?_
    refine sx_RP.br (p1 := 30) (l1 := [(0, .ref 111), (1, .long n), (3, .int (nI j))]) (s1 := [.long n]) (v1 := w) (p2 := 24) (l2 := [(0, .ref 111), (1, .long n), (3, .int (nI j))]) (s2 := [.long n]) (v2 := w) rfl rfl (fun q2 => ?_) (fun q2 => ?_)
    · replace q2 := of_decide_eq_true q2
      refine sx_RP.step (pc2 := 31) (ls2 := [(0, .ref 111), (1, .long n), (3, .int (nI j))]) (st2 := [.long 0, .long n]) (w3 := w) rfl rfl ?_
      refine sx_RP.step (pc2 := 32) (ls2 := [(0, .ref 111), (1, .long n), (3, .int (nI j))]) (st2 := [.long (n ||| 0)]) (w3 := w) rfl rfl ?_
      refine sx_RP.step (pc2 := 33) (ls2 := [(1, .long (n ||| 0)), (0, .ref 111), (3, .int (nI j))]) (st2 := []) (w3 := w) rfl rfl ?_
      refine sx_RP.step (pc2 := 36) (ls2 := [(3, .int ((nI j) + 1)), (1, .long (n ||| 0)), (0, .ref 111)]) (st2 := []) (w3 := w) rfl rfl ?_
      rw [nI_1 j]
      refine sx_RP.step (pc2 := 4) (ls2 := [(3, .int (nI (j + 1))), (1, .long (n ||| 0)), (0, .ref 111)]) (st2 := []) (w3 := w) rfl rfl ?_
      exact sx_RP.ls (sx_lr.cons rfl (sx_lr.cons rfl (sx_lr.cons rfl sx_lr.nil))) (kk (n ||| 0) (by omega))
    · replace q2 := Decidable.not_not.mp (of_decide_eq_false q2)
      refine sx_RP.step (pc2 := 25) (ls2 := [(0, .ref 111), (1, .long n), (3, .int (nI j))]) (st2 := [.long 1, .long n]) (w3 := w) rfl rfl ?_
      refine sx_RP.step (pc2 := 26) (ls2 := [(0, .ref 111), (1, .long n), (3, .int (nI j))]) (st2 := [.int (nI j), .long 1, .long n]) (w3 := w) rfl rfl ?_
      refine sx_RP.step (pc2 := 27) (ls2 := [(0, .ref 111), (1, .long n), (3, .int (nI j))]) (st2 := [.long ((1 : Int64) <<< ((nI j).toInt64 &&& 63)), .long n]) (w3 := w) rfl rfl ?_
      refine sx_RP.step (pc2 := 31) (ls2 := [(0, .ref 111), (1, .long n), (3, .int (nI j))]) (st2 := [.long ((1 : Int64) <<< ((nI j).toInt64 &&& 63)), .long n]) (w3 := w) rfl rfl ?_
      refine sx_RP.step (pc2 := 32) (ls2 := [(0, .ref 111), (1, .long n), (3, .int (nI j))]) (st2 := [.long (n ||| ((1 : Int64) <<< ((nI j).toInt64 &&& 63)))]) (w3 := w) rfl rfl ?_
      refine sx_RP.step (pc2 := 33) (ls2 := [(1, .long (n ||| ((1 : Int64) <<< ((nI j).toInt64 &&& 63)))), (0, .ref 111), (3, .int (nI j))]) (st2 := []) (w3 := w) rfl rfl ?_
      refine sx_RP.step (pc2 := 36) (ls2 := [(3, .int ((nI j) + 1)), (1, .long (n ||| ((1 : Int64) <<< ((nI j).toInt64 &&& 63)))), (0, .ref 111)]) (st2 := []) (w3 := w) rfl rfl ?_
      rw [nI_1 j]
      refine sx_RP.step (pc2 := 4) (ls2 := [(3, .int (nI (j + 1))), (1, .long (n ||| ((1 : Int64) <<< ((nI j).toInt64 &&& 63)))), (0, .ref 111)]) (st2 := []) (w3 := w) rfl rfl ?_
      exact sx_RP.ls (sx_lr.cons rfl (sx_lr.cons rfl (sx_lr.cons rfl sx_lr.nil))) (kk (n ||| ((1 : Int64) <<< ((nI j).toInt64 &&& 63))) (by omega))
set_option maxRecDepth 20000 in
set_option maxHeartbeats 4000000 in
theorem p139L {xs : Option (List Int32)} {d : Nat} {w : List sx_C} (hI : WI w) : ∀ (fz j : Nat) (n : Int64) , 48 ≤ j + fz * 1 → j ≤ 48 → sx_RP xs (d + 7) 139 4 [(0, .ref 111), (1, .long n), (3, .int (nI j))] [] w (fun r w2 => (∃ v : Int64, r = some (.long v)) ∧ w2 = w)
  | 0, j, n, h, hj => p139B  hI hj n  (fun un  hlt  => absurd hlt (by omega)) 
  | fz + 1, j, n, h, hj => p139B  hI hj n  (fun un  hlt  => p139L  hI  fz (j + 1) un (by omega) hlt ) 
set_option maxRecDepth 20000 in
set_option maxHeartbeats 4000000 in
theorem p139 {xs : Option (List Int32)} {d : Nat} {w : List sx_C} (hI : WI w) : ∃ v : Int64, sx_RU xs (d + 7) 139 0 (lv_args 0 [.ref 111]) [] w (some (.long v)) w := by
  have h : sx_RP xs (d + 7) 139 0 (lv_args 0 [.ref 111]) [] w (fun r w2 => (∃ v : Int64, r = some (.long v)) ∧ w2 = w) := by
    refine sx_RP.step (pc2 := 1) (ls2 := [(0, .ref 111)]) (st2 := [.long 0]) (w3 := w) rfl rfl ?_
    refine sx_RP.step (pc2 := 2) (ls2 := [(1, .long 0), (0, .ref 111)]) (st2 := []) (w3 := w) rfl rfl ?_
    refine sx_RP.step (pc2 := 3) (ls2 := [(1, .long 0), (0, .ref 111)]) (st2 := [.int 0]) (w3 := w) rfl rfl ?_
    refine sx_RP.step (pc2 := 4) (ls2 := [(3, .int 0), (1, .long 0), (0, .ref 111)]) (st2 := []) (w3 := w) rfl rfl ?_
    exact sx_RP.ls (sx_lr.cons rfl (sx_lr.cons rfl (sx_lr.cons rfl sx_lr.nil))) (p139L  hI 48 0 0 (by omega) (by omega) )
  obtain ⟨r, w2, h1, ⟨v, rfl⟩, rfl⟩ := h
  exact ⟨v, h1⟩
