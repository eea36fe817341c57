-- safety: the text of the class
set_option maxRecDepth 20000 in
set_option maxHeartbeats 4000000 in
theorem p97a {xs : Option (List Int32)} {d : Nat} {w : List sx_C} (hI : WI w) (x y : Int32) : ∃ v : Int32, sx_RU xs d 97 0 (lv_args 0 [.int x, .int y]) [] w (some (.int v)) w := by
  have h : sx_RP xs d 97 0 (lv_args 0 [.int x, .int y]) [] w (fun r w2 => (∃ v : Int32, r = some (.int v)) ∧ w2 = w) := by
    refine sx_RP.step (pc2 := 1) (ls2 := [(0, .int x), (1, .int y)]) (st2 := [.int x]) (w3 := w) rfl rfl ?_
    refine sx_RP.step (pc2 := 2) (ls2 := [(0, .int x), (1, .int y)]) (st2 := [.int y, .int x]) (w3 := w) rfl rfl ?_
    refine sx_RP.br (p1 := 9) (l1 := [(0, .int x), (1, .int y)]) (s1 := []) (v1 := w) (p2 := 5) (l2 := [(0, .int x), (1, .int y)]) (s2 := []) (v2 := w) rfl rfl (fun q1 => ?_) (fun q1 => ?_)
    · replace q1 := of_decide_eq_true q1
      refine sx_RP.step (pc2 := 10) (ls2 := [(0, .int x), (1, .int y)]) (st2 := [.int y]) (w3 := w) rfl rfl ?_
      refine sx_RP.ret (r := (some (.int y))) rfl rfl ?_
      exact ⟨⟨_, rfl⟩, rfl⟩
    · replace q1 := of_decide_eq_false q1
      refine sx_RP.step (pc2 := 6) (ls2 := [(0, .int x), (1, .int y)]) (st2 := [.int x]) (w3 := w) rfl rfl ?_
      refine sx_RP.step (pc2 := 10) (ls2 := [(0, .int x), (1, .int y)]) (st2 := [.int x]) (w3 := w) rfl rfl ?_
      refine sx_RP.ret (r := (some (.int x))) rfl rfl ?_
      exact ⟨⟨_, rfl⟩, rfl⟩
  obtain ⟨r, w2, h1, ⟨v, rfl⟩, rfl⟩ := h
  exact ⟨v, h1⟩
set_option maxRecDepth 20000 in
set_option maxHeartbeats 4000000 in
theorem p95 {xs : Option (List Int32)} {d : Nat} {w : List sx_C} (hI : WI w) (x : Int32) : ∃ v : Int32, sx_RU xs d 95 0 (lv_args 0 [.int x]) [] w (some (.int v)) w := by
  have h : sx_RP xs d 95 0 (lv_args 0 [.int x]) [] w (fun r w2 => (∃ v : Int32, r = some (.int v)) ∧ w2 = w) := by
    refine sx_RP.step (pc2 := 1) (ls2 := [(0, .int x)]) (st2 := [.int x]) (w3 := w) rfl rfl ?_
    refine sx_RP.step (pc2 := 3) (ls2 := [(0, .int x)]) (st2 := [.int 97, .int x]) (w3 := w) rfl rfl ?_
    refine sx_RP.br (p1 := 14) (l1 := [(0, .int x)]) (s1 := []) (v1 := w) (p2 := 6) (l2 := [(0, .int x)]) (s2 := []) (v2 := w) rfl rfl (fun q1 => ?_) (fun q1 => ?_)
    · replace q1 := of_decide_eq_true q1
      refine sx_RP.step (pc2 := 15) (ls2 := [(0, .int x)]) (st2 := [.int x]) (w3 := w) rfl rfl ?_
      refine sx_RP.step (pc2 := 17) (ls2 := [(0, .int x)]) (st2 := [.int 48, .int x]) (w3 := w) rfl rfl ?_
      refine sx_RP.br (p1 := 28) (l1 := [(0, .int x)]) (s1 := []) (v1 := w) (p2 := 20) (l2 := [(0, .int x)]) (s2 := []) (v2 := w) rfl rfl (fun q2 => ?_) (fun q2 => ?_)
      · replace q2 := of_decide_eq_true q2
        refine sx_RP.step (pc2 := 29) (ls2 := [(0, .int x)]) (st2 := [.int x]) (w3 := w) rfl rfl ?_
        refine sx_RP.step (pc2 := 31) (ls2 := [(0, .int x)]) (st2 := [.int 59, .int x]) (w3 := w) rfl rfl ?_
        refine sx_RP.br (p1 := 38) (l1 := [(0, .int x)]) (s1 := []) (v1 := w) (p2 := 34) (l2 := [(0, .int x)]) (s2 := []) (v2 := w) rfl rfl (fun q3 => ?_) (fun q3 => ?_)
        · replace q3 := of_decide_eq_true q3
          refine sx_RP.step (pc2 := 39) (ls2 := [(0, .int x)]) (st2 := [.int 4]) (w3 := w) rfl rfl ?_
          refine sx_RP.ret (r := (some (.int 4))) rfl rfl ?_
          exact ⟨⟨_, rfl⟩, rfl⟩
        · replace q3 := Decidable.not_not.mp (of_decide_eq_false q3)
          refine sx_RP.step (pc2 := 35) (ls2 := [(0, .int x)]) (st2 := [.int 3]) (w3 := w) rfl rfl ?_
          refine sx_RP.step (pc2 := 39) (ls2 := [(0, .int x)]) (st2 := [.int 3]) (w3 := w) rfl rfl ?_
          refine sx_RP.ret (r := (some (.int 3))) rfl rfl ?_
          exact ⟨⟨_, rfl⟩, rfl⟩
      · replace q2 := of_decide_eq_false q2
        refine sx_RP.step (pc2 := 21) (ls2 := [(0, .int x)]) (st2 := [.int x]) (w3 := w) rfl rfl ?_
        refine sx_RP.step (pc2 := 23) (ls2 := [(0, .int x)]) (st2 := [.int 57, .int x]) (w3 := w) rfl rfl ?_
        refine sx_RP.br (p1 := 28) (l1 := [(0, .int x)]) (s1 := []) (v1 := w) (p2 := 26) (l2 := [(0, .int x)]) (s2 := []) (v2 := w) rfl rfl (fun q4 => ?_) (fun q4 => ?_)
        · replace q4 := of_decide_eq_true q4
          refine sx_RP.step (pc2 := 29) (ls2 := [(0, .int x)]) (st2 := [.int x]) (w3 := w) rfl rfl ?_
          refine sx_RP.step (pc2 := 31) (ls2 := [(0, .int x)]) (st2 := [.int 59, .int x]) (w3 := w) rfl rfl ?_
          refine sx_RP.br (p1 := 38) (l1 := [(0, .int x)]) (s1 := []) (v1 := w) (p2 := 34) (l2 := [(0, .int x)]) (s2 := []) (v2 := w) rfl rfl (fun q5 => ?_) (fun q5 => ?_)
          · replace q5 := of_decide_eq_true q5
            refine sx_RP.step (pc2 := 39) (ls2 := [(0, .int x)]) (st2 := [.int 4]) (w3 := w) rfl rfl ?_
            refine sx_RP.ret (r := (some (.int 4))) rfl rfl ?_
            exact ⟨⟨_, rfl⟩, rfl⟩
          · replace q5 := Decidable.not_not.mp (of_decide_eq_false q5)
            refine sx_RP.step (pc2 := 35) (ls2 := [(0, .int x)]) (st2 := [.int 3]) (w3 := w) rfl rfl ?_
            refine sx_RP.step (pc2 := 39) (ls2 := [(0, .int x)]) (st2 := [.int 3]) (w3 := w) rfl rfl ?_
            refine sx_RP.ret (r := (some (.int 3))) rfl rfl ?_
            exact ⟨⟨_, rfl⟩, rfl⟩
        · replace q4 := of_decide_eq_false q4
          refine sx_RP.step (pc2 := 27) (ls2 := [(0, .int x)]) (st2 := [.int 2]) (w3 := w) rfl rfl ?_
          refine sx_RP.ret (r := (some (.int 2))) rfl rfl ?_
          exact ⟨⟨_, rfl⟩, rfl⟩
    · replace q1 := of_decide_eq_false q1
      refine sx_RP.step (pc2 := 7) (ls2 := [(0, .int x)]) (st2 := [.int x]) (w3 := w) rfl rfl ?_
      refine sx_RP.step (pc2 := 9) (ls2 := [(0, .int x)]) (st2 := [.int 122, .int x]) (w3 := w) rfl rfl ?_
      refine sx_RP.br (p1 := 14) (l1 := [(0, .int x)]) (s1 := []) (v1 := w) (p2 := 12) (l2 := [(0, .int x)]) (s2 := []) (v2 := w) rfl rfl (fun q6 => ?_) (fun q6 => ?_)
      · replace q6 := of_decide_eq_true q6
        refine sx_RP.step (pc2 := 15) (ls2 := [(0, .int x)]) (st2 := [.int x]) (w3 := w) rfl rfl ?_
        refine sx_RP.step (pc2 := 17) (ls2 := [(0, .int x)]) (st2 := [.int 48, .int x]) (w3 := w) rfl rfl ?_
        refine sx_RP.br (p1 := 28) (l1 := [(0, .int x)]) (s1 := []) (v1 := w) (p2 := 20) (l2 := [(0, .int x)]) (s2 := []) (v2 := w) rfl rfl (fun q7 => ?_) (fun q7 => ?_)
        · replace q7 := of_decide_eq_true q7
          refine sx_RP.step (pc2 := 29) (ls2 := [(0, .int x)]) (st2 := [.int x]) (w3 := w) rfl rfl ?_
          refine sx_RP.step (pc2 := 31) (ls2 := [(0, .int x)]) (st2 := [.int 59, .int x]) (w3 := w) rfl rfl ?_
          refine sx_RP.br (p1 := 38) (l1 := [(0, .int x)]) (s1 := []) (v1 := w) (p2 := 34) (l2 := [(0, .int x)]) (s2 := []) (v2 := w) rfl rfl (fun q8 => ?_) (fun q8 => ?_)
          · replace q8 := of_decide_eq_true q8
            refine sx_RP.step (pc2 := 39) (ls2 := [(0, .int x)]) (st2 := [.int 4]) (w3 := w) rfl rfl ?_
            refine sx_RP.ret (r := (some (.int 4))) rfl rfl ?_
            exact ⟨⟨_, rfl⟩, rfl⟩
          · replace q8 := Decidable.not_not.mp (of_decide_eq_false q8)
            refine sx_RP.step (pc2 := 35) (ls2 := [(0, .int x)]) (st2 := [.int 3]) (w3 := w) rfl rfl ?_
            refine sx_RP.step (pc2 := 39) (ls2 := [(0, .int x)]) (st2 := [.int 3]) (w3 := w) rfl rfl ?_
            refine sx_RP.ret (r := (some (.int 3))) rfl rfl ?_
            exact ⟨⟨_, rfl⟩, rfl⟩
        · replace q7 := of_decide_eq_false q7
          refine sx_RP.step (pc2 := 21) (ls2 := [(0, .int x)]) (st2 := [.int x]) (w3 := w) rfl rfl ?_
          refine sx_RP.step (pc2 := 23) (ls2 := [(0, .int x)]) (st2 := [.int 57, .int x]) (w3 := w) rfl rfl ?_
          refine sx_RP.br (p1 := 28) (l1 := [(0, .int x)]) (s1 := []) (v1 := w) (p2 := 26) (l2 := [(0, .int x)]) (s2 := []) (v2 := w) rfl rfl (fun q9 => ?_) (fun q9 => ?_)
          · replace q9 := of_decide_eq_true q9
            refine sx_RP.step (pc2 := 29) (ls2 := [(0, .int x)]) (st2 := [.int x]) (w3 := w) rfl rfl ?_
            refine sx_RP.step (pc2 := 31) (ls2 := [(0, .int x)]) (st2 := [.int 59, .int x]) (w3 := w) rfl rfl ?_
            refine sx_RP.br (p1 := 38) (l1 := [(0, .int x)]) (s1 := []) (v1 := w) (p2 := 34) (l2 := [(0, .int x)]) (s2 := []) (v2 := w) rfl rfl (fun q10 => ?_) (fun q10 => ?_)
            · replace q10 := of_decide_eq_true q10
              refine sx_RP.step (pc2 := 39) (ls2 := [(0, .int x)]) (st2 := [.int 4]) (w3 := w) rfl rfl ?_
              refine sx_RP.ret (r := (some (.int 4))) rfl rfl ?_
              exact ⟨⟨_, rfl⟩, rfl⟩
            · replace q10 := Decidable.not_not.mp (of_decide_eq_false q10)
              refine sx_RP.step (pc2 := 35) (ls2 := [(0, .int x)]) (st2 := [.int 3]) (w3 := w) rfl rfl ?_
              refine sx_RP.step (pc2 := 39) (ls2 := [(0, .int x)]) (st2 := [.int 3]) (w3 := w) rfl rfl ?_
              refine sx_RP.ret (r := (some (.int 3))) rfl rfl ?_
              exact ⟨⟨_, rfl⟩, rfl⟩
          · replace q9 := of_decide_eq_false q9
            refine sx_RP.step (pc2 := 27) (ls2 := [(0, .int x)]) (st2 := [.int 2]) (w3 := w) rfl rfl ?_
            refine sx_RP.ret (r := (some (.int 2))) rfl rfl ?_
            exact ⟨⟨_, rfl⟩, rfl⟩
      · replace q6 := of_decide_eq_false q6
        refine sx_RP.step (pc2 := 13) (ls2 := [(0, .int x)]) (st2 := [.int 1]) (w3 := w) rfl rfl ?_
        refine sx_RP.ret (r := (some (.int 1))) rfl rfl ?_
        exact ⟨⟨_, rfl⟩, rfl⟩
  obtain ⟨r, w2, h1, ⟨v, rfl⟩, rfl⟩ := h
  exact ⟨v, h1⟩
set_option maxRecDepth 20000 in
set_option maxHeartbeats 4000000 in
theorem p96B {xs : Option (List Int32)} {d : Nat} {w : List sx_C} {t : Nat} (x : Int32) (ht : t ≤ 120) (hI : WI w) {j : Nat} (hj : j ≤ 120) (n : Int32) (kk : ∀ (un : Int32), j + 1 ≤ 120 → sx_RP xs (d + 1) 96 5 [(0, .ref 96), (1, .int x), (2, .int (nI t)), (3, .int un), (4, .int (nI (j + 1)))] [] w (fun r w2 => (∃ v : Int32, r = some (.int v)) ∧ w2 = w)) : sx_RP xs (d + 1) 96 5 [(0, .ref 96), (1, .int x), (2, .int (nI t)), (3, .int n), (4, .int (nI j))] [] w (fun r w2 => (∃ v : Int32, r = some (.int v)) ∧ w2 = w) := by
  refine sx_RP.step (pc2 := 7) (ls2 := [(0, .ref 96), (1, .int x), (2, .int (nI t)), (3, .int n), (4, .int (nI j))]) (st2 := [.int (nI j)]) (w3 := w) rfl rfl ?_
  refine sx_RP.step (pc2 := 8) (ls2 := [(0, .ref 96), (1, .int x), (2, .int (nI t)), (3, .int n), (4, .int (nI j))]) (st2 := [.int (nI t), .int (nI j)]) (w3 := w) rfl rfl ?_
  refine sx_RP.br (p1 := 38) (l1 := [(0, .ref 96), (1, .int x), (2, .int (nI t)), (3, .int n), (4, .int (nI j))]) (s1 := []) (v1 := w) (p2 := 11) (l2 := [(0, .ref 96), (1, .int x), (2, .int (nI t)), (3, .int n), (4, .int (nI j))]) (s2 := []) (v2 := w) rfl rfl (fun q1 => ?_) (fun q1 => ?_)
  · replace q1 := of_decide_eq_true q1
    replace q1 := (nI_leI (a := t) (b := j) (by omega) (by omega)).mp q1
    refine sx_RP.step (pc2 := 39) (ls2 := [(0, .ref 96), (1, .int x), (2, .int (nI t)), (3, .int n), (4, .int (nI j))]) (st2 := [.int n]) (w3 := w) rfl rfl ?_
    refine sx_RP.ret (r := (some (.int n))) rfl rfl ?_
    exact ⟨⟨_, rfl⟩, rfl⟩
  · replace q1 := of_decide_eq_false q1
    replace q1 := mt (nI_leI (a := t) (b := j) (by omega) (by omega)).mpr q1
    refine sx_RP.step (pc2 := 13) (ls2 := [(0, .ref 96), (1, .int x), (2, .int (nI t)), (3, .int n), (4, .int (nI j))]) (st2 := [.int 1000000]) (w3 := w) rfl rfl ?_
    refine sx_RP.step (pc2 := 14) (ls2 := [(0, .ref 96), (1, .int x), (2, .int (nI t)), (3, .int n), (4, .int (nI j))]) (st2 := [.int n, .int 1000000]) (w3 := w) rfl rfl ?_
    refine sx_RP.step (pc2 := 16) (ls2 := [(0, .ref 96), (1, .int x), (2, .int (nI t)), (3, .int n), (4, .int (nI j))]) (st2 := [.int 10, .int n, .int 1000000]) (w3 := w) rfl rfl ?_
    refine sx_RP.step (pc2 := 17) (ls2 := [(0, .ref 96), (1, .int x), (2, .int (nI t)), (3, .int n), (4, .int (nI j))]) (st2 := [.int (n * 10), .int 1000000]) (w3 := w) rfl rfl ?_
    refine sx_RP.step (pc2 := 18) (ls2 := [(0, .ref 96), (1, .int x), (2, .int (nI t)), (3, .int n), (4, .int (nI j))]) (st2 := [.ref 96, .int (n * 10), .int 1000000]) (w3 := w) rfl rfl ?_
    refine sx_RP.gf (v := .ref 97) rfl rfl hI.1.o96 rfl rfl (show _ = 21 from rfl) ?_
    refine sx_RP.step (pc2 := 23) (ls2 := [(0, .ref 96), (1, .int x), (2, .int (nI t)), (3, .int n), (4, .int (nI j))]) (st2 := [.int (nI j), .ref 97, .int (n * 10), .int 1000000]) (w3 := w) rfl rfl ?_
    refine sx_RP.bld2 (c := j) rfl hI.1.a97.1 hI.1.a97.2 (sx_in_nI (show j < 120 by omega) (by decide)) (show (nI j).toNatClampNeg = j from nI_clamp (by omega)) (show _ = 24 from rfl) ?_
    refine sx_RP.step (pc2 := 25) (ls2 := [(0, .ref 96), (1, .int x), (2, .int (nI t)), (3, .int n), (4, .int (nI j))]) (st2 := [.int ((n * 10) + ((ia w 97).getD j 0)), .int 1000000]) (w3 := w) rfl rfl ?_
    refine sx_RP.step (pc2 := 27) (ls2 := [(0, .ref 96), (1, .int x), (2, .int (nI t)), (3, .int n), (4, .int (nI j))]) (st2 := [.int 48, .int ((n * 10) + ((ia w 97).getD j 0)), .int 1000000]) (w3 := w) rfl rfl ?_
    refine sx_RP.step (pc2 := 28) (ls2 := [(0, .ref 96), (1, .int x), (2, .int (nI t)), (3, .int n), (4, .int (nI j))]) (st2 := [.int (((n * 10) + ((ia w 97).getD j 0)) - 48), .int 1000000]) (w3 := w) rfl rfl ?_
    obtain ⟨v2, c3⟩ := p97a hI 1000000 (((n * 10) + ((ia w 97).getD j 0)) - 48)
    refine sx_RP.cu (as := [.int 1000000, .int (((n * 10) + ((ia w 97).getD j 0)) - 48)]) (rest2 := []) (st3 := [.int v2]) rfl rfl rfl rfl rfl (c3) rfl ?_
    refine sx_RP.step (pc2 := 32) (ls2 := [(3, .int v2), (0, .ref 96), (1, .int x), (2, .int (nI t)), (4, .int (nI j))]) (st2 := []) (w3 := w) rfl rfl ?_
    refine sx_RP.step (pc2 := 35) (ls2 := [(4, .int ((nI j) + 1)), (3, .int v2), (0, .ref 96), (1, .int x), (2, .int (nI t))]) (st2 := []) (w3 := w) rfl rfl ?_
    rw [nI_1 j]
    refine sx_RP.step (pc2 := 5) (ls2 := [(4, .int (nI (j + 1))), (3, .int v2), (0, .ref 96), (1, .int x), (2, .int (nI t))]) (st2 := []) (w3 := w) rfl rfl ?_
    exact sx_RP.ls (sx_lr.cons rfl (sx_lr.cons rfl (sx_lr.cons rfl (sx_lr.cons rfl (sx_lr.cons rfl sx_lr.nil))))) (kk v2 (by omega))
set_option maxRecDepth 20000 in
set_option maxHeartbeats 4000000 in
theorem p96L {xs : Option (List Int32)} {d : Nat} {w : List sx_C} {t : Nat} (x : Int32) (ht : t ≤ 120) (hI : WI w) : ∀ (fz j : Nat) (n : Int32) , 120 ≤ j + fz * 1 → j ≤ 120 → sx_RP xs (d + 1) 96 5 [(0, .ref 96), (1, .int x), (2, .int (nI t)), (3, .int n), (4, .int (nI j))] [] w (fun r w2 => (∃ v : Int32, r = some (.int v)) ∧ w2 = w)
  | 0, j, n, h, hj => p96B x ht hI hj n  (fun un  hlt  => absurd hlt (by omega)) 
  | fz + 1, j, n, h, hj => p96B x ht hI hj n  (fun un  hlt  => p96L x ht hI  fz (j + 1) un (by omega) hlt ) 
set_option maxRecDepth 20000 in
set_option maxHeartbeats 4000000 in
theorem p96 {xs : Option (List Int32)} {d : Nat} {w : List sx_C} (hI : WI w) {f t : Nat} (hf : f ≤ 120) (ht : t ≤ 120) : ∃ v : Int32, sx_RU xs (d + 1) 96 0 (lv_args 0 [.ref 96, .int (nI f), .int (nI t)]) [] w (some (.int v)) w := by
  have h : sx_RP xs (d + 1) 96 0 (lv_args 0 [.ref 96, .int (nI f), .int (nI t)]) [] w (fun r w2 => (∃ v : Int32, r = some (.int v)) ∧ w2 = w) := by
    refine sx_RP.step (pc2 := 1) (ls2 := [(0, .ref 96), (1, .int (nI f)), (2, .int (nI t))]) (st2 := [.int 0]) (w3 := w) rfl rfl ?_
    refine sx_RP.step (pc2 := 2) (ls2 := [(3, .int 0), (0, .ref 96), (1, .int (nI f)), (2, .int (nI t))]) (st2 := []) (w3 := w) rfl rfl ?_
    refine sx_RP.step (pc2 := 3) (ls2 := [(3, .int 0), (0, .ref 96), (1, .int (nI f)), (2, .int (nI t))]) (st2 := [.int (nI f)]) (w3 := w) rfl rfl ?_
    refine sx_RP.step (pc2 := 5) (ls2 := [(4, .int (nI f)), (3, .int 0), (0, .ref 96), (1, .int (nI f)), (2, .int (nI t))]) (st2 := []) (w3 := w) rfl rfl ?_
    exact sx_RP.ls (sx_lr.cons rfl (sx_lr.cons rfl (sx_lr.cons rfl (sx_lr.cons rfl (sx_lr.cons rfl sx_lr.nil))))) (p96L (nI f) ht hI 120 f 0 (by omega) hf)
  obtain ⟨r, w2, h1, ⟨v, rfl⟩, rfl⟩ := h
  exact ⟨v, h1⟩
set_option maxRecDepth 20000 in
set_option maxHeartbeats 4000000 in
theorem s94bB {xs : Option (List Int32)} {d : Nat} {w w0 : List sx_C} (hI : WI w) (hE : ET w0 w) {j : Nat} (hj : j ≤ 120) (kk : ∀ (w4 : List sx_C), WI w4 → ET w0 w4 → j + 1 ≤ 120 → sx_RP xs (d + 2) 94 91 [(0, .ref 96), (1, .int (nI (j + 1)))] [] w4 (fun r w2 => (r = none) ∧ WI w2 ∧ ET w0 w2)) : sx_RP xs (d + 2) 94 91 [(0, .ref 96), (1, .int (nI j))] [] w (fun r w2 => (r = none) ∧ WI w2 ∧ ET w0 w2) := by
  refine sx_RP.step (pc2 := 92) (ls2 := [(0, .ref 96), (1, .int (nI j))]) (st2 := [.int (nI j)]) (w3 := w) rfl rfl ?_
  refine sx_RP.step (pc2 := 93) (ls2 := [(0, .ref 96), (1, .int (nI j))]) (st2 := [.ref 96, .int (nI j)]) (w3 := w) rfl rfl ?_
  refine sx_RP.gt (k := 1) hI rfl rfl (by decide) (show _ = 96 from rfl) ?_
  obtain ⟨x1, hx2, ex3⟩ : inR (fi w 96 1) 120 := hI.t.1
  rw [ex3]
  refine sx_RP.br (p1 := 121) (l1 := [(0, .ref 96), (1, .int (nI j))]) (s1 := []) (v1 := w) (p2 := 99) (l2 := [(0, .ref 96), (1, .int (nI j))]) (s2 := []) (v2 := w) rfl rfl (fun q4 => ?_) (fun q4 => ?_)
  · replace q4 := of_decide_eq_true q4
    replace q4 := (nI_leI (a := x1) (b := j) (by omega) (by omega)).mp q4
    refine sx_RP.step (pc2 := 122) (ls2 := [(0, .ref 96), (1, .int (nI j))]) (st2 := [.ref 96]) (w3 := w) rfl rfl ?_
    refine sx_RP.step (pc2 := 123) (ls2 := [(0, .ref 96), (1, .int (nI j))]) (st2 := [.int (nI j), .ref 96]) (w3 := w) rfl rfl ?_
    refine sx_RP.ptT (k := 4) hI hE rfl rfl (by decide) rfl (inR.n (show j ≤ 120 by omega)) (show _ = 126 from rfl) (fun w5 hI6 hE7 ht8 ht9 => ?_)
    have ex10 := (ht9 1 (by decide)).trans ex3
    refine sx_RP.step (pc2 := 127) (ls2 := [(0, .ref 96), (1, .int (nI j))]) (st2 := [.ref 96]) (w3 := w5) rfl rfl ?_
    refine sx_RP.gt (k := 2) hI6 rfl rfl (by decide) (show _ = 130 from rfl) ?_
    refine sx_RP.step (pc2 := 131) (ls2 := [(0, .ref 96), (1, .int (nI j))]) (st2 := [.int 2, .int (fi w5 96 2)]) (w3 := w5) rfl rfl ?_
    refine sx_RP.br (p1 := 150) (l1 := [(0, .ref 96), (1, .int (nI j))]) (s1 := []) (v1 := w5) (p2 := 134) (l2 := [(0, .ref 96), (1, .int (nI j))]) (s2 := []) (v2 := w5) rfl rfl (fun q11 => ?_) (fun q11 => ?_)
    · replace q11 := of_decide_eq_true q11
      refine sx_RP.ret (r := none) rfl rfl ?_
      exact ⟨rfl, hI6, hE7⟩
    · replace q11 := Decidable.not_not.mp (of_decide_eq_false q11)
      refine sx_RP.step (pc2 := 135) (ls2 := [(0, .ref 96), (1, .int (nI j))]) (st2 := [.ref 96]) (w3 := w5) rfl rfl ?_
      refine sx_RP.step (pc2 := 136) (ls2 := [(0, .ref 96), (1, .int (nI j))]) (st2 := [.ref 96, .ref 96]) (w3 := w5) rfl rfl ?_
      refine sx_RP.step (pc2 := 137) (ls2 := [(0, .ref 96), (1, .int (nI j))]) (st2 := [.ref 96, .ref 96, .ref 96]) (w3 := w5) rfl rfl ?_
      refine sx_RP.gt (k := 3) hI6 rfl rfl (by decide) (show _ = 140 from rfl) ?_
      obtain ⟨x12, hx13, ex14⟩ : inR (fi w5 96 3) 120 := hI6.t.2.1
      rw [ex14]
      refine sx_RP.step (pc2 := 141) (ls2 := [(0, .ref 96), (1, .int (nI j))]) (st2 := [.ref 96, .int (nI x12), .ref 96, .ref 96]) (w3 := w5) rfl rfl ?_
      refine sx_RP.gt (k := 4) hI6 rfl rfl (by decide) (show _ = 144 from rfl) ?_
      rw [ht8]
      obtain ⟨v15, c16⟩ := p96 hI6 (show x12 ≤ 120 by omega) (show j ≤ 120 by omega)
      refine sx_RP.cu (as := [.ref 96, .int (nI x12), .int (nI j)]) (rest2 := [.ref 96]) (st3 := [.int v15, .ref 96]) rfl rfl (sx_inv_v2 (mi := 94) (k := 162) (st := [.int (nI j), .int (nI x12), .ref 96, .ref 96]) (w := w5) rfl rfl hI6.1.o96 rfl rfl rfl) rfl rfl (c16) rfl ?_
      refine sx_RP.ptT (k := 5) hI6 hE7 rfl rfl (by decide) rfl trivial (show _ = 150 from rfl) (fun w17 hI18 hE19 ht20 ht21 => ?_)
      have ex22 := (ht21 1 (by decide)).trans ex10
      have ex23 := (ht21 4 (by decide)).trans ht8
      have ex24 := (ht21 3 (by decide)).trans ex14
      refine sx_RP.ret (r := none) rfl rfl ?_
      exact ⟨rfl, hI18, hE19⟩
  · replace q4 := of_decide_eq_false q4
    replace q4 := mt (nI_leI (a := x1) (b := j) (by omega) (by omega)).mpr q4
    refine sx_RP.step (pc2 := 100) (ls2 := [(0, .ref 96), (1, .int (nI j))]) (st2 := [.ref 96]) (w3 := w) rfl rfl ?_
    refine sx_RP.gf (v := .ref 97) rfl rfl hI.1.o96 rfl rfl (show _ = 103 from rfl) ?_
    refine sx_RP.step (pc2 := 104) (ls2 := [(0, .ref 96), (1, .int (nI j))]) (st2 := [.int (nI j), .ref 97]) (w3 := w) rfl rfl ?_
    refine sx_RP.bld2 (c := j) rfl hI.1.a97.1 hI.1.a97.2 (sx_in_nI (show j < 120 by omega) (by decide)) (show (nI j).toNatClampNeg = j from nI_clamp (by omega)) (show _ = 105 from rfl) ?_
    obtain ⟨v25, c26⟩ := p95 hI ((ia w 97).getD j 0)
    refine sx_RP.cu (as := [.int ((ia w 97).getD j 0)]) (rest2 := []) (st3 := [.int v25]) rfl rfl rfl rfl rfl (c26) rfl ?_
    refine sx_RP.step (pc2 := 109) (ls2 := [(0, .ref 96), (1, .int (nI j))]) (st2 := [.ref 96, .int v25]) (w3 := w) rfl rfl ?_
    refine sx_RP.gt (k := 2) hI rfl rfl (by decide) (show _ = 112 from rfl) ?_
    refine sx_RP.br (p1 := 121) (l1 := [(0, .ref 96), (1, .int (nI j))]) (s1 := []) (v1 := w) (p2 := 115) (l2 := [(0, .ref 96), (1, .int (nI j))]) (s2 := []) (v2 := w) rfl rfl (fun q27 => ?_) (fun q27 => ?_)
    · replace q27 := of_decide_eq_true q27
      refine sx_RP.step (pc2 := 122) (ls2 := [(0, .ref 96), (1, .int (nI j))]) (st2 := [.ref 96]) (w3 := w) rfl rfl ?_
      refine sx_RP.step (pc2 := 123) (ls2 := [(0, .ref 96), (1, .int (nI j))]) (st2 := [.int (nI j), .ref 96]) (w3 := w) rfl rfl ?_
      refine sx_RP.ptT (k := 4) hI hE rfl rfl (by decide) rfl (inR.n (show j ≤ 120 by omega)) (show _ = 126 from rfl) (fun w28 hI29 hE30 ht31 ht32 => ?_)
      have ex33 := (ht32 1 (by decide)).trans ex3
      refine sx_RP.step (pc2 := 127) (ls2 := [(0, .ref 96), (1, .int (nI j))]) (st2 := [.ref 96]) (w3 := w28) rfl rfl ?_
      refine sx_RP.gt (k := 2) hI29 rfl rfl (by decide) (show _ = 130 from rfl) ?_
      refine sx_RP.step (pc2 := 131) (ls2 := [(0, .ref 96), (1, .int (nI j))]) (st2 := [.int 2, .int (fi w28 96 2)]) (w3 := w28) rfl rfl ?_
      refine sx_RP.br (p1 := 150) (l1 := [(0, .ref 96), (1, .int (nI j))]) (s1 := []) (v1 := w28) (p2 := 134) (l2 := [(0, .ref 96), (1, .int (nI j))]) (s2 := []) (v2 := w28) rfl rfl (fun q34 => ?_) (fun q34 => ?_)
      · replace q34 := of_decide_eq_true q34
        refine sx_RP.ret (r := none) rfl rfl ?_
        exact ⟨rfl, hI29, hE30⟩
      · replace q34 := Decidable.not_not.mp (of_decide_eq_false q34)
        refine sx_RP.step (pc2 := 135) (ls2 := [(0, .ref 96), (1, .int (nI j))]) (st2 := [.ref 96]) (w3 := w28) rfl rfl ?_
        refine sx_RP.step (pc2 := 136) (ls2 := [(0, .ref 96), (1, .int (nI j))]) (st2 := [.ref 96, .ref 96]) (w3 := w28) rfl rfl ?_
        refine sx_RP.step (pc2 := 137) (ls2 := [(0, .ref 96), (1, .int (nI j))]) (st2 := [.ref 96, .ref 96, .ref 96]) (w3 := w28) rfl rfl ?_
        refine sx_RP.gt (k := 3) hI29 rfl rfl (by decide) (show _ = 140 from rfl) ?_
        obtain ⟨x35, hx36, ex37⟩ : inR (fi w28 96 3) 120 := hI29.t.2.1
        rw [ex37]
        refine sx_RP.step (pc2 := 141) (ls2 := [(0, .ref 96), (1, .int (nI j))]) (st2 := [.ref 96, .int (nI x35), .ref 96, .ref 96]) (w3 := w28) rfl rfl ?_
        refine sx_RP.gt (k := 4) hI29 rfl rfl (by decide) (show _ = 144 from rfl) ?_
        rw [ht31]
        obtain ⟨v38, c39⟩ := p96 hI29 (show x35 ≤ 120 by omega) (show j ≤ 120 by omega)
        refine sx_RP.cu (as := [.ref 96, .int (nI x35), .int (nI j)]) (rest2 := [.ref 96]) (st3 := [.int v38, .ref 96]) rfl rfl (sx_inv_v2 (mi := 94) (k := 162) (st := [.int (nI j), .int (nI x35), .ref 96, .ref 96]) (w := w28) rfl rfl hI29.1.o96 rfl rfl rfl) rfl rfl (c39) rfl ?_
        refine sx_RP.ptT (k := 5) hI29 hE30 rfl rfl (by decide) rfl trivial (show _ = 150 from rfl) (fun w40 hI41 hE42 ht43 ht44 => ?_)
        have ex45 := (ht44 1 (by decide)).trans ex33
        have ex46 := (ht44 4 (by decide)).trans ht31
        have ex47 := (ht44 3 (by decide)).trans ex37
        refine sx_RP.ret (r := none) rfl rfl ?_
        exact ⟨rfl, hI41, hE42⟩
    · replace q27 := Decidable.not_not.mp (of_decide_eq_false q27)
      refine sx_RP.step (pc2 := 118) (ls2 := [(1, .int ((nI j) + 1)), (0, .ref 96)]) (st2 := []) (w3 := w) rfl rfl ?_
      rw [nI_1 j]
      refine sx_RP.step (pc2 := 91) (ls2 := [(1, .int (nI (j + 1))), (0, .ref 96)]) (st2 := []) (w3 := w) rfl rfl ?_
      exact sx_RP.ls (sx_lr.cons rfl (sx_lr.cons rfl sx_lr.nil)) (kk w hI hE (by omega))
set_option maxRecDepth 20000 in
set_option maxHeartbeats 4000000 in
theorem s94bL {xs : Option (List Int32)} {d : Nat} {w0 : List sx_C} : ∀ (fz j : Nat) (w : List sx_C) , 120 ≤ j + fz * 1 → j ≤ 120 → WI w → ET w0 w → sx_RP xs (d + 2) 94 91 [(0, .ref 96), (1, .int (nI j))] [] w (fun r w2 => (r = none) ∧ WI w2 ∧ ET w0 w2)
  | 0, j, w, h, hj, hI, hE => s94bB  hI hE hj   (fun w4  hI4 hE4 hlt  => absurd hlt (by omega)) 
  | fz + 1, j, w, h, hj, hI, hE => s94bB  hI hE hj   (fun w4  hI4 hE4 hlt  => s94bL   fz (j + 1) w4  (by omega) hlt hI4 hE4 ) 
set_option maxRecDepth 20000 in
set_option maxHeartbeats 4000000 in
theorem s94m {xs : Option (List Int32)} {d j : Nat} {w w0 : List sx_C} (hj : j ≤ 120) (hI : WI w) (hE : ET w0 w) : sx_RP xs (d + 2) 94 30 [(0, .ref 96), (1, .int (nI j))] [] w (fun r w2 => (r = none) ∧ WI w2 ∧ ET w0 w2) := by
  refine sx_RP.step (pc2 := 31) (ls2 := [(0, .ref 96), (1, .int (nI j))]) (st2 := [.ref 96]) (w3 := w) rfl rfl ?_
  refine sx_RP.step (pc2 := 32) (ls2 := [(0, .ref 96), (1, .int (nI j))]) (st2 := [.int (nI j), .ref 96]) (w3 := w) rfl rfl ?_
  refine sx_RP.ptT (k := 3) hI hE rfl rfl (by decide) rfl (inR.n (show j ≤ 120 by omega)) (show _ = 35 from rfl) (fun w1 hI2 hE3 ht4 ht5 => ?_)
  refine sx_RP.step (pc2 := 36) (ls2 := [(0, .ref 96), (1, .int (nI j))]) (st2 := [.ref 96]) (w3 := w1) rfl rfl ?_
  refine sx_RP.step (pc2 := 37) (ls2 := [(0, .ref 96), (1, .int (nI j))]) (st2 := [.int (nI j), .ref 96]) (w3 := w1) rfl rfl ?_
  refine sx_RP.step (pc2 := 38) (ls2 := [(0, .ref 96), (1, .int (nI j))]) (st2 := [.ref 96, .int (nI j), .ref 96]) (w3 := w1) rfl rfl ?_
  refine sx_RP.gt (k := 1) hI2 rfl rfl (by decide) (show _ = 41 from rfl) ?_
  obtain ⟨x6, hx7, ex8⟩ : inR (fi w1 96 1) 120 := hI2.t.1
  rw [ex8]
  refine sx_RP.br (p1 := 56) (l1 := [(0, .ref 96), (1, .int (nI j))]) (s1 := [.ref 96]) (v1 := w1) (p2 := 44) (l2 := [(0, .ref 96), (1, .int (nI j))]) (s2 := [.ref 96]) (v2 := w1) rfl rfl (fun q9 => ?_) (fun q9 => ?_)
  · replace q9 := of_decide_eq_true q9
    replace q9 := (nI_leI (a := x6) (b := j) (by omega) (by omega)).mp q9
    refine sx_RP.step (pc2 := 57) (ls2 := [(0, .ref 96), (1, .int (nI j))]) (st2 := [.int 0, .ref 96]) (w3 := w1) rfl rfl ?_
    refine sx_RP.ptT (k := 2) hI2 hE3 rfl rfl (by decide) rfl trivial (show _ = 60 from rfl) (fun w10 hI11 hE12 ht13 ht14 => ?_)
    have ex15 := (ht14 3 (by decide)).trans ht4
    have ex16 := (ht14 1 (by decide)).trans ex8
    refine sx_RP.step (pc2 := 61) (ls2 := [(0, .ref 96), (1, .int (nI j))]) (st2 := [.ref 96]) (w3 := w10) rfl rfl ?_
    refine sx_RP.step (pc2 := 62) (ls2 := [(0, .ref 96), (1, .int (nI j))]) (st2 := [.int 0, .ref 96]) (w3 := w10) rfl rfl ?_
    refine sx_RP.ptT (k := 5) hI11 hE12 rfl rfl (by decide) rfl trivial (show _ = 65 from rfl) (fun w17 hI18 hE19 ht20 ht21 => ?_)
    have ex22 := (ht21 3 (by decide)).trans ex15
    have ex23 := (ht21 1 (by decide)).trans ex16
    have ex24 := (ht21 2 (by decide)).trans ht13
    refine sx_RP.step (pc2 := 66) (ls2 := [(0, .ref 96), (1, .int (nI j))]) (st2 := [.ref 96]) (w3 := w17) rfl rfl ?_
    refine sx_RP.gt (k := 2) hI18 rfl rfl (by decide) (show _ = 69 from rfl) ?_
    rw [ex24]
    refine sx_RP.step (pc2 := 75) (ls2 := [(0, .ref 96), (1, .int (nI j))]) (st2 := []) (w3 := w17) rfl rfl ?_
    refine sx_RP.step (pc2 := 76) (ls2 := [(0, .ref 96), (1, .int (nI j))]) (st2 := [.ref 96]) (w3 := w17) rfl rfl ?_
    refine sx_RP.gt (k := 2) hI18 rfl rfl (by decide) (show _ = 79 from rfl) ?_
    rw [ex24]
    refine sx_RP.step (pc2 := 80) (ls2 := [(0, .ref 96), (1, .int (nI j))]) (st2 := [.int 1, .int 0]) (w3 := w17) rfl rfl ?_
    refine sx_RP.step (pc2 := 83) (ls2 := [(0, .ref 96), (1, .int (nI j))]) (st2 := []) (w3 := w17) rfl rfl ?_
    refine sx_RP.step (pc2 := 84) (ls2 := [(0, .ref 96), (1, .int (nI j))]) (st2 := [.ref 96]) (w3 := w17) rfl rfl ?_
    refine sx_RP.gt (k := 2) hI18 rfl rfl (by decide) (show _ = 87 from rfl) ?_
    rw [ex24]
    refine sx_RP.step (pc2 := 88) (ls2 := [(0, .ref 96), (1, .int (nI j))]) (st2 := [.int 2, .int 0]) (w3 := w17) rfl rfl ?_
    refine sx_RP.step (pc2 := 121) (ls2 := [(0, .ref 96), (1, .int (nI j))]) (st2 := []) (w3 := w17) rfl rfl ?_
    refine sx_RP.step (pc2 := 122) (ls2 := [(0, .ref 96), (1, .int (nI j))]) (st2 := [.ref 96]) (w3 := w17) rfl rfl ?_
    refine sx_RP.step (pc2 := 123) (ls2 := [(0, .ref 96), (1, .int (nI j))]) (st2 := [.int (nI j), .ref 96]) (w3 := w17) rfl rfl ?_
    refine sx_RP.ptT (k := 4) hI18 hE19 rfl rfl (by decide) rfl (inR.n (show j ≤ 120 by omega)) (show _ = 126 from rfl) (fun w25 hI26 hE27 ht28 ht29 => ?_)
    have ex30 := (ht29 3 (by decide)).trans ex22
    have ex31 := (ht29 1 (by decide)).trans ex23
    have ex32 := (ht29 2 (by decide)).trans ex24
    have ex33 := (ht29 5 (by decide)).trans ht20
    refine sx_RP.step (pc2 := 127) (ls2 := [(0, .ref 96), (1, .int (nI j))]) (st2 := [.ref 96]) (w3 := w25) rfl rfl ?_
    refine sx_RP.gt (k := 2) hI26 rfl rfl (by decide) (show _ = 130 from rfl) ?_
    rw [ex32]
    refine sx_RP.step (pc2 := 131) (ls2 := [(0, .ref 96), (1, .int (nI j))]) (st2 := [.int 2, .int 0]) (w3 := w25) rfl rfl ?_
    refine sx_RP.step (pc2 := 150) (ls2 := [(0, .ref 96), (1, .int (nI j))]) (st2 := []) (w3 := w25) rfl rfl ?_
    refine sx_RP.ret (r := none) rfl rfl ?_
    exact ⟨rfl, hI26, hE27⟩
  · replace q9 := of_decide_eq_false q9
    replace q9 := mt (nI_leI (a := x6) (b := j) (by omega) (by omega)).mpr q9
    refine sx_RP.step (pc2 := 45) (ls2 := [(0, .ref 96), (1, .int (nI j))]) (st2 := [.ref 96, .ref 96]) (w3 := w1) rfl rfl ?_
    refine sx_RP.gf (v := .ref 97) rfl rfl hI2.1.o96 rfl rfl (show _ = 48 from rfl) ?_
    refine sx_RP.step (pc2 := 49) (ls2 := [(0, .ref 96), (1, .int (nI j))]) (st2 := [.int (nI j), .ref 97, .ref 96]) (w3 := w1) rfl rfl ?_
    refine sx_RP.bld2 (c := j) rfl hI2.1.a97.1 hI2.1.a97.2 (sx_in_nI (show j < 120 by omega) (by decide)) (show (nI j).toNatClampNeg = j from nI_clamp (by omega)) (show _ = 50 from rfl) ?_
    obtain ⟨v34, c35⟩ := p95 hI2 ((ia w1 97).getD j 0)
    refine sx_RP.cu (as := [.int ((ia w1 97).getD j 0)]) (rest2 := [.ref 96]) (st3 := [.int v34, .ref 96]) rfl rfl rfl rfl rfl (c35) rfl ?_
    refine sx_RP.step (pc2 := 57) (ls2 := [(0, .ref 96), (1, .int (nI j))]) (st2 := [.int v34, .ref 96]) (w3 := w1) rfl rfl ?_
    refine sx_RP.ptT (k := 2) hI2 hE3 rfl rfl (by decide) rfl trivial (show _ = 60 from rfl) (fun w36 hI37 hE38 ht39 ht40 => ?_)
    have ex41 := (ht40 3 (by decide)).trans ht4
    have ex42 := (ht40 1 (by decide)).trans ex8
    refine sx_RP.step (pc2 := 61) (ls2 := [(0, .ref 96), (1, .int (nI j))]) (st2 := [.ref 96]) (w3 := w36) rfl rfl ?_
    refine sx_RP.step (pc2 := 62) (ls2 := [(0, .ref 96), (1, .int (nI j))]) (st2 := [.int 0, .ref 96]) (w3 := w36) rfl rfl ?_
    refine sx_RP.ptT (k := 5) hI37 hE38 rfl rfl (by decide) rfl trivial (show _ = 65 from rfl) (fun w43 hI44 hE45 ht46 ht47 => ?_)
    have ex48 := (ht47 3 (by decide)).trans ex41
    have ex49 := (ht47 1 (by decide)).trans ex42
    have ex50 := (ht47 2 (by decide)).trans ht39
    refine sx_RP.step (pc2 := 66) (ls2 := [(0, .ref 96), (1, .int (nI j))]) (st2 := [.ref 96]) (w3 := w43) rfl rfl ?_
    refine sx_RP.gt (k := 2) hI44 rfl rfl (by decide) (show _ = 69 from rfl) ?_
    rw [ex50]
    refine sx_RP.br (p1 := 75) (l1 := [(0, .ref 96), (1, .int (nI j))]) (s1 := []) (v1 := w43) (p2 := 72) (l2 := [(0, .ref 96), (1, .int (nI j))]) (s2 := []) (v2 := w43) rfl rfl (fun q51 => ?_) (fun q51 => ?_)
    · replace q51 := of_decide_eq_true q51
      refine sx_RP.step (pc2 := 76) (ls2 := [(0, .ref 96), (1, .int (nI j))]) (st2 := [.ref 96]) (w3 := w43) rfl rfl ?_
      refine sx_RP.gt (k := 2) hI44 rfl rfl (by decide) (show _ = 79 from rfl) ?_
      rw [ex50]
      refine sx_RP.step (pc2 := 80) (ls2 := [(0, .ref 96), (1, .int (nI j))]) (st2 := [.int 1, .int v34]) (w3 := w43) rfl rfl ?_
      refine sx_RP.br (p1 := 91) (l1 := [(0, .ref 96), (1, .int (nI j))]) (s1 := []) (v1 := w43) (p2 := 83) (l2 := [(0, .ref 96), (1, .int (nI j))]) (s2 := []) (v2 := w43) rfl rfl (fun q52 => ?_) (fun q52 => ?_)
      · replace q52 := of_decide_eq_true q52
        exact sx_RP.ls (sx_lr.cons rfl (sx_lr.cons rfl sx_lr.nil)) (s94bL 120 j w43 (by omega) (by omega) hI44 hE45)
      · replace q52 := of_decide_eq_false q52
        refine sx_RP.step (pc2 := 84) (ls2 := [(0, .ref 96), (1, .int (nI j))]) (st2 := [.ref 96]) (w3 := w43) rfl rfl ?_
        refine sx_RP.gt (k := 2) hI44 rfl rfl (by decide) (show _ = 87 from rfl) ?_
        rw [ex50]
        refine sx_RP.step (pc2 := 88) (ls2 := [(0, .ref 96), (1, .int (nI j))]) (st2 := [.int 2, .int v34]) (w3 := w43) rfl rfl ?_
        refine sx_RP.br (p1 := 121) (l1 := [(0, .ref 96), (1, .int (nI j))]) (s1 := []) (v1 := w43) (p2 := 91) (l2 := [(0, .ref 96), (1, .int (nI j))]) (s2 := []) (v2 := w43) rfl rfl (fun q53 => ?_) (fun q53 => ?_)
        · replace q53 := of_decide_eq_true q53
          refine sx_RP.step (pc2 := 122) (ls2 := [(0, .ref 96), (1, .int (nI j))]) (st2 := [.ref 96]) (w3 := w43) rfl rfl ?_
          refine sx_RP.step (pc2 := 123) (ls2 := [(0, .ref 96), (1, .int (nI j))]) (st2 := [.int (nI j), .ref 96]) (w3 := w43) rfl rfl ?_
          refine sx_RP.ptT (k := 4) hI44 hE45 rfl rfl (by decide) rfl (inR.n (show j ≤ 120 by omega)) (show _ = 126 from rfl) (fun w54 hI55 hE56 ht57 ht58 => ?_)
          have ex59 := (ht58 3 (by decide)).trans ex48
          have ex60 := (ht58 1 (by decide)).trans ex49
          have ex61 := (ht58 2 (by decide)).trans ex50
          have ex62 := (ht58 5 (by decide)).trans ht46
          refine sx_RP.step (pc2 := 127) (ls2 := [(0, .ref 96), (1, .int (nI j))]) (st2 := [.ref 96]) (w3 := w54) rfl rfl ?_
          refine sx_RP.gt (k := 2) hI55 rfl rfl (by decide) (show _ = 130 from rfl) ?_
          rw [ex61]
          refine sx_RP.step (pc2 := 131) (ls2 := [(0, .ref 96), (1, .int (nI j))]) (st2 := [.int 2, .int v34]) (w3 := w54) rfl rfl ?_
          refine sx_RP.br (p1 := 150) (l1 := [(0, .ref 96), (1, .int (nI j))]) (s1 := []) (v1 := w54) (p2 := 134) (l2 := [(0, .ref 96), (1, .int (nI j))]) (s2 := []) (v2 := w54) rfl rfl (fun q63 => ?_) (fun q63 => ?_)
          · replace q63 := of_decide_eq_true q63
            refine sx_RP.ret (r := none) rfl rfl ?_
            exact ⟨rfl, hI55, hE56⟩
          · replace q63 := Decidable.not_not.mp (of_decide_eq_false q63)
            refine sx_RP.step (pc2 := 135) (ls2 := [(0, .ref 96), (1, .int (nI j))]) (st2 := [.ref 96]) (w3 := w54) rfl rfl ?_
            refine sx_RP.step (pc2 := 136) (ls2 := [(0, .ref 96), (1, .int (nI j))]) (st2 := [.ref 96, .ref 96]) (w3 := w54) rfl rfl ?_
            refine sx_RP.step (pc2 := 137) (ls2 := [(0, .ref 96), (1, .int (nI j))]) (st2 := [.ref 96, .ref 96, .ref 96]) (w3 := w54) rfl rfl ?_
            refine sx_RP.gt (k := 3) hI55 rfl rfl (by decide) (show _ = 140 from rfl) ?_
            rw [ex59]
            refine sx_RP.step (pc2 := 141) (ls2 := [(0, .ref 96), (1, .int (nI j))]) (st2 := [.ref 96, .int (nI j), .ref 96, .ref 96]) (w3 := w54) rfl rfl ?_
            refine sx_RP.gt (k := 4) hI55 rfl rfl (by decide) (show _ = 144 from rfl) ?_
            rw [ht57]
            obtain ⟨v64, c65⟩ := p96 hI55 (show j ≤ 120 by omega) (show j ≤ 120 by omega)
            refine sx_RP.cu (as := [.ref 96, .int (nI j), .int (nI j)]) (rest2 := [.ref 96]) (st3 := [.int v64, .ref 96]) rfl rfl (sx_inv_v2 (mi := 94) (k := 162) (st := [.int (nI j), .int (nI j), .ref 96, .ref 96]) (w := w54) rfl rfl hI55.1.o96 rfl rfl rfl) rfl rfl (c65) rfl ?_
            refine sx_RP.ptT (k := 5) hI55 hE56 rfl rfl (by decide) rfl trivial (show _ = 150 from rfl) (fun w66 hI67 hE68 ht69 ht70 => ?_)
            have ex71 := (ht70 3 (by decide)).trans ex59
            have ex72 := (ht70 1 (by decide)).trans ex60
            have ex73 := (ht70 2 (by decide)).trans ex61
            have ex74 := (ht70 4 (by decide)).trans ht57
            refine sx_RP.ret (r := none) rfl rfl ?_
            exact ⟨rfl, hI67, hE68⟩
        · replace q53 := Decidable.not_not.mp (of_decide_eq_false q53)
          exact sx_RP.ls (sx_lr.cons rfl (sx_lr.cons rfl sx_lr.nil)) (s94bL 120 j w43 (by omega) (by omega) hI44 hE45)
    · replace q51 := of_decide_eq_false q51
      refine sx_RP.step (pc2 := 75) (ls2 := [(1, .int ((nI j) + 1)), (0, .ref 96)]) (st2 := []) (w3 := w43) rfl rfl ?_
      rw [nI_1 j]
      refine sx_RP.step (pc2 := 76) (ls2 := [(1, .int (nI (j + 1))), (0, .ref 96)]) (st2 := [.ref 96]) (w3 := w43) rfl rfl ?_
      refine sx_RP.gt (k := 2) hI44 rfl rfl (by decide) (show _ = 79 from rfl) ?_
      rw [ex50]
      refine sx_RP.step (pc2 := 80) (ls2 := [(1, .int (nI (j + 1))), (0, .ref 96)]) (st2 := [.int 1, .int v34]) (w3 := w43) rfl rfl ?_
      refine sx_RP.br (p1 := 91) (l1 := [(1, .int (nI (j + 1))), (0, .ref 96)]) (s1 := []) (v1 := w43) (p2 := 83) (l2 := [(1, .int (nI (j + 1))), (0, .ref 96)]) (s2 := []) (v2 := w43) rfl rfl (fun q75 => ?_) (fun q75 => ?_)
      · replace q75 := of_decide_eq_true q75
        exact sx_RP.ls (sx_lr.cons rfl (sx_lr.cons rfl sx_lr.nil)) (s94bL 120 (j + 1) w43 (by omega) (by omega) hI44 hE45)
      · replace q75 := of_decide_eq_false q75
        refine sx_RP.step (pc2 := 84) (ls2 := [(1, .int (nI (j + 1))), (0, .ref 96)]) (st2 := [.ref 96]) (w3 := w43) rfl rfl ?_
        refine sx_RP.gt (k := 2) hI44 rfl rfl (by decide) (show _ = 87 from rfl) ?_
        rw [ex50]
        refine sx_RP.step (pc2 := 88) (ls2 := [(1, .int (nI (j + 1))), (0, .ref 96)]) (st2 := [.int 2, .int v34]) (w3 := w43) rfl rfl ?_
        refine sx_RP.br (p1 := 121) (l1 := [(1, .int (nI (j + 1))), (0, .ref 96)]) (s1 := []) (v1 := w43) (p2 := 91) (l2 := [(1, .int (nI (j + 1))), (0, .ref 96)]) (s2 := []) (v2 := w43) rfl rfl (fun q76 => ?_) (fun q76 => ?_)
        · replace q76 := of_decide_eq_true q76
          refine sx_RP.step (pc2 := 122) (ls2 := [(1, .int (nI (j + 1))), (0, .ref 96)]) (st2 := [.ref 96]) (w3 := w43) rfl rfl ?_
          refine sx_RP.step (pc2 := 123) (ls2 := [(1, .int (nI (j + 1))), (0, .ref 96)]) (st2 := [.int (nI (j + 1)), .ref 96]) (w3 := w43) rfl rfl ?_
          refine sx_RP.ptT (k := 4) hI44 hE45 rfl rfl (by decide) rfl (inR.n (show (j + 1) ≤ 120 by omega)) (show _ = 126 from rfl) (fun w77 hI78 hE79 ht80 ht81 => ?_)
          have ex82 := (ht81 3 (by decide)).trans ex48
          have ex83 := (ht81 1 (by decide)).trans ex49
          have ex84 := (ht81 2 (by decide)).trans ex50
          have ex85 := (ht81 5 (by decide)).trans ht46
          refine sx_RP.step (pc2 := 127) (ls2 := [(1, .int (nI (j + 1))), (0, .ref 96)]) (st2 := [.ref 96]) (w3 := w77) rfl rfl ?_
          refine sx_RP.gt (k := 2) hI78 rfl rfl (by decide) (show _ = 130 from rfl) ?_
          rw [ex84]
          refine sx_RP.step (pc2 := 131) (ls2 := [(1, .int (nI (j + 1))), (0, .ref 96)]) (st2 := [.int 2, .int v34]) (w3 := w77) rfl rfl ?_
          refine sx_RP.br (p1 := 150) (l1 := [(1, .int (nI (j + 1))), (0, .ref 96)]) (s1 := []) (v1 := w77) (p2 := 134) (l2 := [(1, .int (nI (j + 1))), (0, .ref 96)]) (s2 := []) (v2 := w77) rfl rfl (fun q86 => ?_) (fun q86 => ?_)
          · replace q86 := of_decide_eq_true q86
            refine sx_RP.ret (r := none) rfl rfl ?_
            exact ⟨rfl, hI78, hE79⟩
          · replace q86 := Decidable.not_not.mp (of_decide_eq_false q86)
            refine sx_RP.step (pc2 := 135) (ls2 := [(1, .int (nI (j + 1))), (0, .ref 96)]) (st2 := [.ref 96]) (w3 := w77) rfl rfl ?_
            refine sx_RP.step (pc2 := 136) (ls2 := [(1, .int (nI (j + 1))), (0, .ref 96)]) (st2 := [.ref 96, .ref 96]) (w3 := w77) rfl rfl ?_
            refine sx_RP.step (pc2 := 137) (ls2 := [(1, .int (nI (j + 1))), (0, .ref 96)]) (st2 := [.ref 96, .ref 96, .ref 96]) (w3 := w77) rfl rfl ?_
            refine sx_RP.gt (k := 3) hI78 rfl rfl (by decide) (show _ = 140 from rfl) ?_
            rw [ex82]
            refine sx_RP.step (pc2 := 141) (ls2 := [(1, .int (nI (j + 1))), (0, .ref 96)]) (st2 := [.ref 96, .int (nI j), .ref 96, .ref 96]) (w3 := w77) rfl rfl ?_
            refine sx_RP.gt (k := 4) hI78 rfl rfl (by decide) (show _ = 144 from rfl) ?_
            rw [ht80]
            obtain ⟨v87, c88⟩ := p96 hI78 (show j ≤ 120 by omega) (show (j + 1) ≤ 120 by omega)
            refine sx_RP.cu (as := [.ref 96, .int (nI j), .int (nI (j + 1))]) (rest2 := [.ref 96]) (st3 := [.int v87, .ref 96]) rfl rfl (sx_inv_v2 (mi := 94) (k := 162) (st := [.int (nI (j + 1)), .int (nI j), .ref 96, .ref 96]) (w := w77) rfl rfl hI78.1.o96 rfl rfl rfl) rfl rfl (c88) rfl ?_
            refine sx_RP.ptT (k := 5) hI78 hE79 rfl rfl (by decide) rfl trivial (show _ = 150 from rfl) (fun w89 hI90 hE91 ht92 ht93 => ?_)
            have ex94 := (ht93 3 (by decide)).trans ex82
            have ex95 := (ht93 1 (by decide)).trans ex83
            have ex96 := (ht93 2 (by decide)).trans ex84
            have ex97 := (ht93 4 (by decide)).trans ht80
            refine sx_RP.ret (r := none) rfl rfl ?_
            exact ⟨rfl, hI90, hE91⟩
        · replace q76 := Decidable.not_not.mp (of_decide_eq_false q76)
          exact sx_RP.ls (sx_lr.cons rfl (sx_lr.cons rfl sx_lr.nil)) (s94bL 120 (j + 1) w43 (by omega) (by omega) hI44 hE45)
set_option maxRecDepth 20000 in
set_option maxHeartbeats 4000000 in
theorem s94aB {xs : Option (List Int32)} {d : Nat} {w w0 : List sx_C} (hI : WI w) (hE : ET w0 w) {j : Nat} (hj : j ≤ 120) (kk : ∀ (w4 : List sx_C), WI w4 → ET w0 w4 → j + 1 ≤ 120 → sx_RP xs (d + 2) 94 5 [(0, .ref 96), (1, .int (nI (j + 1)))] [] w4 (fun r w2 => (r = none) ∧ WI w2 ∧ ET w0 w2)) (kx30 : ∀ (w4 : List sx_C) (ui : Nat), WI w4 → ET w0 w4 → ui ≤ 120 → sx_RP xs (d + 2) 94 30 [(0, .ref 96), (1, .int (nI ui))] [] w4 (fun r w2 => (r = none) ∧ WI w2 ∧ ET w0 w2)) : sx_RP xs (d + 2) 94 5 [(0, .ref 96), (1, .int (nI j))] [] w (fun r w2 => (r = none) ∧ WI w2 ∧ ET w0 w2) := by
  refine sx_RP.step (pc2 := 6) (ls2 := [(0, .ref 96), (1, .int (nI j))]) (st2 := [.int (nI j)]) (w3 := w) rfl rfl ?_
  refine sx_RP.step (pc2 := 7) (ls2 := [(0, .ref 96), (1, .int (nI j))]) (st2 := [.ref 96, .int (nI j)]) (w3 := w) rfl rfl ?_
  refine sx_RP.gt (k := 1) hI rfl rfl (by decide) (show _ = 10 from rfl) ?_
  obtain ⟨x1, hx2, ex3⟩ : inR (fi w 96 1) 120 := hI.t.1
  rw [ex3]
  refine sx_RP.br (p1 := 30) (l1 := [(0, .ref 96), (1, .int (nI j))]) (s1 := []) (v1 := w) (p2 := 13) (l2 := [(0, .ref 96), (1, .int (nI j))]) (s2 := []) (v2 := w) rfl rfl (fun q4 => ?_) (fun q4 => ?_)
  · replace q4 := of_decide_eq_true q4
    replace q4 := (nI_leI (a := x1) (b := j) (by omega) (by omega)).mp q4
    exact sx_RP.ls (sx_lr.cons rfl (sx_lr.cons rfl sx_lr.nil)) (kx30 w j hI hE (by omega))
  · replace q4 := of_decide_eq_false q4
    replace q4 := mt (nI_leI (a := x1) (b := j) (by omega) (by omega)).mpr q4
    refine sx_RP.step (pc2 := 14) (ls2 := [(0, .ref 96), (1, .int (nI j))]) (st2 := [.ref 96]) (w3 := w) rfl rfl ?_
    refine sx_RP.gf (v := .ref 97) rfl rfl hI.1.o96 rfl rfl (show _ = 17 from rfl) ?_
    refine sx_RP.step (pc2 := 18) (ls2 := [(0, .ref 96), (1, .int (nI j))]) (st2 := [.int (nI j), .ref 97]) (w3 := w) rfl rfl ?_
    refine sx_RP.bld2 (c := j) rfl hI.1.a97.1 hI.1.a97.2 (sx_in_nI (show j < 120 by omega) (by decide)) (show (nI j).toNatClampNeg = j from nI_clamp (by omega)) (show _ = 19 from rfl) ?_
    refine sx_RP.step (pc2 := 21) (ls2 := [(0, .ref 96), (1, .int (nI j))]) (st2 := [.int 32, .int ((ia w 97).getD j 0)]) (w3 := w) rfl rfl ?_
    refine sx_RP.br (p1 := 30) (l1 := [(0, .ref 96), (1, .int (nI j))]) (s1 := []) (v1 := w) (p2 := 24) (l2 := [(0, .ref 96), (1, .int (nI j))]) (s2 := []) (v2 := w) rfl rfl (fun q5 => ?_) (fun q5 => ?_)
    · replace q5 := of_decide_eq_true q5
      exact sx_RP.ls (sx_lr.cons rfl (sx_lr.cons rfl sx_lr.nil)) (kx30 w j hI hE (by omega))
    · replace q5 := Decidable.not_not.mp (of_decide_eq_false q5)
      refine sx_RP.step (pc2 := 27) (ls2 := [(1, .int ((nI j) + 1)), (0, .ref 96)]) (st2 := []) (w3 := w) rfl rfl ?_
      rw [nI_1 j]
      refine sx_RP.step (pc2 := 5) (ls2 := [(1, .int (nI (j + 1))), (0, .ref 96)]) (st2 := []) (w3 := w) rfl rfl ?_
      exact sx_RP.ls (sx_lr.cons rfl (sx_lr.cons rfl sx_lr.nil)) (kk w hI hE (by omega))
set_option maxRecDepth 20000 in
set_option maxHeartbeats 4000000 in
theorem s94aL {xs : Option (List Int32)} {d : Nat} {w0 : List sx_C} (kx30 : ∀ (w4 : List sx_C) (ui : Nat), WI w4 → ET w0 w4 → ui ≤ 120 → sx_RP xs (d + 2) 94 30 [(0, .ref 96), (1, .int (nI ui))] [] w4 (fun r w2 => (r = none) ∧ WI w2 ∧ ET w0 w2)) : ∀ (fz j : Nat) (w : List sx_C) , 120 ≤ j + fz * 1 → j ≤ 120 → WI w → ET w0 w → sx_RP xs (d + 2) 94 5 [(0, .ref 96), (1, .int (nI j))] [] w (fun r w2 => (r = none) ∧ WI w2 ∧ ET w0 w2)
  | 0, j, w, h, hj, hI, hE => s94aB  hI hE hj   (fun w4  hI4 hE4 hlt  => absurd hlt (by omega)) kx30
  | fz + 1, j, w, h, hj, hI, hE => s94aB  hI hE hj   (fun w4  hI4 hE4 hlt  => s94aL  kx30 fz (j + 1) w4  (by omega) hlt hI4 hE4 ) kx30
set_option maxRecDepth 20000 in
set_option maxHeartbeats 4000000 in
theorem s94 {xs : Option (List Int32)} {d : Nat} {w : List sx_C} (hI : WI w) : sx_RP xs (d + 2) 94 0 (lv_args 0 [.ref 96]) [] w (fun r w2 => (r = none) ∧ WI w2 ∧ ET w w2) := by
  have hE : ET w w := ET.rf
  refine sx_RP.step (pc2 := 1) (ls2 := [(0, .ref 96)]) (st2 := [.ref 96]) (w3 := w) rfl rfl ?_
  refine sx_RP.gt (k := 4) hI rfl rfl (by decide) (show _ = 4 from rfl) ?_
  obtain ⟨x1, hx2, ex3⟩ : inR (fi w 96 4) 120 := hI.t.2.2
  rw [ex3]
  refine sx_RP.step (pc2 := 5) (ls2 := [(1, .int (nI x1)), (0, .ref 96)]) (st2 := []) (w3 := w) rfl rfl ?_
  exact sx_RP.ls (sx_lr.cons rfl (sx_lr.cons rfl sx_lr.nil)) (s94aL (fun w4 ui hI4 hE4 hui => s94m hui hI4 hE4) 120 x1 w (by omega) (by omega) hI hE)
set_option maxRecDepth 20000 in
set_option maxHeartbeats 4000000 in
theorem p103 {xs : Option (List Int32)} {d : Nat} {w : List sx_C} (hI : WI w) {m n : Nat} (hm : m < 2 ^ 31) (hn : n < 2 ^ 31) : sx_RU xs d 103 0 (lv_args 0 [.ref 96, .int (nI m), .int (nI n)]) [] w (some (.int 0)) w ∨ ((∃ v, (m ≤ v ∧ v ≤ n) ∧ fi w 96 5 = nI v) ∧ sx_RU xs d 103 0 (lv_args 0 [.ref 96, .int (nI m), .int (nI n)]) [] w (some (.int 1)) w) := by
  have h : sx_RP xs d 103 0 (lv_args 0 [.ref 96, .int (nI m), .int (nI n)]) [] w (fun r w2 => (r = some (.int 0) ∨ ((∃ v, (m ≤ v ∧ v ≤ n) ∧ fi w 96 5 = nI v) ∧ r = some (.int 1))) ∧ w2 = w) := by
    refine sx_RP.step (pc2 := 1) (ls2 := [(0, .ref 96), (1, .int (nI m)), (2, .int (nI n))]) (st2 := [.ref 96]) (w3 := w) rfl rfl ?_
    refine sx_RP.gt (k := 2) hI rfl rfl (by decide) (show _ = 4 from rfl) ?_
    refine sx_RP.step (pc2 := 5) (ls2 := [(0, .ref 96), (1, .int (nI m)), (2, .int (nI n))]) (st2 := [.int 2, .int (fi w 96 2)]) (w3 := w) rfl rfl ?_
    refine sx_RP.br (p1 := 28) (l1 := [(0, .ref 96), (1, .int (nI m)), (2, .int (nI n))]) (s1 := []) (v1 := w) (p2 := 8) (l2 := [(0, .ref 96), (1, .int (nI m)), (2, .int (nI n))]) (s2 := []) (v2 := w) rfl rfl (fun q1 => ?_) (fun q1 => ?_)
    · replace q1 := of_decide_eq_true q1
      refine sx_RP.step (pc2 := 29) (ls2 := [(0, .ref 96), (1, .int (nI m)), (2, .int (nI n))]) (st2 := [.int 0]) (w3 := w) rfl rfl ?_
      refine sx_RP.ret (r := (some (.int 0))) rfl rfl ?_
      exact ⟨Or.inl rfl, rfl⟩
    · replace q1 := Decidable.not_not.mp (of_decide_eq_false q1)
      refine sx_RP.step (pc2 := 9) (ls2 := [(0, .ref 96), (1, .int (nI m)), (2, .int (nI n))]) (st2 := [.ref 96]) (w3 := w) rfl rfl ?_
      refine sx_RP.gt (k := 5) hI rfl rfl (by decide) (show _ = 12 from rfl) ?_
      refine sx_RP.step (pc2 := 13) (ls2 := [(0, .ref 96), (1, .int (nI m)), (2, .int (nI n))]) (st2 := [.int (nI m), .int (fi w 96 5)]) (w3 := w) rfl rfl ?_
      refine sx_RP.br (p1 := 28) (l1 := [(0, .ref 96), (1, .int (nI m)), (2, .int (nI n))]) (s1 := []) (v1 := w) (p2 := 16) (l2 := [(0, .ref 96), (1, .int (nI m)), (2, .int (nI n))]) (s2 := []) (v2 := w) rfl rfl (fun q2 => ?_) (fun q2 => ?_)
      · replace q2 := of_decide_eq_true q2
        refine sx_RP.step (pc2 := 29) (ls2 := [(0, .ref 96), (1, .int (nI m)), (2, .int (nI n))]) (st2 := [.int 0]) (w3 := w) rfl rfl ?_
        refine sx_RP.ret (r := (some (.int 0))) rfl rfl ?_
        exact ⟨Or.inl rfl, rfl⟩
      · replace q2 := of_decide_eq_false q2
        refine sx_RP.step (pc2 := 17) (ls2 := [(0, .ref 96), (1, .int (nI m)), (2, .int (nI n))]) (st2 := [.ref 96]) (w3 := w) rfl rfl ?_
        refine sx_RP.gt (k := 5) hI rfl rfl (by decide) (show _ = 20 from rfl) ?_
        refine sx_RP.step (pc2 := 21) (ls2 := [(0, .ref 96), (1, .int (nI m)), (2, .int (nI n))]) (st2 := [.int (nI n), .int (fi w 96 5)]) (w3 := w) rfl rfl ?_
        refine sx_RP.br (p1 := 28) (l1 := [(0, .ref 96), (1, .int (nI m)), (2, .int (nI n))]) (s1 := []) (v1 := w) (p2 := 24) (l2 := [(0, .ref 96), (1, .int (nI m)), (2, .int (nI n))]) (s2 := []) (v2 := w) rfl rfl (fun q3 => ?_) (fun q3 => ?_)
        · replace q3 := of_decide_eq_true q3
          refine sx_RP.step (pc2 := 29) (ls2 := [(0, .ref 96), (1, .int (nI m)), (2, .int (nI n))]) (st2 := [.int 0]) (w3 := w) rfl rfl ?_
          refine sx_RP.ret (r := (some (.int 0))) rfl rfl ?_
          exact ⟨Or.inl rfl, rfl⟩
        · replace q3 := of_decide_eq_false q3
          refine sx_RP.step (pc2 := 25) (ls2 := [(0, .ref 96), (1, .int (nI m)), (2, .int (nI n))]) (st2 := [.int 1]) (w3 := w) rfl rfl ?_
          refine sx_RP.step (pc2 := 29) (ls2 := [(0, .ref 96), (1, .int (nI m)), (2, .int (nI n))]) (st2 := [.int 1]) (w3 := w) rfl rfl ?_
          refine sx_RP.ret (r := (some (.int 1))) rfl rfl ?_
          exact ⟨Or.inr ⟨val_of hm hn q2 q3, rfl⟩, rfl⟩
  obtain ⟨r, w2, h1, h2, rfl⟩ := h
  rcases h2 with rfl | ⟨hc, rfl⟩
  · exact Or.inl h1
  · exact Or.inr ⟨hc, h1⟩
set_option maxRecDepth 20000 in
set_option maxHeartbeats 4000000 in
theorem p101B {xs : Option (List Int32)} {d : Nat} {w : List sx_C} {k : UInt32} {n : Nat} (hk : 100 ≤ k.toNat ∧ k.toNat < 120) (en : sx_sn.getD (k.toNat - 100) 0 = n) (hn : n ≤ 7) {p : Nat} (ep : fi w 96 3 = nI p) (hp : p + n ≤ 120) (hI : WI w) {j : Nat} (hj : j ≤ 7) (kk : j + 1 ≤ 7 → sx_RP xs d 101 28 [(0, .ref 96), (1, .float k), (2, .int (nI (j + 1)))] [] w (fun r w2 => (∃ j, j ≤ 1 ∧ r = some (.int (nI j))) ∧ w2 = w)) : sx_RP xs d 101 28 [(0, .ref 96), (1, .float k), (2, .int (nI j))] [] w (fun r w2 => (∃ j, j ≤ 1 ∧ r = some (.int (nI j))) ∧ w2 = w) := by
  refine sx_RP.step (pc2 := 29) (ls2 := [(0, .ref 96), (1, .float k), (2, .int (nI j))]) (st2 := [.int (nI j)]) (w3 := w) rfl rfl ?_
  refine sx_RP.step (pc2 := 30) (ls2 := [(0, .ref 96), (1, .float k), (2, .int (nI j))]) (st2 := [.float k, .int (nI j)]) (w3 := w) rfl rfl ?_
  refine sx_RP.slen (n := n) hk en rfl rfl rfl (show _ = 33 from rfl) ?_
  refine sx_RP.br (p1 := 63) (l1 := [(0, .ref 96), (1, .float k), (2, .int (nI j))]) (s1 := []) (v1 := w) (p2 := 36) (l2 := [(0, .ref 96), (1, .float k), (2, .int (nI j))]) (s2 := []) (v2 := w) rfl rfl (fun q1 => ?_) (fun q1 => ?_)
  · replace q1 := of_decide_eq_true q1
    replace q1 := (nI_leI (a := n) (b := j) (by omega) (by omega)).mp q1
    refine sx_RP.step (pc2 := 64) (ls2 := [(0, .ref 96), (1, .float k), (2, .int (nI j))]) (st2 := [.int 1]) (w3 := w) rfl rfl ?_
    refine sx_RP.ret (r := (some (.int 1))) rfl rfl ?_
    exact ⟨⟨1, by decide, rfl⟩, rfl⟩
  · replace q1 := of_decide_eq_false q1
    replace q1 := mt (nI_leI (a := n) (b := j) (by omega) (by omega)).mpr q1
    refine sx_RP.step (pc2 := 37) (ls2 := [(0, .ref 96), (1, .float k), (2, .int (nI j))]) (st2 := [.ref 96]) (w3 := w) rfl rfl ?_
    refine sx_RP.gf (v := .ref 97) rfl rfl hI.1.o96 rfl rfl (show _ = 40 from rfl) ?_
    refine sx_RP.step (pc2 := 41) (ls2 := [(0, .ref 96), (1, .float k), (2, .int (nI j))]) (st2 := [.ref 96, .ref 97]) (w3 := w) rfl rfl ?_
    refine sx_RP.gt (k := 3) hI rfl rfl (by decide) (show _ = 44 from rfl) ?_
    rw [ep]
    refine sx_RP.step (pc2 := 45) (ls2 := [(0, .ref 96), (1, .float k), (2, .int (nI j))]) (st2 := [.int (nI j), .int (nI p), .ref 97]) (w3 := w) rfl rfl ?_
    refine sx_RP.step (pc2 := 46) (ls2 := [(0, .ref 96), (1, .float k), (2, .int (nI j))]) (st2 := [.int ((nI p) + (nI j)), .ref 97]) (w3 := w) rfl rfl ?_
    rw [show ((nI p) + (nI j) : Int32) = nI (p + j) from nI_add p j]
    refine sx_RP.bld2 (c := (p + j)) rfl hI.1.a97.1 hI.1.a97.2 (sx_in_nI (show (p + j) < 120 by omega) (by decide)) (show (nI (p + j)).toNatClampNeg = (p + j) from nI_clamp (by omega)) (show _ = 47 from rfl) ?_
    refine sx_RP.step (pc2 := 48) (ls2 := [(0, .ref 96), (1, .float k), (2, .int (nI j))]) (st2 := [.float k, .int ((ia w 97).getD (p + j) 0)]) (w3 := w) rfl rfl ?_
    refine sx_RP.step (pc2 := 49) (ls2 := [(0, .ref 96), (1, .float k), (2, .int (nI j))]) (st2 := [.int (nI j), .float k, .int ((ia w 97).getD (p + j) 0)]) (w3 := w) rfl rfl ?_
    refine sx_RP.schr (n := n) (x := j) hk en hn (show j < n by omega) rfl rfl rfl (show _ = 52 from rfl) ?_
    refine sx_RP.br (p1 := 57) (l1 := [(0, .ref 96), (1, .float k), (2, .int (nI j))]) (s1 := []) (v1 := w) (p2 := 55) (l2 := [(0, .ref 96), (1, .float k), (2, .int (nI j))]) (s2 := []) (v2 := w) rfl rfl (fun q2 => ?_) (fun q2 => ?_)
    · replace q2 := of_decide_eq_true q2
      refine sx_RP.step (pc2 := 60) (ls2 := [(2, .int ((nI j) + 1)), (0, .ref 96), (1, .float k)]) (st2 := []) (w3 := w) rfl rfl ?_
      rw [nI_1 j]
      refine sx_RP.step (pc2 := 28) (ls2 := [(2, .int (nI (j + 1))), (0, .ref 96), (1, .float k)]) (st2 := []) (w3 := w) rfl rfl ?_
      exact sx_RP.ls (sx_lr.cons rfl (sx_lr.cons rfl (sx_lr.cons rfl sx_lr.nil))) (kk (by omega))
    · replace q2 := of_decide_eq_false q2
      refine sx_RP.step (pc2 := 56) (ls2 := [(0, .ref 96), (1, .float k), (2, .int (nI j))]) (st2 := [.int 0]) (w3 := w) rfl rfl ?_
      refine sx_RP.ret (r := (some (.int 0))) rfl rfl ?_
      exact ⟨⟨0, by decide, rfl⟩, rfl⟩
set_option maxRecDepth 20000 in
set_option maxHeartbeats 4000000 in
theorem p101L {xs : Option (List Int32)} {d : Nat} {w : List sx_C} {k : UInt32} {n : Nat} (hk : 100 ≤ k.toNat ∧ k.toNat < 120) (en : sx_sn.getD (k.toNat - 100) 0 = n) (hn : n ≤ 7) {p : Nat} (ep : fi w 96 3 = nI p) (hp : p + n ≤ 120) (hI : WI w) : ∀ (fz j : Nat) , 7 ≤ j + fz * 1 → j ≤ 7 → sx_RP xs d 101 28 [(0, .ref 96), (1, .float k), (2, .int (nI j))] [] w (fun r w2 => (∃ j, j ≤ 1 ∧ r = some (.int (nI j))) ∧ w2 = w)
  | 0, j, h, hj => p101B hk en hn ep hp hI hj   (fun   hlt  => absurd hlt (by omega)) 
  | fz + 1, j, h, hj => p101B hk en hn ep hp hI hj   (fun   hlt  => p101L hk en hn ep hp hI  fz (j + 1)  (by omega) hlt ) 
set_option maxRecDepth 20000 in
set_option maxHeartbeats 4000000 in
theorem p101 {xs : Option (List Int32)} {d : Nat} {w : List sx_C} (hI : WI w) {k : UInt32} {n : Nat} (hk : 100 ≤ k.toNat ∧ k.toNat < 120) (en : sx_sn.getD (k.toNat - 100) 0 = n) (hn : n ≤ 7) : ∃ j, j ≤ 1 ∧ sx_RU xs d 101 0 (lv_args 0 [.ref 96, .float k]) [] w (some (.int (nI j))) w := by
  have h : sx_RP xs d 101 0 (lv_args 0 [.ref 96, .float k]) [] w (fun r w2 => (∃ j, j ≤ 1 ∧ r = some (.int (nI j))) ∧ w2 = w) := by
    refine sx_RP.step (pc2 := 1) (ls2 := [(0, .ref 96), (1, .float k)]) (st2 := [.ref 96]) (w3 := w) rfl rfl ?_
    refine sx_RP.gt (k := 2) hI rfl rfl (by decide) (show _ = 4 from rfl) ?_
    refine sx_RP.step (pc2 := 5) (ls2 := [(0, .ref 96), (1, .float k)]) (st2 := [.int 1, .int (fi w 96 2)]) (w3 := w) rfl rfl ?_
    refine sx_RP.br (p1 := 24) (l1 := [(0, .ref 96), (1, .float k)]) (s1 := []) (v1 := w) (p2 := 8) (l2 := [(0, .ref 96), (1, .float k)]) (s2 := []) (v2 := w) rfl rfl (fun q1 => ?_) (fun q1 => ?_)
    · replace q1 := of_decide_eq_true q1
      refine sx_RP.step (pc2 := 25) (ls2 := [(0, .ref 96), (1, .float k)]) (st2 := [.int 0]) (w3 := w) rfl rfl ?_
      refine sx_RP.ret (r := (some (.int 0))) rfl rfl ?_
      exact ⟨⟨0, by decide, rfl⟩, rfl⟩
    · replace q1 := Decidable.not_not.mp (of_decide_eq_false q1)
      refine sx_RP.step (pc2 := 9) (ls2 := [(0, .ref 96), (1, .float k)]) (st2 := [.ref 96]) (w3 := w) rfl rfl ?_
      refine sx_RP.gt (k := 4) hI rfl rfl (by decide) (show _ = 12 from rfl) ?_
      obtain ⟨x2, hx3, ex4⟩ : inR (fi w 96 4) 120 := hI.t.2.2
      rw [ex4]
      refine sx_RP.step (pc2 := 13) (ls2 := [(0, .ref 96), (1, .float k)]) (st2 := [.ref 96, .int (nI x2)]) (w3 := w) rfl rfl ?_
      refine sx_RP.gt (k := 3) hI rfl rfl (by decide) (show _ = 16 from rfl) ?_
      obtain ⟨x5, hx6, ex7⟩ : inR (fi w 96 3) 120 := hI.t.2.1
      rw [ex7]
      refine sx_RP.step (pc2 := 17) (ls2 := [(0, .ref 96), (1, .float k)]) (st2 := [.int ((nI x2) - (nI x5))]) (w3 := w) rfl rfl ?_
      refine sx_RP.step (pc2 := 18) (ls2 := [(0, .ref 96), (1, .float k)]) (st2 := [.float k, .int ((nI x2) - (nI x5))]) (w3 := w) rfl rfl ?_
      refine sx_RP.slen (n := n) hk en rfl rfl rfl (show _ = 21 from rfl) ?_
      refine sx_RP.br (p1 := 26) (l1 := [(0, .ref 96), (1, .float k)]) (s1 := []) (v1 := w) (p2 := 24) (l2 := [(0, .ref 96), (1, .float k)]) (s2 := []) (v2 := w) rfl rfl (fun q8 => ?_) (fun q8 => ?_)
      · replace q8 := of_decide_eq_true q8
        replace q8 := sub_eqN (a := x2) (b := x5) (c := n) (by omega) (by omega) (by omega) q8
        refine sx_RP.step (pc2 := 27) (ls2 := [(0, .ref 96), (1, .float k)]) (st2 := [.int 0]) (w3 := w) rfl rfl ?_
        refine sx_RP.step (pc2 := 28) (ls2 := [(2, .int 0), (0, .ref 96), (1, .float k)]) (st2 := []) (w3 := w) rfl rfl ?_
        exact sx_RP.ls (sx_lr.cons rfl (sx_lr.cons rfl (sx_lr.cons rfl sx_lr.nil))) (p101L hk en hn ex7 (by omega) hI 7 0 (by omega) (by omega))
      · replace q8 := of_decide_eq_false q8
        refine sx_RP.step (pc2 := 25) (ls2 := [(0, .ref 96), (1, .float k)]) (st2 := [.int 0]) (w3 := w) rfl rfl ?_
        refine sx_RP.ret (r := (some (.int 0))) rfl rfl ?_
        exact ⟨⟨0, by decide, rfl⟩, rfl⟩
  obtain ⟨r, w2, h1, ⟨j, hj, rfl⟩, rfl⟩ := h
  exact ⟨j, hj, h1⟩
theorem p100_0 {xs : Option (List Int32)} {d : Nat} {w : List sx_C} : sx_RU xs d 100 0 (lv_args 0 [.int 0]) [] w (some (.float 102)) w := sx_RU.step rfl rfl (sx_RU.step rfl rfl (sx_RU.step rfl rfl (sx_RU.ret rfl rfl)))
theorem p100_1 {xs : Option (List Int32)} {d : Nat} {w : List sx_C} : sx_RU xs d 100 0 (lv_args 0 [.int 1]) [] w (some (.float 113)) w := sx_RU.step rfl rfl (sx_RU.step rfl rfl (sx_RU.step rfl rfl (sx_RU.ret rfl rfl)))
theorem p100_2 {xs : Option (List Int32)} {d : Nat} {w : List sx_C} : sx_RU xs d 100 0 (lv_args 0 [.int 2]) [] w (some (.float 112)) w := sx_RU.step rfl rfl (sx_RU.step rfl rfl (sx_RU.step rfl rfl (sx_RU.ret rfl rfl)))
theorem p100_3 {xs : Option (List Int32)} {d : Nat} {w : List sx_C} : sx_RU xs d 100 0 (lv_args 0 [.int 3]) [] w (some (.float 118)) w := sx_RU.step rfl rfl (sx_RU.step rfl rfl (sx_RU.step rfl rfl (sx_RU.ret rfl rfl)))
theorem p100_4 {xs : Option (List Int32)} {d : Nat} {w : List sx_C} : sx_RU xs d 100 0 (lv_args 0 [.int 4]) [] w (some (.float 117)) w := sx_RU.step rfl rfl (sx_RU.step rfl rfl (sx_RU.step rfl rfl (sx_RU.ret rfl rfl)))
theorem p106_0 {xs : Option (List Int32)} {d : Nat} {w : List sx_C} : sx_RU xs d 106 0 (lv_args 0 [.int 0]) [] w (some (.float 106)) w := sx_RU.step rfl rfl (sx_RU.step rfl rfl (sx_RU.step rfl rfl (sx_RU.ret rfl rfl)))
theorem p106_1 {xs : Option (List Int32)} {d : Nat} {w : List sx_C} : sx_RU xs d 106 0 (lv_args 0 [.int 1]) [] w (some (.float 110)) w := sx_RU.step rfl rfl (sx_RU.step rfl rfl (sx_RU.step rfl rfl (sx_RU.ret rfl rfl)))
theorem p106_2 {xs : Option (List Int32)} {d : Nat} {w : List sx_C} : sx_RU xs d 106 0 (lv_args 0 [.int 2]) [] w (some (.float 114)) w := sx_RU.step rfl rfl (sx_RU.step rfl rfl (sx_RU.step rfl rfl (sx_RU.ret rfl rfl)))
theorem p106_3 {xs : Option (List Int32)} {d : Nat} {w : List sx_C} : sx_RU xs d 106 0 (lv_args 0 [.int 3]) [] w (some (.float 107)) w := sx_RU.step rfl rfl (sx_RU.step rfl rfl (sx_RU.step rfl rfl (sx_RU.ret rfl rfl)))
theorem p106_4 {xs : Option (List Int32)} {d : Nat} {w : List sx_C} : sx_RU xs d 106 0 (lv_args 0 [.int 4]) [] w (some (.float 105)) w := sx_RU.step rfl rfl (sx_RU.step rfl rfl (sx_RU.step rfl rfl (sx_RU.ret rfl rfl)))
theorem p106_5 {xs : Option (List Int32)} {d : Nat} {w : List sx_C} : sx_RU xs d 106 0 (lv_args 0 [.int 5]) [] w (some (.float 103)) w := sx_RU.step rfl rfl (sx_RU.step rfl rfl (sx_RU.step rfl rfl (sx_RU.ret rfl rfl)))
set_option maxRecDepth 20000 in
set_option maxHeartbeats 4000000 in
theorem p99 {xs : Option (List Int32)} {d : Nat} {w : List sx_C} (hI : WI w) : sx_RU xs (d + 1) 99 0 (lv_args 0 [.ref 96]) [] w (some (.int (-1))) w ∨ ∃ j, j ≤ 4 ∧ sx_RU xs (d + 1) 99 0 (lv_args 0 [.ref 96]) [] w (some (.int (nI j))) w := by
  have h : sx_RP xs (d + 1) 99 0 (lv_args 0 [.ref 96]) [] w (fun r w2 => (r = some (.int (-1)) ∨ ∃ j, j ≤ 4 ∧ r = some (.int (nI j))) ∧ w2 = w) := by
    refine sx_RP.step (pc2 := 1) (ls2 := [(0, .ref 96)]) (st2 := [.int 0]) (w3 := w) rfl rfl ?_
    refine sx_RP.step (pc2 := 2) (ls2 := [(1, .int 0), (0, .ref 96)]) (st2 := []) (w3 := w) rfl rfl ?_
    refine sx_RP.step (pc2 := 3) (ls2 := [(1, .int 0), (0, .ref 96)]) (st2 := [.int 0]) (w3 := w) rfl rfl ?_
    refine sx_RP.step (pc2 := 4) (ls2 := [(1, .int 0), (0, .ref 96)]) (st2 := [.int 5, .int 0]) (w3 := w) rfl rfl ?_
    refine sx_RP.step (pc2 := 7) (ls2 := [(1, .int 0), (0, .ref 96)]) (st2 := []) (w3 := w) rfl rfl ?_
    refine sx_RP.step (pc2 := 8) (ls2 := [(1, .int 0), (0, .ref 96)]) (st2 := [.ref 96]) (w3 := w) rfl rfl ?_
    refine sx_RP.step (pc2 := 9) (ls2 := [(1, .int 0), (0, .ref 96)]) (st2 := [.int 0, .ref 96]) (w3 := w) rfl rfl ?_
    refine sx_RP.cu (as := [.int 0]) (rest2 := [.ref 96]) (st3 := [.float 102, .ref 96]) rfl rfl rfl rfl rfl (p100_0) rfl ?_
    obtain ⟨x1, hx2, c3⟩ := p101 (xs := xs) (k := 102) hI (by decide) rfl (by decide)
    refine sx_RP.cu (as := [.ref 96, .float 102]) (rest2 := []) (st3 := [.int (nI x1)]) rfl rfl (sx_inv_v2 (mi := 99) (k := 52) (st := [.float 102, .ref 96]) (w := w) rfl rfl hI.1.o96 rfl rfl rfl) rfl rfl (c3) rfl ?_
    refine sx_RP.br (p1 := 20) (l1 := [(1, .int 0), (0, .ref 96)]) (s1 := []) (v1 := w) (p2 := 18) (l2 := [(1, .int 0), (0, .ref 96)]) (s2 := []) (v2 := w) rfl rfl (fun q4 => ?_) (fun q4 => ?_)
    · replace q4 := of_decide_eq_true q4
      replace q4 := (nI_eq (a := x1) (b := 0) (by omega) (by omega)).mp q4
      refine sx_RP.step (pc2 := 23) (ls2 := [(1, .int 1), (0, .ref 96)]) (st2 := []) (w3 := w) rfl rfl ?_
      refine sx_RP.step (pc2 := 2) (ls2 := [(1, .int 1), (0, .ref 96)]) (st2 := []) (w3 := w) rfl rfl ?_
      refine sx_RP.step (pc2 := 3) (ls2 := [(1, .int 1), (0, .ref 96)]) (st2 := [.int 1]) (w3 := w) rfl rfl ?_
      refine sx_RP.step (pc2 := 4) (ls2 := [(1, .int 1), (0, .ref 96)]) (st2 := [.int 5, .int 1]) (w3 := w) rfl rfl ?_
      refine sx_RP.step (pc2 := 7) (ls2 := [(1, .int 1), (0, .ref 96)]) (st2 := []) (w3 := w) rfl rfl ?_
      refine sx_RP.step (pc2 := 8) (ls2 := [(1, .int 1), (0, .ref 96)]) (st2 := [.ref 96]) (w3 := w) rfl rfl ?_
      refine sx_RP.step (pc2 := 9) (ls2 := [(1, .int 1), (0, .ref 96)]) (st2 := [.int 1, .ref 96]) (w3 := w) rfl rfl ?_
      refine sx_RP.cu (as := [.int 1]) (rest2 := [.ref 96]) (st3 := [.float 113, .ref 96]) rfl rfl rfl rfl rfl (p100_1) rfl ?_
      obtain ⟨x5, hx6, c7⟩ := p101 (xs := xs) (k := 113) hI (by decide) rfl (by decide)
      refine sx_RP.cu (as := [.ref 96, .float 113]) (rest2 := []) (st3 := [.int (nI x5)]) rfl rfl (sx_inv_v2 (mi := 99) (k := 52) (st := [.float 113, .ref 96]) (w := w) rfl rfl hI.1.o96 rfl rfl rfl) rfl rfl (c7) rfl ?_
      refine sx_RP.br (p1 := 20) (l1 := [(1, .int 1), (0, .ref 96)]) (s1 := []) (v1 := w) (p2 := 18) (l2 := [(1, .int 1), (0, .ref 96)]) (s2 := []) (v2 := w) rfl rfl (fun q8 => ?_) (fun q8 => ?_)
      · replace q8 := of_decide_eq_true q8
        replace q8 := (nI_eq (a := x5) (b := 0) (by omega) (by omega)).mp q8
        refine sx_RP.step (pc2 := 23) (ls2 := [(1, .int 2), (0, .ref 96)]) (st2 := []) (w3 := w) rfl rfl ?_
        refine sx_RP.step (pc2 := 2) (ls2 := [(1, .int 2), (0, .ref 96)]) (st2 := []) (w3 := w) rfl rfl ?_
        refine sx_RP.step (pc2 := 3) (ls2 := [(1, .int 2), (0, .ref 96)]) (st2 := [.int 2]) (w3 := w) rfl rfl ?_
        refine sx_RP.step (pc2 := 4) (ls2 := [(1, .int 2), (0, .ref 96)]) (st2 := [.int 5, .int 2]) (w3 := w) rfl rfl ?_
        refine sx_RP.step (pc2 := 7) (ls2 := [(1, .int 2), (0, .ref 96)]) (st2 := []) (w3 := w) rfl rfl ?_
        refine sx_RP.step (pc2 := 8) (ls2 := [(1, .int 2), (0, .ref 96)]) (st2 := [.ref 96]) (w3 := w) rfl rfl ?_
        refine sx_RP.step (pc2 := 9) (ls2 := [(1, .int 2), (0, .ref 96)]) (st2 := [.int 2, .ref 96]) (w3 := w) rfl rfl ?_
        refine sx_RP.cu (as := [.int 2]) (rest2 := [.ref 96]) (st3 := [.float 112, .ref 96]) rfl rfl rfl rfl rfl (p100_2) rfl ?_
        obtain ⟨x9, hx10, c11⟩ := p101 (xs := xs) (k := 112) hI (by decide) rfl (by decide)
        refine sx_RP.cu (as := [.ref 96, .float 112]) (rest2 := []) (st3 := [.int (nI x9)]) rfl rfl (sx_inv_v2 (mi := 99) (k := 52) (st := [.float 112, .ref 96]) (w := w) rfl rfl hI.1.o96 rfl rfl rfl) rfl rfl (c11) rfl ?_
        refine sx_RP.br (p1 := 20) (l1 := [(1, .int 2), (0, .ref 96)]) (s1 := []) (v1 := w) (p2 := 18) (l2 := [(1, .int 2), (0, .ref 96)]) (s2 := []) (v2 := w) rfl rfl (fun q12 => ?_) (fun q12 => ?_)
        · replace q12 := of_decide_eq_true q12
          replace q12 := (nI_eq (a := x9) (b := 0) (by omega) (by omega)).mp q12
          refine sx_RP.step (pc2 := 23) (ls2 := [(1, .int 3), (0, .ref 96)]) (st2 := []) (w3 := w) rfl rfl ?_
          refine sx_RP.step (pc2 := 2) (ls2 := [(1, .int 3), (0, .ref 96)]) (st2 := []) (w3 := w) rfl rfl ?_
          refine sx_RP.step (pc2 := 3) (ls2 := [(1, .int 3), (0, .ref 96)]) (st2 := [.int 3]) (w3 := w) rfl rfl ?_
          refine sx_RP.step (pc2 := 4) (ls2 := [(1, .int 3), (0, .ref 96)]) (st2 := [.int 5, .int 3]) (w3 := w) rfl rfl ?_
          refine sx_RP.step (pc2 := 7) (ls2 := [(1, .int 3), (0, .ref 96)]) (st2 := []) (w3 := w) rfl rfl ?_
          refine sx_RP.step (pc2 := 8) (ls2 := [(1, .int 3), (0, .ref 96)]) (st2 := [.ref 96]) (w3 := w) rfl rfl ?_
          refine sx_RP.step (pc2 := 9) (ls2 := [(1, .int 3), (0, .ref 96)]) (st2 := [.int 3, .ref 96]) (w3 := w) rfl rfl ?_
          refine sx_RP.cu (as := [.int 3]) (rest2 := [.ref 96]) (st3 := [.float 118, .ref 96]) rfl rfl rfl rfl rfl (p100_3) rfl ?_
          obtain ⟨x13, hx14, c15⟩ := p101 (xs := xs) (k := 118) hI (by decide) rfl (by decide)
          refine sx_RP.cu (as := [.ref 96, .float 118]) (rest2 := []) (st3 := [.int (nI x13)]) rfl rfl (sx_inv_v2 (mi := 99) (k := 52) (st := [.float 118, .ref 96]) (w := w) rfl rfl hI.1.o96 rfl rfl rfl) rfl rfl (c15) rfl ?_
          refine sx_RP.br (p1 := 20) (l1 := [(1, .int 3), (0, .ref 96)]) (s1 := []) (v1 := w) (p2 := 18) (l2 := [(1, .int 3), (0, .ref 96)]) (s2 := []) (v2 := w) rfl rfl (fun q16 => ?_) (fun q16 => ?_)
          · replace q16 := of_decide_eq_true q16
            replace q16 := (nI_eq (a := x13) (b := 0) (by omega) (by omega)).mp q16
            refine sx_RP.step (pc2 := 23) (ls2 := [(1, .int 4), (0, .ref 96)]) (st2 := []) (w3 := w) rfl rfl ?_
            refine sx_RP.step (pc2 := 2) (ls2 := [(1, .int 4), (0, .ref 96)]) (st2 := []) (w3 := w) rfl rfl ?_
            refine sx_RP.step (pc2 := 3) (ls2 := [(1, .int 4), (0, .ref 96)]) (st2 := [.int 4]) (w3 := w) rfl rfl ?_
            refine sx_RP.step (pc2 := 4) (ls2 := [(1, .int 4), (0, .ref 96)]) (st2 := [.int 5, .int 4]) (w3 := w) rfl rfl ?_
            refine sx_RP.step (pc2 := 7) (ls2 := [(1, .int 4), (0, .ref 96)]) (st2 := []) (w3 := w) rfl rfl ?_
            refine sx_RP.step (pc2 := 8) (ls2 := [(1, .int 4), (0, .ref 96)]) (st2 := [.ref 96]) (w3 := w) rfl rfl ?_
            refine sx_RP.step (pc2 := 9) (ls2 := [(1, .int 4), (0, .ref 96)]) (st2 := [.int 4, .ref 96]) (w3 := w) rfl rfl ?_
            refine sx_RP.cu (as := [.int 4]) (rest2 := [.ref 96]) (st3 := [.float 117, .ref 96]) rfl rfl rfl rfl rfl (p100_4) rfl ?_
            obtain ⟨x17, hx18, c19⟩ := p101 (xs := xs) (k := 117) hI (by decide) rfl (by decide)
            refine sx_RP.cu (as := [.ref 96, .float 117]) (rest2 := []) (st3 := [.int (nI x17)]) rfl rfl (sx_inv_v2 (mi := 99) (k := 52) (st := [.float 117, .ref 96]) (w := w) rfl rfl hI.1.o96 rfl rfl rfl) rfl rfl (c19) rfl ?_
            refine sx_RP.br (p1 := 20) (l1 := [(1, .int 4), (0, .ref 96)]) (s1 := []) (v1 := w) (p2 := 18) (l2 := [(1, .int 4), (0, .ref 96)]) (s2 := []) (v2 := w) rfl rfl (fun q20 => ?_) (fun q20 => ?_)
            · replace q20 := of_decide_eq_true q20
              replace q20 := (nI_eq (a := x17) (b := 0) (by omega) (by omega)).mp q20
              refine sx_RP.step (pc2 := 23) (ls2 := [(1, .int 5), (0, .ref 96)]) (st2 := []) (w3 := w) rfl rfl ?_
              refine sx_RP.step (pc2 := 2) (ls2 := [(1, .int 5), (0, .ref 96)]) (st2 := []) (w3 := w) rfl rfl ?_
              refine sx_RP.step (pc2 := 3) (ls2 := [(1, .int 5), (0, .ref 96)]) (st2 := [.int 5]) (w3 := w) rfl rfl ?_
              refine sx_RP.step (pc2 := 4) (ls2 := [(1, .int 5), (0, .ref 96)]) (st2 := [.int 5, .int 5]) (w3 := w) rfl rfl ?_
              refine sx_RP.step (pc2 := 26) (ls2 := [(1, .int 5), (0, .ref 96)]) (st2 := []) (w3 := w) rfl rfl ?_
              refine sx_RP.step (pc2 := 27) (ls2 := [(1, .int 5), (0, .ref 96)]) (st2 := [.int (-1)]) (w3 := w) rfl rfl ?_
              refine sx_RP.ret (r := (some (.int (-1)))) rfl rfl ?_
              exact ⟨Or.inl rfl, rfl⟩
            · replace q20 := of_decide_eq_false q20
              replace q20 := mt (nI_eq (a := x17) (b := 0) (by omega) (by omega)).mpr q20
              refine sx_RP.step (pc2 := 19) (ls2 := [(1, .int 4), (0, .ref 96)]) (st2 := [.int 4]) (w3 := w) rfl rfl ?_
              refine sx_RP.ret (r := (some (.int 4))) rfl rfl ?_
              exact ⟨Or.inr ⟨4, by decide, rfl⟩, rfl⟩
          · replace q16 := of_decide_eq_false q16
            replace q16 := mt (nI_eq (a := x13) (b := 0) (by omega) (by omega)).mpr q16
            refine sx_RP.step (pc2 := 19) (ls2 := [(1, .int 3), (0, .ref 96)]) (st2 := [.int 3]) (w3 := w) rfl rfl ?_
            refine sx_RP.ret (r := (some (.int 3))) rfl rfl ?_
            exact ⟨Or.inr ⟨3, by decide, rfl⟩, rfl⟩
        · replace q12 := of_decide_eq_false q12
          replace q12 := mt (nI_eq (a := x9) (b := 0) (by omega) (by omega)).mpr q12
          refine sx_RP.step (pc2 := 19) (ls2 := [(1, .int 2), (0, .ref 96)]) (st2 := [.int 2]) (w3 := w) rfl rfl ?_
          refine sx_RP.ret (r := (some (.int 2))) rfl rfl ?_
          exact ⟨Or.inr ⟨2, by decide, rfl⟩, rfl⟩
      · replace q8 := of_decide_eq_false q8
        replace q8 := mt (nI_eq (a := x5) (b := 0) (by omega) (by omega)).mpr q8
        refine sx_RP.step (pc2 := 19) (ls2 := [(1, .int 1), (0, .ref 96)]) (st2 := [.int 1]) (w3 := w) rfl rfl ?_
        refine sx_RP.ret (r := (some (.int 1))) rfl rfl ?_
        exact ⟨Or.inr ⟨1, by decide, rfl⟩, rfl⟩
    · replace q4 := of_decide_eq_false q4
      replace q4 := mt (nI_eq (a := x1) (b := 0) (by omega) (by omega)).mpr q4
      refine sx_RP.step (pc2 := 19) (ls2 := [(1, .int 0), (0, .ref 96)]) (st2 := [.int 0]) (w3 := w) rfl rfl ?_
      refine sx_RP.ret (r := (some (.int 0))) rfl rfl ?_
      exact ⟨Or.inr ⟨0, by decide, rfl⟩, rfl⟩
  obtain ⟨r, w2, h1, h2, rfl⟩ := h
  rcases h2 with rfl | ⟨j, hj, rfl⟩
  · exact Or.inl h1
  · exact Or.inr ⟨j, hj, h1⟩
set_option maxRecDepth 20000 in
set_option maxHeartbeats 4000000 in
theorem p105 {xs : Option (List Int32)} {d : Nat} {w : List sx_C} (hI : WI w) : sx_RU xs (d + 1) 105 0 (lv_args 0 [.ref 96]) [] w (some (.int (-1))) w ∨ ∃ j, j ≤ 5 ∧ sx_RU xs (d + 1) 105 0 (lv_args 0 [.ref 96]) [] w (some (.int (nI j))) w := by
  have h : sx_RP xs (d + 1) 105 0 (lv_args 0 [.ref 96]) [] w (fun r w2 => (r = some (.int (-1)) ∨ ∃ j, j ≤ 5 ∧ r = some (.int (nI j))) ∧ w2 = w) := by
    refine sx_RP.step (pc2 := 1) (ls2 := [(0, .ref 96)]) (st2 := [.int 0]) (w3 := w) rfl rfl ?_
    refine sx_RP.step (pc2 := 2) (ls2 := [(1, .int 0), (0, .ref 96)]) (st2 := []) (w3 := w) rfl rfl ?_
    refine sx_RP.step (pc2 := 3) (ls2 := [(1, .int 0), (0, .ref 96)]) (st2 := [.int 0]) (w3 := w) rfl rfl ?_
    refine sx_RP.step (pc2 := 5) (ls2 := [(1, .int 0), (0, .ref 96)]) (st2 := [.int 6, .int 0]) (w3 := w) rfl rfl ?_
    refine sx_RP.step (pc2 := 8) (ls2 := [(1, .int 0), (0, .ref 96)]) (st2 := []) (w3 := w) rfl rfl ?_
    refine sx_RP.step (pc2 := 9) (ls2 := [(1, .int 0), (0, .ref 96)]) (st2 := [.ref 96]) (w3 := w) rfl rfl ?_
    refine sx_RP.step (pc2 := 10) (ls2 := [(1, .int 0), (0, .ref 96)]) (st2 := [.int 0, .ref 96]) (w3 := w) rfl rfl ?_
    refine sx_RP.cu (as := [.int 0]) (rest2 := [.ref 96]) (st3 := [.float 106, .ref 96]) rfl rfl rfl rfl rfl (p106_0) rfl ?_
    obtain ⟨x1, hx2, c3⟩ := p101 (xs := xs) (k := 106) hI (by decide) rfl (by decide)
    refine sx_RP.cu (as := [.ref 96, .float 106]) (rest2 := []) (st3 := [.int (nI x1)]) rfl rfl (sx_inv_v2 (mi := 105) (k := 52) (st := [.float 106, .ref 96]) (w := w) rfl rfl hI.1.o96 rfl rfl rfl) rfl rfl (c3) rfl ?_
    refine sx_RP.br (p1 := 21) (l1 := [(1, .int 0), (0, .ref 96)]) (s1 := []) (v1 := w) (p2 := 19) (l2 := [(1, .int 0), (0, .ref 96)]) (s2 := []) (v2 := w) rfl rfl (fun q4 => ?_) (fun q4 => ?_)
    · replace q4 := of_decide_eq_true q4
      replace q4 := (nI_eq (a := x1) (b := 0) (by omega) (by omega)).mp q4
      refine sx_RP.step (pc2 := 24) (ls2 := [(1, .int 1), (0, .ref 96)]) (st2 := []) (w3 := w) rfl rfl ?_
      refine sx_RP.step (pc2 := 2) (ls2 := [(1, .int 1), (0, .ref 96)]) (st2 := []) (w3 := w) rfl rfl ?_
      refine sx_RP.step (pc2 := 3) (ls2 := [(1, .int 1), (0, .ref 96)]) (st2 := [.int 1]) (w3 := w) rfl rfl ?_
      refine sx_RP.step (pc2 := 5) (ls2 := [(1, .int 1), (0, .ref 96)]) (st2 := [.int 6, .int 1]) (w3 := w) rfl rfl ?_
      refine sx_RP.step (pc2 := 8) (ls2 := [(1, .int 1), (0, .ref 96)]) (st2 := []) (w3 := w) rfl rfl ?_
      refine sx_RP.step (pc2 := 9) (ls2 := [(1, .int 1), (0, .ref 96)]) (st2 := [.ref 96]) (w3 := w) rfl rfl ?_
      refine sx_RP.step (pc2 := 10) (ls2 := [(1, .int 1), (0, .ref 96)]) (st2 := [.int 1, .ref 96]) (w3 := w) rfl rfl ?_
      refine sx_RP.cu (as := [.int 1]) (rest2 := [.ref 96]) (st3 := [.float 110, .ref 96]) rfl rfl rfl rfl rfl (p106_1) rfl ?_
      obtain ⟨x5, hx6, c7⟩ := p101 (xs := xs) (k := 110) hI (by decide) rfl (by decide)
      refine sx_RP.cu (as := [.ref 96, .float 110]) (rest2 := []) (st3 := [.int (nI x5)]) rfl rfl (sx_inv_v2 (mi := 105) (k := 52) (st := [.float 110, .ref 96]) (w := w) rfl rfl hI.1.o96 rfl rfl rfl) rfl rfl (c7) rfl ?_
      refine sx_RP.br (p1 := 21) (l1 := [(1, .int 1), (0, .ref 96)]) (s1 := []) (v1 := w) (p2 := 19) (l2 := [(1, .int 1), (0, .ref 96)]) (s2 := []) (v2 := w) rfl rfl (fun q8 => ?_) (fun q8 => ?_)
      · replace q8 := of_decide_eq_true q8
        replace q8 := (nI_eq (a := x5) (b := 0) (by omega) (by omega)).mp q8
        refine sx_RP.step (pc2 := 24) (ls2 := [(1, .int 2), (0, .ref 96)]) (st2 := []) (w3 := w) rfl rfl ?_
        refine sx_RP.step (pc2 := 2) (ls2 := [(1, .int 2), (0, .ref 96)]) (st2 := []) (w3 := w) rfl rfl ?_
        refine sx_RP.step (pc2 := 3) (ls2 := [(1, .int 2), (0, .ref 96)]) (st2 := [.int 2]) (w3 := w) rfl rfl ?_
        refine sx_RP.step (pc2 := 5) (ls2 := [(1, .int 2), (0, .ref 96)]) (st2 := [.int 6, .int 2]) (w3 := w) rfl rfl ?_
        refine sx_RP.step (pc2 := 8) (ls2 := [(1, .int 2), (0, .ref 96)]) (st2 := []) (w3 := w) rfl rfl ?_
        refine sx_RP.step (pc2 := 9) (ls2 := [(1, .int 2), (0, .ref 96)]) (st2 := [.ref 96]) (w3 := w) rfl rfl ?_
        refine sx_RP.step (pc2 := 10) (ls2 := [(1, .int 2), (0, .ref 96)]) (st2 := [.int 2, .ref 96]) (w3 := w) rfl rfl ?_
        refine sx_RP.cu (as := [.int 2]) (rest2 := [.ref 96]) (st3 := [.float 114, .ref 96]) rfl rfl rfl rfl rfl (p106_2) rfl ?_
        obtain ⟨x9, hx10, c11⟩ := p101 (xs := xs) (k := 114) hI (by decide) rfl (by decide)
        refine sx_RP.cu (as := [.ref 96, .float 114]) (rest2 := []) (st3 := [.int (nI x9)]) rfl rfl (sx_inv_v2 (mi := 105) (k := 52) (st := [.float 114, .ref 96]) (w := w) rfl rfl hI.1.o96 rfl rfl rfl) rfl rfl (c11) rfl ?_
        refine sx_RP.br (p1 := 21) (l1 := [(1, .int 2), (0, .ref 96)]) (s1 := []) (v1 := w) (p2 := 19) (l2 := [(1, .int 2), (0, .ref 96)]) (s2 := []) (v2 := w) rfl rfl (fun q12 => ?_) (fun q12 => ?_)
        · replace q12 := of_decide_eq_true q12
          replace q12 := (nI_eq (a := x9) (b := 0) (by omega) (by omega)).mp q12
          refine sx_RP.step (pc2 := 24) (ls2 := [(1, .int 3), (0, .ref 96)]) (st2 := []) (w3 := w) rfl rfl ?_
          refine sx_RP.step (pc2 := 2) (ls2 := [(1, .int 3), (0, .ref 96)]) (st2 := []) (w3 := w) rfl rfl ?_
          refine sx_RP.step (pc2 := 3) (ls2 := [(1, .int 3), (0, .ref 96)]) (st2 := [.int 3]) (w3 := w) rfl rfl ?_
          refine sx_RP.step (pc2 := 5) (ls2 := [(1, .int 3), (0, .ref 96)]) (st2 := [.int 6, .int 3]) (w3 := w) rfl rfl ?_
          refine sx_RP.step (pc2 := 8) (ls2 := [(1, .int 3), (0, .ref 96)]) (st2 := []) (w3 := w) rfl rfl ?_
          refine sx_RP.step (pc2 := 9) (ls2 := [(1, .int 3), (0, .ref 96)]) (st2 := [.ref 96]) (w3 := w) rfl rfl ?_
          refine sx_RP.step (pc2 := 10) (ls2 := [(1, .int 3), (0, .ref 96)]) (st2 := [.int 3, .ref 96]) (w3 := w) rfl rfl ?_
          refine sx_RP.cu (as := [.int 3]) (rest2 := [.ref 96]) (st3 := [.float 107, .ref 96]) rfl rfl rfl rfl rfl (p106_3) rfl ?_
          obtain ⟨x13, hx14, c15⟩ := p101 (xs := xs) (k := 107) hI (by decide) rfl (by decide)
          refine sx_RP.cu (as := [.ref 96, .float 107]) (rest2 := []) (st3 := [.int (nI x13)]) rfl rfl (sx_inv_v2 (mi := 105) (k := 52) (st := [.float 107, .ref 96]) (w := w) rfl rfl hI.1.o96 rfl rfl rfl) rfl rfl (c15) rfl ?_
          refine sx_RP.br (p1 := 21) (l1 := [(1, .int 3), (0, .ref 96)]) (s1 := []) (v1 := w) (p2 := 19) (l2 := [(1, .int 3), (0, .ref 96)]) (s2 := []) (v2 := w) rfl rfl (fun q16 => ?_) (fun q16 => ?_)
          · replace q16 := of_decide_eq_true q16
            replace q16 := (nI_eq (a := x13) (b := 0) (by omega) (by omega)).mp q16
            refine sx_RP.step (pc2 := 24) (ls2 := [(1, .int 4), (0, .ref 96)]) (st2 := []) (w3 := w) rfl rfl ?_
            refine sx_RP.step (pc2 := 2) (ls2 := [(1, .int 4), (0, .ref 96)]) (st2 := []) (w3 := w) rfl rfl ?_
            refine sx_RP.step (pc2 := 3) (ls2 := [(1, .int 4), (0, .ref 96)]) (st2 := [.int 4]) (w3 := w) rfl rfl ?_
            refine sx_RP.step (pc2 := 5) (ls2 := [(1, .int 4), (0, .ref 96)]) (st2 := [.int 6, .int 4]) (w3 := w) rfl rfl ?_
            refine sx_RP.step (pc2 := 8) (ls2 := [(1, .int 4), (0, .ref 96)]) (st2 := []) (w3 := w) rfl rfl ?_
            refine sx_RP.step (pc2 := 9) (ls2 := [(1, .int 4), (0, .ref 96)]) (st2 := [.ref 96]) (w3 := w) rfl rfl ?_
            refine sx_RP.step (pc2 := 10) (ls2 := [(1, .int 4), (0, .ref 96)]) (st2 := [.int 4, .ref 96]) (w3 := w) rfl rfl ?_
            refine sx_RP.cu (as := [.int 4]) (rest2 := [.ref 96]) (st3 := [.float 105, .ref 96]) rfl rfl rfl rfl rfl (p106_4) rfl ?_
            obtain ⟨x17, hx18, c19⟩ := p101 (xs := xs) (k := 105) hI (by decide) rfl (by decide)
            refine sx_RP.cu (as := [.ref 96, .float 105]) (rest2 := []) (st3 := [.int (nI x17)]) rfl rfl (sx_inv_v2 (mi := 105) (k := 52) (st := [.float 105, .ref 96]) (w := w) rfl rfl hI.1.o96 rfl rfl rfl) rfl rfl (c19) rfl ?_
            refine sx_RP.br (p1 := 21) (l1 := [(1, .int 4), (0, .ref 96)]) (s1 := []) (v1 := w) (p2 := 19) (l2 := [(1, .int 4), (0, .ref 96)]) (s2 := []) (v2 := w) rfl rfl (fun q20 => ?_) (fun q20 => ?_)
            · replace q20 := of_decide_eq_true q20
              replace q20 := (nI_eq (a := x17) (b := 0) (by omega) (by omega)).mp q20
              refine sx_RP.step (pc2 := 24) (ls2 := [(1, .int 5), (0, .ref 96)]) (st2 := []) (w3 := w) rfl rfl ?_
              refine sx_RP.step (pc2 := 2) (ls2 := [(1, .int 5), (0, .ref 96)]) (st2 := []) (w3 := w) rfl rfl ?_
              refine sx_RP.step (pc2 := 3) (ls2 := [(1, .int 5), (0, .ref 96)]) (st2 := [.int 5]) (w3 := w) rfl rfl ?_
              refine sx_RP.step (pc2 := 5) (ls2 := [(1, .int 5), (0, .ref 96)]) (st2 := [.int 6, .int 5]) (w3 := w) rfl rfl ?_
              refine sx_RP.step (pc2 := 8) (ls2 := [(1, .int 5), (0, .ref 96)]) (st2 := []) (w3 := w) rfl rfl ?_
              refine sx_RP.step (pc2 := 9) (ls2 := [(1, .int 5), (0, .ref 96)]) (st2 := [.ref 96]) (w3 := w) rfl rfl ?_
              refine sx_RP.step (pc2 := 10) (ls2 := [(1, .int 5), (0, .ref 96)]) (st2 := [.int 5, .ref 96]) (w3 := w) rfl rfl ?_
              refine sx_RP.cu (as := [.int 5]) (rest2 := [.ref 96]) (st3 := [.float 103, .ref 96]) rfl rfl rfl rfl rfl (p106_5) rfl ?_
              obtain ⟨x21, hx22, c23⟩ := p101 (xs := xs) (k := 103) hI (by decide) rfl (by decide)
              refine sx_RP.cu (as := [.ref 96, .float 103]) (rest2 := []) (st3 := [.int (nI x21)]) rfl rfl (sx_inv_v2 (mi := 105) (k := 52) (st := [.float 103, .ref 96]) (w := w) rfl rfl hI.1.o96 rfl rfl rfl) rfl rfl (c23) rfl ?_
              refine sx_RP.br (p1 := 21) (l1 := [(1, .int 5), (0, .ref 96)]) (s1 := []) (v1 := w) (p2 := 19) (l2 := [(1, .int 5), (0, .ref 96)]) (s2 := []) (v2 := w) rfl rfl (fun q24 => ?_) (fun q24 => ?_)
              · replace q24 := of_decide_eq_true q24
                replace q24 := (nI_eq (a := x21) (b := 0) (by omega) (by omega)).mp q24
                refine sx_RP.step (pc2 := 24) (ls2 := [(1, .int 6), (0, .ref 96)]) (st2 := []) (w3 := w) rfl rfl ?_
                refine sx_RP.step (pc2 := 2) (ls2 := [(1, .int 6), (0, .ref 96)]) (st2 := []) (w3 := w) rfl rfl ?_
                refine sx_RP.step (pc2 := 3) (ls2 := [(1, .int 6), (0, .ref 96)]) (st2 := [.int 6]) (w3 := w) rfl rfl ?_
                refine sx_RP.step (pc2 := 5) (ls2 := [(1, .int 6), (0, .ref 96)]) (st2 := [.int 6, .int 6]) (w3 := w) rfl rfl ?_
                refine sx_RP.step (pc2 := 27) (ls2 := [(1, .int 6), (0, .ref 96)]) (st2 := []) (w3 := w) rfl rfl ?_
                refine sx_RP.step (pc2 := 28) (ls2 := [(1, .int 6), (0, .ref 96)]) (st2 := [.int (-1)]) (w3 := w) rfl rfl ?_
                refine sx_RP.ret (r := (some (.int (-1)))) rfl rfl ?_
                exact ⟨Or.inl rfl, rfl⟩
              · replace q24 := of_decide_eq_false q24
                replace q24 := mt (nI_eq (a := x21) (b := 0) (by omega) (by omega)).mpr q24
                refine sx_RP.step (pc2 := 20) (ls2 := [(1, .int 5), (0, .ref 96)]) (st2 := [.int 5]) (w3 := w) rfl rfl ?_
                refine sx_RP.ret (r := (some (.int 5))) rfl rfl ?_
                exact ⟨Or.inr ⟨5, by decide, rfl⟩, rfl⟩
            · replace q20 := of_decide_eq_false q20
              replace q20 := mt (nI_eq (a := x17) (b := 0) (by omega) (by omega)).mpr q20
              refine sx_RP.step (pc2 := 20) (ls2 := [(1, .int 4), (0, .ref 96)]) (st2 := [.int 4]) (w3 := w) rfl rfl ?_
              refine sx_RP.ret (r := (some (.int 4))) rfl rfl ?_
              exact ⟨Or.inr ⟨4, by decide, rfl⟩, rfl⟩
          · replace q16 := of_decide_eq_false q16
            replace q16 := mt (nI_eq (a := x13) (b := 0) (by omega) (by omega)).mpr q16
            refine sx_RP.step (pc2 := 20) (ls2 := [(1, .int 3), (0, .ref 96)]) (st2 := [.int 3]) (w3 := w) rfl rfl ?_
            refine sx_RP.ret (r := (some (.int 3))) rfl rfl ?_
            exact ⟨Or.inr ⟨3, by decide, rfl⟩, rfl⟩
        · replace q12 := of_decide_eq_false q12
          replace q12 := mt (nI_eq (a := x9) (b := 0) (by omega) (by omega)).mpr q12
          refine sx_RP.step (pc2 := 20) (ls2 := [(1, .int 2), (0, .ref 96)]) (st2 := [.int 2]) (w3 := w) rfl rfl ?_
          refine sx_RP.ret (r := (some (.int 2))) rfl rfl ?_
          exact ⟨Or.inr ⟨2, by decide, rfl⟩, rfl⟩
      · replace q8 := of_decide_eq_false q8
        replace q8 := mt (nI_eq (a := x5) (b := 0) (by omega) (by omega)).mpr q8
        refine sx_RP.step (pc2 := 20) (ls2 := [(1, .int 1), (0, .ref 96)]) (st2 := [.int 1]) (w3 := w) rfl rfl ?_
        refine sx_RP.ret (r := (some (.int 1))) rfl rfl ?_
        exact ⟨Or.inr ⟨1, by decide, rfl⟩, rfl⟩
    · replace q4 := of_decide_eq_false q4
      replace q4 := mt (nI_eq (a := x1) (b := 0) (by omega) (by omega)).mpr q4
      refine sx_RP.step (pc2 := 20) (ls2 := [(1, .int 0), (0, .ref 96)]) (st2 := [.int 0]) (w3 := w) rfl rfl ?_
      refine sx_RP.ret (r := (some (.int 0))) rfl rfl ?_
      exact ⟨Or.inr ⟨0, by decide, rfl⟩, rfl⟩
  obtain ⟨r, w2, h1, h2, rfl⟩ := h
  rcases h2 with rfl | ⟨j, hj, rfl⟩
  · exact Or.inl h1
  · exact Or.inr ⟨j, hj, h1⟩
