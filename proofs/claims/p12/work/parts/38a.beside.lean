-- beside, the least beside, the spreading
set_option maxRecDepth 20000 in
set_option maxHeartbeats 4000000 in
theorem cb_20_0 {xs : Option (List Int32)} {d : Nat} {w : List sx_C} {c : Nat} (hc : c < 48) : sx_RU xs d 20 0 (lv_args 0 [.int (nI c), .int (nI 0)]) [] w (some (.int (bsd c 0))) w := by
  have h : sx_RP xs d 20 0 (lv_args 0 [.int (nI c), .int (nI 0)]) [] w (fun r w2 => r = (some (.int (bsd c 0))) ∧ w2 = w) := by
    refine sx_RP.step (pc2 := 1) (ls2 := [(0, .int (nI c)), (1, .int (nI 0))]) (st2 := [.int (nI c)]) (w3 := w) rfl rfl ?_
    refine sx_RP.step (pc2 := 3) (ls2 := [(0, .int (nI c)), (1, .int (nI 0))]) (st2 := [.int 8, .int (nI c)]) (w3 := w) rfl rfl ?_
    refine sx_RP.step (pc2 := 4) (ls2 := [(0, .int (nI c)), (1, .int (nI 0))]) (st2 := [.int ((nI c) - (nI c) / 8 * 8)]) (w3 := w) rfl rfl ?_
    refine sx_RP.step (pc2 := 5) (ls2 := [(2, .int ((nI c) - (nI c) / 8 * 8)), (0, .int (nI c)), (1, .int (nI 0))]) (st2 := []) (w3 := w) rfl rfl ?_
    refine sx_RP.step (pc2 := 6) (ls2 := [(2, .int ((nI c) - (nI c) / 8 * 8)), (0, .int (nI c)), (1, .int (nI 0))]) (st2 := [.int (nI 0)]) (w3 := w) rfl rfl ?_
    refine sx_RP.step (pc2 := 36) (ls2 := [(2, .int ((nI c) - (nI c) / 8 * 8)), (0, .int (nI c)), (1, .int (nI 0))]) (st2 := []) (w3 := w) rfl rfl ?_
    refine sx_RP.step (pc2 := 37) (ls2 := [(2, .int ((nI c) - (nI c) / 8 * 8)), (0, .int (nI c)), (1, .int (nI 0))]) (st2 := [.int (nI c)]) (w3 := w) rfl rfl ?_
    refine sx_RP.step (pc2 := 39) (ls2 := [(2, .int ((nI c) - (nI c) / 8 * 8)), (0, .int (nI c)), (1, .int (nI 0))]) (st2 := [.int 8, .int (nI c)]) (w3 := w) rfl rfl ?_
    refine sx_RP.br (p1 := 49) (l1 := [(2, .int ((nI c) - (nI c) / 8 * 8)), (0, .int (nI c)), (1, .int (nI 0))]) (s1 := []) (v1 := w) (p2 := 42) (l2 := [(2, .int ((nI c) - (nI c) / 8 * 8)), (0, .int (nI c)), (1, .int (nI 0))]) (s2 := []) (v2 := w) rfl rfl (fun q1 => ?_) (fun q1 => ?_)
    · replace q1 := of_decide_eq_true q1
      refine sx_RP.step (pc2 := 50) (ls2 := [(2, .int ((nI c) - (nI c) / 8 * 8)), (0, .int (nI c)), (1, .int (nI 0))]) (st2 := [.int (-1)]) (w3 := w) rfl rfl ?_
      refine sx_RP.ret (r := (some (.int (-1)))) rfl rfl ?_
      exact ⟨congrArg (fun z => some (Value.int z)) (show _ = (if nI c < 8 then -1 else nI c - 8) from by rw [if_pos q1]), rfl⟩
    · replace q1 := of_decide_eq_false q1
      refine sx_RP.step (pc2 := 43) (ls2 := [(2, .int ((nI c) - (nI c) / 8 * 8)), (0, .int (nI c)), (1, .int (nI 0))]) (st2 := [.int (nI c)]) (w3 := w) rfl rfl ?_
      refine sx_RP.step (pc2 := 45) (ls2 := [(2, .int ((nI c) - (nI c) / 8 * 8)), (0, .int (nI c)), (1, .int (nI 0))]) (st2 := [.int 8, .int (nI c)]) (w3 := w) rfl rfl ?_
      refine sx_RP.step (pc2 := 46) (ls2 := [(2, .int ((nI c) - (nI c) / 8 * 8)), (0, .int (nI c)), (1, .int (nI 0))]) (st2 := [.int ((nI c) - 8)]) (w3 := w) rfl rfl ?_
      refine sx_RP.step (pc2 := 50) (ls2 := [(2, .int ((nI c) - (nI c) / 8 * 8)), (0, .int (nI c)), (1, .int (nI 0))]) (st2 := [.int ((nI c) - 8)]) (w3 := w) rfl rfl ?_
      refine sx_RP.ret (r := (some (.int ((nI c) - 8)))) rfl rfl ?_
      exact ⟨congrArg (fun z => some (Value.int z)) (show _ = (if nI c < 8 then -1 else nI c - 8) from by rw [if_neg q1]), rfl⟩
  obtain ⟨r, w2, h1, rfl, rfl⟩ := h
  exact h1
set_option maxRecDepth 20000 in
set_option maxHeartbeats 4000000 in
theorem cb_20_1 {xs : Option (List Int32)} {d : Nat} {w : List sx_C} {c : Nat} (hc : c < 48) : sx_RU xs d 20 0 (lv_args 0 [.int (nI c), .int (nI 1)]) [] w (some (.int (bsd c 1))) w := by
  have h : sx_RP xs d 20 0 (lv_args 0 [.int (nI c), .int (nI 1)]) [] w (fun r w2 => r = (some (.int (bsd c 1))) ∧ w2 = w) := by
    refine sx_RP.step (pc2 := 1) (ls2 := [(0, .int (nI c)), (1, .int (nI 1))]) (st2 := [.int (nI c)]) (w3 := w) rfl rfl ?_
    refine sx_RP.step (pc2 := 3) (ls2 := [(0, .int (nI c)), (1, .int (nI 1))]) (st2 := [.int 8, .int (nI c)]) (w3 := w) rfl rfl ?_
    refine sx_RP.step (pc2 := 4) (ls2 := [(0, .int (nI c)), (1, .int (nI 1))]) (st2 := [.int ((nI c) - (nI c) / 8 * 8)]) (w3 := w) rfl rfl ?_
    refine sx_RP.step (pc2 := 5) (ls2 := [(2, .int ((nI c) - (nI c) / 8 * 8)), (0, .int (nI c)), (1, .int (nI 1))]) (st2 := []) (w3 := w) rfl rfl ?_
    refine sx_RP.step (pc2 := 6) (ls2 := [(2, .int ((nI c) - (nI c) / 8 * 8)), (0, .int (nI c)), (1, .int (nI 1))]) (st2 := [.int (nI 1)]) (w3 := w) rfl rfl ?_
    refine sx_RP.step (pc2 := 51) (ls2 := [(2, .int ((nI c) - (nI c) / 8 * 8)), (0, .int (nI c)), (1, .int (nI 1))]) (st2 := []) (w3 := w) rfl rfl ?_
    refine sx_RP.step (pc2 := 52) (ls2 := [(2, .int ((nI c) - (nI c) / 8 * 8)), (0, .int (nI c)), (1, .int (nI 1))]) (st2 := [.int ((nI c) - (nI c) / 8 * 8)]) (w3 := w) rfl rfl ?_
    refine sx_RP.step (pc2 := 54) (ls2 := [(2, .int ((nI c) - (nI c) / 8 * 8)), (0, .int (nI c)), (1, .int (nI 1))]) (st2 := [.int 7, .int ((nI c) - (nI c) / 8 * 8)]) (w3 := w) rfl rfl ?_
    refine sx_RP.br (p1 := 63) (l1 := [(2, .int ((nI c) - (nI c) / 8 * 8)), (0, .int (nI c)), (1, .int (nI 1))]) (s1 := []) (v1 := w) (p2 := 57) (l2 := [(2, .int ((nI c) - (nI c) / 8 * 8)), (0, .int (nI c)), (1, .int (nI 1))]) (s2 := []) (v2 := w) rfl rfl (fun q1 => ?_) (fun q1 => ?_)
    · replace q1 := of_decide_eq_true q1
      refine sx_RP.step (pc2 := 64) (ls2 := [(2, .int ((nI c) - (nI c) / 8 * 8)), (0, .int (nI c)), (1, .int (nI 1))]) (st2 := [.int (-1)]) (w3 := w) rfl rfl ?_
      refine sx_RP.ret (r := (some (.int (-1)))) rfl rfl ?_
      exact ⟨congrArg (fun z => some (Value.int z)) (show _ = (if 7 ≤ nI c - nI c / 8 * 8 then -1 else nI c + 1) from by rw [if_pos q1]), rfl⟩
    · replace q1 := of_decide_eq_false q1
      refine sx_RP.step (pc2 := 58) (ls2 := [(2, .int ((nI c) - (nI c) / 8 * 8)), (0, .int (nI c)), (1, .int (nI 1))]) (st2 := [.int (nI c)]) (w3 := w) rfl rfl ?_
      refine sx_RP.step (pc2 := 59) (ls2 := [(2, .int ((nI c) - (nI c) / 8 * 8)), (0, .int (nI c)), (1, .int (nI 1))]) (st2 := [.int 1, .int (nI c)]) (w3 := w) rfl rfl ?_
      refine sx_RP.step (pc2 := 60) (ls2 := [(2, .int ((nI c) - (nI c) / 8 * 8)), (0, .int (nI c)), (1, .int (nI 1))]) (st2 := [.int ((nI c) + 1)]) (w3 := w) rfl rfl ?_
      refine sx_RP.step (pc2 := 64) (ls2 := [(2, .int ((nI c) - (nI c) / 8 * 8)), (0, .int (nI c)), (1, .int (nI 1))]) (st2 := [.int ((nI c) + 1)]) (w3 := w) rfl rfl ?_
      refine sx_RP.ret (r := (some (.int ((nI c) + 1)))) rfl rfl ?_
      exact ⟨congrArg (fun z => some (Value.int z)) (show _ = (if 7 ≤ nI c - nI c / 8 * 8 then -1 else nI c + 1) from by rw [if_neg q1]), rfl⟩
  obtain ⟨r, w2, h1, rfl, rfl⟩ := h
  exact h1
set_option maxRecDepth 20000 in
set_option maxHeartbeats 4000000 in
theorem cb_20_2 {xs : Option (List Int32)} {d : Nat} {w : List sx_C} {c : Nat} (hc : c < 48) : sx_RU xs d 20 0 (lv_args 0 [.int (nI c), .int (nI 2)]) [] w (some (.int (bsd c 2))) w := by
  have h : sx_RP xs d 20 0 (lv_args 0 [.int (nI c), .int (nI 2)]) [] w (fun r w2 => r = (some (.int (bsd c 2))) ∧ w2 = w) := by
    refine sx_RP.step (pc2 := 1) (ls2 := [(0, .int (nI c)), (1, .int (nI 2))]) (st2 := [.int (nI c)]) (w3 := w) rfl rfl ?_
    refine sx_RP.step (pc2 := 3) (ls2 := [(0, .int (nI c)), (1, .int (nI 2))]) (st2 := [.int 8, .int (nI c)]) (w3 := w) rfl rfl ?_
    refine sx_RP.step (pc2 := 4) (ls2 := [(0, .int (nI c)), (1, .int (nI 2))]) (st2 := [.int ((nI c) - (nI c) / 8 * 8)]) (w3 := w) rfl rfl ?_
    refine sx_RP.step (pc2 := 5) (ls2 := [(2, .int ((nI c) - (nI c) / 8 * 8)), (0, .int (nI c)), (1, .int (nI 2))]) (st2 := []) (w3 := w) rfl rfl ?_
    refine sx_RP.step (pc2 := 6) (ls2 := [(2, .int ((nI c) - (nI c) / 8 * 8)), (0, .int (nI c)), (1, .int (nI 2))]) (st2 := [.int (nI 2)]) (w3 := w) rfl rfl ?_
    refine sx_RP.step (pc2 := 65) (ls2 := [(2, .int ((nI c) - (nI c) / 8 * 8)), (0, .int (nI c)), (1, .int (nI 2))]) (st2 := []) (w3 := w) rfl rfl ?_
    refine sx_RP.step (pc2 := 66) (ls2 := [(2, .int ((nI c) - (nI c) / 8 * 8)), (0, .int (nI c)), (1, .int (nI 2))]) (st2 := [.int (nI c)]) (w3 := w) rfl rfl ?_
    refine sx_RP.step (pc2 := 68) (ls2 := [(2, .int ((nI c) - (nI c) / 8 * 8)), (0, .int (nI c)), (1, .int (nI 2))]) (st2 := [.int 40, .int (nI c)]) (w3 := w) rfl rfl ?_
    refine sx_RP.br (p1 := 78) (l1 := [(2, .int ((nI c) - (nI c) / 8 * 8)), (0, .int (nI c)), (1, .int (nI 2))]) (s1 := []) (v1 := w) (p2 := 71) (l2 := [(2, .int ((nI c) - (nI c) / 8 * 8)), (0, .int (nI c)), (1, .int (nI 2))]) (s2 := []) (v2 := w) rfl rfl (fun q1 => ?_) (fun q1 => ?_)
    · replace q1 := of_decide_eq_true q1
      refine sx_RP.step (pc2 := 79) (ls2 := [(2, .int ((nI c) - (nI c) / 8 * 8)), (0, .int (nI c)), (1, .int (nI 2))]) (st2 := [.int (-1)]) (w3 := w) rfl rfl ?_
      refine sx_RP.ret (r := (some (.int (-1)))) rfl rfl ?_
      exact ⟨congrArg (fun z => some (Value.int z)) (show _ = (if 40 ≤ nI c then -1 else nI c + 8) from by rw [if_pos q1]), rfl⟩
    · replace q1 := of_decide_eq_false q1
      refine sx_RP.step (pc2 := 72) (ls2 := [(2, .int ((nI c) - (nI c) / 8 * 8)), (0, .int (nI c)), (1, .int (nI 2))]) (st2 := [.int (nI c)]) (w3 := w) rfl rfl ?_
      refine sx_RP.step (pc2 := 74) (ls2 := [(2, .int ((nI c) - (nI c) / 8 * 8)), (0, .int (nI c)), (1, .int (nI 2))]) (st2 := [.int 8, .int (nI c)]) (w3 := w) rfl rfl ?_
      refine sx_RP.step (pc2 := 75) (ls2 := [(2, .int ((nI c) - (nI c) / 8 * 8)), (0, .int (nI c)), (1, .int (nI 2))]) (st2 := [.int ((nI c) + 8)]) (w3 := w) rfl rfl ?_
      refine sx_RP.step (pc2 := 79) (ls2 := [(2, .int ((nI c) - (nI c) / 8 * 8)), (0, .int (nI c)), (1, .int (nI 2))]) (st2 := [.int ((nI c) + 8)]) (w3 := w) rfl rfl ?_
      refine sx_RP.ret (r := (some (.int ((nI c) + 8)))) rfl rfl ?_
      exact ⟨congrArg (fun z => some (Value.int z)) (show _ = (if 40 ≤ nI c then -1 else nI c + 8) from by rw [if_neg q1]), rfl⟩
  obtain ⟨r, w2, h1, rfl, rfl⟩ := h
  exact h1
set_option maxRecDepth 20000 in
set_option maxHeartbeats 4000000 in
theorem cb_20_3 {xs : Option (List Int32)} {d : Nat} {w : List sx_C} {c : Nat} (hc : c < 48) : sx_RU xs d 20 0 (lv_args 0 [.int (nI c), .int (nI 3)]) [] w (some (.int (bsd c 3))) w := by
  have h : sx_RP xs d 20 0 (lv_args 0 [.int (nI c), .int (nI 3)]) [] w (fun r w2 => r = (some (.int (bsd c 3))) ∧ w2 = w) := by
    refine sx_RP.step (pc2 := 1) (ls2 := [(0, .int (nI c)), (1, .int (nI 3))]) (st2 := [.int (nI c)]) (w3 := w) rfl rfl ?_
    refine sx_RP.step (pc2 := 3) (ls2 := [(0, .int (nI c)), (1, .int (nI 3))]) (st2 := [.int 8, .int (nI c)]) (w3 := w) rfl rfl ?_
    refine sx_RP.step (pc2 := 4) (ls2 := [(0, .int (nI c)), (1, .int (nI 3))]) (st2 := [.int ((nI c) - (nI c) / 8 * 8)]) (w3 := w) rfl rfl ?_
    refine sx_RP.step (pc2 := 5) (ls2 := [(2, .int ((nI c) - (nI c) / 8 * 8)), (0, .int (nI c)), (1, .int (nI 3))]) (st2 := []) (w3 := w) rfl rfl ?_
    refine sx_RP.step (pc2 := 6) (ls2 := [(2, .int ((nI c) - (nI c) / 8 * 8)), (0, .int (nI c)), (1, .int (nI 3))]) (st2 := [.int (nI 3)]) (w3 := w) rfl rfl ?_
    refine sx_RP.step (pc2 := 80) (ls2 := [(2, .int ((nI c) - (nI c) / 8 * 8)), (0, .int (nI c)), (1, .int (nI 3))]) (st2 := []) (w3 := w) rfl rfl ?_
    refine sx_RP.step (pc2 := 81) (ls2 := [(2, .int ((nI c) - (nI c) / 8 * 8)), (0, .int (nI c)), (1, .int (nI 3))]) (st2 := [.int ((nI c) - (nI c) / 8 * 8)]) (w3 := w) rfl rfl ?_
    refine sx_RP.br (p1 := 90) (l1 := [(2, .int ((nI c) - (nI c) / 8 * 8)), (0, .int (nI c)), (1, .int (nI 3))]) (s1 := []) (v1 := w) (p2 := 84) (l2 := [(2, .int ((nI c) - (nI c) / 8 * 8)), (0, .int (nI c)), (1, .int (nI 3))]) (s2 := []) (v2 := w) rfl rfl (fun q1 => ?_) (fun q1 => ?_)
    · replace q1 := of_decide_eq_true q1
      refine sx_RP.step (pc2 := 91) (ls2 := [(2, .int ((nI c) - (nI c) / 8 * 8)), (0, .int (nI c)), (1, .int (nI 3))]) (st2 := [.int (-1)]) (w3 := w) rfl rfl ?_
      refine sx_RP.ret (r := (some (.int (-1)))) rfl rfl ?_
      exact ⟨congrArg (fun z => some (Value.int z)) (show _ = (if nI c - nI c / 8 * 8 ≤ 0 then -1 else nI c - 1) from by rw [if_pos q1]), rfl⟩
    · replace q1 := of_decide_eq_false q1
      refine sx_RP.step (pc2 := 85) (ls2 := [(2, .int ((nI c) - (nI c) / 8 * 8)), (0, .int (nI c)), (1, .int (nI 3))]) (st2 := [.int (nI c)]) (w3 := w) rfl rfl ?_
      refine sx_RP.step (pc2 := 86) (ls2 := [(2, .int ((nI c) - (nI c) / 8 * 8)), (0, .int (nI c)), (1, .int (nI 3))]) (st2 := [.int 1, .int (nI c)]) (w3 := w) rfl rfl ?_
      refine sx_RP.step (pc2 := 87) (ls2 := [(2, .int ((nI c) - (nI c) / 8 * 8)), (0, .int (nI c)), (1, .int (nI 3))]) (st2 := [.int ((nI c) - 1)]) (w3 := w) rfl rfl ?_
      refine sx_RP.step (pc2 := 91) (ls2 := [(2, .int ((nI c) - (nI c) / 8 * 8)), (0, .int (nI c)), (1, .int (nI 3))]) (st2 := [.int ((nI c) - 1)]) (w3 := w) rfl rfl ?_
      refine sx_RP.ret (r := (some (.int ((nI c) - 1)))) rfl rfl ?_
      exact ⟨congrArg (fun z => some (Value.int z)) (show _ = (if nI c - nI c / 8 * 8 ≤ 0 then -1 else nI c - 1) from by rw [if_neg q1]), rfl⟩
  obtain ⟨r, w2, h1, rfl, rfl⟩ := h
  exact h1
theorem cb_20 {xs : Option (List Int32)} {d : Nat} {w : List sx_C} {c : Nat} (hc : c < 48) : ∀ j, j < 4 → sx_RU xs d 20 0 (lv_args 0 [.int (nI c), .int (nI j)]) [] w (some (.int (bsd c j))) w
  | 0, _ => cb_20_0 hc
  | 1, _ => cb_20_1 hc
  | 2, _ => cb_20_2 hc
  | 3, _ => cb_20_3 hc
set_option maxRecDepth 20000 in
set_option maxHeartbeats 4000000 in
theorem cb_142_0 {xs : Option (List Int32)} {d : Nat} {w : List sx_C} {c : Nat} (hc : c < 48) : sx_RU xs d 142 0 (lv_args 0 [.int (nI c), .int (nI 0)]) [] w (some (.int (bsd c 0))) w := by
  have h : sx_RP xs d 142 0 (lv_args 0 [.int (nI c), .int (nI 0)]) [] w (fun r w2 => r = (some (.int (bsd c 0))) ∧ w2 = w) := by
    refine sx_RP.step (pc2 := 1) (ls2 := [(0, .int (nI c)), (1, .int (nI 0))]) (st2 := [.int (nI c)]) (w3 := w) rfl rfl ?_
    refine sx_RP.step (pc2 := 3) (ls2 := [(0, .int (nI c)), (1, .int (nI 0))]) (st2 := [.int 8, .int (nI c)]) (w3 := w) rfl rfl ?_
    refine sx_RP.step (pc2 := 4) (ls2 := [(0, .int (nI c)), (1, .int (nI 0))]) (st2 := [.int ((nI c) / 8)]) (w3 := w) rfl rfl ?_
    refine sx_RP.step (pc2 := 5) (ls2 := [(2, .int ((nI c) / 8)), (0, .int (nI c)), (1, .int (nI 0))]) (st2 := []) (w3 := w) rfl rfl ?_
    refine sx_RP.step (pc2 := 6) (ls2 := [(2, .int ((nI c) / 8)), (0, .int (nI c)), (1, .int (nI 0))]) (st2 := [.int (nI c)]) (w3 := w) rfl rfl ?_
    refine sx_RP.step (pc2 := 8) (ls2 := [(2, .int ((nI c) / 8)), (0, .int (nI c)), (1, .int (nI 0))]) (st2 := [.int 8, .int (nI c)]) (w3 := w) rfl rfl ?_
    refine sx_RP.step (pc2 := 9) (ls2 := [(2, .int ((nI c) / 8)), (0, .int (nI c)), (1, .int (nI 0))]) (st2 := [.int ((nI c) - (nI c) / 8 * 8)]) (w3 := w) rfl rfl ?_
    refine sx_RP.step (pc2 := 10) (ls2 := [(3, .int ((nI c) - (nI c) / 8 * 8)), (2, .int ((nI c) / 8)), (0, .int (nI c)), (1, .int (nI 0))]) (st2 := []) (w3 := w) rfl rfl ?_
    refine sx_RP.step (pc2 := 11) (ls2 := [(3, .int ((nI c) - (nI c) / 8 * 8)), (2, .int ((nI c) / 8)), (0, .int (nI c)), (1, .int (nI 0))]) (st2 := [.int (nI 0)]) (w3 := w) rfl rfl ?_
    refine sx_RP.step (pc2 := 36) (ls2 := [(3, .int ((nI c) - (nI c) / 8 * 8)), (2, .int ((nI c) / 8)), (0, .int (nI c)), (1, .int (nI 0))]) (st2 := []) (w3 := w) rfl rfl ?_
    refine sx_RP.step (pc2 := 37) (ls2 := [(3, .int ((nI c) - (nI c) / 8 * 8)), (2, .int ((nI c) / 8)), (0, .int (nI c)), (1, .int (nI 0))]) (st2 := [.int ((nI c) / 8)]) (w3 := w) rfl rfl ?_
    refine sx_RP.br (p1 := 44) (l1 := [(3, .int ((nI c) - (nI c) / 8 * 8)), (2, .int ((nI c) / 8)), (0, .int (nI c)), (1, .int (nI 0))]) (s1 := []) (v1 := w) (p2 := 40) (l2 := [(3, .int ((nI c) - (nI c) / 8 * 8)), (2, .int ((nI c) / 8)), (0, .int (nI c)), (1, .int (nI 0))]) (s2 := []) (v2 := w) rfl rfl (fun q1 => ?_) (fun q1 => ?_)
    · replace q1 := of_decide_eq_true q1
      refine sx_RP.step (pc2 := 45) (ls2 := [(3, .int ((nI c) - (nI c) / 8 * 8)), (2, .int ((nI c) / 8)), (0, .int (nI c)), (1, .int (nI 0))]) (st2 := [.int (nI c)]) (w3 := w) rfl rfl ?_
      refine sx_RP.step (pc2 := 47) (ls2 := [(3, .int ((nI c) - (nI c) / 8 * 8)), (2, .int ((nI c) / 8)), (0, .int (nI c)), (1, .int (nI 0))]) (st2 := [.int 8, .int (nI c)]) (w3 := w) rfl rfl ?_
      refine sx_RP.step (pc2 := 48) (ls2 := [(3, .int ((nI c) - (nI c) / 8 * 8)), (2, .int ((nI c) / 8)), (0, .int (nI c)), (1, .int (nI 0))]) (st2 := [.int ((nI c) - 8)]) (w3 := w) rfl rfl ?_
      refine sx_RP.ret (r := (some (.int ((nI c) - 8)))) rfl rfl ?_
      exact ⟨congrArg (fun z => some (Value.int z)) (show _ = (if nI c < 8 then -1 else nI c - 8) from by rw [if_neg (fun z => q1 ((bsd_m0 c hc).mpr z))]), rfl⟩
    · replace q1 := Decidable.not_not.mp (of_decide_eq_false q1)
      refine sx_RP.step (pc2 := 41) (ls2 := [(3, .int ((nI c) - (nI c) / 8 * 8)), (2, .int ((nI c) / 8)), (0, .int (nI c)), (1, .int (nI 0))]) (st2 := [.int (-1)]) (w3 := w) rfl rfl ?_
      refine sx_RP.step (pc2 := 48) (ls2 := [(3, .int ((nI c) - (nI c) / 8 * 8)), (2, .int ((nI c) / 8)), (0, .int (nI c)), (1, .int (nI 0))]) (st2 := [.int (-1)]) (w3 := w) rfl rfl ?_
      refine sx_RP.ret (r := (some (.int (-1)))) rfl rfl ?_
      exact ⟨congrArg (fun z => some (Value.int z)) (show _ = (if nI c < 8 then -1 else nI c - 8) from by rw [if_pos ((bsd_m0 c hc).mp q1)]), rfl⟩
  obtain ⟨r, w2, h1, rfl, rfl⟩ := h
  exact h1
set_option maxRecDepth 20000 in
set_option maxHeartbeats 4000000 in
theorem cb_142_1 {xs : Option (List Int32)} {d : Nat} {w : List sx_C} {c : Nat} (hc : c < 48) : sx_RU xs d 142 0 (lv_args 0 [.int (nI c), .int (nI 1)]) [] w (some (.int (bsd c 1))) w := by
  have h : sx_RP xs d 142 0 (lv_args 0 [.int (nI c), .int (nI 1)]) [] w (fun r w2 => r = (some (.int (bsd c 1))) ∧ w2 = w) := by
    refine sx_RP.step (pc2 := 1) (ls2 := [(0, .int (nI c)), (1, .int (nI 1))]) (st2 := [.int (nI c)]) (w3 := w) rfl rfl ?_
    refine sx_RP.step (pc2 := 3) (ls2 := [(0, .int (nI c)), (1, .int (nI 1))]) (st2 := [.int 8, .int (nI c)]) (w3 := w) rfl rfl ?_
    refine sx_RP.step (pc2 := 4) (ls2 := [(0, .int (nI c)), (1, .int (nI 1))]) (st2 := [.int ((nI c) / 8)]) (w3 := w) rfl rfl ?_
    refine sx_RP.step (pc2 := 5) (ls2 := [(2, .int ((nI c) / 8)), (0, .int (nI c)), (1, .int (nI 1))]) (st2 := []) (w3 := w) rfl rfl ?_
    refine sx_RP.step (pc2 := 6) (ls2 := [(2, .int ((nI c) / 8)), (0, .int (nI c)), (1, .int (nI 1))]) (st2 := [.int (nI c)]) (w3 := w) rfl rfl ?_
    refine sx_RP.step (pc2 := 8) (ls2 := [(2, .int ((nI c) / 8)), (0, .int (nI c)), (1, .int (nI 1))]) (st2 := [.int 8, .int (nI c)]) (w3 := w) rfl rfl ?_
    refine sx_RP.step (pc2 := 9) (ls2 := [(2, .int ((nI c) / 8)), (0, .int (nI c)), (1, .int (nI 1))]) (st2 := [.int ((nI c) - (nI c) / 8 * 8)]) (w3 := w) rfl rfl ?_
    refine sx_RP.step (pc2 := 10) (ls2 := [(3, .int ((nI c) - (nI c) / 8 * 8)), (2, .int ((nI c) / 8)), (0, .int (nI c)), (1, .int (nI 1))]) (st2 := []) (w3 := w) rfl rfl ?_
    refine sx_RP.step (pc2 := 11) (ls2 := [(3, .int ((nI c) - (nI c) / 8 * 8)), (2, .int ((nI c) / 8)), (0, .int (nI c)), (1, .int (nI 1))]) (st2 := [.int (nI 1)]) (w3 := w) rfl rfl ?_
    refine sx_RP.step (pc2 := 49) (ls2 := [(3, .int ((nI c) - (nI c) / 8 * 8)), (2, .int ((nI c) / 8)), (0, .int (nI c)), (1, .int (nI 1))]) (st2 := []) (w3 := w) rfl rfl ?_
    refine sx_RP.step (pc2 := 50) (ls2 := [(3, .int ((nI c) - (nI c) / 8 * 8)), (2, .int ((nI c) / 8)), (0, .int (nI c)), (1, .int (nI 1))]) (st2 := [.int ((nI c) - (nI c) / 8 * 8)]) (w3 := w) rfl rfl ?_
    refine sx_RP.step (pc2 := 52) (ls2 := [(3, .int ((nI c) - (nI c) / 8 * 8)), (2, .int ((nI c) / 8)), (0, .int (nI c)), (1, .int (nI 1))]) (st2 := [.int 7, .int ((nI c) - (nI c) / 8 * 8)]) (w3 := w) rfl rfl ?_
    refine sx_RP.br (p1 := 59) (l1 := [(3, .int ((nI c) - (nI c) / 8 * 8)), (2, .int ((nI c) / 8)), (0, .int (nI c)), (1, .int (nI 1))]) (s1 := []) (v1 := w) (p2 := 55) (l2 := [(3, .int ((nI c) - (nI c) / 8 * 8)), (2, .int ((nI c) / 8)), (0, .int (nI c)), (1, .int (nI 1))]) (s2 := []) (v2 := w) rfl rfl (fun q1 => ?_) (fun q1 => ?_)
    · replace q1 := of_decide_eq_true q1
      refine sx_RP.step (pc2 := 60) (ls2 := [(3, .int ((nI c) - (nI c) / 8 * 8)), (2, .int ((nI c) / 8)), (0, .int (nI c)), (1, .int (nI 1))]) (st2 := [.int (nI c)]) (w3 := w) rfl rfl ?_
      refine sx_RP.step (pc2 := 61) (ls2 := [(3, .int ((nI c) - (nI c) / 8 * 8)), (2, .int ((nI c) / 8)), (0, .int (nI c)), (1, .int (nI 1))]) (st2 := [.int 1, .int (nI c)]) (w3 := w) rfl rfl ?_
      refine sx_RP.step (pc2 := 62) (ls2 := [(3, .int ((nI c) - (nI c) / 8 * 8)), (2, .int ((nI c) / 8)), (0, .int (nI c)), (1, .int (nI 1))]) (st2 := [.int ((nI c) + 1)]) (w3 := w) rfl rfl ?_
      refine sx_RP.ret (r := (some (.int ((nI c) + 1)))) rfl rfl ?_
      exact ⟨congrArg (fun z => some (Value.int z)) (show _ = (if 7 ≤ nI c - nI c / 8 * 8 then -1 else nI c + 1) from by rw [if_neg (fun z => q1 ((bsd_m1 c hc).mpr z))]), rfl⟩
    · replace q1 := Decidable.not_not.mp (of_decide_eq_false q1)
      refine sx_RP.step (pc2 := 56) (ls2 := [(3, .int ((nI c) - (nI c) / 8 * 8)), (2, .int ((nI c) / 8)), (0, .int (nI c)), (1, .int (nI 1))]) (st2 := [.int (-1)]) (w3 := w) rfl rfl ?_
      refine sx_RP.step (pc2 := 62) (ls2 := [(3, .int ((nI c) - (nI c) / 8 * 8)), (2, .int ((nI c) / 8)), (0, .int (nI c)), (1, .int (nI 1))]) (st2 := [.int (-1)]) (w3 := w) rfl rfl ?_
      refine sx_RP.ret (r := (some (.int (-1)))) rfl rfl ?_
      exact ⟨congrArg (fun z => some (Value.int z)) (show _ = (if 7 ≤ nI c - nI c / 8 * 8 then -1 else nI c + 1) from by rw [if_pos ((bsd_m1 c hc).mp q1)]), rfl⟩
  obtain ⟨r, w2, h1, rfl, rfl⟩ := h
  exact h1
set_option maxRecDepth 20000 in
set_option maxHeartbeats 4000000 in
theorem cb_142_2 {xs : Option (List Int32)} {d : Nat} {w : List sx_C} {c : Nat} (hc : c < 48) : sx_RU xs d 142 0 (lv_args 0 [.int (nI c), .int (nI 2)]) [] w (some (.int (bsd c 2))) w := by
  have h : sx_RP xs d 142 0 (lv_args 0 [.int (nI c), .int (nI 2)]) [] w (fun r w2 => r = (some (.int (bsd c 2))) ∧ w2 = w) := by
    refine sx_RP.step (pc2 := 1) (ls2 := [(0, .int (nI c)), (1, .int (nI 2))]) (st2 := [.int (nI c)]) (w3 := w) rfl rfl ?_
    refine sx_RP.step (pc2 := 3) (ls2 := [(0, .int (nI c)), (1, .int (nI 2))]) (st2 := [.int 8, .int (nI c)]) (w3 := w) rfl rfl ?_
    refine sx_RP.step (pc2 := 4) (ls2 := [(0, .int (nI c)), (1, .int (nI 2))]) (st2 := [.int ((nI c) / 8)]) (w3 := w) rfl rfl ?_
    refine sx_RP.step (pc2 := 5) (ls2 := [(2, .int ((nI c) / 8)), (0, .int (nI c)), (1, .int (nI 2))]) (st2 := []) (w3 := w) rfl rfl ?_
    refine sx_RP.step (pc2 := 6) (ls2 := [(2, .int ((nI c) / 8)), (0, .int (nI c)), (1, .int (nI 2))]) (st2 := [.int (nI c)]) (w3 := w) rfl rfl ?_
    refine sx_RP.step (pc2 := 8) (ls2 := [(2, .int ((nI c) / 8)), (0, .int (nI c)), (1, .int (nI 2))]) (st2 := [.int 8, .int (nI c)]) (w3 := w) rfl rfl ?_
    refine sx_RP.step (pc2 := 9) (ls2 := [(2, .int ((nI c) / 8)), (0, .int (nI c)), (1, .int (nI 2))]) (st2 := [.int ((nI c) - (nI c) / 8 * 8)]) (w3 := w) rfl rfl ?_
    refine sx_RP.step (pc2 := 10) (ls2 := [(3, .int ((nI c) - (nI c) / 8 * 8)), (2, .int ((nI c) / 8)), (0, .int (nI c)), (1, .int (nI 2))]) (st2 := []) (w3 := w) rfl rfl ?_
    refine sx_RP.step (pc2 := 11) (ls2 := [(3, .int ((nI c) - (nI c) / 8 * 8)), (2, .int ((nI c) / 8)), (0, .int (nI c)), (1, .int (nI 2))]) (st2 := [.int (nI 2)]) (w3 := w) rfl rfl ?_
    refine sx_RP.step (pc2 := 63) (ls2 := [(3, .int ((nI c) - (nI c) / 8 * 8)), (2, .int ((nI c) / 8)), (0, .int (nI c)), (1, .int (nI 2))]) (st2 := []) (w3 := w) rfl rfl ?_
    refine sx_RP.step (pc2 := 64) (ls2 := [(3, .int ((nI c) - (nI c) / 8 * 8)), (2, .int ((nI c) / 8)), (0, .int (nI c)), (1, .int (nI 2))]) (st2 := [.int ((nI c) / 8)]) (w3 := w) rfl rfl ?_
    refine sx_RP.step (pc2 := 65) (ls2 := [(3, .int ((nI c) - (nI c) / 8 * 8)), (2, .int ((nI c) / 8)), (0, .int (nI c)), (1, .int (nI 2))]) (st2 := [.int 5, .int ((nI c) / 8)]) (w3 := w) rfl rfl ?_
    refine sx_RP.br (p1 := 72) (l1 := [(3, .int ((nI c) - (nI c) / 8 * 8)), (2, .int ((nI c) / 8)), (0, .int (nI c)), (1, .int (nI 2))]) (s1 := []) (v1 := w) (p2 := 68) (l2 := [(3, .int ((nI c) - (nI c) / 8 * 8)), (2, .int ((nI c) / 8)), (0, .int (nI c)), (1, .int (nI 2))]) (s2 := []) (v2 := w) rfl rfl (fun q1 => ?_) (fun q1 => ?_)
    · replace q1 := of_decide_eq_true q1
      refine sx_RP.step (pc2 := 73) (ls2 := [(3, .int ((nI c) - (nI c) / 8 * 8)), (2, .int ((nI c) / 8)), (0, .int (nI c)), (1, .int (nI 2))]) (st2 := [.int (nI c)]) (w3 := w) rfl rfl ?_
      refine sx_RP.step (pc2 := 75) (ls2 := [(3, .int ((nI c) - (nI c) / 8 * 8)), (2, .int ((nI c) / 8)), (0, .int (nI c)), (1, .int (nI 2))]) (st2 := [.int 8, .int (nI c)]) (w3 := w) rfl rfl ?_
      refine sx_RP.step (pc2 := 76) (ls2 := [(3, .int ((nI c) - (nI c) / 8 * 8)), (2, .int ((nI c) / 8)), (0, .int (nI c)), (1, .int (nI 2))]) (st2 := [.int ((nI c) + 8)]) (w3 := w) rfl rfl ?_
      refine sx_RP.ret (r := (some (.int ((nI c) + 8)))) rfl rfl ?_
      exact ⟨congrArg (fun z => some (Value.int z)) (show _ = (if 40 ≤ nI c then -1 else nI c + 8) from by rw [if_neg (fun z => q1 ((bsd_m2 c hc).mpr z))]), rfl⟩
    · replace q1 := Decidable.not_not.mp (of_decide_eq_false q1)
      refine sx_RP.step (pc2 := 69) (ls2 := [(3, .int ((nI c) - (nI c) / 8 * 8)), (2, .int ((nI c) / 8)), (0, .int (nI c)), (1, .int (nI 2))]) (st2 := [.int (-1)]) (w3 := w) rfl rfl ?_
      refine sx_RP.step (pc2 := 76) (ls2 := [(3, .int ((nI c) - (nI c) / 8 * 8)), (2, .int ((nI c) / 8)), (0, .int (nI c)), (1, .int (nI 2))]) (st2 := [.int (-1)]) (w3 := w) rfl rfl ?_
      refine sx_RP.ret (r := (some (.int (-1)))) rfl rfl ?_
      exact ⟨congrArg (fun z => some (Value.int z)) (show _ = (if 40 ≤ nI c then -1 else nI c + 8) from by rw [if_pos ((bsd_m2 c hc).mp q1)]), rfl⟩
  obtain ⟨r, w2, h1, rfl, rfl⟩ := h
  exact h1
set_option maxRecDepth 20000 in
set_option maxHeartbeats 4000000 in
theorem cb_142_3 {xs : Option (List Int32)} {d : Nat} {w : List sx_C} {c : Nat} (hc : c < 48) : sx_RU xs d 142 0 (lv_args 0 [.int (nI c), .int (nI 3)]) [] w (some (.int (bsd c 3))) w := by
  have h : sx_RP xs d 142 0 (lv_args 0 [.int (nI c), .int (nI 3)]) [] w (fun r w2 => r = (some (.int (bsd c 3))) ∧ w2 = w) := by
    refine sx_RP.step (pc2 := 1) (ls2 := [(0, .int (nI c)), (1, .int (nI 3))]) (st2 := [.int (nI c)]) (w3 := w) rfl rfl ?_
    refine sx_RP.step (pc2 := 3) (ls2 := [(0, .int (nI c)), (1, .int (nI 3))]) (st2 := [.int 8, .int (nI c)]) (w3 := w) rfl rfl ?_
    refine sx_RP.step (pc2 := 4) (ls2 := [(0, .int (nI c)), (1, .int (nI 3))]) (st2 := [.int ((nI c) / 8)]) (w3 := w) rfl rfl ?_
    refine sx_RP.step (pc2 := 5) (ls2 := [(2, .int ((nI c) / 8)), (0, .int (nI c)), (1, .int (nI 3))]) (st2 := []) (w3 := w) rfl rfl ?_
    refine sx_RP.step (pc2 := 6) (ls2 := [(2, .int ((nI c) / 8)), (0, .int (nI c)), (1, .int (nI 3))]) (st2 := [.int (nI c)]) (w3 := w) rfl rfl ?_
    refine sx_RP.step (pc2 := 8) (ls2 := [(2, .int ((nI c) / 8)), (0, .int (nI c)), (1, .int (nI 3))]) (st2 := [.int 8, .int (nI c)]) (w3 := w) rfl rfl ?_
    refine sx_RP.step (pc2 := 9) (ls2 := [(2, .int ((nI c) / 8)), (0, .int (nI c)), (1, .int (nI 3))]) (st2 := [.int ((nI c) - (nI c) / 8 * 8)]) (w3 := w) rfl rfl ?_
    refine sx_RP.step (pc2 := 10) (ls2 := [(3, .int ((nI c) - (nI c) / 8 * 8)), (2, .int ((nI c) / 8)), (0, .int (nI c)), (1, .int (nI 3))]) (st2 := []) (w3 := w) rfl rfl ?_
    refine sx_RP.step (pc2 := 11) (ls2 := [(3, .int ((nI c) - (nI c) / 8 * 8)), (2, .int ((nI c) / 8)), (0, .int (nI c)), (1, .int (nI 3))]) (st2 := [.int (nI 3)]) (w3 := w) rfl rfl ?_
    refine sx_RP.step (pc2 := 77) (ls2 := [(3, .int ((nI c) - (nI c) / 8 * 8)), (2, .int ((nI c) / 8)), (0, .int (nI c)), (1, .int (nI 3))]) (st2 := []) (w3 := w) rfl rfl ?_
    refine sx_RP.step (pc2 := 78) (ls2 := [(3, .int ((nI c) - (nI c) / 8 * 8)), (2, .int ((nI c) / 8)), (0, .int (nI c)), (1, .int (nI 3))]) (st2 := [.int ((nI c) - (nI c) / 8 * 8)]) (w3 := w) rfl rfl ?_
    refine sx_RP.br (p1 := 85) (l1 := [(3, .int ((nI c) - (nI c) / 8 * 8)), (2, .int ((nI c) / 8)), (0, .int (nI c)), (1, .int (nI 3))]) (s1 := []) (v1 := w) (p2 := 81) (l2 := [(3, .int ((nI c) - (nI c) / 8 * 8)), (2, .int ((nI c) / 8)), (0, .int (nI c)), (1, .int (nI 3))]) (s2 := []) (v2 := w) rfl rfl (fun q1 => ?_) (fun q1 => ?_)
    · replace q1 := of_decide_eq_true q1
      refine sx_RP.step (pc2 := 86) (ls2 := [(3, .int ((nI c) - (nI c) / 8 * 8)), (2, .int ((nI c) / 8)), (0, .int (nI c)), (1, .int (nI 3))]) (st2 := [.int (nI c)]) (w3 := w) rfl rfl ?_
      refine sx_RP.step (pc2 := 87) (ls2 := [(3, .int ((nI c) - (nI c) / 8 * 8)), (2, .int ((nI c) / 8)), (0, .int (nI c)), (1, .int (nI 3))]) (st2 := [.int 1, .int (nI c)]) (w3 := w) rfl rfl ?_
      refine sx_RP.step (pc2 := 88) (ls2 := [(3, .int ((nI c) - (nI c) / 8 * 8)), (2, .int ((nI c) / 8)), (0, .int (nI c)), (1, .int (nI 3))]) (st2 := [.int ((nI c) - 1)]) (w3 := w) rfl rfl ?_
      refine sx_RP.ret (r := (some (.int ((nI c) - 1)))) rfl rfl ?_
      exact ⟨congrArg (fun z => some (Value.int z)) (show _ = (if nI c - nI c / 8 * 8 ≤ 0 then -1 else nI c - 1) from by rw [if_neg (fun z => q1 ((bsd_m3 c hc).mpr z))]), rfl⟩
    · replace q1 := Decidable.not_not.mp (of_decide_eq_false q1)
      refine sx_RP.step (pc2 := 82) (ls2 := [(3, .int ((nI c) - (nI c) / 8 * 8)), (2, .int ((nI c) / 8)), (0, .int (nI c)), (1, .int (nI 3))]) (st2 := [.int (-1)]) (w3 := w) rfl rfl ?_
      refine sx_RP.step (pc2 := 88) (ls2 := [(3, .int ((nI c) - (nI c) / 8 * 8)), (2, .int ((nI c) / 8)), (0, .int (nI c)), (1, .int (nI 3))]) (st2 := [.int (-1)]) (w3 := w) rfl rfl ?_
      refine sx_RP.ret (r := (some (.int (-1)))) rfl rfl ?_
      exact ⟨congrArg (fun z => some (Value.int z)) (show _ = (if nI c - nI c / 8 * 8 ≤ 0 then -1 else nI c - 1) from by rw [if_pos ((bsd_m3 c hc).mp q1)]), rfl⟩
  obtain ⟨r, w2, h1, rfl, rfl⟩ := h
  exact h1
theorem cb_142 {xs : Option (List Int32)} {d : Nat} {w : List sx_C} {c : Nat} (hc : c < 48) : ∀ j, j < 4 → sx_RU xs d 142 0 (lv_args 0 [.int (nI c), .int (nI j)]) [] w (some (.int (bsd c j))) w
  | 0, _ => cb_142_0 hc
  | 1, _ => cb_142_1 hc
  | 2, _ => cb_142_2 hc
  | 3, _ => cb_142_3 hc
