-- safety: tests that tell something; more leaves
theorem in_casesN {a m n : Nat} (ha : a < 2 ^ 31) (hm : m < 2 ^ 31) (hn : n < 2 ^ 31) : ¬ (nI m ≤ nI a ∧ nI a ≤ nI n) ∨ (m ≤ a ∧ a ≤ n) := by
  by_cases h : m ≤ a ∧ a ≤ n
  · exact Or.inr h
  · left
    rw [nI_leI hm ha, nI_leI ha hn]
    exact h
set_option maxRecDepth 20000 in
set_option maxHeartbeats 4000000 in
theorem p27 {xs : Option (List Int32)} {d : Nat} {w : List sx_C} (hI : WI w) {A : Nat} (hA : isA A) (x : Int32) : sx_RU xs d 27 0 (lv_args 0 [.ref A, .int x]) [] w (some (.int 0)) w ∨ ((∃ j, j < 10 ∧ x = nI j) ∧ sx_RU xs d 27 0 (lv_args 0 [.ref A, .int x]) [] w (some (.int 1)) w) := by
  have h : sx_RP xs d 27 0 (lv_args 0 [.ref A, .int x]) [] w (fun r w2 => (r = some (.int 0) ∨ ((∃ j, j < 10 ∧ x = nI j) ∧ r = some (.int 1))) ∧ w2 = w) := by
    refine sx_RP.step (pc2 := 1) (ls2 := [(0, .ref A), (1, .int x)]) (st2 := [.int x]) (w3 := w) rfl rfl ?_
    refine sx_RP.br (p1 := 16) (l1 := [(0, .ref A), (1, .int x)]) (s1 := []) (v1 := w) (p2 := 4) (l2 := [(0, .ref A), (1, .int x)]) (s2 := []) (v2 := w) rfl rfl (fun q1 => ?_) (fun q1 => ?_)
    · replace q1 := of_decide_eq_true q1
      refine sx_RP.step (pc2 := 17) (ls2 := [(0, .ref A), (1, .int x)]) (st2 := [.int 0]) (w3 := w) rfl rfl ?_
      refine sx_RP.ret (r := (some (.int 0))) rfl rfl ?_
      exact ⟨Or.inl rfl, rfl⟩
    · replace q1 := of_decide_eq_false q1
      refine sx_RP.step (pc2 := 5) (ls2 := [(0, .ref A), (1, .int x)]) (st2 := [.int x]) (w3 := w) rfl rfl ?_
      refine sx_RP.step (pc2 := 6) (ls2 := [(0, .ref A), (1, .int x)]) (st2 := [.ref A, .int x]) (w3 := w) rfl rfl ?_
      refine sx_RP.gc (k := 3) hI hA rfl rfl (by omega) (show _ = 9 from rfl) ?_
      obtain ⟨x2, hx3, ex4⟩ : inR (fi w A 3) 10 := (hI.c hA).1
      rw [ex4]
      refine sx_RP.br (p1 := 16) (l1 := [(0, .ref A), (1, .int x)]) (s1 := []) (v1 := w) (p2 := 12) (l2 := [(0, .ref A), (1, .int x)]) (s2 := []) (v2 := w) rfl rfl (fun q5 => ?_) (fun q5 => ?_)
      · replace q5 := of_decide_eq_true q5
        refine sx_RP.step (pc2 := 17) (ls2 := [(0, .ref A), (1, .int x)]) (st2 := [.int 0]) (w3 := w) rfl rfl ?_
        refine sx_RP.ret (r := (some (.int 0))) rfl rfl ?_
        exact ⟨Or.inl rfl, rfl⟩
      · replace q5 := of_decide_eq_false q5
        refine sx_RP.step (pc2 := 13) (ls2 := [(0, .ref A), (1, .int x)]) (st2 := [.int 1]) (w3 := w) rfl rfl ?_
        refine sx_RP.step (pc2 := 17) (ls2 := [(0, .ref A), (1, .int x)]) (st2 := [.int 1]) (w3 := w) rfl rfl ?_
        refine sx_RP.ret (r := (some (.int 1))) rfl rfl ?_
        exact ⟨Or.inr ⟨idx_of q1 q5 (by omega) (by decide), rfl⟩, rfl⟩
  obtain ⟨r, w2, h1, h2, rfl⟩ := h
  rcases h2 with rfl | ⟨hc, rfl⟩
  · exact Or.inl h1
  · exact Or.inr ⟨hc, h1⟩
set_option maxRecDepth 20000 in
set_option maxHeartbeats 4000000 in
theorem p66 {xs : Option (List Int32)} {d : Nat} {w : List sx_C} (hI : WI w) {A : Nat} (hA : isA A) (x : Int32) : sx_RU xs d 66 0 (lv_args 0 [.ref A, .int x]) [] w (some (.int 0)) w ∨ ((∃ j, j < 9 ∧ x = nI j) ∧ sx_RU xs d 66 0 (lv_args 0 [.ref A, .int x]) [] w (some (.int 1)) w) := by
  have h : sx_RP xs d 66 0 (lv_args 0 [.ref A, .int x]) [] w (fun r w2 => (r = some (.int 0) ∨ ((∃ j, j < 9 ∧ x = nI j) ∧ r = some (.int 1))) ∧ w2 = w) := by
    refine sx_RP.step (pc2 := 1) (ls2 := [(0, .ref A), (1, .int x)]) (st2 := [.int x]) (w3 := w) rfl rfl ?_
    refine sx_RP.br (p1 := 16) (l1 := [(0, .ref A), (1, .int x)]) (s1 := []) (v1 := w) (p2 := 4) (l2 := [(0, .ref A), (1, .int x)]) (s2 := []) (v2 := w) rfl rfl (fun q1 => ?_) (fun q1 => ?_)
    · replace q1 := of_decide_eq_true q1
      refine sx_RP.step (pc2 := 17) (ls2 := [(0, .ref A), (1, .int x)]) (st2 := [.int 0]) (w3 := w) rfl rfl ?_
      refine sx_RP.ret (r := (some (.int 0))) rfl rfl ?_
      exact ⟨Or.inl rfl, rfl⟩
    · replace q1 := of_decide_eq_false q1
      refine sx_RP.step (pc2 := 5) (ls2 := [(0, .ref A), (1, .int x)]) (st2 := [.int x]) (w3 := w) rfl rfl ?_
      refine sx_RP.step (pc2 := 6) (ls2 := [(0, .ref A), (1, .int x)]) (st2 := [.ref A, .int x]) (w3 := w) rfl rfl ?_
      refine sx_RP.gc (k := 5) hI hA rfl rfl (by omega) (show _ = 9 from rfl) ?_
      obtain ⟨x2, hx3, ex4⟩ : inR (fi w A 5) 9 := (hI.c hA).2
      rw [ex4]
      refine sx_RP.br (p1 := 16) (l1 := [(0, .ref A), (1, .int x)]) (s1 := []) (v1 := w) (p2 := 12) (l2 := [(0, .ref A), (1, .int x)]) (s2 := []) (v2 := w) rfl rfl (fun q5 => ?_) (fun q5 => ?_)
      · replace q5 := of_decide_eq_true q5
        refine sx_RP.step (pc2 := 17) (ls2 := [(0, .ref A), (1, .int x)]) (st2 := [.int 0]) (w3 := w) rfl rfl ?_
        refine sx_RP.ret (r := (some (.int 0))) rfl rfl ?_
        exact ⟨Or.inl rfl, rfl⟩
      · replace q5 := of_decide_eq_false q5
        refine sx_RP.step (pc2 := 13) (ls2 := [(0, .ref A), (1, .int x)]) (st2 := [.int 1]) (w3 := w) rfl rfl ?_
        refine sx_RP.step (pc2 := 17) (ls2 := [(0, .ref A), (1, .int x)]) (st2 := [.int 1]) (w3 := w) rfl rfl ?_
        refine sx_RP.ret (r := (some (.int 1))) rfl rfl ?_
        exact ⟨Or.inr ⟨idx_of q1 q5 (by omega) (by decide), rfl⟩, rfl⟩
  obtain ⟨r, w2, h1, h2, rfl⟩ := h
  rcases h2 with rfl | ⟨hc, rfl⟩
  · exact Or.inl h1
  · exact Or.inr ⟨hc, h1⟩
set_option maxRecDepth 20000 in
set_option maxHeartbeats 4000000 in
theorem p24 {xs : Option (List Int32)} {d : Nat} {w : List sx_C} (hI : WI w) {A : Nat} (hA : isA A) : sx_RU xs d 24 0 (lv_args 0 [.ref A]) [] w (some (.int 0)) w ∨ ((∃ j, j ≤ 9 ∧ fi w A 3 = nI j) ∧ sx_RU xs d 24 0 (lv_args 0 [.ref A]) [] w (some (.int 1)) w) := by
  have h : sx_RP xs d 24 0 (lv_args 0 [.ref A]) [] w (fun r w2 => (r = some (.int 0) ∨ ((∃ j, j ≤ 9 ∧ fi w A 3 = nI j) ∧ r = some (.int 1))) ∧ w2 = w) := by
    refine sx_RP.step (pc2 := 1) (ls2 := [(0, .ref A)]) (st2 := [.ref A]) (w3 := w) rfl rfl ?_
    refine sx_RP.gc (k := 3) hI hA rfl rfl (by omega) (show _ = 4 from rfl) ?_
    obtain ⟨x1, hx2, ex3⟩ : inR (fi w A 3) 10 := (hI.c hA).1
    rw [ex3]
    refine sx_RP.step (pc2 := 6) (ls2 := [(0, .ref A)]) (st2 := [.int 10, .int (nI x1)]) (w3 := w) rfl rfl ?_
    refine sx_RP.br (p1 := 13) (l1 := [(0, .ref A)]) (s1 := []) (v1 := w) (p2 := 9) (l2 := [(0, .ref A)]) (s2 := []) (v2 := w) rfl rfl (fun q4 => ?_) (fun q4 => ?_)
    · replace q4 := of_decide_eq_true q4
      replace q4 := (nI_leI (a := 10) (b := x1) (by omega) (by omega)).mp q4
      refine sx_RP.step (pc2 := 14) (ls2 := [(0, .ref A)]) (st2 := [.int 0]) (w3 := w) rfl rfl ?_
      refine sx_RP.ret (r := (some (.int 0))) rfl rfl ?_
      exact ⟨Or.inl rfl, rfl⟩
    · replace q4 := of_decide_eq_false q4
      replace q4 := mt (nI_leI (a := 10) (b := x1) (by omega) (by omega)).mpr q4
      refine sx_RP.step (pc2 := 10) (ls2 := [(0, .ref A)]) (st2 := [.int 1]) (w3 := w) rfl rfl ?_
      refine sx_RP.step (pc2 := 14) (ls2 := [(0, .ref A)]) (st2 := [.int 1]) (w3 := w) rfl rfl ?_
      refine sx_RP.ret (r := (some (.int 1))) rfl rfl ?_
      exact ⟨Or.inr ⟨⟨x1, by omega, rfl⟩, rfl⟩, rfl⟩
  obtain ⟨r, w2, h1, h2, rfl⟩ := h
  rcases h2 with rfl | ⟨hc, rfl⟩
  · exact Or.inl h1
  · exact Or.inr ⟨hc, h1⟩
set_option maxRecDepth 20000 in
set_option maxHeartbeats 4000000 in
theorem p63 {xs : Option (List Int32)} {d : Nat} {w : List sx_C} (hI : WI w) {A : Nat} (hA : isA A) : sx_RU xs d 63 0 (lv_args 0 [.ref A]) [] w (some (.int 0)) w ∨ ((∃ j, j ≤ 8 ∧ fi w A 5 = nI j) ∧ sx_RU xs d 63 0 (lv_args 0 [.ref A]) [] w (some (.int 1)) w) := by
  have h : sx_RP xs d 63 0 (lv_args 0 [.ref A]) [] w (fun r w2 => (r = some (.int 0) ∨ ((∃ j, j ≤ 8 ∧ fi w A 5 = nI j) ∧ r = some (.int 1))) ∧ w2 = w) := by
    refine sx_RP.step (pc2 := 1) (ls2 := [(0, .ref A)]) (st2 := [.ref A]) (w3 := w) rfl rfl ?_
    refine sx_RP.gc (k := 5) hI hA rfl rfl (by omega) (show _ = 4 from rfl) ?_
    obtain ⟨x1, hx2, ex3⟩ : inR (fi w A 5) 9 := (hI.c hA).2
    rw [ex3]
    refine sx_RP.step (pc2 := 6) (ls2 := [(0, .ref A)]) (st2 := [.int 9, .int (nI x1)]) (w3 := w) rfl rfl ?_
    refine sx_RP.br (p1 := 13) (l1 := [(0, .ref A)]) (s1 := []) (v1 := w) (p2 := 9) (l2 := [(0, .ref A)]) (s2 := []) (v2 := w) rfl rfl (fun q4 => ?_) (fun q4 => ?_)
    · replace q4 := of_decide_eq_true q4
      replace q4 := (nI_leI (a := 9) (b := x1) (by omega) (by omega)).mp q4
      refine sx_RP.step (pc2 := 14) (ls2 := [(0, .ref A)]) (st2 := [.int 0]) (w3 := w) rfl rfl ?_
      refine sx_RP.ret (r := (some (.int 0))) rfl rfl ?_
      exact ⟨Or.inl rfl, rfl⟩
    · replace q4 := of_decide_eq_false q4
      replace q4 := mt (nI_leI (a := 9) (b := x1) (by omega) (by omega)).mpr q4
      refine sx_RP.step (pc2 := 10) (ls2 := [(0, .ref A)]) (st2 := [.int 1]) (w3 := w) rfl rfl ?_
      refine sx_RP.step (pc2 := 14) (ls2 := [(0, .ref A)]) (st2 := [.int 1]) (w3 := w) rfl rfl ?_
      refine sx_RP.ret (r := (some (.int 1))) rfl rfl ?_
      exact ⟨Or.inr ⟨⟨x1, by omega, rfl⟩, rfl⟩, rfl⟩
  obtain ⟨r, w2, h1, h2, rfl⟩ := h
  rcases h2 with rfl | ⟨hc, rfl⟩
  · exact Or.inl h1
  · exact Or.inr ⟨hc, h1⟩
set_option maxRecDepth 20000 in
set_option maxHeartbeats 4000000 in
theorem p31_0 {xs : Option (List Int32)} {d : Nat} {w : List sx_C} (hI : WI w) (x : Int32) : ∃ j, j ≤ 1 ∧ sx_RU xs d 31 0 (lv_args 0 [.int (nI 0), .int x]) [] w (some (.int (nI j))) w := by
  have h : sx_RP xs d 31 0 (lv_args 0 [.int (nI 0), .int x]) [] w (fun r w2 => (∃ j, j ≤ 1 ∧ r = some (.int (nI j))) ∧ w2 = w) := by
    refine sx_RP.step (pc2 := 1) (ls2 := [(0, .int (nI 0)), (1, .int x)]) (st2 := [.int (nI 0)]) (w3 := w) rfl rfl ?_
    refine sx_RP.step (pc2 := 2) (ls2 := [(2, .int (nI 0)), (0, .int (nI 0)), (1, .int x)]) (st2 := []) (w3 := w) rfl rfl ?_
    refine sx_RP.step (pc2 := 3) (ls2 := [(2, .int (nI 0)), (0, .int (nI 0)), (1, .int x)]) (st2 := [.int 0]) (w3 := w) rfl rfl ?_
    refine sx_RP.step (pc2 := 4) (ls2 := [(3, .int 0), (2, .int (nI 0)), (0, .int (nI 0)), (1, .int x)]) (st2 := []) (w3 := w) rfl rfl ?_
    refine sx_RP.step (pc2 := 5) (ls2 := [(3, .int 0), (2, .int (nI 0)), (0, .int (nI 0)), (1, .int x)]) (st2 := [.int 0]) (w3 := w) rfl rfl ?_
    refine sx_RP.step (pc2 := 7) (ls2 := [(3, .int 0), (2, .int (nI 0)), (0, .int (nI 0)), (1, .int x)]) (st2 := [.int 6, .int 0]) (w3 := w) rfl rfl ?_
    refine sx_RP.step (pc2 := 10) (ls2 := [(3, .int 0), (2, .int (nI 0)), (0, .int (nI 0)), (1, .int x)]) (st2 := []) (w3 := w) rfl rfl ?_
    refine sx_RP.step (pc2 := 11) (ls2 := [(3, .int 0), (2, .int (nI 0)), (0, .int (nI 0)), (1, .int x)]) (st2 := [.int (nI 0)]) (w3 := w) rfl rfl ?_
    refine sx_RP.step (pc2 := 12) (ls2 := [(3, .int 0), (2, .int (nI 0)), (0, .int (nI 0)), (1, .int x)]) (st2 := [.int (-1), .int (nI 0)]) (w3 := w) rfl rfl ?_
    refine sx_RP.step (pc2 := 15) (ls2 := [(3, .int 0), (2, .int (nI 0)), (0, .int (nI 0)), (1, .int x)]) (st2 := []) (w3 := w) rfl rfl ?_
    refine sx_RP.step (pc2 := 16) (ls2 := [(3, .int 0), (2, .int (nI 0)), (0, .int (nI 0)), (1, .int x)]) (st2 := [.int (nI 0)]) (w3 := w) rfl rfl ?_
    refine sx_RP.step (pc2 := 17) (ls2 := [(3, .int 0), (2, .int (nI 0)), (0, .int (nI 0)), (1, .int x)]) (st2 := [.int x, .int (nI 0)]) (w3 := w) rfl rfl ?_
    refine sx_RP.br (p1 := 22) (l1 := [(3, .int 0), (2, .int (nI 0)), (0, .int (nI 0)), (1, .int x)]) (s1 := []) (v1 := w) (p2 := 20) (l2 := [(3, .int 0), (2, .int (nI 0)), (0, .int (nI 0)), (1, .int x)]) (s2 := []) (v2 := w) rfl rfl (fun q1 => ?_) (fun q1 => ?_)
    · replace q1 := of_decide_eq_true q1
      refine sx_RP.step (pc2 := 25) (ls2 := [(3, .int 0), (2, .int (nI 0)), (0, .int (nI 0)), (1, .int x)]) (st2 := [.float 1]) (w3 := w) rfl rfl ?_
      refine sx_RP.step (pc2 := 26) (ls2 := [(3, .int 0), (2, .int (nI 0)), (0, .int (nI 0)), (1, .int x)]) (st2 := [.int (nI 0), .float 1]) (w3 := w) rfl rfl ?_
      refine sx_RP.step (pc2 := 27) (ls2 := [(3, .int 0), (2, .int (nI 0)), (0, .int (nI 0)), (1, .int x)]) (st2 := [.int (-1)]) (w3 := w) rfl rfl ?_
      refine sx_RP.step (pc2 := 28) (ls2 := [(2, .int (-1)), (3, .int 0), (0, .int (nI 0)), (1, .int x)]) (st2 := []) (w3 := w) rfl rfl ?_
      refine sx_RP.step (pc2 := 31) (ls2 := [(3, .int 1), (2, .int (-1)), (0, .int (nI 0)), (1, .int x)]) (st2 := []) (w3 := w) rfl rfl ?_
      refine sx_RP.step (pc2 := 4) (ls2 := [(3, .int 1), (2, .int (-1)), (0, .int (nI 0)), (1, .int x)]) (st2 := []) (w3 := w) rfl rfl ?_
      refine sx_RP.step (pc2 := 5) (ls2 := [(3, .int 1), (2, .int (-1)), (0, .int (nI 0)), (1, .int x)]) (st2 := [.int 1]) (w3 := w) rfl rfl ?_
      refine sx_RP.step (pc2 := 7) (ls2 := [(3, .int 1), (2, .int (-1)), (0, .int (nI 0)), (1, .int x)]) (st2 := [.int 6, .int 1]) (w3 := w) rfl rfl ?_
      refine sx_RP.step (pc2 := 10) (ls2 := [(3, .int 1), (2, .int (-1)), (0, .int (nI 0)), (1, .int x)]) (st2 := []) (w3 := w) rfl rfl ?_
      refine sx_RP.step (pc2 := 11) (ls2 := [(3, .int 1), (2, .int (-1)), (0, .int (nI 0)), (1, .int x)]) (st2 := [.int (-1)]) (w3 := w) rfl rfl ?_
      refine sx_RP.step (pc2 := 12) (ls2 := [(3, .int 1), (2, .int (-1)), (0, .int (nI 0)), (1, .int x)]) (st2 := [.int (-1), .int (-1)]) (w3 := w) rfl rfl ?_
      refine sx_RP.step (pc2 := 34) (ls2 := [(3, .int 1), (2, .int (-1)), (0, .int (nI 0)), (1, .int x)]) (st2 := []) (w3 := w) rfl rfl ?_
      refine sx_RP.step (pc2 := 35) (ls2 := [(3, .int 1), (2, .int (-1)), (0, .int (nI 0)), (1, .int x)]) (st2 := [.int 0]) (w3 := w) rfl rfl ?_
      refine sx_RP.ret (r := (some (.int 0))) rfl rfl ?_
      exact ⟨⟨0, by decide, rfl⟩, rfl⟩
    · replace q1 := Decidable.not_not.mp (of_decide_eq_false q1)
      refine sx_RP.step (pc2 := 21) (ls2 := [(3, .int 0), (2, .int (nI 0)), (0, .int (nI 0)), (1, .int x)]) (st2 := [.int 1]) (w3 := w) rfl rfl ?_
      refine sx_RP.ret (r := (some (.int 1))) rfl rfl ?_
      exact ⟨⟨1, by decide, rfl⟩, rfl⟩
  obtain ⟨r, w2, h1, ⟨j, hj, rfl⟩, rfl⟩ := h
  exact ⟨j, hj, h1⟩
set_option maxRecDepth 20000 in
set_option maxHeartbeats 4000000 in
theorem p31_1 {xs : Option (List Int32)} {d : Nat} {w : List sx_C} (hI : WI w) (x : Int32) : ∃ j, j ≤ 1 ∧ sx_RU xs d 31 0 (lv_args 0 [.int (nI 1), .int x]) [] w (some (.int (nI j))) w := by
  have h : sx_RP xs d 31 0 (lv_args 0 [.int (nI 1), .int x]) [] w (fun r w2 => (∃ j, j ≤ 1 ∧ r = some (.int (nI j))) ∧ w2 = w) := by
    refine sx_RP.step (pc2 := 1) (ls2 := [(0, .int (nI 1)), (1, .int x)]) (st2 := [.int (nI 1)]) (w3 := w) rfl rfl ?_
    refine sx_RP.step (pc2 := 2) (ls2 := [(2, .int (nI 1)), (0, .int (nI 1)), (1, .int x)]) (st2 := []) (w3 := w) rfl rfl ?_
    refine sx_RP.step (pc2 := 3) (ls2 := [(2, .int (nI 1)), (0, .int (nI 1)), (1, .int x)]) (st2 := [.int 0]) (w3 := w) rfl rfl ?_
    refine sx_RP.step (pc2 := 4) (ls2 := [(3, .int 0), (2, .int (nI 1)), (0, .int (nI 1)), (1, .int x)]) (st2 := []) (w3 := w) rfl rfl ?_
    refine sx_RP.step (pc2 := 5) (ls2 := [(3, .int 0), (2, .int (nI 1)), (0, .int (nI 1)), (1, .int x)]) (st2 := [.int 0]) (w3 := w) rfl rfl ?_
    refine sx_RP.step (pc2 := 7) (ls2 := [(3, .int 0), (2, .int (nI 1)), (0, .int (nI 1)), (1, .int x)]) (st2 := [.int 6, .int 0]) (w3 := w) rfl rfl ?_
    refine sx_RP.step (pc2 := 10) (ls2 := [(3, .int 0), (2, .int (nI 1)), (0, .int (nI 1)), (1, .int x)]) (st2 := []) (w3 := w) rfl rfl ?_
    refine sx_RP.step (pc2 := 11) (ls2 := [(3, .int 0), (2, .int (nI 1)), (0, .int (nI 1)), (1, .int x)]) (st2 := [.int (nI 1)]) (w3 := w) rfl rfl ?_
    refine sx_RP.step (pc2 := 12) (ls2 := [(3, .int 0), (2, .int (nI 1)), (0, .int (nI 1)), (1, .int x)]) (st2 := [.int (-1), .int (nI 1)]) (w3 := w) rfl rfl ?_
    refine sx_RP.step (pc2 := 15) (ls2 := [(3, .int 0), (2, .int (nI 1)), (0, .int (nI 1)), (1, .int x)]) (st2 := []) (w3 := w) rfl rfl ?_
    refine sx_RP.step (pc2 := 16) (ls2 := [(3, .int 0), (2, .int (nI 1)), (0, .int (nI 1)), (1, .int x)]) (st2 := [.int (nI 1)]) (w3 := w) rfl rfl ?_
    refine sx_RP.step (pc2 := 17) (ls2 := [(3, .int 0), (2, .int (nI 1)), (0, .int (nI 1)), (1, .int x)]) (st2 := [.int x, .int (nI 1)]) (w3 := w) rfl rfl ?_
    refine sx_RP.br (p1 := 22) (l1 := [(3, .int 0), (2, .int (nI 1)), (0, .int (nI 1)), (1, .int x)]) (s1 := []) (v1 := w) (p2 := 20) (l2 := [(3, .int 0), (2, .int (nI 1)), (0, .int (nI 1)), (1, .int x)]) (s2 := []) (v2 := w) rfl rfl (fun q1 => ?_) (fun q1 => ?_)
    · replace q1 := of_decide_eq_true q1
      refine sx_RP.step (pc2 := 25) (ls2 := [(3, .int 0), (2, .int (nI 1)), (0, .int (nI 1)), (1, .int x)]) (st2 := [.float 1]) (w3 := w) rfl rfl ?_
      refine sx_RP.step (pc2 := 26) (ls2 := [(3, .int 0), (2, .int (nI 1)), (0, .int (nI 1)), (1, .int x)]) (st2 := [.int (nI 1), .float 1]) (w3 := w) rfl rfl ?_
      refine sx_RP.step (pc2 := 27) (ls2 := [(3, .int 0), (2, .int (nI 1)), (0, .int (nI 1)), (1, .int x)]) (st2 := [.int 0]) (w3 := w) rfl rfl ?_
      refine sx_RP.step (pc2 := 28) (ls2 := [(2, .int 0), (3, .int 0), (0, .int (nI 1)), (1, .int x)]) (st2 := []) (w3 := w) rfl rfl ?_
      refine sx_RP.step (pc2 := 31) (ls2 := [(3, .int 1), (2, .int 0), (0, .int (nI 1)), (1, .int x)]) (st2 := []) (w3 := w) rfl rfl ?_
      refine sx_RP.step (pc2 := 4) (ls2 := [(3, .int 1), (2, .int 0), (0, .int (nI 1)), (1, .int x)]) (st2 := []) (w3 := w) rfl rfl ?_
      refine sx_RP.step (pc2 := 5) (ls2 := [(3, .int 1), (2, .int 0), (0, .int (nI 1)), (1, .int x)]) (st2 := [.int 1]) (w3 := w) rfl rfl ?_
      refine sx_RP.step (pc2 := 7) (ls2 := [(3, .int 1), (2, .int 0), (0, .int (nI 1)), (1, .int x)]) (st2 := [.int 6, .int 1]) (w3 := w) rfl rfl ?_
      refine sx_RP.step (pc2 := 10) (ls2 := [(3, .int 1), (2, .int 0), (0, .int (nI 1)), (1, .int x)]) (st2 := []) (w3 := w) rfl rfl ?_
      refine sx_RP.step (pc2 := 11) (ls2 := [(3, .int 1), (2, .int 0), (0, .int (nI 1)), (1, .int x)]) (st2 := [.int 0]) (w3 := w) rfl rfl ?_
      refine sx_RP.step (pc2 := 12) (ls2 := [(3, .int 1), (2, .int 0), (0, .int (nI 1)), (1, .int x)]) (st2 := [.int (-1), .int 0]) (w3 := w) rfl rfl ?_
      refine sx_RP.step (pc2 := 15) (ls2 := [(3, .int 1), (2, .int 0), (0, .int (nI 1)), (1, .int x)]) (st2 := []) (w3 := w) rfl rfl ?_
      refine sx_RP.step (pc2 := 16) (ls2 := [(3, .int 1), (2, .int 0), (0, .int (nI 1)), (1, .int x)]) (st2 := [.int 0]) (w3 := w) rfl rfl ?_
      refine sx_RP.step (pc2 := 17) (ls2 := [(3, .int 1), (2, .int 0), (0, .int (nI 1)), (1, .int x)]) (st2 := [.int x, .int 0]) (w3 := w) rfl rfl ?_
      refine sx_RP.br (p1 := 22) (l1 := [(3, .int 1), (2, .int 0), (0, .int (nI 1)), (1, .int x)]) (s1 := []) (v1 := w) (p2 := 20) (l2 := [(3, .int 1), (2, .int 0), (0, .int (nI 1)), (1, .int x)]) (s2 := []) (v2 := w) rfl rfl (fun q2 => ?_) (fun q2 => ?_)
      · replace q2 := of_decide_eq_true q2
        refine sx_RP.step (pc2 := 25) (ls2 := [(3, .int 1), (2, .int 0), (0, .int (nI 1)), (1, .int x)]) (st2 := [.float 1]) (w3 := w) rfl rfl ?_
        refine sx_RP.step (pc2 := 26) (ls2 := [(3, .int 1), (2, .int 0), (0, .int (nI 1)), (1, .int x)]) (st2 := [.int 0, .float 1]) (w3 := w) rfl rfl ?_
        refine sx_RP.step (pc2 := 27) (ls2 := [(3, .int 1), (2, .int 0), (0, .int (nI 1)), (1, .int x)]) (st2 := [.int (-1)]) (w3 := w) rfl rfl ?_
        refine sx_RP.step (pc2 := 28) (ls2 := [(2, .int (-1)), (3, .int 1), (0, .int (nI 1)), (1, .int x)]) (st2 := []) (w3 := w) rfl rfl ?_
        refine sx_RP.step (pc2 := 31) (ls2 := [(3, .int 2), (2, .int (-1)), (0, .int (nI 1)), (1, .int x)]) (st2 := []) (w3 := w) rfl rfl ?_
        refine sx_RP.step (pc2 := 4) (ls2 := [(3, .int 2), (2, .int (-1)), (0, .int (nI 1)), (1, .int x)]) (st2 := []) (w3 := w) rfl rfl ?_
        refine sx_RP.step (pc2 := 5) (ls2 := [(3, .int 2), (2, .int (-1)), (0, .int (nI 1)), (1, .int x)]) (st2 := [.int 2]) (w3 := w) rfl rfl ?_
        refine sx_RP.step (pc2 := 7) (ls2 := [(3, .int 2), (2, .int (-1)), (0, .int (nI 1)), (1, .int x)]) (st2 := [.int 6, .int 2]) (w3 := w) rfl rfl ?_
        refine sx_RP.step (pc2 := 10) (ls2 := [(3, .int 2), (2, .int (-1)), (0, .int (nI 1)), (1, .int x)]) (st2 := []) (w3 := w) rfl rfl ?_
        refine sx_RP.step (pc2 := 11) (ls2 := [(3, .int 2), (2, .int (-1)), (0, .int (nI 1)), (1, .int x)]) (st2 := [.int (-1)]) (w3 := w) rfl rfl ?_
        refine sx_RP.step (pc2 := 12) (ls2 := [(3, .int 2), (2, .int (-1)), (0, .int (nI 1)), (1, .int x)]) (st2 := [.int (-1), .int (-1)]) (w3 := w) rfl rfl ?_
        refine sx_RP.step (pc2 := 34) (ls2 := [(3, .int 2), (2, .int (-1)), (0, .int (nI 1)), (1, .int x)]) (st2 := []) (w3 := w) rfl rfl ?_
        refine sx_RP.step (pc2 := 35) (ls2 := [(3, .int 2), (2, .int (-1)), (0, .int (nI 1)), (1, .int x)]) (st2 := [.int 0]) (w3 := w) rfl rfl ?_
        refine sx_RP.ret (r := (some (.int 0))) rfl rfl ?_
        exact ⟨⟨0, by decide, rfl⟩, rfl⟩
      · replace q2 := Decidable.not_not.mp (of_decide_eq_false q2)
        refine sx_RP.step (pc2 := 21) (ls2 := [(3, .int 1), (2, .int 0), (0, .int (nI 1)), (1, .int x)]) (st2 := [.int 1]) (w3 := w) rfl rfl ?_
        refine sx_RP.ret (r := (some (.int 1))) rfl rfl ?_
        exact ⟨⟨1, by decide, rfl⟩, rfl⟩
    · replace q1 := Decidable.not_not.mp (of_decide_eq_false q1)
      refine sx_RP.step (pc2 := 21) (ls2 := [(3, .int 0), (2, .int (nI 1)), (0, .int (nI 1)), (1, .int x)]) (st2 := [.int 1]) (w3 := w) rfl rfl ?_
      refine sx_RP.ret (r := (some (.int 1))) rfl rfl ?_
      exact ⟨⟨1, by decide, rfl⟩, rfl⟩
  obtain ⟨r, w2, h1, ⟨j, hj, rfl⟩, rfl⟩ := h
  exact ⟨j, hj, h1⟩
set_option maxRecDepth 20000 in
set_option maxHeartbeats 4000000 in
theorem p31_2 {xs : Option (List Int32)} {d : Nat} {w : List sx_C} (hI : WI w) (x : Int32) : ∃ j, j ≤ 1 ∧ sx_RU xs d 31 0 (lv_args 0 [.int (nI 2), .int x]) [] w (some (.int (nI j))) w := by
  have h : sx_RP xs d 31 0 (lv_args 0 [.int (nI 2), .int x]) [] w (fun r w2 => (∃ j, j ≤ 1 ∧ r = some (.int (nI j))) ∧ w2 = w) := by
    refine sx_RP.step (pc2 := 1) (ls2 := [(0, .int (nI 2)), (1, .int x)]) (st2 := [.int (nI 2)]) (w3 := w) rfl rfl ?_
    refine sx_RP.step (pc2 := 2) (ls2 := [(2, .int (nI 2)), (0, .int (nI 2)), (1, .int x)]) (st2 := []) (w3 := w) rfl rfl ?_
    refine sx_RP.step (pc2 := 3) (ls2 := [(2, .int (nI 2)), (0, .int (nI 2)), (1, .int x)]) (st2 := [.int 0]) (w3 := w) rfl rfl ?_
    refine sx_RP.step (pc2 := 4) (ls2 := [(3, .int 0), (2, .int (nI 2)), (0, .int (nI 2)), (1, .int x)]) (st2 := []) (w3 := w) rfl rfl ?_
    refine sx_RP.step (pc2 := 5) (ls2 := [(3, .int 0), (2, .int (nI 2)), (0, .int (nI 2)), (1, .int x)]) (st2 := [.int 0]) (w3 := w) rfl rfl ?_
    refine sx_RP.step (pc2 := 7) (ls2 := [(3, .int 0), (2, .int (nI 2)), (0, .int (nI 2)), (1, .int x)]) (st2 := [.int 6, .int 0]) (w3 := w) rfl rfl ?_
    refine sx_RP.step (pc2 := 10) (ls2 := [(3, .int 0), (2, .int (nI 2)), (0, .int (nI 2)), (1, .int x)]) (st2 := []) (w3 := w) rfl rfl ?_
    refine sx_RP.step (pc2 := 11) (ls2 := [(3, .int 0), (2, .int (nI 2)), (0, .int (nI 2)), (1, .int x)]) (st2 := [.int (nI 2)]) (w3 := w) rfl rfl ?_
    refine sx_RP.step (pc2 := 12) (ls2 := [(3, .int 0), (2, .int (nI 2)), (0, .int (nI 2)), (1, .int x)]) (st2 := [.int (-1), .int (nI 2)]) (w3 := w) rfl rfl ?_
    refine sx_RP.step (pc2 := 15) (ls2 := [(3, .int 0), (2, .int (nI 2)), (0, .int (nI 2)), (1, .int x)]) (st2 := []) (w3 := w) rfl rfl ?_
    refine sx_RP.step (pc2 := 16) (ls2 := [(3, .int 0), (2, .int (nI 2)), (0, .int (nI 2)), (1, .int x)]) (st2 := [.int (nI 2)]) (w3 := w) rfl rfl ?_
    refine sx_RP.step (pc2 := 17) (ls2 := [(3, .int 0), (2, .int (nI 2)), (0, .int (nI 2)), (1, .int x)]) (st2 := [.int x, .int (nI 2)]) (w3 := w) rfl rfl ?_
    refine sx_RP.br (p1 := 22) (l1 := [(3, .int 0), (2, .int (nI 2)), (0, .int (nI 2)), (1, .int x)]) (s1 := []) (v1 := w) (p2 := 20) (l2 := [(3, .int 0), (2, .int (nI 2)), (0, .int (nI 2)), (1, .int x)]) (s2 := []) (v2 := w) rfl rfl (fun q1 => ?_) (fun q1 => ?_)
    · replace q1 := of_decide_eq_true q1
      refine sx_RP.step (pc2 := 25) (ls2 := [(3, .int 0), (2, .int (nI 2)), (0, .int (nI 2)), (1, .int x)]) (st2 := [.float 1]) (w3 := w) rfl rfl ?_
      refine sx_RP.step (pc2 := 26) (ls2 := [(3, .int 0), (2, .int (nI 2)), (0, .int (nI 2)), (1, .int x)]) (st2 := [.int (nI 2), .float 1]) (w3 := w) rfl rfl ?_
      refine sx_RP.step (pc2 := 27) (ls2 := [(3, .int 0), (2, .int (nI 2)), (0, .int (nI 2)), (1, .int x)]) (st2 := [.int 0]) (w3 := w) rfl rfl ?_
      refine sx_RP.step (pc2 := 28) (ls2 := [(2, .int 0), (3, .int 0), (0, .int (nI 2)), (1, .int x)]) (st2 := []) (w3 := w) rfl rfl ?_
      refine sx_RP.step (pc2 := 31) (ls2 := [(3, .int 1), (2, .int 0), (0, .int (nI 2)), (1, .int x)]) (st2 := []) (w3 := w) rfl rfl ?_
      refine sx_RP.step (pc2 := 4) (ls2 := [(3, .int 1), (2, .int 0), (0, .int (nI 2)), (1, .int x)]) (st2 := []) (w3 := w) rfl rfl ?_
      refine sx_RP.step (pc2 := 5) (ls2 := [(3, .int 1), (2, .int 0), (0, .int (nI 2)), (1, .int x)]) (st2 := [.int 1]) (w3 := w) rfl rfl ?_
      refine sx_RP.step (pc2 := 7) (ls2 := [(3, .int 1), (2, .int 0), (0, .int (nI 2)), (1, .int x)]) (st2 := [.int 6, .int 1]) (w3 := w) rfl rfl ?_
      refine sx_RP.step (pc2 := 10) (ls2 := [(3, .int 1), (2, .int 0), (0, .int (nI 2)), (1, .int x)]) (st2 := []) (w3 := w) rfl rfl ?_
      refine sx_RP.step (pc2 := 11) (ls2 := [(3, .int 1), (2, .int 0), (0, .int (nI 2)), (1, .int x)]) (st2 := [.int 0]) (w3 := w) rfl rfl ?_
      refine sx_RP.step (pc2 := 12) (ls2 := [(3, .int 1), (2, .int 0), (0, .int (nI 2)), (1, .int x)]) (st2 := [.int (-1), .int 0]) (w3 := w) rfl rfl ?_
      refine sx_RP.step (pc2 := 15) (ls2 := [(3, .int 1), (2, .int 0), (0, .int (nI 2)), (1, .int x)]) (st2 := []) (w3 := w) rfl rfl ?_
      refine sx_RP.step (pc2 := 16) (ls2 := [(3, .int 1), (2, .int 0), (0, .int (nI 2)), (1, .int x)]) (st2 := [.int 0]) (w3 := w) rfl rfl ?_
      refine sx_RP.step (pc2 := 17) (ls2 := [(3, .int 1), (2, .int 0), (0, .int (nI 2)), (1, .int x)]) (st2 := [.int x, .int 0]) (w3 := w) rfl rfl ?_
      refine sx_RP.br (p1 := 22) (l1 := [(3, .int 1), (2, .int 0), (0, .int (nI 2)), (1, .int x)]) (s1 := []) (v1 := w) (p2 := 20) (l2 := [(3, .int 1), (2, .int 0), (0, .int (nI 2)), (1, .int x)]) (s2 := []) (v2 := w) rfl rfl (fun q2 => ?_) (fun q2 => ?_)
      · replace q2 := of_decide_eq_true q2
        refine sx_RP.step (pc2 := 25) (ls2 := [(3, .int 1), (2, .int 0), (0, .int (nI 2)), (1, .int x)]) (st2 := [.float 1]) (w3 := w) rfl rfl ?_
        refine sx_RP.step (pc2 := 26) (ls2 := [(3, .int 1), (2, .int 0), (0, .int (nI 2)), (1, .int x)]) (st2 := [.int 0, .float 1]) (w3 := w) rfl rfl ?_
        refine sx_RP.step (pc2 := 27) (ls2 := [(3, .int 1), (2, .int 0), (0, .int (nI 2)), (1, .int x)]) (st2 := [.int (-1)]) (w3 := w) rfl rfl ?_
        refine sx_RP.step (pc2 := 28) (ls2 := [(2, .int (-1)), (3, .int 1), (0, .int (nI 2)), (1, .int x)]) (st2 := []) (w3 := w) rfl rfl ?_
        refine sx_RP.step (pc2 := 31) (ls2 := [(3, .int 2), (2, .int (-1)), (0, .int (nI 2)), (1, .int x)]) (st2 := []) (w3 := w) rfl rfl ?_
        refine sx_RP.step (pc2 := 4) (ls2 := [(3, .int 2), (2, .int (-1)), (0, .int (nI 2)), (1, .int x)]) (st2 := []) (w3 := w) rfl rfl ?_
        refine sx_RP.step (pc2 := 5) (ls2 := [(3, .int 2), (2, .int (-1)), (0, .int (nI 2)), (1, .int x)]) (st2 := [.int 2]) (w3 := w) rfl rfl ?_
        refine sx_RP.step (pc2 := 7) (ls2 := [(3, .int 2), (2, .int (-1)), (0, .int (nI 2)), (1, .int x)]) (st2 := [.int 6, .int 2]) (w3 := w) rfl rfl ?_
        refine sx_RP.step (pc2 := 10) (ls2 := [(3, .int 2), (2, .int (-1)), (0, .int (nI 2)), (1, .int x)]) (st2 := []) (w3 := w) rfl rfl ?_
        refine sx_RP.step (pc2 := 11) (ls2 := [(3, .int 2), (2, .int (-1)), (0, .int (nI 2)), (1, .int x)]) (st2 := [.int (-1)]) (w3 := w) rfl rfl ?_
        refine sx_RP.step (pc2 := 12) (ls2 := [(3, .int 2), (2, .int (-1)), (0, .int (nI 2)), (1, .int x)]) (st2 := [.int (-1), .int (-1)]) (w3 := w) rfl rfl ?_
        refine sx_RP.step (pc2 := 34) (ls2 := [(3, .int 2), (2, .int (-1)), (0, .int (nI 2)), (1, .int x)]) (st2 := []) (w3 := w) rfl rfl ?_
        refine sx_RP.step (pc2 := 35) (ls2 := [(3, .int 2), (2, .int (-1)), (0, .int (nI 2)), (1, .int x)]) (st2 := [.int 0]) (w3 := w) rfl rfl ?_
        refine sx_RP.ret (r := (some (.int 0))) rfl rfl ?_
        exact ⟨⟨0, by decide, rfl⟩, rfl⟩
      · replace q2 := Decidable.not_not.mp (of_decide_eq_false q2)
        refine sx_RP.step (pc2 := 21) (ls2 := [(3, .int 1), (2, .int 0), (0, .int (nI 2)), (1, .int x)]) (st2 := [.int 1]) (w3 := w) rfl rfl ?_
        refine sx_RP.ret (r := (some (.int 1))) rfl rfl ?_
        exact ⟨⟨1, by decide, rfl⟩, rfl⟩
    · replace q1 := Decidable.not_not.mp (of_decide_eq_false q1)
      refine sx_RP.step (pc2 := 21) (ls2 := [(3, .int 0), (2, .int (nI 2)), (0, .int (nI 2)), (1, .int x)]) (st2 := [.int 1]) (w3 := w) rfl rfl ?_
      refine sx_RP.ret (r := (some (.int 1))) rfl rfl ?_
      exact ⟨⟨1, by decide, rfl⟩, rfl⟩
  obtain ⟨r, w2, h1, ⟨j, hj, rfl⟩, rfl⟩ := h
  exact ⟨j, hj, h1⟩
set_option maxRecDepth 20000 in
set_option maxHeartbeats 4000000 in
theorem p31_3 {xs : Option (List Int32)} {d : Nat} {w : List sx_C} (hI : WI w) (x : Int32) : ∃ j, j ≤ 1 ∧ sx_RU xs d 31 0 (lv_args 0 [.int (nI 3), .int x]) [] w (some (.int (nI j))) w := by
  have h : sx_RP xs d 31 0 (lv_args 0 [.int (nI 3), .int x]) [] w (fun r w2 => (∃ j, j ≤ 1 ∧ r = some (.int (nI j))) ∧ w2 = w) := by
    refine sx_RP.step (pc2 := 1) (ls2 := [(0, .int (nI 3)), (1, .int x)]) (st2 := [.int (nI 3)]) (w3 := w) rfl rfl ?_
    refine sx_RP.step (pc2 := 2) (ls2 := [(2, .int (nI 3)), (0, .int (nI 3)), (1, .int x)]) (st2 := []) (w3 := w) rfl rfl ?_
    refine sx_RP.step (pc2 := 3) (ls2 := [(2, .int (nI 3)), (0, .int (nI 3)), (1, .int x)]) (st2 := [.int 0]) (w3 := w) rfl rfl ?_
    refine sx_RP.step (pc2 := 4) (ls2 := [(3, .int 0), (2, .int (nI 3)), (0, .int (nI 3)), (1, .int x)]) (st2 := []) (w3 := w) rfl rfl ?_
    refine sx_RP.step (pc2 := 5) (ls2 := [(3, .int 0), (2, .int (nI 3)), (0, .int (nI 3)), (1, .int x)]) (st2 := [.int 0]) (w3 := w) rfl rfl ?_
    refine sx_RP.step (pc2 := 7) (ls2 := [(3, .int 0), (2, .int (nI 3)), (0, .int (nI 3)), (1, .int x)]) (st2 := [.int 6, .int 0]) (w3 := w) rfl rfl ?_
    refine sx_RP.step (pc2 := 10) (ls2 := [(3, .int 0), (2, .int (nI 3)), (0, .int (nI 3)), (1, .int x)]) (st2 := []) (w3 := w) rfl rfl ?_
    refine sx_RP.step (pc2 := 11) (ls2 := [(3, .int 0), (2, .int (nI 3)), (0, .int (nI 3)), (1, .int x)]) (st2 := [.int (nI 3)]) (w3 := w) rfl rfl ?_
    refine sx_RP.step (pc2 := 12) (ls2 := [(3, .int 0), (2, .int (nI 3)), (0, .int (nI 3)), (1, .int x)]) (st2 := [.int (-1), .int (nI 3)]) (w3 := w) rfl rfl ?_
    refine sx_RP.step (pc2 := 15) (ls2 := [(3, .int 0), (2, .int (nI 3)), (0, .int (nI 3)), (1, .int x)]) (st2 := []) (w3 := w) rfl rfl ?_
    refine sx_RP.step (pc2 := 16) (ls2 := [(3, .int 0), (2, .int (nI 3)), (0, .int (nI 3)), (1, .int x)]) (st2 := [.int (nI 3)]) (w3 := w) rfl rfl ?_
    refine sx_RP.step (pc2 := 17) (ls2 := [(3, .int 0), (2, .int (nI 3)), (0, .int (nI 3)), (1, .int x)]) (st2 := [.int x, .int (nI 3)]) (w3 := w) rfl rfl ?_
    refine sx_RP.br (p1 := 22) (l1 := [(3, .int 0), (2, .int (nI 3)), (0, .int (nI 3)), (1, .int x)]) (s1 := []) (v1 := w) (p2 := 20) (l2 := [(3, .int 0), (2, .int (nI 3)), (0, .int (nI 3)), (1, .int x)]) (s2 := []) (v2 := w) rfl rfl (fun q1 => ?_) (fun q1 => ?_)
    · replace q1 := of_decide_eq_true q1
      refine sx_RP.step (pc2 := 25) (ls2 := [(3, .int 0), (2, .int (nI 3)), (0, .int (nI 3)), (1, .int x)]) (st2 := [.float 1]) (w3 := w) rfl rfl ?_
      refine sx_RP.step (pc2 := 26) (ls2 := [(3, .int 0), (2, .int (nI 3)), (0, .int (nI 3)), (1, .int x)]) (st2 := [.int (nI 3), .float 1]) (w3 := w) rfl rfl ?_
      refine sx_RP.step (pc2 := 27) (ls2 := [(3, .int 0), (2, .int (nI 3)), (0, .int (nI 3)), (1, .int x)]) (st2 := [.int 1]) (w3 := w) rfl rfl ?_
      refine sx_RP.step (pc2 := 28) (ls2 := [(2, .int 1), (3, .int 0), (0, .int (nI 3)), (1, .int x)]) (st2 := []) (w3 := w) rfl rfl ?_
      refine sx_RP.step (pc2 := 31) (ls2 := [(3, .int 1), (2, .int 1), (0, .int (nI 3)), (1, .int x)]) (st2 := []) (w3 := w) rfl rfl ?_
      refine sx_RP.step (pc2 := 4) (ls2 := [(3, .int 1), (2, .int 1), (0, .int (nI 3)), (1, .int x)]) (st2 := []) (w3 := w) rfl rfl ?_
      refine sx_RP.step (pc2 := 5) (ls2 := [(3, .int 1), (2, .int 1), (0, .int (nI 3)), (1, .int x)]) (st2 := [.int 1]) (w3 := w) rfl rfl ?_
      refine sx_RP.step (pc2 := 7) (ls2 := [(3, .int 1), (2, .int 1), (0, .int (nI 3)), (1, .int x)]) (st2 := [.int 6, .int 1]) (w3 := w) rfl rfl ?_
      refine sx_RP.step (pc2 := 10) (ls2 := [(3, .int 1), (2, .int 1), (0, .int (nI 3)), (1, .int x)]) (st2 := []) (w3 := w) rfl rfl ?_
      refine sx_RP.step (pc2 := 11) (ls2 := [(3, .int 1), (2, .int 1), (0, .int (nI 3)), (1, .int x)]) (st2 := [.int 1]) (w3 := w) rfl rfl ?_
      refine sx_RP.step (pc2 := 12) (ls2 := [(3, .int 1), (2, .int 1), (0, .int (nI 3)), (1, .int x)]) (st2 := [.int (-1), .int 1]) (w3 := w) rfl rfl ?_
      refine sx_RP.step (pc2 := 15) (ls2 := [(3, .int 1), (2, .int 1), (0, .int (nI 3)), (1, .int x)]) (st2 := []) (w3 := w) rfl rfl ?_
      refine sx_RP.step (pc2 := 16) (ls2 := [(3, .int 1), (2, .int 1), (0, .int (nI 3)), (1, .int x)]) (st2 := [.int 1]) (w3 := w) rfl rfl ?_
      refine sx_RP.step (pc2 := 17) (ls2 := [(3, .int 1), (2, .int 1), (0, .int (nI 3)), (1, .int x)]) (st2 := [.int x, .int 1]) (w3 := w) rfl rfl ?_
      refine sx_RP.br (p1 := 22) (l1 := [(3, .int 1), (2, .int 1), (0, .int (nI 3)), (1, .int x)]) (s1 := []) (v1 := w) (p2 := 20) (l2 := [(3, .int 1), (2, .int 1), (0, .int (nI 3)), (1, .int x)]) (s2 := []) (v2 := w) rfl rfl (fun q2 => ?_) (fun q2 => ?_)
      · replace q2 := of_decide_eq_true q2
        refine sx_RP.step (pc2 := 25) (ls2 := [(3, .int 1), (2, .int 1), (0, .int (nI 3)), (1, .int x)]) (st2 := [.float 1]) (w3 := w) rfl rfl ?_
        refine sx_RP.step (pc2 := 26) (ls2 := [(3, .int 1), (2, .int 1), (0, .int (nI 3)), (1, .int x)]) (st2 := [.int 1, .float 1]) (w3 := w) rfl rfl ?_
        refine sx_RP.step (pc2 := 27) (ls2 := [(3, .int 1), (2, .int 1), (0, .int (nI 3)), (1, .int x)]) (st2 := [.int 0]) (w3 := w) rfl rfl ?_
        refine sx_RP.step (pc2 := 28) (ls2 := [(2, .int 0), (3, .int 1), (0, .int (nI 3)), (1, .int x)]) (st2 := []) (w3 := w) rfl rfl ?_
        refine sx_RP.step (pc2 := 31) (ls2 := [(3, .int 2), (2, .int 0), (0, .int (nI 3)), (1, .int x)]) (st2 := []) (w3 := w) rfl rfl ?_
        refine sx_RP.step (pc2 := 4) (ls2 := [(3, .int 2), (2, .int 0), (0, .int (nI 3)), (1, .int x)]) (st2 := []) (w3 := w) rfl rfl ?_
        refine sx_RP.step (pc2 := 5) (ls2 := [(3, .int 2), (2, .int 0), (0, .int (nI 3)), (1, .int x)]) (st2 := [.int 2]) (w3 := w) rfl rfl ?_
        refine sx_RP.step (pc2 := 7) (ls2 := [(3, .int 2), (2, .int 0), (0, .int (nI 3)), (1, .int x)]) (st2 := [.int 6, .int 2]) (w3 := w) rfl rfl ?_
        refine sx_RP.step (pc2 := 10) (ls2 := [(3, .int 2), (2, .int 0), (0, .int (nI 3)), (1, .int x)]) (st2 := []) (w3 := w) rfl rfl ?_
        refine sx_RP.step (pc2 := 11) (ls2 := [(3, .int 2), (2, .int 0), (0, .int (nI 3)), (1, .int x)]) (st2 := [.int 0]) (w3 := w) rfl rfl ?_
        refine sx_RP.step (pc2 := 12) (ls2 := [(3, .int 2), (2, .int 0), (0, .int (nI 3)), (1, .int x)]) (st2 := [.int (-1), .int 0]) (w3 := w) rfl rfl ?_
        refine sx_RP.step (pc2 := 15) (ls2 := [(3, .int 2), (2, .int 0), (0, .int (nI 3)), (1, .int x)]) (st2 := []) (w3 := w) rfl rfl ?_
        refine sx_RP.step (pc2 := 16) (ls2 := [(3, .int 2), (2, .int 0), (0, .int (nI 3)), (1, .int x)]) (st2 := [.int 0]) (w3 := w) rfl rfl ?_
        refine sx_RP.step (pc2 := 17) (ls2 := [(3, .int 2), (2, .int 0), (0, .int (nI 3)), (1, .int x)]) (st2 := [.int x, .int 0]) (w3 := w) rfl rfl ?_
        refine sx_RP.br (p1 := 22) (l1 := [(3, .int 2), (2, .int 0), (0, .int (nI 3)), (1, .int x)]) (s1 := []) (v1 := w) (p2 := 20) (l2 := [(3, .int 2), (2, .int 0), (0, .int (nI 3)), (1, .int x)]) (s2 := []) (v2 := w) rfl rfl (fun q3 => ?_) (fun q3 => ?_)
        · replace q3 := of_decide_eq_true q3
          refine sx_RP.step (pc2 := 25) (ls2 := [(3, .int 2), (2, .int 0), (0, .int (nI 3)), (1, .int x)]) (st2 := [.float 1]) (w3 := w) rfl rfl ?_
          refine sx_RP.step (pc2 := 26) (ls2 := [(3, .int 2), (2, .int 0), (0, .int (nI 3)), (1, .int x)]) (st2 := [.int 0, .float 1]) (w3 := w) rfl rfl ?_
          refine sx_RP.step (pc2 := 27) (ls2 := [(3, .int 2), (2, .int 0), (0, .int (nI 3)), (1, .int x)]) (st2 := [.int (-1)]) (w3 := w) rfl rfl ?_
          refine sx_RP.step (pc2 := 28) (ls2 := [(2, .int (-1)), (3, .int 2), (0, .int (nI 3)), (1, .int x)]) (st2 := []) (w3 := w) rfl rfl ?_
          refine sx_RP.step (pc2 := 31) (ls2 := [(3, .int 3), (2, .int (-1)), (0, .int (nI 3)), (1, .int x)]) (st2 := []) (w3 := w) rfl rfl ?_
          refine sx_RP.step (pc2 := 4) (ls2 := [(3, .int 3), (2, .int (-1)), (0, .int (nI 3)), (1, .int x)]) (st2 := []) (w3 := w) rfl rfl ?_
          refine sx_RP.step (pc2 := 5) (ls2 := [(3, .int 3), (2, .int (-1)), (0, .int (nI 3)), (1, .int x)]) (st2 := [.int 3]) (w3 := w) rfl rfl ?_
          refine sx_RP.step (pc2 := 7) (ls2 := [(3, .int 3), (2, .int (-1)), (0, .int (nI 3)), (1, .int x)]) (st2 := [.int 6, .int 3]) (w3 := w) rfl rfl ?_
          refine sx_RP.step (pc2 := 10) (ls2 := [(3, .int 3), (2, .int (-1)), (0, .int (nI 3)), (1, .int x)]) (st2 := []) (w3 := w) rfl rfl ?_
          refine sx_RP.step (pc2 := 11) (ls2 := [(3, .int 3), (2, .int (-1)), (0, .int (nI 3)), (1, .int x)]) (st2 := [.int (-1)]) (w3 := w) rfl rfl ?_
          refine sx_RP.step (pc2 := 12) (ls2 := [(3, .int 3), (2, .int (-1)), (0, .int (nI 3)), (1, .int x)]) (st2 := [.int (-1), .int (-1)]) (w3 := w) rfl rfl ?_
          refine sx_RP.step (pc2 := 34) (ls2 := [(3, .int 3), (2, .int (-1)), (0, .int (nI 3)), (1, .int x)]) (st2 := []) (w3 := w) rfl rfl ?_
          refine sx_RP.step (pc2 := 35) (ls2 := [(3, .int 3), (2, .int (-1)), (0, .int (nI 3)), (1, .int x)]) (st2 := [.int 0]) (w3 := w) rfl rfl ?_
          refine sx_RP.ret (r := (some (.int 0))) rfl rfl ?_
          exact ⟨⟨0, by decide, rfl⟩, rfl⟩
        · replace q3 := Decidable.not_not.mp (of_decide_eq_false q3)
          refine sx_RP.step (pc2 := 21) (ls2 := [(3, .int 2), (2, .int 0), (0, .int (nI 3)), (1, .int x)]) (st2 := [.int 1]) (w3 := w) rfl rfl ?_
          refine sx_RP.ret (r := (some (.int 1))) rfl rfl ?_
          exact ⟨⟨1, by decide, rfl⟩, rfl⟩
      · replace q2 := Decidable.not_not.mp (of_decide_eq_false q2)
        refine sx_RP.step (pc2 := 21) (ls2 := [(3, .int 1), (2, .int 1), (0, .int (nI 3)), (1, .int x)]) (st2 := [.int 1]) (w3 := w) rfl rfl ?_
        refine sx_RP.ret (r := (some (.int 1))) rfl rfl ?_
        exact ⟨⟨1, by decide, rfl⟩, rfl⟩
    · replace q1 := Decidable.not_not.mp (of_decide_eq_false q1)
      refine sx_RP.step (pc2 := 21) (ls2 := [(3, .int 0), (2, .int (nI 3)), (0, .int (nI 3)), (1, .int x)]) (st2 := [.int 1]) (w3 := w) rfl rfl ?_
      refine sx_RP.ret (r := (some (.int 1))) rfl rfl ?_
      exact ⟨⟨1, by decide, rfl⟩, rfl⟩
  obtain ⟨r, w2, h1, ⟨j, hj, rfl⟩, rfl⟩ := h
  exact ⟨j, hj, h1⟩
set_option maxRecDepth 20000 in
set_option maxHeartbeats 4000000 in
theorem p31_4 {xs : Option (List Int32)} {d : Nat} {w : List sx_C} (hI : WI w) (x : Int32) : ∃ j, j ≤ 1 ∧ sx_RU xs d 31 0 (lv_args 0 [.int (nI 4), .int x]) [] w (some (.int (nI j))) w := by
  have h : sx_RP xs d 31 0 (lv_args 0 [.int (nI 4), .int x]) [] w (fun r w2 => (∃ j, j ≤ 1 ∧ r = some (.int (nI j))) ∧ w2 = w) := by
    refine sx_RP.step (pc2 := 1) (ls2 := [(0, .int (nI 4)), (1, .int x)]) (st2 := [.int (nI 4)]) (w3 := w) rfl rfl ?_
    refine sx_RP.step (pc2 := 2) (ls2 := [(2, .int (nI 4)), (0, .int (nI 4)), (1, .int x)]) (st2 := []) (w3 := w) rfl rfl ?_
    refine sx_RP.step (pc2 := 3) (ls2 := [(2, .int (nI 4)), (0, .int (nI 4)), (1, .int x)]) (st2 := [.int 0]) (w3 := w) rfl rfl ?_
    refine sx_RP.step (pc2 := 4) (ls2 := [(3, .int 0), (2, .int (nI 4)), (0, .int (nI 4)), (1, .int x)]) (st2 := []) (w3 := w) rfl rfl ?_
    refine sx_RP.step (pc2 := 5) (ls2 := [(3, .int 0), (2, .int (nI 4)), (0, .int (nI 4)), (1, .int x)]) (st2 := [.int 0]) (w3 := w) rfl rfl ?_
    refine sx_RP.step (pc2 := 7) (ls2 := [(3, .int 0), (2, .int (nI 4)), (0, .int (nI 4)), (1, .int x)]) (st2 := [.int 6, .int 0]) (w3 := w) rfl rfl ?_
    refine sx_RP.step (pc2 := 10) (ls2 := [(3, .int 0), (2, .int (nI 4)), (0, .int (nI 4)), (1, .int x)]) (st2 := []) (w3 := w) rfl rfl ?_
    refine sx_RP.step (pc2 := 11) (ls2 := [(3, .int 0), (2, .int (nI 4)), (0, .int (nI 4)), (1, .int x)]) (st2 := [.int (nI 4)]) (w3 := w) rfl rfl ?_
    refine sx_RP.step (pc2 := 12) (ls2 := [(3, .int 0), (2, .int (nI 4)), (0, .int (nI 4)), (1, .int x)]) (st2 := [.int (-1), .int (nI 4)]) (w3 := w) rfl rfl ?_
    refine sx_RP.step (pc2 := 15) (ls2 := [(3, .int 0), (2, .int (nI 4)), (0, .int (nI 4)), (1, .int x)]) (st2 := []) (w3 := w) rfl rfl ?_
    refine sx_RP.step (pc2 := 16) (ls2 := [(3, .int 0), (2, .int (nI 4)), (0, .int (nI 4)), (1, .int x)]) (st2 := [.int (nI 4)]) (w3 := w) rfl rfl ?_
    refine sx_RP.step (pc2 := 17) (ls2 := [(3, .int 0), (2, .int (nI 4)), (0, .int (nI 4)), (1, .int x)]) (st2 := [.int x, .int (nI 4)]) (w3 := w) rfl rfl ?_
    refine sx_RP.br (p1 := 22) (l1 := [(3, .int 0), (2, .int (nI 4)), (0, .int (nI 4)), (1, .int x)]) (s1 := []) (v1 := w) (p2 := 20) (l2 := [(3, .int 0), (2, .int (nI 4)), (0, .int (nI 4)), (1, .int x)]) (s2 := []) (v2 := w) rfl rfl (fun q1 => ?_) (fun q1 => ?_)
    · replace q1 := of_decide_eq_true q1
      refine sx_RP.step (pc2 := 25) (ls2 := [(3, .int 0), (2, .int (nI 4)), (0, .int (nI 4)), (1, .int x)]) (st2 := [.float 1]) (w3 := w) rfl rfl ?_
      refine sx_RP.step (pc2 := 26) (ls2 := [(3, .int 0), (2, .int (nI 4)), (0, .int (nI 4)), (1, .int x)]) (st2 := [.int (nI 4), .float 1]) (w3 := w) rfl rfl ?_
      refine sx_RP.step (pc2 := 27) (ls2 := [(3, .int 0), (2, .int (nI 4)), (0, .int (nI 4)), (1, .int x)]) (st2 := [.int 2]) (w3 := w) rfl rfl ?_
      refine sx_RP.step (pc2 := 28) (ls2 := [(2, .int 2), (3, .int 0), (0, .int (nI 4)), (1, .int x)]) (st2 := []) (w3 := w) rfl rfl ?_
      refine sx_RP.step (pc2 := 31) (ls2 := [(3, .int 1), (2, .int 2), (0, .int (nI 4)), (1, .int x)]) (st2 := []) (w3 := w) rfl rfl ?_
      refine sx_RP.step (pc2 := 4) (ls2 := [(3, .int 1), (2, .int 2), (0, .int (nI 4)), (1, .int x)]) (st2 := []) (w3 := w) rfl rfl ?_
      refine sx_RP.step (pc2 := 5) (ls2 := [(3, .int 1), (2, .int 2), (0, .int (nI 4)), (1, .int x)]) (st2 := [.int 1]) (w3 := w) rfl rfl ?_
      refine sx_RP.step (pc2 := 7) (ls2 := [(3, .int 1), (2, .int 2), (0, .int (nI 4)), (1, .int x)]) (st2 := [.int 6, .int 1]) (w3 := w) rfl rfl ?_
      refine sx_RP.step (pc2 := 10) (ls2 := [(3, .int 1), (2, .int 2), (0, .int (nI 4)), (1, .int x)]) (st2 := []) (w3 := w) rfl rfl ?_
      refine sx_RP.step (pc2 := 11) (ls2 := [(3, .int 1), (2, .int 2), (0, .int (nI 4)), (1, .int x)]) (st2 := [.int 2]) (w3 := w) rfl rfl ?_
      refine sx_RP.step (pc2 := 12) (ls2 := [(3, .int 1), (2, .int 2), (0, .int (nI 4)), (1, .int x)]) (st2 := [.int (-1), .int 2]) (w3 := w) rfl rfl ?_
      refine sx_RP.step (pc2 := 15) (ls2 := [(3, .int 1), (2, .int 2), (0, .int (nI 4)), (1, .int x)]) (st2 := []) (w3 := w) rfl rfl ?_
      refine sx_RP.step (pc2 := 16) (ls2 := [(3, .int 1), (2, .int 2), (0, .int (nI 4)), (1, .int x)]) (st2 := [.int 2]) (w3 := w) rfl rfl ?_
      refine sx_RP.step (pc2 := 17) (ls2 := [(3, .int 1), (2, .int 2), (0, .int (nI 4)), (1, .int x)]) (st2 := [.int x, .int 2]) (w3 := w) rfl rfl ?_
      refine sx_RP.br (p1 := 22) (l1 := [(3, .int 1), (2, .int 2), (0, .int (nI 4)), (1, .int x)]) (s1 := []) (v1 := w) (p2 := 20) (l2 := [(3, .int 1), (2, .int 2), (0, .int (nI 4)), (1, .int x)]) (s2 := []) (v2 := w) rfl rfl (fun q2 => ?_) (fun q2 => ?_)
      · replace q2 := of_decide_eq_true q2
        refine sx_RP.step (pc2 := 25) (ls2 := [(3, .int 1), (2, .int 2), (0, .int (nI 4)), (1, .int x)]) (st2 := [.float 1]) (w3 := w) rfl rfl ?_
        refine sx_RP.step (pc2 := 26) (ls2 := [(3, .int 1), (2, .int 2), (0, .int (nI 4)), (1, .int x)]) (st2 := [.int 2, .float 1]) (w3 := w) rfl rfl ?_
        refine sx_RP.step (pc2 := 27) (ls2 := [(3, .int 1), (2, .int 2), (0, .int (nI 4)), (1, .int x)]) (st2 := [.int 0]) (w3 := w) rfl rfl ?_
        refine sx_RP.step (pc2 := 28) (ls2 := [(2, .int 0), (3, .int 1), (0, .int (nI 4)), (1, .int x)]) (st2 := []) (w3 := w) rfl rfl ?_
        refine sx_RP.step (pc2 := 31) (ls2 := [(3, .int 2), (2, .int 0), (0, .int (nI 4)), (1, .int x)]) (st2 := []) (w3 := w) rfl rfl ?_
        refine sx_RP.step (pc2 := 4) (ls2 := [(3, .int 2), (2, .int 0), (0, .int (nI 4)), (1, .int x)]) (st2 := []) (w3 := w) rfl rfl ?_
        refine sx_RP.step (pc2 := 5) (ls2 := [(3, .int 2), (2, .int 0), (0, .int (nI 4)), (1, .int x)]) (st2 := [.int 2]) (w3 := w) rfl rfl ?_
        refine sx_RP.step (pc2 := 7) (ls2 := [(3, .int 2), (2, .int 0), (0, .int (nI 4)), (1, .int x)]) (st2 := [.int 6, .int 2]) (w3 := w) rfl rfl ?_
        refine sx_RP.step (pc2 := 10) (ls2 := [(3, .int 2), (2, .int 0), (0, .int (nI 4)), (1, .int x)]) (st2 := []) (w3 := w) rfl rfl ?_
        refine sx_RP.step (pc2 := 11) (ls2 := [(3, .int 2), (2, .int 0), (0, .int (nI 4)), (1, .int x)]) (st2 := [.int 0]) (w3 := w) rfl rfl ?_
        refine sx_RP.step (pc2 := 12) (ls2 := [(3, .int 2), (2, .int 0), (0, .int (nI 4)), (1, .int x)]) (st2 := [.int (-1), .int 0]) (w3 := w) rfl rfl ?_
        refine sx_RP.step (pc2 := 15) (ls2 := [(3, .int 2), (2, .int 0), (0, .int (nI 4)), (1, .int x)]) (st2 := []) (w3 := w) rfl rfl ?_
        refine sx_RP.step (pc2 := 16) (ls2 := [(3, .int 2), (2, .int 0), (0, .int (nI 4)), (1, .int x)]) (st2 := [.int 0]) (w3 := w) rfl rfl ?_
        refine sx_RP.step (pc2 := 17) (ls2 := [(3, .int 2), (2, .int 0), (0, .int (nI 4)), (1, .int x)]) (st2 := [.int x, .int 0]) (w3 := w) rfl rfl ?_
        refine sx_RP.br (p1 := 22) (l1 := [(3, .int 2), (2, .int 0), (0, .int (nI 4)), (1, .int x)]) (s1 := []) (v1 := w) (p2 := 20) (l2 := [(3, .int 2), (2, .int 0), (0, .int (nI 4)), (1, .int x)]) (s2 := []) (v2 := w) rfl rfl (fun q3 => ?_) (fun q3 => ?_)
        · replace q3 := of_decide_eq_true q3
          refine sx_RP.step (pc2 := 25) (ls2 := [(3, .int 2), (2, .int 0), (0, .int (nI 4)), (1, .int x)]) (st2 := [.float 1]) (w3 := w) rfl rfl ?_
          refine sx_RP.step (pc2 := 26) (ls2 := [(3, .int 2), (2, .int 0), (0, .int (nI 4)), (1, .int x)]) (st2 := [.int 0, .float 1]) (w3 := w) rfl rfl ?_
          refine sx_RP.step (pc2 := 27) (ls2 := [(3, .int 2), (2, .int 0), (0, .int (nI 4)), (1, .int x)]) (st2 := [.int (-1)]) (w3 := w) rfl rfl ?_
          refine sx_RP.step (pc2 := 28) (ls2 := [(2, .int (-1)), (3, .int 2), (0, .int (nI 4)), (1, .int x)]) (st2 := []) (w3 := w) rfl rfl ?_
          refine sx_RP.step (pc2 := 31) (ls2 := [(3, .int 3), (2, .int (-1)), (0, .int (nI 4)), (1, .int x)]) (st2 := []) (w3 := w) rfl rfl ?_
          refine sx_RP.step (pc2 := 4) (ls2 := [(3, .int 3), (2, .int (-1)), (0, .int (nI 4)), (1, .int x)]) (st2 := []) (w3 := w) rfl rfl ?_
          refine sx_RP.step (pc2 := 5) (ls2 := [(3, .int 3), (2, .int (-1)), (0, .int (nI 4)), (1, .int x)]) (st2 := [.int 3]) (w3 := w) rfl rfl ?_
          refine sx_RP.step (pc2 := 7) (ls2 := [(3, .int 3), (2, .int (-1)), (0, .int (nI 4)), (1, .int x)]) (st2 := [.int 6, .int 3]) (w3 := w) rfl rfl ?_
          refine sx_RP.step (pc2 := 10) (ls2 := [(3, .int 3), (2, .int (-1)), (0, .int (nI 4)), (1, .int x)]) (st2 := []) (w3 := w) rfl rfl ?_
          refine sx_RP.step (pc2 := 11) (ls2 := [(3, .int 3), (2, .int (-1)), (0, .int (nI 4)), (1, .int x)]) (st2 := [.int (-1)]) (w3 := w) rfl rfl ?_
          refine sx_RP.step (pc2 := 12) (ls2 := [(3, .int 3), (2, .int (-1)), (0, .int (nI 4)), (1, .int x)]) (st2 := [.int (-1), .int (-1)]) (w3 := w) rfl rfl ?_
          refine sx_RP.step (pc2 := 34) (ls2 := [(3, .int 3), (2, .int (-1)), (0, .int (nI 4)), (1, .int x)]) (st2 := []) (w3 := w) rfl rfl ?_
          refine sx_RP.step (pc2 := 35) (ls2 := [(3, .int 3), (2, .int (-1)), (0, .int (nI 4)), (1, .int x)]) (st2 := [.int 0]) (w3 := w) rfl rfl ?_
          refine sx_RP.ret (r := (some (.int 0))) rfl rfl ?_
          exact ⟨⟨0, by decide, rfl⟩, rfl⟩
        · replace q3 := Decidable.not_not.mp (of_decide_eq_false q3)
          refine sx_RP.step (pc2 := 21) (ls2 := [(3, .int 2), (2, .int 0), (0, .int (nI 4)), (1, .int x)]) (st2 := [.int 1]) (w3 := w) rfl rfl ?_
          refine sx_RP.ret (r := (some (.int 1))) rfl rfl ?_
          exact ⟨⟨1, by decide, rfl⟩, rfl⟩
      · replace q2 := Decidable.not_not.mp (of_decide_eq_false q2)
        refine sx_RP.step (pc2 := 21) (ls2 := [(3, .int 1), (2, .int 2), (0, .int (nI 4)), (1, .int x)]) (st2 := [.int 1]) (w3 := w) rfl rfl ?_
        refine sx_RP.ret (r := (some (.int 1))) rfl rfl ?_
        exact ⟨⟨1, by decide, rfl⟩, rfl⟩
    · replace q1 := Decidable.not_not.mp (of_decide_eq_false q1)
      refine sx_RP.step (pc2 := 21) (ls2 := [(3, .int 0), (2, .int (nI 4)), (0, .int (nI 4)), (1, .int x)]) (st2 := [.int 1]) (w3 := w) rfl rfl ?_
      refine sx_RP.ret (r := (some (.int 1))) rfl rfl ?_
      exact ⟨⟨1, by decide, rfl⟩, rfl⟩
  obtain ⟨r, w2, h1, ⟨j, hj, rfl⟩, rfl⟩ := h
  exact ⟨j, hj, h1⟩
set_option maxRecDepth 20000 in
set_option maxHeartbeats 4000000 in
theorem p31_5 {xs : Option (List Int32)} {d : Nat} {w : List sx_C} (hI : WI w) (x : Int32) : ∃ j, j ≤ 1 ∧ sx_RU xs d 31 0 (lv_args 0 [.int (nI 5), .int x]) [] w (some (.int (nI j))) w := by
  have h : sx_RP xs d 31 0 (lv_args 0 [.int (nI 5), .int x]) [] w (fun r w2 => (∃ j, j ≤ 1 ∧ r = some (.int (nI j))) ∧ w2 = w) := by
    refine sx_RP.step (pc2 := 1) (ls2 := [(0, .int (nI 5)), (1, .int x)]) (st2 := [.int (nI 5)]) (w3 := w) rfl rfl ?_
    refine sx_RP.step (pc2 := 2) (ls2 := [(2, .int (nI 5)), (0, .int (nI 5)), (1, .int x)]) (st2 := []) (w3 := w) rfl rfl ?_
    refine sx_RP.step (pc2 := 3) (ls2 := [(2, .int (nI 5)), (0, .int (nI 5)), (1, .int x)]) (st2 := [.int 0]) (w3 := w) rfl rfl ?_
    refine sx_RP.step (pc2 := 4) (ls2 := [(3, .int 0), (2, .int (nI 5)), (0, .int (nI 5)), (1, .int x)]) (st2 := []) (w3 := w) rfl rfl ?_
    refine sx_RP.step (pc2 := 5) (ls2 := [(3, .int 0), (2, .int (nI 5)), (0, .int (nI 5)), (1, .int x)]) (st2 := [.int 0]) (w3 := w) rfl rfl ?_
    refine sx_RP.step (pc2 := 7) (ls2 := [(3, .int 0), (2, .int (nI 5)), (0, .int (nI 5)), (1, .int x)]) (st2 := [.int 6, .int 0]) (w3 := w) rfl rfl ?_
    refine sx_RP.step (pc2 := 10) (ls2 := [(3, .int 0), (2, .int (nI 5)), (0, .int (nI 5)), (1, .int x)]) (st2 := []) (w3 := w) rfl rfl ?_
    refine sx_RP.step (pc2 := 11) (ls2 := [(3, .int 0), (2, .int (nI 5)), (0, .int (nI 5)), (1, .int x)]) (st2 := [.int (nI 5)]) (w3 := w) rfl rfl ?_
    refine sx_RP.step (pc2 := 12) (ls2 := [(3, .int 0), (2, .int (nI 5)), (0, .int (nI 5)), (1, .int x)]) (st2 := [.int (-1), .int (nI 5)]) (w3 := w) rfl rfl ?_
    refine sx_RP.step (pc2 := 15) (ls2 := [(3, .int 0), (2, .int (nI 5)), (0, .int (nI 5)), (1, .int x)]) (st2 := []) (w3 := w) rfl rfl ?_
    refine sx_RP.step (pc2 := 16) (ls2 := [(3, .int 0), (2, .int (nI 5)), (0, .int (nI 5)), (1, .int x)]) (st2 := [.int (nI 5)]) (w3 := w) rfl rfl ?_
    refine sx_RP.step (pc2 := 17) (ls2 := [(3, .int 0), (2, .int (nI 5)), (0, .int (nI 5)), (1, .int x)]) (st2 := [.int x, .int (nI 5)]) (w3 := w) rfl rfl ?_
    refine sx_RP.br (p1 := 22) (l1 := [(3, .int 0), (2, .int (nI 5)), (0, .int (nI 5)), (1, .int x)]) (s1 := []) (v1 := w) (p2 := 20) (l2 := [(3, .int 0), (2, .int (nI 5)), (0, .int (nI 5)), (1, .int x)]) (s2 := []) (v2 := w) rfl rfl (fun q1 => ?_) (fun q1 => ?_)
    · replace q1 := of_decide_eq_true q1
      refine sx_RP.step (pc2 := 25) (ls2 := [(3, .int 0), (2, .int (nI 5)), (0, .int (nI 5)), (1, .int x)]) (st2 := [.float 1]) (w3 := w) rfl rfl ?_
      refine sx_RP.step (pc2 := 26) (ls2 := [(3, .int 0), (2, .int (nI 5)), (0, .int (nI 5)), (1, .int x)]) (st2 := [.int (nI 5), .float 1]) (w3 := w) rfl rfl ?_
      refine sx_RP.step (pc2 := 27) (ls2 := [(3, .int 0), (2, .int (nI 5)), (0, .int (nI 5)), (1, .int x)]) (st2 := [.int 3]) (w3 := w) rfl rfl ?_
      refine sx_RP.step (pc2 := 28) (ls2 := [(2, .int 3), (3, .int 0), (0, .int (nI 5)), (1, .int x)]) (st2 := []) (w3 := w) rfl rfl ?_
      refine sx_RP.step (pc2 := 31) (ls2 := [(3, .int 1), (2, .int 3), (0, .int (nI 5)), (1, .int x)]) (st2 := []) (w3 := w) rfl rfl ?_
      refine sx_RP.step (pc2 := 4) (ls2 := [(3, .int 1), (2, .int 3), (0, .int (nI 5)), (1, .int x)]) (st2 := []) (w3 := w) rfl rfl ?_
      refine sx_RP.step (pc2 := 5) (ls2 := [(3, .int 1), (2, .int 3), (0, .int (nI 5)), (1, .int x)]) (st2 := [.int 1]) (w3 := w) rfl rfl ?_
      refine sx_RP.step (pc2 := 7) (ls2 := [(3, .int 1), (2, .int 3), (0, .int (nI 5)), (1, .int x)]) (st2 := [.int 6, .int 1]) (w3 := w) rfl rfl ?_
      refine sx_RP.step (pc2 := 10) (ls2 := [(3, .int 1), (2, .int 3), (0, .int (nI 5)), (1, .int x)]) (st2 := []) (w3 := w) rfl rfl ?_
      refine sx_RP.step (pc2 := 11) (ls2 := [(3, .int 1), (2, .int 3), (0, .int (nI 5)), (1, .int x)]) (st2 := [.int 3]) (w3 := w) rfl rfl ?_
      refine sx_RP.step (pc2 := 12) (ls2 := [(3, .int 1), (2, .int 3), (0, .int (nI 5)), (1, .int x)]) (st2 := [.int (-1), .int 3]) (w3 := w) rfl rfl ?_
      refine sx_RP.step (pc2 := 15) (ls2 := [(3, .int 1), (2, .int 3), (0, .int (nI 5)), (1, .int x)]) (st2 := []) (w3 := w) rfl rfl ?_
      refine sx_RP.step (pc2 := 16) (ls2 := [(3, .int 1), (2, .int 3), (0, .int (nI 5)), (1, .int x)]) (st2 := [.int 3]) (w3 := w) rfl rfl ?_
      refine sx_RP.step (pc2 := 17) (ls2 := [(3, .int 1), (2, .int 3), (0, .int (nI 5)), (1, .int x)]) (st2 := [.int x, .int 3]) (w3 := w) rfl rfl ?_
      refine sx_RP.br (p1 := 22) (l1 := [(3, .int 1), (2, .int 3), (0, .int (nI 5)), (1, .int x)]) (s1 := []) (v1 := w) (p2 := 20) (l2 := [(3, .int 1), (2, .int 3), (0, .int (nI 5)), (1, .int x)]) (s2 := []) (v2 := w) rfl rfl (fun q2 => ?_) (fun q2 => ?_)
      · replace q2 := of_decide_eq_true q2
        refine sx_RP.step (pc2 := 25) (ls2 := [(3, .int 1), (2, .int 3), (0, .int (nI 5)), (1, .int x)]) (st2 := [.float 1]) (w3 := w) rfl rfl ?_
        refine sx_RP.step (pc2 := 26) (ls2 := [(3, .int 1), (2, .int 3), (0, .int (nI 5)), (1, .int x)]) (st2 := [.int 3, .float 1]) (w3 := w) rfl rfl ?_
        refine sx_RP.step (pc2 := 27) (ls2 := [(3, .int 1), (2, .int 3), (0, .int (nI 5)), (1, .int x)]) (st2 := [.int 1]) (w3 := w) rfl rfl ?_
        refine sx_RP.step (pc2 := 28) (ls2 := [(2, .int 1), (3, .int 1), (0, .int (nI 5)), (1, .int x)]) (st2 := []) (w3 := w) rfl rfl ?_
        refine sx_RP.step (pc2 := 31) (ls2 := [(3, .int 2), (2, .int 1), (0, .int (nI 5)), (1, .int x)]) (st2 := []) (w3 := w) rfl rfl ?_
        refine sx_RP.step (pc2 := 4) (ls2 := [(3, .int 2), (2, .int 1), (0, .int (nI 5)), (1, .int x)]) (st2 := []) (w3 := w) rfl rfl ?_
        refine sx_RP.step (pc2 := 5) (ls2 := [(3, .int 2), (2, .int 1), (0, .int (nI 5)), (1, .int x)]) (st2 := [.int 2]) (w3 := w) rfl rfl ?_
        refine sx_RP.step (pc2 := 7) (ls2 := [(3, .int 2), (2, .int 1), (0, .int (nI 5)), (1, .int x)]) (st2 := [.int 6, .int 2]) (w3 := w) rfl rfl ?_
        refine sx_RP.step (pc2 := 10) (ls2 := [(3, .int 2), (2, .int 1), (0, .int (nI 5)), (1, .int x)]) (st2 := []) (w3 := w) rfl rfl ?_
        refine sx_RP.step (pc2 := 11) (ls2 := [(3, .int 2), (2, .int 1), (0, .int (nI 5)), (1, .int x)]) (st2 := [.int 1]) (w3 := w) rfl rfl ?_
        refine sx_RP.step (pc2 := 12) (ls2 := [(3, .int 2), (2, .int 1), (0, .int (nI 5)), (1, .int x)]) (st2 := [.int (-1), .int 1]) (w3 := w) rfl rfl ?_
        refine sx_RP.step (pc2 := 15) (ls2 := [(3, .int 2), (2, .int 1), (0, .int (nI 5)), (1, .int x)]) (st2 := []) (w3 := w) rfl rfl ?_
        refine sx_RP.step (pc2 := 16) (ls2 := [(3, .int 2), (2, .int 1), (0, .int (nI 5)), (1, .int x)]) (st2 := [.int 1]) (w3 := w) rfl rfl ?_
        refine sx_RP.step (pc2 := 17) (ls2 := [(3, .int 2), (2, .int 1), (0, .int (nI 5)), (1, .int x)]) (st2 := [.int x, .int 1]) (w3 := w) rfl rfl ?_
        refine sx_RP.br (p1 := 22) (l1 := [(3, .int 2), (2, .int 1), (0, .int (nI 5)), (1, .int x)]) (s1 := []) (v1 := w) (p2 := 20) (l2 := [(3, .int 2), (2, .int 1), (0, .int (nI 5)), (1, .int x)]) (s2 := []) (v2 := w) rfl rfl (fun q3 => ?_) (fun q3 => ?_)
        · replace q3 := of_decide_eq_true q3
          refine sx_RP.step (pc2 := 25) (ls2 := [(3, .int 2), (2, .int 1), (0, .int (nI 5)), (1, .int x)]) (st2 := [.float 1]) (w3 := w) rfl rfl ?_
          refine sx_RP.step (pc2 := 26) (ls2 := [(3, .int 2), (2, .int 1), (0, .int (nI 5)), (1, .int x)]) (st2 := [.int 1, .float 1]) (w3 := w) rfl rfl ?_
          refine sx_RP.step (pc2 := 27) (ls2 := [(3, .int 2), (2, .int 1), (0, .int (nI 5)), (1, .int x)]) (st2 := [.int 0]) (w3 := w) rfl rfl ?_
          refine sx_RP.step (pc2 := 28) (ls2 := [(2, .int 0), (3, .int 2), (0, .int (nI 5)), (1, .int x)]) (st2 := []) (w3 := w) rfl rfl ?_
          refine sx_RP.step (pc2 := 31) (ls2 := [(3, .int 3), (2, .int 0), (0, .int (nI 5)), (1, .int x)]) (st2 := []) (w3 := w) rfl rfl ?_
          refine sx_RP.step (pc2 := 4) (ls2 := [(3, .int 3), (2, .int 0), (0, .int (nI 5)), (1, .int x)]) (st2 := []) (w3 := w) rfl rfl ?_
          refine sx_RP.step (pc2 := 5) (ls2 := [(3, .int 3), (2, .int 0), (0, .int (nI 5)), (1, .int x)]) (st2 := [.int 3]) (w3 := w) rfl rfl ?_
          refine sx_RP.step (pc2 := 7) (ls2 := [(3, .int 3), (2, .int 0), (0, .int (nI 5)), (1, .int x)]) (st2 := [.int 6, .int 3]) (w3 := w) rfl rfl ?_
          refine sx_RP.step (pc2 := 10) (ls2 := [(3, .int 3), (2, .int 0), (0, .int (nI 5)), (1, .int x)]) (st2 := []) (w3 := w) rfl rfl ?_
          refine sx_RP.step (pc2 := 11) (ls2 := [(3, .int 3), (2, .int 0), (0, .int (nI 5)), (1, .int x)]) (st2 := [.int 0]) (w3 := w) rfl rfl ?_
          refine sx_RP.step (pc2 := 12) (ls2 := [(3, .int 3), (2, .int 0), (0, .int (nI 5)), (1, .int x)]) (st2 := [.int (-1), .int 0]) (w3 := w) rfl rfl ?_
          refine sx_RP.step (pc2 := 15) (ls2 := [(3, .int 3), (2, .int 0), (0, .int (nI 5)), (1, .int x)]) (st2 := []) (w3 := w) rfl rfl ?_
          refine sx_RP.step (pc2 := 16) (ls2 := [(3, .int 3), (2, .int 0), (0, .int (nI 5)), (1, .int x)]) (st2 := [.int 0]) (w3 := w) rfl rfl ?_
          refine sx_RP.step (pc2 := 17) (ls2 := [(3, .int 3), (2, .int 0), (0, .int (nI 5)), (1, .int x)]) (st2 := [.int x, .int 0]) (w3 := w) rfl rfl ?_
          refine sx_RP.br (p1 := 22) (l1 := [(3, .int 3), (2, .int 0), (0, .int (nI 5)), (1, .int x)]) (s1 := []) (v1 := w) (p2 := 20) (l2 := [(3, .int 3), (2, .int 0), (0, .int (nI 5)), (1, .int x)]) (s2 := []) (v2 := w) rfl rfl (fun q4 => ?_) (fun q4 => ?_)
          · replace q4 := of_decide_eq_true q4
            refine sx_RP.step (pc2 := 25) (ls2 := [(3, .int 3), (2, .int 0), (0, .int (nI 5)), (1, .int x)]) (st2 := [.float 1]) (w3 := w) rfl rfl ?_
            refine sx_RP.step (pc2 := 26) (ls2 := [(3, .int 3), (2, .int 0), (0, .int (nI 5)), (1, .int x)]) (st2 := [.int 0, .float 1]) (w3 := w) rfl rfl ?_
            refine sx_RP.step (pc2 := 27) (ls2 := [(3, .int 3), (2, .int 0), (0, .int (nI 5)), (1, .int x)]) (st2 := [.int (-1)]) (w3 := w) rfl rfl ?_
            refine sx_RP.step (pc2 := 28) (ls2 := [(2, .int (-1)), (3, .int 3), (0, .int (nI 5)), (1, .int x)]) (st2 := []) (w3 := w) rfl rfl ?_
            refine sx_RP.step (pc2 := 31) (ls2 := [(3, .int 4), (2, .int (-1)), (0, .int (nI 5)), (1, .int x)]) (st2 := []) (w3 := w) rfl rfl ?_
            refine sx_RP.step (pc2 := 4) (ls2 := [(3, .int 4), (2, .int (-1)), (0, .int (nI 5)), (1, .int x)]) (st2 := []) (w3 := w) rfl rfl ?_
            refine sx_RP.step (pc2 := 5) (ls2 := [(3, .int 4), (2, .int (-1)), (0, .int (nI 5)), (1, .int x)]) (st2 := [.int 4]) (w3 := w) rfl rfl ?_
            refine sx_RP.step (pc2 := 7) (ls2 := [(3, .int 4), (2, .int (-1)), (0, .int (nI 5)), (1, .int x)]) (st2 := [.int 6, .int 4]) (w3 := w) rfl rfl ?_
            refine sx_RP.step (pc2 := 10) (ls2 := [(3, .int 4), (2, .int (-1)), (0, .int (nI 5)), (1, .int x)]) (st2 := []) (w3 := w) rfl rfl ?_
            refine sx_RP.step (pc2 := 11) (ls2 := [(3, .int 4), (2, .int (-1)), (0, .int (nI 5)), (1, .int x)]) (st2 := [.int (-1)]) (w3 := w) rfl rfl ?_
            refine sx_RP.step (pc2 := 12) (ls2 := [(3, .int 4), (2, .int (-1)), (0, .int (nI 5)), (1, .int x)]) (st2 := [.int (-1), .int (-1)]) (w3 := w) rfl rfl ?_
            refine sx_RP.step (pc2 := 34) (ls2 := [(3, .int 4), (2, .int (-1)), (0, .int (nI 5)), (1, .int x)]) (st2 := []) (w3 := w) rfl rfl ?_
            refine sx_RP.step (pc2 := 35) (ls2 := [(3, .int 4), (2, .int (-1)), (0, .int (nI 5)), (1, .int x)]) (st2 := [.int 0]) (w3 := w) rfl rfl ?_
            refine sx_RP.ret (r := (some (.int 0))) rfl rfl ?_
            exact ⟨⟨0, by decide, rfl⟩, rfl⟩
          · replace q4 := Decidable.not_not.mp (of_decide_eq_false q4)
            refine sx_RP.step (pc2 := 21) (ls2 := [(3, .int 3), (2, .int 0), (0, .int (nI 5)), (1, .int x)]) (st2 := [.int 1]) (w3 := w) rfl rfl ?_
            refine sx_RP.ret (r := (some (.int 1))) rfl rfl ?_
            exact ⟨⟨1, by decide, rfl⟩, rfl⟩
        · replace q3 := Decidable.not_not.mp (of_decide_eq_false q3)
          refine sx_RP.step (pc2 := 21) (ls2 := [(3, .int 2), (2, .int 1), (0, .int (nI 5)), (1, .int x)]) (st2 := [.int 1]) (w3 := w) rfl rfl ?_
          refine sx_RP.ret (r := (some (.int 1))) rfl rfl ?_
          exact ⟨⟨1, by decide, rfl⟩, rfl⟩
      · replace q2 := Decidable.not_not.mp (of_decide_eq_false q2)
        refine sx_RP.step (pc2 := 21) (ls2 := [(3, .int 1), (2, .int 3), (0, .int (nI 5)), (1, .int x)]) (st2 := [.int 1]) (w3 := w) rfl rfl ?_
        refine sx_RP.ret (r := (some (.int 1))) rfl rfl ?_
        exact ⟨⟨1, by decide, rfl⟩, rfl⟩
    · replace q1 := Decidable.not_not.mp (of_decide_eq_false q1)
      refine sx_RP.step (pc2 := 21) (ls2 := [(3, .int 0), (2, .int (nI 5)), (0, .int (nI 5)), (1, .int x)]) (st2 := [.int 1]) (w3 := w) rfl rfl ?_
      refine sx_RP.ret (r := (some (.int 1))) rfl rfl ?_
      exact ⟨⟨1, by decide, rfl⟩, rfl⟩
  obtain ⟨r, w2, h1, ⟨j, hj, rfl⟩, rfl⟩ := h
  exact ⟨j, hj, h1⟩
theorem p31 {xs : Option (List Int32)} {d : Nat} {w : List sx_C} (hI : WI w) {k : Nat} (hk : k ≤ 5) (x : Int32) : ∃ j, j ≤ 1 ∧ sx_RU xs d 31 0 (lv_args 0 [.int (nI k), .int x]) [] w (some (.int (nI j))) w := by
  rcases (show k = 0 ∨ k = 1 ∨ k = 2 ∨ k = 3 ∨ k = 4 ∨ k = 5 by omega) with rfl | rfl | rfl | rfl | rfl | rfl
  · exact p31_0 hI x
  · exact p31_1 hI x
  · exact p31_2 hI x
  · exact p31_3 hI x
  · exact p31_4 hI x
  · exact p31_5 hI x
set_option maxRecDepth 20000 in
set_option maxHeartbeats 4000000 in
theorem p38 {xs : Option (List Int32)} {d : Nat} {w : List sx_C} (hI : WI w) {k s : Nat} (hk : k ≤ 5) (hs : s ≤ 3) : ∃ j, j ≤ 1 ∧ sx_RU xs (d + 1) 38 0 (lv_args 0 [.int (nI k), .int (nI s)]) [] w (some (.int (nI j))) w := by
  have h : sx_RP xs (d + 1) 38 0 (lv_args 0 [.int (nI k), .int (nI s)]) [] w (fun r w2 => (∃ j, j ≤ 1 ∧ r = some (.int (nI j))) ∧ w2 = w) := by
    refine sx_RP.step (pc2 := 1) (ls2 := [(0, .int (nI k)), (1, .int (nI s))]) (st2 := [.int (nI s)]) (w3 := w) rfl rfl ?_
    refine sx_RP.step (pc2 := 2) (ls2 := [(0, .int (nI k)), (1, .int (nI s))]) (st2 := [.int 1, .int (nI s)]) (w3 := w) rfl rfl ?_
    refine sx_RP.br (p1 := 13) (l1 := [(0, .int (nI k)), (1, .int (nI s))]) (s1 := []) (v1 := w) (p2 := 5) (l2 := [(0, .int (nI k)), (1, .int (nI s))]) (s2 := []) (v2 := w) rfl rfl (fun q1 => ?_) (fun q1 => ?_)
    · replace q1 := of_decide_eq_true q1
      replace q1 := mt (nI_eq (a := s) (b := 1) (by omega) (by omega)).mpr q1
      refine sx_RP.step (pc2 := 14) (ls2 := [(0, .int (nI k)), (1, .int (nI s))]) (st2 := [.int 1]) (w3 := w) rfl rfl ?_
      refine sx_RP.step (pc2 := 18) (ls2 := [(0, .int (nI k)), (1, .int (nI s))]) (st2 := [.int 1]) (w3 := w) rfl rfl ?_
      refine sx_RP.ret (r := (some (.int 1))) rfl rfl ?_
      exact ⟨⟨1, by decide, rfl⟩, rfl⟩
    · replace q1 := Decidable.not_not.mp (of_decide_eq_false q1)
      replace q1 := (nI_eq (a := s) (b := 1) (by omega) (by omega)).mp q1
      refine sx_RP.step (pc2 := 6) (ls2 := [(0, .int (nI k)), (1, .int (nI s))]) (st2 := [.int (nI k)]) (w3 := w) rfl rfl ?_
      refine sx_RP.step (pc2 := 7) (ls2 := [(0, .int (nI k)), (1, .int (nI s))]) (st2 := [.int 1, .int (nI k)]) (w3 := w) rfl rfl ?_
      obtain ⟨x2, hx3, c4⟩ := p31 hI (show k ≤ 5 by omega) 1
      refine sx_RP.cu (as := [.int (nI k), .int 1]) (rest2 := []) (st3 := [.int (nI x2)]) rfl rfl rfl rfl rfl (c4) rfl ?_
      refine sx_RP.br (p1 := 17) (l1 := [(0, .int (nI k)), (1, .int (nI s))]) (s1 := []) (v1 := w) (p2 := 13) (l2 := [(0, .int (nI k)), (1, .int (nI s))]) (s2 := []) (v2 := w) rfl rfl (fun q5 => ?_) (fun q5 => ?_)
      · replace q5 := of_decide_eq_true q5
        replace q5 := (nI_eq (a := x2) (b := 0) (by omega) (by omega)).mp q5
        refine sx_RP.step (pc2 := 18) (ls2 := [(0, .int (nI k)), (1, .int (nI s))]) (st2 := [.int 0]) (w3 := w) rfl rfl ?_
        refine sx_RP.ret (r := (some (.int 0))) rfl rfl ?_
        exact ⟨⟨0, by decide, rfl⟩, rfl⟩
      · replace q5 := of_decide_eq_false q5
        replace q5 := mt (nI_eq (a := x2) (b := 0) (by omega) (by omega)).mpr q5
        refine sx_RP.step (pc2 := 14) (ls2 := [(0, .int (nI k)), (1, .int (nI s))]) (st2 := [.int 1]) (w3 := w) rfl rfl ?_
        refine sx_RP.step (pc2 := 18) (ls2 := [(0, .int (nI k)), (1, .int (nI s))]) (st2 := [.int 1]) (w3 := w) rfl rfl ?_
        refine sx_RP.ret (r := (some (.int 1))) rfl rfl ?_
        exact ⟨⟨1, by decide, rfl⟩, rfl⟩
  obtain ⟨r, w2, h1, ⟨j, hj, rfl⟩, rfl⟩ := h
  exact ⟨j, hj, h1⟩
set_option maxRecDepth 20000 in
set_option maxHeartbeats 4000000 in
theorem p37 {xs : Option (List Int32)} {d : Nat} {w : List sx_C} (hI : WI w) {A : Nat} (hA : isA A) {k c : Nat} (hk : k ≤ 5) (hc : c < 48) : ∃ j, j ≤ 1 ∧ sx_RU xs (d + 2) 37 0 (lv_args 0 [.ref A, .int (nI k), .int (nI c)]) [] w (some (.int (nI j))) w := by
  have h : sx_RP xs (d + 2) 37 0 (lv_args 0 [.ref A, .int (nI k), .int (nI c)]) [] w (fun r w2 => (∃ j, j ≤ 1 ∧ r = some (.int (nI j))) ∧ w2 = w) := by
    refine sx_RP.step (pc2 := 1) (ls2 := [(0, .ref A), (1, .int (nI k)), (2, .int (nI c))]) (st2 := [.int (nI k)]) (w3 := w) rfl rfl ?_
    refine sx_RP.step (pc2 := 2) (ls2 := [(0, .ref A), (1, .int (nI k)), (2, .int (nI c))]) (st2 := [.ref A, .int (nI k)]) (w3 := w) rfl rfl ?_
    refine sx_RP.gref (k := 0) (b := A + 1) hI hA rfl rfl (by omega) (show _ = 5 from rfl) ?_
    refine sx_RP.step (pc2 := 6) (ls2 := [(0, .ref A), (1, .int (nI k)), (2, .int (nI c))]) (st2 := [.int (nI c), .ref (A + 1), .int (nI k)]) (w3 := w) rfl rfl ?_
    refine sx_RP.ild (c := c) rfl (hI.1.aS hA).1 (hI.1.aS hA).2 (sx_in_nI (show c < 48 by omega) (by decide)) (show (nI c).toNatClampNeg = c from nI_clamp (by omega)) (show _ = 7 from rfl) ?_
    obtain ⟨x1, hx2, ex3⟩ : inR ((ia w (A + 1)).getD c 0) 3 := hI.st hA (show c < 48 by omega)
    rw [ex3]
    obtain ⟨x4, hx5, c6⟩ := p38 hI (show k ≤ 5 by omega) (show x1 ≤ 3 by omega)
    refine sx_RP.cu (as := [.int (nI k), .int (nI x1)]) (rest2 := []) (st3 := [.int (nI x4)]) rfl rfl rfl rfl rfl (c6) rfl ?_
    refine sx_RP.ret (r := (some (.int (nI x4)))) rfl (bo_ret rfl (inR.n (show x4 ≤ 1 by omega))) ?_
    exact ⟨⟨x4, by omega, rfl⟩, rfl⟩
  obtain ⟨r, w2, h1, ⟨j, hj, rfl⟩, rfl⟩ := h
  exact ⟨j, hj, h1⟩
set_option maxRecDepth 20000 in
set_option maxHeartbeats 4000000 in
theorem p57 {xs : Option (List Int32)} {d : Nat} {w : List sx_C} (hI : WI w) {A : Nat} (hA : isA A) {k c : Nat} (hk : k ≤ 5) (hc : c < 48) : ∃ j, j ≤ 1 ∧ sx_RU xs (d + 3) 57 0 (lv_args 0 [.ref A, .int (nI k), .int (nI c)]) [] w (some (.int (nI j))) w := by
  have h : sx_RP xs (d + 3) 57 0 (lv_args 0 [.ref A, .int (nI k), .int (nI c)]) [] w (fun r w2 => (∃ j, j ≤ 1 ∧ r = some (.int (nI j))) ∧ w2 = w) := by
    refine sx_RP.step (pc2 := 1) (ls2 := [(0, .ref A), (1, .int (nI k)), (2, .int (nI c))]) (st2 := [.ref A]) (w3 := w) rfl rfl ?_
    refine sx_RP.gref (k := 0) (b := A + 1) hI hA rfl rfl (by omega) (show _ = 4 from rfl) ?_
    refine sx_RP.step (pc2 := 5) (ls2 := [(0, .ref A), (1, .int (nI k)), (2, .int (nI c))]) (st2 := [.int (nI c), .ref (A + 1)]) (w3 := w) rfl rfl ?_
    refine sx_RP.ild (c := c) rfl (hI.1.aS hA).1 (hI.1.aS hA).2 (sx_in_nI (show c < 48 by omega) (by decide)) (show (nI c).toNatClampNeg = c from nI_clamp (by omega)) (show _ = 6 from rfl) ?_
    obtain ⟨x1, hx2, ex3⟩ : inR ((ia w (A + 1)).getD c 0) 3 := hI.st hA (show c < 48 by omega)
    rw [ex3]
    refine sx_RP.step (pc2 := 7) (ls2 := [(0, .ref A), (1, .int (nI k)), (2, .int (nI c))]) (st2 := [.int 3, .int (nI x1)]) (w3 := w) rfl rfl ?_
    refine sx_RP.br (p1 := 23) (l1 := [(0, .ref A), (1, .int (nI k)), (2, .int (nI c))]) (s1 := []) (v1 := w) (p2 := 10) (l2 := [(0, .ref A), (1, .int (nI k)), (2, .int (nI c))]) (s2 := []) (v2 := w) rfl rfl (fun q4 => ?_) (fun q4 => ?_)
    · replace q4 := of_decide_eq_true q4
      replace q4 := (nI_eq (a := x1) (b := 3) (by omega) (by omega)).mp q4
      refine sx_RP.step (pc2 := 24) (ls2 := [(0, .ref A), (1, .int (nI k)), (2, .int (nI c))]) (st2 := [.int 0]) (w3 := w) rfl rfl ?_
      refine sx_RP.ret (r := (some (.int 0))) rfl rfl ?_
      exact ⟨⟨0, by decide, rfl⟩, rfl⟩
    · replace q4 := of_decide_eq_false q4
      replace q4 := mt (nI_eq (a := x1) (b := 3) (by omega) (by omega)).mpr q4
      refine sx_RP.step (pc2 := 11) (ls2 := [(0, .ref A), (1, .int (nI k)), (2, .int (nI c))]) (st2 := [.ref A]) (w3 := w) rfl rfl ?_
      refine sx_RP.step (pc2 := 12) (ls2 := [(0, .ref A), (1, .int (nI k)), (2, .int (nI c))]) (st2 := [.int (nI k), .ref A]) (w3 := w) rfl rfl ?_
      refine sx_RP.step (pc2 := 13) (ls2 := [(0, .ref A), (1, .int (nI k)), (2, .int (nI c))]) (st2 := [.int (nI c), .int (nI k), .ref A]) (w3 := w) rfl rfl ?_
      obtain ⟨x5, hx6, c7⟩ := p37 hI hA (show k ≤ 5 by omega) (show c < 48 by omega)
      refine sx_RP.cu (as := [.ref A, .int (nI k), .int (nI c)]) (rest2 := []) (st3 := [.int (nI x5)]) rfl rfl (sx_inv_v2 (mi := 57) (k := 103) (st := [.int (nI c), .int (nI k), .ref A]) (w := w) rfl rfl (hI.1.oC hA) rfl rfl rfl) rfl rfl (c7) rfl ?_
      refine sx_RP.br (p1 := 23) (l1 := [(0, .ref A), (1, .int (nI k)), (2, .int (nI c))]) (s1 := []) (v1 := w) (p2 := 19) (l2 := [(0, .ref A), (1, .int (nI k)), (2, .int (nI c))]) (s2 := []) (v2 := w) rfl rfl (fun q8 => ?_) (fun q8 => ?_)
      · replace q8 := of_decide_eq_true q8
        replace q8 := (nI_eq (a := x5) (b := 0) (by omega) (by omega)).mp q8
        refine sx_RP.step (pc2 := 24) (ls2 := [(0, .ref A), (1, .int (nI k)), (2, .int (nI c))]) (st2 := [.int 0]) (w3 := w) rfl rfl ?_
        refine sx_RP.ret (r := (some (.int 0))) rfl rfl ?_
        exact ⟨⟨0, by decide, rfl⟩, rfl⟩
      · replace q8 := of_decide_eq_false q8
        replace q8 := mt (nI_eq (a := x5) (b := 0) (by omega) (by omega)).mpr q8
        refine sx_RP.step (pc2 := 20) (ls2 := [(0, .ref A), (1, .int (nI k)), (2, .int (nI c))]) (st2 := [.int 1]) (w3 := w) rfl rfl ?_
        refine sx_RP.step (pc2 := 24) (ls2 := [(0, .ref A), (1, .int (nI k)), (2, .int (nI c))]) (st2 := [.int 1]) (w3 := w) rfl rfl ?_
        refine sx_RP.ret (r := (some (.int 1))) rfl rfl ?_
        exact ⟨⟨1, by decide, rfl⟩, rfl⟩
  obtain ⟨r, w2, h1, ⟨j, hj, rfl⟩, rfl⟩ := h
  exact ⟨j, hj, h1⟩
