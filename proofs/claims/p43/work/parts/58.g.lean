-- 58.leafM.lean.txt
section
set_option maxRecDepth 20000 in
set_option maxHeartbeats 4000000 in
theorem p138_0 {xs : Option (List Int32)} {d : Nat} {w : List sx_C} (hI : WI w) {g : Nat} (hg : g < 10) : ∃ j, j ≤ 5 ∧ sx_RU xs d 138 0 (lv_args 0 [.ref 111, .int (nI g), .int 0]) [] w (some (.int (nI j))) w := by
  have h : sx_RP xs d 138 0 (lv_args 0 [.ref 111, .int (nI g), .int 0]) [] w (fun r w2 => (∃ j, j ≤ 5 ∧ r = some (.int (nI j))) ∧ w2 = w) := by
    refine sx_RP.step (pc2 := 1) (ls2 := [(0, .ref 111), (1, .int (nI g)), (2, .int 0)]) (st2 := [.ref 111]) (w3 := w) rfl rfl ?_
    refine sx_RP.gf (v := .ref 112) rfl rfl hI.1.o111 rfl rfl (show _ = 4 from rfl) ?_
    refine sx_RP.step (pc2 := 6) (ls2 := [(0, .ref 111), (1, .int (nI g)), (2, .int 0)]) (st2 := [.int 103, .ref 112]) (w3 := w) rfl rfl ?_
    refine sx_RP.step (pc2 := 8) (ls2 := [(0, .ref 111), (1, .int (nI g)), (2, .int 0)]) (st2 := [.int 6, .int 103, .ref 112]) (w3 := w) rfl rfl ?_
    refine sx_RP.step (pc2 := 9) (ls2 := [(0, .ref 111), (1, .int (nI g)), (2, .int 0)]) (st2 := [.int (nI g), .int 6, .int 103, .ref 112]) (w3 := w) rfl rfl ?_
    refine sx_RP.step (pc2 := 10) (ls2 := [(0, .ref 111), (1, .int (nI g)), (2, .int 0)]) (st2 := [.int (6 * (nI g)), .int 103, .ref 112]) (w3 := w) rfl rfl ?_
    rw [show (6 * (nI g) : Int32) = nI (6 * g) from nI_mul 6 g]
    refine sx_RP.step (pc2 := 11) (ls2 := [(0, .ref 111), (1, .int (nI g)), (2, .int 0)]) (st2 := [.int (103 + (nI (6 * g))), .ref 112]) (w3 := w) rfl rfl ?_
    rw [show (103 + (nI (6 * g)) : Int32) = nI (103 + (6 * g)) from nI_add 103 (6 * g)]
    refine sx_RP.step (pc2 := 12) (ls2 := [(0, .ref 111), (1, .int (nI g)), (2, .int 0)]) (st2 := [.int 0, .int (nI (103 + (6 * g))), .ref 112]) (w3 := w) rfl rfl ?_
    refine sx_RP.step (pc2 := 13) (ls2 := [(0, .ref 111), (1, .int (nI g)), (2, .int 0)]) (st2 := [.int ((nI (103 + (6 * g))) + 0), .ref 112]) (w3 := w) rfl rfl ?_
    rw [show ((nI (103 + (6 * g))) + 0 : Int32) = nI ((103 + (6 * g)) + 0) from nI_add (103 + (6 * g)) 0]
    refine sx_RP.ild (c := ((103 + (6 * g)) + 0)) rfl hI.1.a112.1 hI.1.a112.2 (sx_in_nI (show ((103 + (6 * g)) + 0) < 172 by omega) (by decide)) (show (nI ((103 + (6 * g)) + 0)).toNatClampNeg = ((103 + (6 * g)) + 0) from nI_clamp (by omega)) (show _ = 14 from rfl) ?_
    obtain ⟨x1, hx2, ex3⟩ : inR ((ia w 112).getD ((103 + (6 * g)) + 0) 0) 5 := (hI.s (((103 + (6 * g)) + 0)) (by omega)).2.2.2.1 (by omega)
    rw [ex3]
    refine sx_RP.ret (r := (some (.int (nI x1)))) rfl rfl ?_
    exact ⟨⟨x1, by omega, rfl⟩, rfl⟩
  obtain ⟨r, w2, h1, ⟨j, hj, rfl⟩, rfl⟩ := h
  exact ⟨j, hj, h1⟩
set_option maxRecDepth 20000 in
set_option maxHeartbeats 4000000 in
theorem p138_1 {xs : Option (List Int32)} {d : Nat} {w : List sx_C} (hI : WI w) {g : Nat} (hg : g < 10) : ∃ j, j ≤ 1 ∧ sx_RU xs d 138 0 (lv_args 0 [.ref 111, .int (nI g), .int 1]) [] w (some (.int (nI j))) w := by
  have h : sx_RP xs d 138 0 (lv_args 0 [.ref 111, .int (nI g), .int 1]) [] w (fun r w2 => (∃ j, j ≤ 1 ∧ r = some (.int (nI j))) ∧ w2 = w) := by
    refine sx_RP.step (pc2 := 1) (ls2 := [(0, .ref 111), (1, .int (nI g)), (2, .int 1)]) (st2 := [.ref 111]) (w3 := w) rfl rfl ?_
    refine sx_RP.gf (v := .ref 112) rfl rfl hI.1.o111 rfl rfl (show _ = 4 from rfl) ?_
    refine sx_RP.step (pc2 := 6) (ls2 := [(0, .ref 111), (1, .int (nI g)), (2, .int 1)]) (st2 := [.int 103, .ref 112]) (w3 := w) rfl rfl ?_
    refine sx_RP.step (pc2 := 8) (ls2 := [(0, .ref 111), (1, .int (nI g)), (2, .int 1)]) (st2 := [.int 6, .int 103, .ref 112]) (w3 := w) rfl rfl ?_
    refine sx_RP.step (pc2 := 9) (ls2 := [(0, .ref 111), (1, .int (nI g)), (2, .int 1)]) (st2 := [.int (nI g), .int 6, .int 103, .ref 112]) (w3 := w) rfl rfl ?_
    refine sx_RP.step (pc2 := 10) (ls2 := [(0, .ref 111), (1, .int (nI g)), (2, .int 1)]) (st2 := [.int (6 * (nI g)), .int 103, .ref 112]) (w3 := w) rfl rfl ?_
    rw [show (6 * (nI g) : Int32) = nI (6 * g) from nI_mul 6 g]
    refine sx_RP.step (pc2 := 11) (ls2 := [(0, .ref 111), (1, .int (nI g)), (2, .int 1)]) (st2 := [.int (103 + (nI (6 * g))), .ref 112]) (w3 := w) rfl rfl ?_
    rw [show (103 + (nI (6 * g)) : Int32) = nI (103 + (6 * g)) from nI_add 103 (6 * g)]
    refine sx_RP.step (pc2 := 12) (ls2 := [(0, .ref 111), (1, .int (nI g)), (2, .int 1)]) (st2 := [.int 1, .int (nI (103 + (6 * g))), .ref 112]) (w3 := w) rfl rfl ?_
    refine sx_RP.step (pc2 := 13) (ls2 := [(0, .ref 111), (1, .int (nI g)), (2, .int 1)]) (st2 := [.int ((nI (103 + (6 * g))) + 1), .ref 112]) (w3 := w) rfl rfl ?_
    rw [show ((nI (103 + (6 * g))) + 1 : Int32) = nI ((103 + (6 * g)) + 1) from nI_add (103 + (6 * g)) 1]
    refine sx_RP.ild (c := ((103 + (6 * g)) + 1)) rfl hI.1.a112.1 hI.1.a112.2 (sx_in_nI (show ((103 + (6 * g)) + 1) < 172 by omega) (by decide)) (show (nI ((103 + (6 * g)) + 1)).toNatClampNeg = ((103 + (6 * g)) + 1) from nI_clamp (by omega)) (show _ = 14 from rfl) ?_
    obtain ⟨x1, hx2, ex3⟩ : inR ((ia w 112).getD ((103 + (6 * g)) + 1) 0) 1 := (hI.s (((103 + (6 * g)) + 1)) (by omega)).2.2.2.2.1 (by omega)
    rw [ex3]
    refine sx_RP.ret (r := (some (.int (nI x1)))) rfl rfl ?_
    exact ⟨⟨x1, by omega, rfl⟩, rfl⟩
  obtain ⟨r, w2, h1, ⟨j, hj, rfl⟩, rfl⟩ := h
  exact ⟨j, hj, h1⟩
set_option maxRecDepth 20000 in
set_option maxHeartbeats 4000000 in
theorem p138_2 {xs : Option (List Int32)} {d : Nat} {w : List sx_C} (hI : WI w) {g : Nat} (hg : g < 10) : ∃ j, j ≤ 47 ∧ sx_RU xs d 138 0 (lv_args 0 [.ref 111, .int (nI g), .int 2]) [] w (some (.int (nI j))) w := by
  have h : sx_RP xs d 138 0 (lv_args 0 [.ref 111, .int (nI g), .int 2]) [] w (fun r w2 => (∃ j, j ≤ 47 ∧ r = some (.int (nI j))) ∧ w2 = w) := by
    refine sx_RP.step (pc2 := 1) (ls2 := [(0, .ref 111), (1, .int (nI g)), (2, .int 2)]) (st2 := [.ref 111]) (w3 := w) rfl rfl ?_
    refine sx_RP.gf (v := .ref 112) rfl rfl hI.1.o111 rfl rfl (show _ = 4 from rfl) ?_
    refine sx_RP.step (pc2 := 6) (ls2 := [(0, .ref 111), (1, .int (nI g)), (2, .int 2)]) (st2 := [.int 103, .ref 112]) (w3 := w) rfl rfl ?_
    refine sx_RP.step (pc2 := 8) (ls2 := [(0, .ref 111), (1, .int (nI g)), (2, .int 2)]) (st2 := [.int 6, .int 103, .ref 112]) (w3 := w) rfl rfl ?_
    refine sx_RP.step (pc2 := 9) (ls2 := [(0, .ref 111), (1, .int (nI g)), (2, .int 2)]) (st2 := [.int (nI g), .int 6, .int 103, .ref 112]) (w3 := w) rfl rfl ?_
    refine sx_RP.step (pc2 := 10) (ls2 := [(0, .ref 111), (1, .int (nI g)), (2, .int 2)]) (st2 := [.int (6 * (nI g)), .int 103, .ref 112]) (w3 := w) rfl rfl ?_
    rw [show (6 * (nI g) : Int32) = nI (6 * g) from nI_mul 6 g]
    refine sx_RP.step (pc2 := 11) (ls2 := [(0, .ref 111), (1, .int (nI g)), (2, .int 2)]) (st2 := [.int (103 + (nI (6 * g))), .ref 112]) (w3 := w) rfl rfl ?_
    rw [show (103 + (nI (6 * g)) : Int32) = nI (103 + (6 * g)) from nI_add 103 (6 * g)]
    refine sx_RP.step (pc2 := 12) (ls2 := [(0, .ref 111), (1, .int (nI g)), (2, .int 2)]) (st2 := [.int 2, .int (nI (103 + (6 * g))), .ref 112]) (w3 := w) rfl rfl ?_
    refine sx_RP.step (pc2 := 13) (ls2 := [(0, .ref 111), (1, .int (nI g)), (2, .int 2)]) (st2 := [.int ((nI (103 + (6 * g))) + 2), .ref 112]) (w3 := w) rfl rfl ?_
    rw [show ((nI (103 + (6 * g))) + 2 : Int32) = nI ((103 + (6 * g)) + 2) from nI_add (103 + (6 * g)) 2]
    refine sx_RP.ild (c := ((103 + (6 * g)) + 2)) rfl hI.1.a112.1 hI.1.a112.2 (sx_in_nI (show ((103 + (6 * g)) + 2) < 172 by omega) (by decide)) (show (nI ((103 + (6 * g)) + 2)).toNatClampNeg = ((103 + (6 * g)) + 2) from nI_clamp (by omega)) (show _ = 14 from rfl) ?_
    obtain ⟨x1, hx2, ex3⟩ : inR ((ia w 112).getD ((103 + (6 * g)) + 2) 0) 47 := (hI.s (((103 + (6 * g)) + 2)) (by omega)).2.2.2.2.2.1 (by omega)
    rw [ex3]
    refine sx_RP.ret (r := (some (.int (nI x1)))) rfl rfl ?_
    exact ⟨⟨x1, by omega, rfl⟩, rfl⟩
  obtain ⟨r, w2, h1, ⟨j, hj, rfl⟩, rfl⟩ := h
  exact ⟨j, hj, h1⟩
set_option maxRecDepth 20000 in
set_option maxHeartbeats 4000000 in
theorem p138_3 {xs : Option (List Int32)} {d : Nat} {w : List sx_C} (hI : WI w) {g : Nat} (hg : g < 10) : ∃ j, j ≤ 3 ∧ sx_RU xs d 138 0 (lv_args 0 [.ref 111, .int (nI g), .int 3]) [] w (some (.int (nI j))) w := by
  have h : sx_RP xs d 138 0 (lv_args 0 [.ref 111, .int (nI g), .int 3]) [] w (fun r w2 => (∃ j, j ≤ 3 ∧ r = some (.int (nI j))) ∧ w2 = w) := by
    refine sx_RP.step (pc2 := 1) (ls2 := [(0, .ref 111), (1, .int (nI g)), (2, .int 3)]) (st2 := [.ref 111]) (w3 := w) rfl rfl ?_
    refine sx_RP.gf (v := .ref 112) rfl rfl hI.1.o111 rfl rfl (show _ = 4 from rfl) ?_
    refine sx_RP.step (pc2 := 6) (ls2 := [(0, .ref 111), (1, .int (nI g)), (2, .int 3)]) (st2 := [.int 103, .ref 112]) (w3 := w) rfl rfl ?_
    refine sx_RP.step (pc2 := 8) (ls2 := [(0, .ref 111), (1, .int (nI g)), (2, .int 3)]) (st2 := [.int 6, .int 103, .ref 112]) (w3 := w) rfl rfl ?_
    refine sx_RP.step (pc2 := 9) (ls2 := [(0, .ref 111), (1, .int (nI g)), (2, .int 3)]) (st2 := [.int (nI g), .int 6, .int 103, .ref 112]) (w3 := w) rfl rfl ?_
    refine sx_RP.step (pc2 := 10) (ls2 := [(0, .ref 111), (1, .int (nI g)), (2, .int 3)]) (st2 := [.int (6 * (nI g)), .int 103, .ref 112]) (w3 := w) rfl rfl ?_
    rw [show (6 * (nI g) : Int32) = nI (6 * g) from nI_mul 6 g]
    refine sx_RP.step (pc2 := 11) (ls2 := [(0, .ref 111), (1, .int (nI g)), (2, .int 3)]) (st2 := [.int (103 + (nI (6 * g))), .ref 112]) (w3 := w) rfl rfl ?_
    rw [show (103 + (nI (6 * g)) : Int32) = nI (103 + (6 * g)) from nI_add 103 (6 * g)]
    refine sx_RP.step (pc2 := 12) (ls2 := [(0, .ref 111), (1, .int (nI g)), (2, .int 3)]) (st2 := [.int 3, .int (nI (103 + (6 * g))), .ref 112]) (w3 := w) rfl rfl ?_
    refine sx_RP.step (pc2 := 13) (ls2 := [(0, .ref 111), (1, .int (nI g)), (2, .int 3)]) (st2 := [.int ((nI (103 + (6 * g))) + 3), .ref 112]) (w3 := w) rfl rfl ?_
    rw [show ((nI (103 + (6 * g))) + 3 : Int32) = nI ((103 + (6 * g)) + 3) from nI_add (103 + (6 * g)) 3]
    refine sx_RP.ild (c := ((103 + (6 * g)) + 3)) rfl hI.1.a112.1 hI.1.a112.2 (sx_in_nI (show ((103 + (6 * g)) + 3) < 172 by omega) (by decide)) (show (nI ((103 + (6 * g)) + 3)).toNatClampNeg = ((103 + (6 * g)) + 3) from nI_clamp (by omega)) (show _ = 14 from rfl) ?_
    obtain ⟨x1, hx2, ex3⟩ : inR ((ia w 112).getD ((103 + (6 * g)) + 3) 0) 3 := (hI.s (((103 + (6 * g)) + 3)) (by omega)).2.2.2.2.2.2.1 (by omega)
    rw [ex3]
    refine sx_RP.ret (r := (some (.int (nI x1)))) rfl rfl ?_
    exact ⟨⟨x1, by omega, rfl⟩, rfl⟩
  obtain ⟨r, w2, h1, ⟨j, hj, rfl⟩, rfl⟩ := h
  exact ⟨j, hj, h1⟩
set_option maxRecDepth 20000 in
set_option maxHeartbeats 4000000 in
theorem p138_4 {xs : Option (List Int32)} {d : Nat} {w : List sx_C} (hI : WI w) {g : Nat} (hg : g < 10) : ∃ v : Int32, sx_RU xs d 138 0 (lv_args 0 [.ref 111, .int (nI g), .int 4]) [] w (some (.int v)) w := by
  have h : sx_RP xs d 138 0 (lv_args 0 [.ref 111, .int (nI g), .int 4]) [] w (fun r w2 => (∃ v : Int32, r = some (.int v)) ∧ w2 = w) := by
    refine sx_RP.step (pc2 := 1) (ls2 := [(0, .ref 111), (1, .int (nI g)), (2, .int 4)]) (st2 := [.ref 111]) (w3 := w) rfl rfl ?_
    refine sx_RP.gf (v := .ref 112) rfl rfl hI.1.o111 rfl rfl (show _ = 4 from rfl) ?_
    refine sx_RP.step (pc2 := 6) (ls2 := [(0, .ref 111), (1, .int (nI g)), (2, .int 4)]) (st2 := [.int 103, .ref 112]) (w3 := w) rfl rfl ?_
    refine sx_RP.step (pc2 := 8) (ls2 := [(0, .ref 111), (1, .int (nI g)), (2, .int 4)]) (st2 := [.int 6, .int 103, .ref 112]) (w3 := w) rfl rfl ?_
    refine sx_RP.step (pc2 := 9) (ls2 := [(0, .ref 111), (1, .int (nI g)), (2, .int 4)]) (st2 := [.int (nI g), .int 6, .int 103, .ref 112]) (w3 := w) rfl rfl ?_
    refine sx_RP.step (pc2 := 10) (ls2 := [(0, .ref 111), (1, .int (nI g)), (2, .int 4)]) (st2 := [.int (6 * (nI g)), .int 103, .ref 112]) (w3 := w) rfl rfl ?_
    rw [show (6 * (nI g) : Int32) = nI (6 * g) from nI_mul 6 g]
    refine sx_RP.step (pc2 := 11) (ls2 := [(0, .ref 111), (1, .int (nI g)), (2, .int 4)]) (st2 := [.int (103 + (nI (6 * g))), .ref 112]) (w3 := w) rfl rfl ?_
    rw [show (103 + (nI (6 * g)) : Int32) = nI (103 + (6 * g)) from nI_add 103 (6 * g)]
    refine sx_RP.step (pc2 := 12) (ls2 := [(0, .ref 111), (1, .int (nI g)), (2, .int 4)]) (st2 := [.int 4, .int (nI (103 + (6 * g))), .ref 112]) (w3 := w) rfl rfl ?_
    refine sx_RP.step (pc2 := 13) (ls2 := [(0, .ref 111), (1, .int (nI g)), (2, .int 4)]) (st2 := [.int ((nI (103 + (6 * g))) + 4), .ref 112]) (w3 := w) rfl rfl ?_
    rw [show ((nI (103 + (6 * g))) + 4 : Int32) = nI ((103 + (6 * g)) + 4) from nI_add (103 + (6 * g)) 4]
    refine sx_RP.ild (c := ((103 + (6 * g)) + 4)) rfl hI.1.a112.1 hI.1.a112.2 (sx_in_nI (show ((103 + (6 * g)) + 4) < 172 by omega) (by decide)) (show (nI ((103 + (6 * g)) + 4)).toNatClampNeg = ((103 + (6 * g)) + 4) from nI_clamp (by omega)) (show _ = 14 from rfl) ?_
    refine sx_RP.ret (r := (some (.int ((ia w 112).getD ((103 + (6 * g)) + 4) 0)))) rfl rfl ?_
    exact ⟨⟨_, rfl⟩, rfl⟩
  obtain ⟨r, w2, h1, ⟨v, rfl⟩, rfl⟩ := h
  exact ⟨v, h1⟩
set_option maxRecDepth 20000 in
set_option maxHeartbeats 4000000 in
theorem p138_5 {xs : Option (List Int32)} {d : Nat} {w : List sx_C} (hI : WI w) {g : Nat} (hg : g < 10) : ∃ j, j ≤ 1 ∧ sx_RU xs d 138 0 (lv_args 0 [.ref 111, .int (nI g), .int 5]) [] w (some (.int (nI j))) w := by
  have h : sx_RP xs d 138 0 (lv_args 0 [.ref 111, .int (nI g), .int 5]) [] w (fun r w2 => (∃ j, j ≤ 1 ∧ r = some (.int (nI j))) ∧ w2 = w) := by
    refine sx_RP.step (pc2 := 1) (ls2 := [(0, .ref 111), (1, .int (nI g)), (2, .int 5)]) (st2 := [.ref 111]) (w3 := w) rfl rfl ?_
    refine sx_RP.gf (v := .ref 112) rfl rfl hI.1.o111 rfl rfl (show _ = 4 from rfl) ?_
    refine sx_RP.step (pc2 := 6) (ls2 := [(0, .ref 111), (1, .int (nI g)), (2, .int 5)]) (st2 := [.int 103, .ref 112]) (w3 := w) rfl rfl ?_
    refine sx_RP.step (pc2 := 8) (ls2 := [(0, .ref 111), (1, .int (nI g)), (2, .int 5)]) (st2 := [.int 6, .int 103, .ref 112]) (w3 := w) rfl rfl ?_
    refine sx_RP.step (pc2 := 9) (ls2 := [(0, .ref 111), (1, .int (nI g)), (2, .int 5)]) (st2 := [.int (nI g), .int 6, .int 103, .ref 112]) (w3 := w) rfl rfl ?_
    refine sx_RP.step (pc2 := 10) (ls2 := [(0, .ref 111), (1, .int (nI g)), (2, .int 5)]) (st2 := [.int (6 * (nI g)), .int 103, .ref 112]) (w3 := w) rfl rfl ?_
    rw [show (6 * (nI g) : Int32) = nI (6 * g) from nI_mul 6 g]
    refine sx_RP.step (pc2 := 11) (ls2 := [(0, .ref 111), (1, .int (nI g)), (2, .int 5)]) (st2 := [.int (103 + (nI (6 * g))), .ref 112]) (w3 := w) rfl rfl ?_
    rw [show (103 + (nI (6 * g)) : Int32) = nI (103 + (6 * g)) from nI_add 103 (6 * g)]
    refine sx_RP.step (pc2 := 12) (ls2 := [(0, .ref 111), (1, .int (nI g)), (2, .int 5)]) (st2 := [.int 5, .int (nI (103 + (6 * g))), .ref 112]) (w3 := w) rfl rfl ?_
    refine sx_RP.step (pc2 := 13) (ls2 := [(0, .ref 111), (1, .int (nI g)), (2, .int 5)]) (st2 := [.int ((nI (103 + (6 * g))) + 5), .ref 112]) (w3 := w) rfl rfl ?_
    rw [show ((nI (103 + (6 * g))) + 5 : Int32) = nI ((103 + (6 * g)) + 5) from nI_add (103 + (6 * g)) 5]
    refine sx_RP.ild (c := ((103 + (6 * g)) + 5)) rfl hI.1.a112.1 hI.1.a112.2 (sx_in_nI (show ((103 + (6 * g)) + 5) < 172 by omega) (by decide)) (show (nI ((103 + (6 * g)) + 5)).toNatClampNeg = ((103 + (6 * g)) + 5) from nI_clamp (by omega)) (show _ = 14 from rfl) ?_
    obtain ⟨x1, hx2, ex3⟩ : inR ((ia w 112).getD ((103 + (6 * g)) + 5) 0) 1 := (hI.s (((103 + (6 * g)) + 5)) (by omega)).2.2.2.2.2.2.2.1 (by omega)
    rw [ex3]
    refine sx_RP.ret (r := (some (.int (nI x1)))) rfl rfl ?_
    exact ⟨⟨x1, by omega, rfl⟩, rfl⟩
  obtain ⟨r, w2, h1, ⟨j, hj, rfl⟩, rfl⟩ := h
  exact ⟨j, hj, h1⟩
set_option maxRecDepth 20000 in
set_option maxHeartbeats 4000000 in
theorem p138a {xs : Option (List Int32)} {d : Nat} {w : List sx_C} (hI : WI w) {g c : Nat} (hg : g < 10) (hc : c ≤ 5) : ∃ v : Int32, sx_RU xs d 138 0 (lv_args 0 [.ref 111, .int (nI g), .int (nI c)]) [] w (some (.int v)) w := by
  have h : sx_RP xs d 138 0 (lv_args 0 [.ref 111, .int (nI g), .int (nI c)]) [] w (fun r w2 => (∃ v : Int32, r = some (.int v)) ∧ w2 = w) := by
    refine sx_RP.step (pc2 := 1) (ls2 := [(0, .ref 111), (1, .int (nI g)), (2, .int (nI c))]) (st2 := [.ref 111]) (w3 := w) rfl rfl ?_
    refine sx_RP.gf (v := .ref 112) rfl rfl hI.1.o111 rfl rfl (show _ = 4 from rfl) ?_
    refine sx_RP.step (pc2 := 6) (ls2 := [(0, .ref 111), (1, .int (nI g)), (2, .int (nI c))]) (st2 := [.int 103, .ref 112]) (w3 := w) rfl rfl ?_
    refine sx_RP.step (pc2 := 8) (ls2 := [(0, .ref 111), (1, .int (nI g)), (2, .int (nI c))]) (st2 := [.int 6, .int 103, .ref 112]) (w3 := w) rfl rfl ?_
    refine sx_RP.step (pc2 := 9) (ls2 := [(0, .ref 111), (1, .int (nI g)), (2, .int (nI c))]) (st2 := [.int (nI g), .int 6, .int 103, .ref 112]) (w3 := w) rfl rfl ?_
    refine sx_RP.step (pc2 := 10) (ls2 := [(0, .ref 111), (1, .int (nI g)), (2, .int (nI c))]) (st2 := [.int (6 * (nI g)), .int 103, .ref 112]) (w3 := w) rfl rfl ?_
    rw [show (6 * (nI g) : Int32) = nI (6 * g) from nI_mul 6 g]
    refine sx_RP.step (pc2 := 11) (ls2 := [(0, .ref 111), (1, .int (nI g)), (2, .int (nI c))]) (st2 := [.int (103 + (nI (6 * g))), .ref 112]) (w3 := w) rfl rfl ?_
    rw [show (103 + (nI (6 * g)) : Int32) = nI (103 + (6 * g)) from nI_add 103 (6 * g)]
    refine sx_RP.step (pc2 := 12) (ls2 := [(0, .ref 111), (1, .int (nI g)), (2, .int (nI c))]) (st2 := [.int (nI c), .int (nI (103 + (6 * g))), .ref 112]) (w3 := w) rfl rfl ?_
    refine sx_RP.step (pc2 := 13) (ls2 := [(0, .ref 111), (1, .int (nI g)), (2, .int (nI c))]) (st2 := [.int ((nI (103 + (6 * g))) + (nI c)), .ref 112]) (w3 := w) rfl rfl ?_
    rw [show ((nI (103 + (6 * g))) + (nI c) : Int32) = nI ((103 + (6 * g)) + c) from nI_add (103 + (6 * g)) c]
    refine sx_RP.ild (c := ((103 + (6 * g)) + c)) rfl hI.1.a112.1 hI.1.a112.2 (sx_in_nI (show ((103 + (6 * g)) + c) < 172 by omega) (by decide)) (show (nI ((103 + (6 * g)) + c)).toNatClampNeg = ((103 + (6 * g)) + c) from nI_clamp (by omega)) (show _ = 14 from rfl) ?_
    refine sx_RP.ret (r := (some (.int ((ia w 112).getD ((103 + (6 * g)) + c) 0)))) rfl rfl ?_
    exact ⟨⟨_, rfl⟩, rfl⟩
  obtain ⟨r, w2, h1, ⟨v, rfl⟩, rfl⟩ := h
  exact ⟨v, h1⟩
set_option maxRecDepth 20000 in
set_option maxHeartbeats 4000000 in
theorem p137 {xs : Option (List Int32)} {d : Nat} {w : List sx_C} (hI : WI w) {g : Nat} (hg : g < 10) : ∃ j, j ≤ 1 ∧ sx_RU xs (d + 1) 137 0 (lv_args 0 [.ref 111, .int (nI g)]) [] w (some (.int (nI j))) w := by
  have h : sx_RP xs (d + 1) 137 0 (lv_args 0 [.ref 111, .int (nI g)]) [] w (fun r w2 => (∃ j, j ≤ 1 ∧ r = some (.int (nI j))) ∧ w2 = w) := by
    refine sx_RP.step (pc2 := 1) (ls2 := [(0, .ref 111), (1, .int (nI g))]) (st2 := [.ref 111]) (w3 := w) rfl rfl ?_
    refine sx_RP.step (pc2 := 2) (ls2 := [(0, .ref 111), (1, .int (nI g))]) (st2 := [.int (nI g), .ref 111]) (w3 := w) rfl rfl ?_
    refine sx_RP.step (pc2 := 3) (ls2 := [(0, .ref 111), (1, .int (nI g))]) (st2 := [.int 5, .int (nI g), .ref 111]) (w3 := w) rfl rfl ?_
    obtain ⟨x1, hx2, c3⟩ := p138_5 hI (show g < 10 by omega)
    refine sx_RP.cu (as := [.ref 111, .int (nI g), .int 5]) (rest2 := []) (st3 := [.int (nI x1)]) rfl rfl (sx_inv_v2 (mi := 137) (k := 59) (st := [.int 5, .int (nI g), .ref 111]) (w := w) rfl rfl hI.1.o111 rfl rfl rfl) rfl rfl (c3) rfl ?_
    refine sx_RP.br (p1 := 13) (l1 := [(0, .ref 111), (1, .int (nI g))]) (s1 := []) (v1 := w) (p2 := 9) (l2 := [(0, .ref 111), (1, .int (nI g))]) (s2 := []) (v2 := w) rfl rfl (fun q4 => ?_) (fun q4 => ?_)
    · replace q4 := of_decide_eq_true q4
      replace q4 := mt (nI_eq (a := x1) (b := 0) (by omega) (by omega)).mpr q4
      refine sx_RP.step (pc2 := 14) (ls2 := [(0, .ref 111), (1, .int (nI g))]) (st2 := [.int 0]) (w3 := w) rfl rfl ?_
      refine sx_RP.ret (r := (some (.int 0))) rfl rfl ?_
      exact ⟨⟨0, by decide, rfl⟩, rfl⟩
    · replace q4 := Decidable.not_not.mp (of_decide_eq_false q4)
      replace q4 := (nI_eq (a := x1) (b := 0) (by omega) (by omega)).mp q4
      refine sx_RP.step (pc2 := 10) (ls2 := [(0, .ref 111), (1, .int (nI g))]) (st2 := [.int 1]) (w3 := w) rfl rfl ?_
      refine sx_RP.step (pc2 := 14) (ls2 := [(0, .ref 111), (1, .int (nI g))]) (st2 := [.int 1]) (w3 := w) rfl rfl ?_
      refine sx_RP.ret (r := (some (.int 1))) rfl rfl ?_
      exact ⟨⟨1, by decide, rfl⟩, rfl⟩
  obtain ⟨r, w2, h1, ⟨j, hj, rfl⟩, rfl⟩ := h
  exact ⟨j, hj, h1⟩
set_option maxRecDepth 20000 in
set_option maxHeartbeats 4000000 in
theorem p145 {xs : Option (List Int32)} {d : Nat} {w : List sx_C} (hI : WI w) (x : Int32) : ∃ j, j ≤ 1 ∧ sx_RU xs d 145 0 (lv_args 0 [.int x]) [] w (some (.int (nI j))) w := by
  have h : sx_RP xs d 145 0 (lv_args 0 [.int x]) [] w (fun r w2 => (∃ j, j ≤ 1 ∧ r = some (.int (nI j))) ∧ w2 = w) := by
    refine sx_RP.step (pc2 := 1) (ls2 := [(0, .int x)]) (st2 := [.int x]) (w3 := w) rfl rfl ?_
    refine sx_RP.step (pc2 := 2) (ls2 := [(0, .int x)]) (st2 := [.int 1, .int x]) (w3 := w) rfl rfl ?_
    refine sx_RP.br (p1 := 15) (l1 := [(0, .int x)]) (s1 := []) (v1 := w) (p2 := 5) (l2 := [(0, .int x)]) (s2 := []) (v2 := w) rfl rfl (fun q1 => ?_) (fun q1 => ?_)
    · replace q1 := of_decide_eq_true q1
      refine sx_RP.step (pc2 := 16) (ls2 := [(0, .int x)]) (st2 := [.int 1]) (w3 := w) rfl rfl ?_
      refine sx_RP.step (pc2 := 20) (ls2 := [(0, .int x)]) (st2 := [.int 1]) (w3 := w) rfl rfl ?_
      refine sx_RP.ret (r := (some (.int 1))) rfl rfl ?_
      exact ⟨⟨1, by decide, rfl⟩, rfl⟩
    · replace q1 := of_decide_eq_false q1
      refine sx_RP.step (pc2 := 6) (ls2 := [(0, .int x)]) (st2 := [.int x]) (w3 := w) rfl rfl ?_
      refine sx_RP.step (pc2 := 7) (ls2 := [(0, .int x)]) (st2 := [.int 3, .int x]) (w3 := w) rfl rfl ?_
      refine sx_RP.br (p1 := 15) (l1 := [(0, .int x)]) (s1 := []) (v1 := w) (p2 := 10) (l2 := [(0, .int x)]) (s2 := []) (v2 := w) rfl rfl (fun q2 => ?_) (fun q2 => ?_)
      · replace q2 := of_decide_eq_true q2
        refine sx_RP.step (pc2 := 16) (ls2 := [(0, .int x)]) (st2 := [.int 1]) (w3 := w) rfl rfl ?_
        refine sx_RP.step (pc2 := 20) (ls2 := [(0, .int x)]) (st2 := [.int 1]) (w3 := w) rfl rfl ?_
        refine sx_RP.ret (r := (some (.int 1))) rfl rfl ?_
        exact ⟨⟨1, by decide, rfl⟩, rfl⟩
      · replace q2 := of_decide_eq_false q2
        refine sx_RP.step (pc2 := 11) (ls2 := [(0, .int x)]) (st2 := [.int x]) (w3 := w) rfl rfl ?_
        refine sx_RP.step (pc2 := 12) (ls2 := [(0, .int x)]) (st2 := [.int 5, .int x]) (w3 := w) rfl rfl ?_
        refine sx_RP.br (p1 := 19) (l1 := [(0, .int x)]) (s1 := []) (v1 := w) (p2 := 15) (l2 := [(0, .int x)]) (s2 := []) (v2 := w) rfl rfl (fun q3 => ?_) (fun q3 => ?_)
        · replace q3 := of_decide_eq_true q3
          refine sx_RP.step (pc2 := 20) (ls2 := [(0, .int x)]) (st2 := [.int 0]) (w3 := w) rfl rfl ?_
          refine sx_RP.ret (r := (some (.int 0))) rfl rfl ?_
          exact ⟨⟨0, by decide, rfl⟩, rfl⟩
        · replace q3 := Decidable.not_not.mp (of_decide_eq_false q3)
          refine sx_RP.step (pc2 := 16) (ls2 := [(0, .int x)]) (st2 := [.int 1]) (w3 := w) rfl rfl ?_
          refine sx_RP.step (pc2 := 20) (ls2 := [(0, .int x)]) (st2 := [.int 1]) (w3 := w) rfl rfl ?_
          refine sx_RP.ret (r := (some (.int 1))) rfl rfl ?_
          exact ⟨⟨1, by decide, rfl⟩, rfl⟩
  obtain ⟨r, w2, h1, ⟨j, hj, rfl⟩, rfl⟩ := h
  exact ⟨j, hj, h1⟩
set_option maxRecDepth 20000 in
set_option maxHeartbeats 4000000 in
theorem p148 {xs : Option (List Int32)} {d : Nat} {w : List sx_C} (hI : WI w) (x : Int32) : ∃ v : Int32, sx_RU xs d 148 0 (lv_args 0 [.int x]) [] w (some (.int v)) w := by
  have h : sx_RP xs d 148 0 (lv_args 0 [.int x]) [] w (fun r w2 => (∃ v : Int32, r = some (.int v)) ∧ w2 = w) := by
    refine sx_RP.step (pc2 := 1) (ls2 := [(0, .int x)]) (st2 := [.int x]) (w3 := w) rfl rfl ?_
    refine sx_RP.br (p1 := 8) (l1 := [(0, .int x)]) (s1 := []) (v1 := w) (p2 := 4) (l2 := [(0, .int x)]) (s2 := []) (v2 := w) rfl rfl (fun q1 => ?_) (fun q1 => ?_)
    · replace q1 := of_decide_eq_true q1
      refine sx_RP.step (pc2 := 9) (ls2 := [(0, .int x)]) (st2 := [.int x]) (w3 := w) rfl rfl ?_
      refine sx_RP.step (pc2 := 10) (ls2 := [(0, .int x)]) (st2 := [.int 1, .int x]) (w3 := w) rfl rfl ?_
      refine sx_RP.br (p1 := 17) (l1 := [(0, .int x)]) (s1 := []) (v1 := w) (p2 := 13) (l2 := [(0, .int x)]) (s2 := []) (v2 := w) rfl rfl (fun q2 => ?_) (fun q2 => ?_)
      · replace q2 := of_decide_eq_true q2
        refine sx_RP.step (pc2 := 18) (ls2 := [(0, .int x)]) (st2 := [.int 4]) (w3 := w) rfl rfl ?_
        refine sx_RP.ret (r := (some (.int 4))) rfl rfl ?_
        exact ⟨⟨_, rfl⟩, rfl⟩
      · replace q2 := Decidable.not_not.mp (of_decide_eq_false q2)
        refine sx_RP.step (pc2 := 14) (ls2 := [(0, .int x)]) (st2 := [.int 2]) (w3 := w) rfl rfl ?_
        refine sx_RP.step (pc2 := 18) (ls2 := [(0, .int x)]) (st2 := [.int 2]) (w3 := w) rfl rfl ?_
        refine sx_RP.ret (r := (some (.int 2))) rfl rfl ?_
        exact ⟨⟨_, rfl⟩, rfl⟩
    · replace q1 := Decidable.not_not.mp (of_decide_eq_false q1)
      refine sx_RP.step (pc2 := 5) (ls2 := [(0, .int x)]) (st2 := [.int 1]) (w3 := w) rfl rfl ?_
      refine sx_RP.step (pc2 := 18) (ls2 := [(0, .int x)]) (st2 := [.int 1]) (w3 := w) rfl rfl ?_
      refine sx_RP.ret (r := (some (.int 1))) rfl rfl ?_
      exact ⟨⟨_, rfl⟩, rfl⟩
  obtain ⟨r, w2, h1, ⟨v, rfl⟩, rfl⟩ := h
  exact ⟨v, h1⟩
set_option maxRecDepth 20000 in
set_option maxHeartbeats 4000000 in
theorem p163 {xs : Option (List Int32)} {d : Nat} {w : List sx_C} (hI : WI w) (x : Int32) : ∃ v : Int32, sx_RU xs d 163 0 (lv_args 0 [.int x]) [] w (some (.int v)) w := by
  have h : sx_RP xs d 163 0 (lv_args 0 [.int x]) [] w (fun r w2 => (∃ v : Int32, r = some (.int v)) ∧ w2 = w) := by
    refine sx_RP.step (pc2 := 1) (ls2 := [(0, .int x)]) (st2 := [.int x]) (w3 := w) rfl rfl ?_
    refine sx_RP.br (p1 := 9) (l1 := [(0, .int x)]) (s1 := []) (v1 := w) (p2 := 4) (l2 := [(0, .int x)]) (s2 := []) (v2 := w) rfl rfl (fun q1 => ?_) (fun q1 => ?_)
    · replace q1 := of_decide_eq_true q1
      refine sx_RP.step (pc2 := 10) (ls2 := [(0, .int x)]) (st2 := [.int x]) (w3 := w) rfl rfl ?_
      refine sx_RP.step (pc2 := 11) (ls2 := [(0, .int x)]) (st2 := [.int 1, .int x]) (w3 := w) rfl rfl ?_
      refine sx_RP.br (p1 := 19) (l1 := [(0, .int x)]) (s1 := []) (v1 := w) (p2 := 14) (l2 := [(0, .int x)]) (s2 := []) (v2 := w) rfl rfl (fun q2 => ?_) (fun q2 => ?_)
      · replace q2 := of_decide_eq_true q2
        refine sx_RP.step (pc2 := 20) (ls2 := [(0, .int x)]) (st2 := [.int x]) (w3 := w) rfl rfl ?_
        refine sx_RP.step (pc2 := 21) (ls2 := [(0, .int x)]) (st2 := [.int 2, .int x]) (w3 := w) rfl rfl ?_
        refine sx_RP.br (p1 := 29) (l1 := [(0, .int x)]) (s1 := []) (v1 := w) (p2 := 24) (l2 := [(0, .int x)]) (s2 := []) (v2 := w) rfl rfl (fun q3 => ?_) (fun q3 => ?_)
        · replace q3 := of_decide_eq_true q3
          refine sx_RP.step (pc2 := 30) (ls2 := [(0, .int x)]) (st2 := [.int 0]) (w3 := w) rfl rfl ?_
          refine sx_RP.ret (r := (some (.int 0))) rfl rfl ?_
          exact ⟨⟨_, rfl⟩, rfl⟩
        · replace q3 := Decidable.not_not.mp (of_decide_eq_false q3)
          refine sx_RP.step (pc2 := 26) (ls2 := [(0, .int x)]) (st2 := [.int 20]) (w3 := w) rfl rfl ?_
          refine sx_RP.step (pc2 := 30) (ls2 := [(0, .int x)]) (st2 := [.int 20]) (w3 := w) rfl rfl ?_
          refine sx_RP.ret (r := (some (.int 20))) rfl rfl ?_
          exact ⟨⟨_, rfl⟩, rfl⟩
      · replace q2 := Decidable.not_not.mp (of_decide_eq_false q2)
        refine sx_RP.step (pc2 := 16) (ls2 := [(0, .int x)]) (st2 := [.int 8]) (w3 := w) rfl rfl ?_
        refine sx_RP.step (pc2 := 30) (ls2 := [(0, .int x)]) (st2 := [.int 8]) (w3 := w) rfl rfl ?_
        refine sx_RP.ret (r := (some (.int 8))) rfl rfl ?_
        exact ⟨⟨_, rfl⟩, rfl⟩
    · replace q1 := Decidable.not_not.mp (of_decide_eq_false q1)
      refine sx_RP.step (pc2 := 6) (ls2 := [(0, .int x)]) (st2 := [.int 12]) (w3 := w) rfl rfl ?_
      refine sx_RP.step (pc2 := 30) (ls2 := [(0, .int x)]) (st2 := [.int 12]) (w3 := w) rfl rfl ?_
      refine sx_RP.ret (r := (some (.int 12))) rfl rfl ?_
      exact ⟨⟨_, rfl⟩, rfl⟩
  obtain ⟨r, w2, h1, ⟨v, rfl⟩, rfl⟩ := h
  exact ⟨v, h1⟩
set_option maxRecDepth 20000 in
set_option maxHeartbeats 4000000 in
theorem p144 {xs : Option (List Int32)} {d : Nat} {w : List sx_C} (hI : WI w) {g c : Nat} (hg : g < 10) (hc : c < 48) : ∃ j, j ≤ 1 ∧ sx_RU xs (d + 1) 144 0 (lv_args 0 [.ref 111, .int (nI g), .int (nI c)]) [] w (some (.int (nI j))) w := by
  have h : sx_RP xs (d + 1) 144 0 (lv_args 0 [.ref 111, .int (nI g), .int (nI c)]) [] w (fun r w2 => (∃ j, j ≤ 1 ∧ r = some (.int (nI j))) ∧ w2 = w) := by
    refine sx_RP.step (pc2 := 1) (ls2 := [(0, .ref 111), (1, .int (nI g)), (2, .int (nI c))]) (st2 := [.ref 111]) (w3 := w) rfl rfl ?_
    refine sx_RP.step (pc2 := 2) (ls2 := [(0, .ref 111), (1, .int (nI g)), (2, .int (nI c))]) (st2 := [.int (nI g), .ref 111]) (w3 := w) rfl rfl ?_
    refine sx_RP.step (pc2 := 3) (ls2 := [(0, .ref 111), (1, .int (nI g)), (2, .int (nI c))]) (st2 := [.int 0, .int (nI g), .ref 111]) (w3 := w) rfl rfl ?_
    obtain ⟨x1, hx2, c3⟩ := p138_0 hI (show g < 10 by omega)
    refine sx_RP.cu (as := [.ref 111, .int (nI g), .int 0]) (rest2 := []) (st3 := [.int (nI x1)]) rfl rfl (sx_inv_v2 (mi := 144) (k := 59) (st := [.int 0, .int (nI g), .ref 111]) (w := w) rfl rfl hI.1.o111 rfl rfl rfl) rfl rfl (c3) rfl ?_
    obtain ⟨x4, hx5, c6⟩ := p145 hI (nI x1)
    refine sx_RP.cu (as := [.int (nI x1)]) (rest2 := []) (st3 := [.int (nI x4)]) rfl rfl rfl rfl rfl (c6) rfl ?_
    refine sx_RP.br (p1 := 25) (l1 := [(0, .ref 111), (1, .int (nI g)), (2, .int (nI c))]) (s1 := []) (v1 := w) (p2 := 12) (l2 := [(0, .ref 111), (1, .int (nI g)), (2, .int (nI c))]) (s2 := []) (v2 := w) rfl rfl (fun q7 => ?_) (fun q7 => ?_)
    · replace q7 := of_decide_eq_true q7
      replace q7 := mt (nI_eq (a := x4) (b := 0) (by omega) (by omega)).mpr q7
      refine sx_RP.step (pc2 := 26) (ls2 := [(0, .ref 111), (1, .int (nI g)), (2, .int (nI c))]) (st2 := [.int 1]) (w3 := w) rfl rfl ?_
      refine sx_RP.step (pc2 := 30) (ls2 := [(0, .ref 111), (1, .int (nI g)), (2, .int (nI c))]) (st2 := [.int 1]) (w3 := w) rfl rfl ?_
      refine sx_RP.ret (r := (some (.int 1))) rfl rfl ?_
      exact ⟨⟨1, by decide, rfl⟩, rfl⟩
    · replace q7 := Decidable.not_not.mp (of_decide_eq_false q7)
      replace q7 := (nI_eq (a := x4) (b := 0) (by omega) (by omega)).mp q7
      refine sx_RP.step (pc2 := 13) (ls2 := [(0, .ref 111), (1, .int (nI g)), (2, .int (nI c))]) (st2 := [.ref 111]) (w3 := w) rfl rfl ?_
      refine sx_RP.gf (v := .ref 112) rfl rfl hI.1.o111 rfl rfl (show _ = 16 from rfl) ?_
      refine sx_RP.step (pc2 := 18) (ls2 := [(0, .ref 111), (1, .int (nI g)), (2, .int (nI c))]) (st2 := [.int 7, .ref 112]) (w3 := w) rfl rfl ?_
      refine sx_RP.step (pc2 := 19) (ls2 := [(0, .ref 111), (1, .int (nI g)), (2, .int (nI c))]) (st2 := [.int (nI c), .int 7, .ref 112]) (w3 := w) rfl rfl ?_
      refine sx_RP.step (pc2 := 20) (ls2 := [(0, .ref 111), (1, .int (nI g)), (2, .int (nI c))]) (st2 := [.int (7 + (nI c)), .ref 112]) (w3 := w) rfl rfl ?_
      rw [show (7 + (nI c) : Int32) = nI (7 + c) from nI_add 7 c]
      refine sx_RP.ild (c := (7 + c)) rfl hI.1.a112.1 hI.1.a112.2 (sx_in_nI (show (7 + c) < 172 by omega) (by decide)) (show (nI (7 + c)).toNatClampNeg = (7 + c) from nI_clamp (by omega)) (show _ = 21 from rfl) ?_
      obtain ⟨x8, hx9, ex10⟩ : inR ((ia w 112).getD (7 + c) 0) 3 := (hI.s ((7 + c)) (by omega)).2.2.1 (by omega)
      rw [ex10]
      refine sx_RP.step (pc2 := 22) (ls2 := [(0, .ref 111), (1, .int (nI g)), (2, .int (nI c))]) (st2 := [.int 1, .int (nI x8)]) (w3 := w) rfl rfl ?_
      refine sx_RP.br (p1 := 29) (l1 := [(0, .ref 111), (1, .int (nI g)), (2, .int (nI c))]) (s1 := []) (v1 := w) (p2 := 25) (l2 := [(0, .ref 111), (1, .int (nI g)), (2, .int (nI c))]) (s2 := []) (v2 := w) rfl rfl (fun q11 => ?_) (fun q11 => ?_)
      · replace q11 := of_decide_eq_true q11
        replace q11 := (nI_eq (a := x8) (b := 1) (by omega) (by omega)).mp q11
        refine sx_RP.step (pc2 := 30) (ls2 := [(0, .ref 111), (1, .int (nI g)), (2, .int (nI c))]) (st2 := [.int 0]) (w3 := w) rfl rfl ?_
        refine sx_RP.ret (r := (some (.int 0))) rfl rfl ?_
        exact ⟨⟨0, by decide, rfl⟩, rfl⟩
      · replace q11 := of_decide_eq_false q11
        replace q11 := mt (nI_eq (a := x8) (b := 1) (by omega) (by omega)).mpr q11
        refine sx_RP.step (pc2 := 26) (ls2 := [(0, .ref 111), (1, .int (nI g)), (2, .int (nI c))]) (st2 := [.int 1]) (w3 := w) rfl rfl ?_
        refine sx_RP.step (pc2 := 30) (ls2 := [(0, .ref 111), (1, .int (nI g)), (2, .int (nI c))]) (st2 := [.int 1]) (w3 := w) rfl rfl ?_
        refine sx_RP.ret (r := (some (.int 1))) rfl rfl ?_
        exact ⟨⟨1, by decide, rfl⟩, rfl⟩
  obtain ⟨r, w2, h1, ⟨j, hj, rfl⟩, rfl⟩ := h
  exact ⟨j, hj, h1⟩
set_option maxRecDepth 20000 in
set_option maxHeartbeats 4000000 in
theorem p143 {xs : Option (List Int32)} {d : Nat} {w : List sx_C} (hI : WI w) {g c : Nat} (hg : g < 10) (hc : c < 48) : ∃ j, j ≤ 1 ∧ sx_RU xs (d + 2) 143 0 (lv_args 0 [.ref 111, .int (nI g), .int (nI c)]) [] w (some (.int (nI j))) w := by
  have h : sx_RP xs (d + 2) 143 0 (lv_args 0 [.ref 111, .int (nI g), .int (nI c)]) [] w (fun r w2 => (∃ j, j ≤ 1 ∧ r = some (.int (nI j))) ∧ w2 = w) := by
    refine sx_RP.step (pc2 := 1) (ls2 := [(0, .ref 111), (1, .int (nI g)), (2, .int (nI c))]) (st2 := [.ref 111]) (w3 := w) rfl rfl ?_
    refine sx_RP.gf (v := .ref 112) rfl rfl hI.1.o111 rfl rfl (show _ = 4 from rfl) ?_
    refine sx_RP.step (pc2 := 6) (ls2 := [(0, .ref 111), (1, .int (nI g)), (2, .int (nI c))]) (st2 := [.int 7, .ref 112]) (w3 := w) rfl rfl ?_
    refine sx_RP.step (pc2 := 7) (ls2 := [(0, .ref 111), (1, .int (nI g)), (2, .int (nI c))]) (st2 := [.int (nI c), .int 7, .ref 112]) (w3 := w) rfl rfl ?_
    refine sx_RP.step (pc2 := 8) (ls2 := [(0, .ref 111), (1, .int (nI g)), (2, .int (nI c))]) (st2 := [.int (7 + (nI c)), .ref 112]) (w3 := w) rfl rfl ?_
    rw [show (7 + (nI c) : Int32) = nI (7 + c) from nI_add 7 c]
    refine sx_RP.ild (c := (7 + c)) rfl hI.1.a112.1 hI.1.a112.2 (sx_in_nI (show (7 + c) < 172 by omega) (by decide)) (show (nI (7 + c)).toNatClampNeg = (7 + c) from nI_clamp (by omega)) (show _ = 9 from rfl) ?_
    obtain ⟨x1, hx2, ex3⟩ : inR ((ia w 112).getD (7 + c) 0) 3 := (hI.s ((7 + c)) (by omega)).2.2.1 (by omega)
    rw [ex3]
    refine sx_RP.step (pc2 := 10) (ls2 := [(0, .ref 111), (1, .int (nI g)), (2, .int (nI c))]) (st2 := [.int 3, .int (nI x1)]) (w3 := w) rfl rfl ?_
    refine sx_RP.br (p1 := 26) (l1 := [(0, .ref 111), (1, .int (nI g)), (2, .int (nI c))]) (s1 := []) (v1 := w) (p2 := 13) (l2 := [(0, .ref 111), (1, .int (nI g)), (2, .int (nI c))]) (s2 := []) (v2 := w) rfl rfl (fun q4 => ?_) (fun q4 => ?_)
    · replace q4 := of_decide_eq_true q4
      replace q4 := (nI_eq (a := x1) (b := 3) (by omega) (by omega)).mp q4
      refine sx_RP.step (pc2 := 27) (ls2 := [(0, .ref 111), (1, .int (nI g)), (2, .int (nI c))]) (st2 := [.int 0]) (w3 := w) rfl rfl ?_
      refine sx_RP.ret (r := (some (.int 0))) rfl rfl ?_
      exact ⟨⟨0, by decide, rfl⟩, rfl⟩
    · replace q4 := of_decide_eq_false q4
      replace q4 := mt (nI_eq (a := x1) (b := 3) (by omega) (by omega)).mpr q4
      refine sx_RP.step (pc2 := 14) (ls2 := [(0, .ref 111), (1, .int (nI g)), (2, .int (nI c))]) (st2 := [.ref 111]) (w3 := w) rfl rfl ?_
      refine sx_RP.step (pc2 := 15) (ls2 := [(0, .ref 111), (1, .int (nI g)), (2, .int (nI c))]) (st2 := [.int (nI g), .ref 111]) (w3 := w) rfl rfl ?_
      refine sx_RP.step (pc2 := 16) (ls2 := [(0, .ref 111), (1, .int (nI g)), (2, .int (nI c))]) (st2 := [.int (nI c), .int (nI g), .ref 111]) (w3 := w) rfl rfl ?_
      obtain ⟨x5, hx6, c7⟩ := p144 hI (show g < 10 by omega) (show c < 48 by omega)
      refine sx_RP.cu (as := [.ref 111, .int (nI g), .int (nI c)]) (rest2 := []) (st3 := [.int (nI x5)]) rfl rfl (sx_inv_v2 (mi := 143) (k := 107) (st := [.int (nI c), .int (nI g), .ref 111]) (w := w) rfl rfl hI.1.o111 rfl rfl rfl) rfl rfl (c7) rfl ?_
      refine sx_RP.br (p1 := 26) (l1 := [(0, .ref 111), (1, .int (nI g)), (2, .int (nI c))]) (s1 := []) (v1 := w) (p2 := 22) (l2 := [(0, .ref 111), (1, .int (nI g)), (2, .int (nI c))]) (s2 := []) (v2 := w) rfl rfl (fun q8 => ?_) (fun q8 => ?_)
      · replace q8 := of_decide_eq_true q8
        replace q8 := (nI_eq (a := x5) (b := 0) (by omega) (by omega)).mp q8
        refine sx_RP.step (pc2 := 27) (ls2 := [(0, .ref 111), (1, .int (nI g)), (2, .int (nI c))]) (st2 := [.int 0]) (w3 := w) rfl rfl ?_
        refine sx_RP.ret (r := (some (.int 0))) rfl rfl ?_
        exact ⟨⟨0, by decide, rfl⟩, rfl⟩
      · replace q8 := of_decide_eq_false q8
        replace q8 := mt (nI_eq (a := x5) (b := 0) (by omega) (by omega)).mpr q8
        refine sx_RP.step (pc2 := 23) (ls2 := [(0, .ref 111), (1, .int (nI g)), (2, .int (nI c))]) (st2 := [.int 1]) (w3 := w) rfl rfl ?_
        refine sx_RP.step (pc2 := 27) (ls2 := [(0, .ref 111), (1, .int (nI g)), (2, .int (nI c))]) (st2 := [.int 1]) (w3 := w) rfl rfl ?_
        refine sx_RP.ret (r := (some (.int 1))) rfl rfl ?_
        exact ⟨⟨1, by decide, rfl⟩, rfl⟩
  obtain ⟨r, w2, h1, ⟨j, hj, rfl⟩, rfl⟩ := h
  exact ⟨j, hj, h1⟩
set_option maxRecDepth 20000 in
set_option maxHeartbeats 4000000 in
theorem p147 {xs : Option (List Int32)} {d : Nat} {w : List sx_C} (hI : WI w) {g c : Nat} (hg : g < 10) (hc : c < 48) : ∃ v : Int32, sx_RU xs (d + 1) 147 0 (lv_args 0 [.ref 111, .int (nI g), .int (nI c)]) [] w (some (.int v)) w := by
  have h : sx_RP xs (d + 1) 147 0 (lv_args 0 [.ref 111, .int (nI g), .int (nI c)]) [] w (fun r w2 => (∃ v : Int32, r = some (.int v)) ∧ w2 = w) := by
    refine sx_RP.step (pc2 := 1) (ls2 := [(0, .ref 111), (1, .int (nI g)), (2, .int (nI c))]) (st2 := [.ref 111]) (w3 := w) rfl rfl ?_
    refine sx_RP.gf (v := .ref 112) rfl rfl hI.1.o111 rfl rfl (show _ = 4 from rfl) ?_
    refine sx_RP.step (pc2 := 6) (ls2 := [(0, .ref 111), (1, .int (nI g)), (2, .int (nI c))]) (st2 := [.int 7, .ref 112]) (w3 := w) rfl rfl ?_
    refine sx_RP.step (pc2 := 7) (ls2 := [(0, .ref 111), (1, .int (nI g)), (2, .int (nI c))]) (st2 := [.int (nI c), .int 7, .ref 112]) (w3 := w) rfl rfl ?_
    refine sx_RP.step (pc2 := 8) (ls2 := [(0, .ref 111), (1, .int (nI g)), (2, .int (nI c))]) (st2 := [.int (7 + (nI c)), .ref 112]) (w3 := w) rfl rfl ?_
    rw [show (7 + (nI c) : Int32) = nI (7 + c) from nI_add 7 c]
    refine sx_RP.ild (c := (7 + c)) rfl hI.1.a112.1 hI.1.a112.2 (sx_in_nI (show (7 + c) < 172 by omega) (by decide)) (show (nI (7 + c)).toNatClampNeg = (7 + c) from nI_clamp (by omega)) (show _ = 9 from rfl) ?_
    obtain ⟨x1, hx2, ex3⟩ : inR ((ia w 112).getD (7 + c) 0) 3 := (hI.s ((7 + c)) (by omega)).2.2.1 (by omega)
    rw [ex3]
    refine sx_RP.step (pc2 := 10) (ls2 := [(3, .int (nI x1)), (0, .ref 111), (1, .int (nI g)), (2, .int (nI c))]) (st2 := []) (w3 := w) rfl rfl ?_
    refine sx_RP.step (pc2 := 11) (ls2 := [(3, .int (nI x1)), (0, .ref 111), (1, .int (nI g)), (2, .int (nI c))]) (st2 := [.int (nI x1)]) (w3 := w) rfl rfl ?_
    refine sx_RP.step (pc2 := 12) (ls2 := [(3, .int (nI x1)), (0, .ref 111), (1, .int (nI g)), (2, .int (nI c))]) (st2 := [.int 3, .int (nI x1)]) (w3 := w) rfl rfl ?_
    refine sx_RP.br (p1 := 17) (l1 := [(3, .int (nI x1)), (0, .ref 111), (1, .int (nI g)), (2, .int (nI c))]) (s1 := []) (v1 := w) (p2 := 15) (l2 := [(3, .int (nI x1)), (0, .ref 111), (1, .int (nI g)), (2, .int (nI c))]) (s2 := []) (v2 := w) rfl rfl (fun q4 => ?_) (fun q4 => ?_)
    · replace q4 := of_decide_eq_true q4
      replace q4 := mt (nI_eq (a := x1) (b := 3) (by omega) (by omega)).mpr q4
      refine sx_RP.step (pc2 := 18) (ls2 := [(3, .int (nI x1)), (0, .ref 111), (1, .int (nI g)), (2, .int (nI c))]) (st2 := [.ref 111]) (w3 := w) rfl rfl ?_
      refine sx_RP.step (pc2 := 19) (ls2 := [(3, .int (nI x1)), (0, .ref 111), (1, .int (nI g)), (2, .int (nI c))]) (st2 := [.int (nI g), .ref 111]) (w3 := w) rfl rfl ?_
      refine sx_RP.step (pc2 := 20) (ls2 := [(3, .int (nI x1)), (0, .ref 111), (1, .int (nI g)), (2, .int (nI c))]) (st2 := [.int 0, .int (nI g), .ref 111]) (w3 := w) rfl rfl ?_
      obtain ⟨x5, hx6, c7⟩ := p138_0 hI (show g < 10 by omega)
      refine sx_RP.cu (as := [.ref 111, .int (nI g), .int 0]) (rest2 := []) (st3 := [.int (nI x5)]) rfl rfl (sx_inv_v2 (mi := 147) (k := 59) (st := [.int 0, .int (nI g), .ref 111]) (w := w) rfl rfl hI.1.o111 rfl rfl rfl) rfl rfl (c7) rfl ?_
      refine sx_RP.step (pc2 := 25) (ls2 := [(4, .int (nI x5)), (3, .int (nI x1)), (0, .ref 111), (1, .int (nI g)), (2, .int (nI c))]) (st2 := []) (w3 := w) rfl rfl ?_
      refine sx_RP.step (pc2 := 26) (ls2 := [(4, .int (nI x5)), (3, .int (nI x1)), (0, .ref 111), (1, .int (nI g)), (2, .int (nI c))]) (st2 := [.int (nI x1)]) (w3 := w) rfl rfl ?_
      obtain ⟨v8, c9⟩ := p148 hI (nI x1)
      refine sx_RP.cu (as := [.int (nI x1)]) (rest2 := []) (st3 := [.int v8]) rfl rfl rfl rfl rfl (c9) rfl ?_
      refine sx_RP.step (pc2 := 31) (ls2 := [(5, .int v8), (4, .int (nI x5)), (3, .int (nI x1)), (0, .ref 111), (1, .int (nI g)), (2, .int (nI c))]) (st2 := []) (w3 := w) rfl rfl ?_
      refine sx_RP.step (pc2 := 33) (ls2 := [(5, .int v8), (4, .int (nI x5)), (3, .int (nI x1)), (0, .ref 111), (1, .int (nI g)), (2, .int (nI c))]) (st2 := [.int (nI x5)]) (w3 := w) rfl rfl ?_
      rcases sw_cases (n := 5) (nI x5) with q10 | ⟨x11, hx12, ex13⟩
      · refine sx_RP.swo (t := 116) rfl q10 rfl ?_
        refine sx_RP.step (pc2 := 118) (ls2 := [(5, .int v8), (4, .int (nI x5)), (3, .int (nI x1)), (0, .ref 111), (1, .int (nI g)), (2, .int (nI c))]) (st2 := [.int v8]) (w3 := w) rfl rfl ?_
        refine sx_RP.step (pc2 := 119) (ls2 := [(5, .int v8), (4, .int (nI x5)), (3, .int (nI x1)), (0, .ref 111), (1, .int (nI g)), (2, .int (nI c))]) (st2 := [.int 1, .int v8]) (w3 := w) rfl rfl ?_
        refine sx_RP.step (pc2 := 120) (ls2 := [(5, .int v8), (4, .int (nI x5)), (3, .int (nI x1)), (0, .ref 111), (1, .int (nI g)), (2, .int (nI c))]) (st2 := [.int (v8 + 1)]) (w3 := w) rfl rfl ?_
        refine sx_RP.step (pc2 := 121) (ls2 := [(5, .int v8), (4, .int (nI x5)), (3, .int (nI x1)), (0, .ref 111), (1, .int (nI g)), (2, .int (nI c))]) (st2 := [.ref 111, .int (v8 + 1)]) (w3 := w) rfl rfl ?_
        refine sx_RP.gf (v := .ref 112) rfl rfl hI.1.o111 rfl rfl (show _ = 124 from rfl) ?_
        refine sx_RP.step (pc2 := 126) (ls2 := [(5, .int v8), (4, .int (nI x5)), (3, .int (nI x1)), (0, .ref 111), (1, .int (nI g)), (2, .int (nI c))]) (st2 := [.int 55, .ref 112, .int (v8 + 1)]) (w3 := w) rfl rfl ?_
        refine sx_RP.step (pc2 := 127) (ls2 := [(5, .int v8), (4, .int (nI x5)), (3, .int (nI x1)), (0, .ref 111), (1, .int (nI g)), (2, .int (nI c))]) (st2 := [.int (nI c), .int 55, .ref 112, .int (v8 + 1)]) (w3 := w) rfl rfl ?_
        refine sx_RP.step (pc2 := 128) (ls2 := [(5, .int v8), (4, .int (nI x5)), (3, .int (nI x1)), (0, .ref 111), (1, .int (nI g)), (2, .int (nI c))]) (st2 := [.int (55 + (nI c)), .ref 112, .int (v8 + 1)]) (w3 := w) rfl rfl ?_
        rw [show (55 + (nI c) : Int32) = nI (55 + c) from nI_add 55 c]
        refine sx_RP.ild (c := (55 + c)) rfl hI.1.a112.1 hI.1.a112.2 (sx_in_nI (show (55 + c) < 172 by omega) (by decide)) (show (nI (55 + c)).toNatClampNeg = (55 + c) from nI_clamp (by omega)) (show _ = 129 from rfl) ?_
        refine sx_RP.step (pc2 := 130) (ls2 := [(5, .int v8), (4, .int (nI x5)), (3, .int (nI x1)), (0, .ref 111), (1, .int (nI g)), (2, .int (nI c))]) (st2 := [.int ((v8 + 1) + ((ia w 112).getD (55 + c) 0))]) (w3 := w) rfl rfl ?_
        refine sx_RP.ret (r := (some (.int ((v8 + 1) + ((ia w 112).getD (55 + c) 0))))) rfl rfl ?_
        exact ⟨⟨_, rfl⟩, rfl⟩
      · rw [ex13]
        rcases (show x11 = 0 ∨ x11 = 1 ∨ x11 = 2 ∨ x11 = 3 ∨ x11 = 4 ∨ x11 = 5 by omega) with rfl | rfl | rfl | rfl | rfl | rfl
        · refine sx_RP.step (pc2 := 72) (ls2 := [(5, .int v8), (4, .int (nI 0)), (3, .int (nI x1)), (0, .ref 111), (1, .int (nI g)), (2, .int (nI c))]) (st2 := []) (w3 := w) rfl rfl ?_
          refine sx_RP.step (pc2 := 74) (ls2 := [(5, .int v8), (4, .int (nI 0)), (3, .int (nI x1)), (0, .ref 111), (1, .int (nI g)), (2, .int (nI c))]) (st2 := [.int v8]) (w3 := w) rfl rfl ?_
          refine sx_RP.ret (r := (some (.int v8))) rfl rfl ?_
          exact ⟨⟨_, rfl⟩, rfl⟩
        · refine sx_RP.step (pc2 := 75) (ls2 := [(5, .int v8), (4, .int (nI 1)), (3, .int (nI x1)), (0, .ref 111), (1, .int (nI g)), (2, .int (nI c))]) (st2 := []) (w3 := w) rfl rfl ?_
          refine sx_RP.step (pc2 := 77) (ls2 := [(5, .int v8), (4, .int (nI 1)), (3, .int (nI x1)), (0, .ref 111), (1, .int (nI g)), (2, .int (nI c))]) (st2 := [.int v8]) (w3 := w) rfl rfl ?_
          refine sx_RP.step (pc2 := 78) (ls2 := [(5, .int v8), (4, .int (nI 1)), (3, .int (nI x1)), (0, .ref 111), (1, .int (nI g)), (2, .int (nI c))]) (st2 := [.int 1, .int v8]) (w3 := w) rfl rfl ?_
          refine sx_RP.step (pc2 := 79) (ls2 := [(5, .int v8), (4, .int (nI 1)), (3, .int (nI x1)), (0, .ref 111), (1, .int (nI g)), (2, .int (nI c))]) (st2 := [.int (v8 + 1)]) (w3 := w) rfl rfl ?_
          refine sx_RP.ret (r := (some (.int (v8 + 1)))) rfl rfl ?_
          exact ⟨⟨_, rfl⟩, rfl⟩
        · refine sx_RP.step (pc2 := 80) (ls2 := [(5, .int v8), (4, .int (nI 2)), (3, .int (nI x1)), (0, .ref 111), (1, .int (nI g)), (2, .int (nI c))]) (st2 := []) (w3 := w) rfl rfl ?_
          refine sx_RP.step (pc2 := 82) (ls2 := [(5, .int v8), (4, .int (nI 2)), (3, .int (nI x1)), (0, .ref 111), (1, .int (nI g)), (2, .int (nI c))]) (st2 := [.int v8]) (w3 := w) rfl rfl ?_
          refine sx_RP.step (pc2 := 83) (ls2 := [(5, .int v8), (4, .int (nI 2)), (3, .int (nI x1)), (0, .ref 111), (1, .int (nI g)), (2, .int (nI c))]) (st2 := [.int 4, .int v8]) (w3 := w) rfl rfl ?_
          refine sx_RP.br (p1 := 90) (l1 := [(5, .int v8), (4, .int (nI 2)), (3, .int (nI x1)), (0, .ref 111), (1, .int (nI g)), (2, .int (nI c))]) (s1 := []) (v1 := w) (p2 := 86) (l2 := [(5, .int v8), (4, .int (nI 2)), (3, .int (nI x1)), (0, .ref 111), (1, .int (nI g)), (2, .int (nI c))]) (s2 := []) (v2 := w) rfl rfl (fun q14 => ?_) (fun q14 => ?_)
          · replace q14 := of_decide_eq_true q14
            refine sx_RP.step (pc2 := 91) (ls2 := [(5, .int v8), (4, .int (nI 2)), (3, .int (nI x1)), (0, .ref 111), (1, .int (nI g)), (2, .int (nI c))]) (st2 := [.int 2]) (w3 := w) rfl rfl ?_
            refine sx_RP.ret (r := (some (.int 2))) rfl rfl ?_
            exact ⟨⟨_, rfl⟩, rfl⟩
          · replace q14 := of_decide_eq_false q14
            refine sx_RP.step (pc2 := 87) (ls2 := [(5, .int v8), (4, .int (nI 2)), (3, .int (nI x1)), (0, .ref 111), (1, .int (nI g)), (2, .int (nI c))]) (st2 := [.int 1]) (w3 := w) rfl rfl ?_
            refine sx_RP.step (pc2 := 91) (ls2 := [(5, .int v8), (4, .int (nI 2)), (3, .int (nI x1)), (0, .ref 111), (1, .int (nI g)), (2, .int (nI c))]) (st2 := [.int 1]) (w3 := w) rfl rfl ?_
            refine sx_RP.ret (r := (some (.int 1))) rfl rfl ?_
            exact ⟨⟨_, rfl⟩, rfl⟩
        · refine sx_RP.step (pc2 := 116) (ls2 := [(5, .int v8), (4, .int (nI 3)), (3, .int (nI x1)), (0, .ref 111), (1, .int (nI g)), (2, .int (nI c))]) (st2 := []) (w3 := w) rfl rfl ?_
          refine sx_RP.step (pc2 := 118) (ls2 := [(5, .int v8), (4, .int (nI 3)), (3, .int (nI x1)), (0, .ref 111), (1, .int (nI g)), (2, .int (nI c))]) (st2 := [.int v8]) (w3 := w) rfl rfl ?_
          refine sx_RP.step (pc2 := 119) (ls2 := [(5, .int v8), (4, .int (nI 3)), (3, .int (nI x1)), (0, .ref 111), (1, .int (nI g)), (2, .int (nI c))]) (st2 := [.int 1, .int v8]) (w3 := w) rfl rfl ?_
          refine sx_RP.step (pc2 := 120) (ls2 := [(5, .int v8), (4, .int (nI 3)), (3, .int (nI x1)), (0, .ref 111), (1, .int (nI g)), (2, .int (nI c))]) (st2 := [.int (v8 + 1)]) (w3 := w) rfl rfl ?_
          refine sx_RP.step (pc2 := 121) (ls2 := [(5, .int v8), (4, .int (nI 3)), (3, .int (nI x1)), (0, .ref 111), (1, .int (nI g)), (2, .int (nI c))]) (st2 := [.ref 111, .int (v8 + 1)]) (w3 := w) rfl rfl ?_
          refine sx_RP.gf (v := .ref 112) rfl rfl hI.1.o111 rfl rfl (show _ = 124 from rfl) ?_
          refine sx_RP.step (pc2 := 126) (ls2 := [(5, .int v8), (4, .int (nI 3)), (3, .int (nI x1)), (0, .ref 111), (1, .int (nI g)), (2, .int (nI c))]) (st2 := [.int 55, .ref 112, .int (v8 + 1)]) (w3 := w) rfl rfl ?_
          refine sx_RP.step (pc2 := 127) (ls2 := [(5, .int v8), (4, .int (nI 3)), (3, .int (nI x1)), (0, .ref 111), (1, .int (nI g)), (2, .int (nI c))]) (st2 := [.int (nI c), .int 55, .ref 112, .int (v8 + 1)]) (w3 := w) rfl rfl ?_
          refine sx_RP.step (pc2 := 128) (ls2 := [(5, .int v8), (4, .int (nI 3)), (3, .int (nI x1)), (0, .ref 111), (1, .int (nI g)), (2, .int (nI c))]) (st2 := [.int (55 + (nI c)), .ref 112, .int (v8 + 1)]) (w3 := w) rfl rfl ?_
          rw [show (55 + (nI c) : Int32) = nI (55 + c) from nI_add 55 c]
          refine sx_RP.ild (c := (55 + c)) rfl hI.1.a112.1 hI.1.a112.2 (sx_in_nI (show (55 + c) < 172 by omega) (by decide)) (show (nI (55 + c)).toNatClampNeg = (55 + c) from nI_clamp (by omega)) (show _ = 129 from rfl) ?_
          refine sx_RP.step (pc2 := 130) (ls2 := [(5, .int v8), (4, .int (nI 3)), (3, .int (nI x1)), (0, .ref 111), (1, .int (nI g)), (2, .int (nI c))]) (st2 := [.int ((v8 + 1) + ((ia w 112).getD (55 + c) 0))]) (w3 := w) rfl rfl ?_
          refine sx_RP.ret (r := (some (.int ((v8 + 1) + ((ia w 112).getD (55 + c) 0))))) rfl rfl ?_
          exact ⟨⟨_, rfl⟩, rfl⟩
        · refine sx_RP.step (pc2 := 80) (ls2 := [(5, .int v8), (4, .int (nI 4)), (3, .int (nI x1)), (0, .ref 111), (1, .int (nI g)), (2, .int (nI c))]) (st2 := []) (w3 := w) rfl rfl ?_
          refine sx_RP.step (pc2 := 82) (ls2 := [(5, .int v8), (4, .int (nI 4)), (3, .int (nI x1)), (0, .ref 111), (1, .int (nI g)), (2, .int (nI c))]) (st2 := [.int v8]) (w3 := w) rfl rfl ?_
          refine sx_RP.step (pc2 := 83) (ls2 := [(5, .int v8), (4, .int (nI 4)), (3, .int (nI x1)), (0, .ref 111), (1, .int (nI g)), (2, .int (nI c))]) (st2 := [.int 4, .int v8]) (w3 := w) rfl rfl ?_
          refine sx_RP.br (p1 := 90) (l1 := [(5, .int v8), (4, .int (nI 4)), (3, .int (nI x1)), (0, .ref 111), (1, .int (nI g)), (2, .int (nI c))]) (s1 := []) (v1 := w) (p2 := 86) (l2 := [(5, .int v8), (4, .int (nI 4)), (3, .int (nI x1)), (0, .ref 111), (1, .int (nI g)), (2, .int (nI c))]) (s2 := []) (v2 := w) rfl rfl (fun q15 => ?_) (fun q15 => ?_)
          · replace q15 := of_decide_eq_true q15
            refine sx_RP.step (pc2 := 91) (ls2 := [(5, .int v8), (4, .int (nI 4)), (3, .int (nI x1)), (0, .ref 111), (1, .int (nI g)), (2, .int (nI c))]) (st2 := [.int 2]) (w3 := w) rfl rfl ?_
            refine sx_RP.ret (r := (some (.int 2))) rfl rfl ?_
            exact ⟨⟨_, rfl⟩, rfl⟩
          · replace q15 := of_decide_eq_false q15
            refine sx_RP.step (pc2 := 87) (ls2 := [(5, .int v8), (4, .int (nI 4)), (3, .int (nI x1)), (0, .ref 111), (1, .int (nI g)), (2, .int (nI c))]) (st2 := [.int 1]) (w3 := w) rfl rfl ?_
            refine sx_RP.step (pc2 := 91) (ls2 := [(5, .int v8), (4, .int (nI 4)), (3, .int (nI x1)), (0, .ref 111), (1, .int (nI g)), (2, .int (nI c))]) (st2 := [.int 1]) (w3 := w) rfl rfl ?_
            refine sx_RP.ret (r := (some (.int 1))) rfl rfl ?_
            exact ⟨⟨_, rfl⟩, rfl⟩
        · refine sx_RP.step (pc2 := 92) (ls2 := [(5, .int v8), (4, .int (nI 5)), (3, .int (nI x1)), (0, .ref 111), (1, .int (nI g)), (2, .int (nI c))]) (st2 := []) (w3 := w) rfl rfl ?_
          refine sx_RP.step (pc2 := 93) (ls2 := [(5, .int v8), (4, .int (nI 5)), (3, .int (nI x1)), (0, .ref 111), (1, .int (nI g)), (2, .int (nI c))]) (st2 := [.int (nI x1)]) (w3 := w) rfl rfl ?_
          refine sx_RP.step (pc2 := 94) (ls2 := [(5, .int v8), (4, .int (nI 5)), (3, .int (nI x1)), (0, .ref 111), (1, .int (nI g)), (2, .int (nI c))]) (st2 := [.int 2, .int (nI x1)]) (w3 := w) rfl rfl ?_
          refine sx_RP.br (p1 := 101) (l1 := [(5, .int v8), (4, .int (nI 5)), (3, .int (nI x1)), (0, .ref 111), (1, .int (nI g)), (2, .int (nI c))]) (s1 := []) (v1 := w) (p2 := 97) (l2 := [(5, .int v8), (4, .int (nI 5)), (3, .int (nI x1)), (0, .ref 111), (1, .int (nI g)), (2, .int (nI c))]) (s2 := []) (v2 := w) rfl rfl (fun q16 => ?_) (fun q16 => ?_)
          · replace q16 := of_decide_eq_true q16
            replace q16 := mt (nI_eq (a := x1) (b := 2) (by omega) (by omega)).mpr q16
            refine sx_RP.step (pc2 := 103) (ls2 := [(5, .int v8), (4, .int (nI 5)), (3, .int (nI x1)), (0, .ref 111), (1, .int (nI g)), (2, .int (nI c))]) (st2 := [.int v8]) (w3 := w) rfl rfl ?_
            refine sx_RP.step (pc2 := 104) (ls2 := [(5, .int v8), (4, .int (nI 5)), (3, .int (nI x1)), (0, .ref 111), (1, .int (nI g)), (2, .int (nI c))]) (st2 := [.int 1, .int v8]) (w3 := w) rfl rfl ?_
            refine sx_RP.step (pc2 := 105) (ls2 := [(5, .int v8), (4, .int (nI 5)), (3, .int (nI x1)), (0, .ref 111), (1, .int (nI g)), (2, .int (nI c))]) (st2 := [.int (v8 + 1)]) (w3 := w) rfl rfl ?_
            refine sx_RP.step (pc2 := 106) (ls2 := [(5, .int v8), (4, .int (nI 5)), (3, .int (nI x1)), (0, .ref 111), (1, .int (nI g)), (2, .int (nI c))]) (st2 := [.ref 111, .int (v8 + 1)]) (w3 := w) rfl rfl ?_
            refine sx_RP.gf (v := .ref 112) rfl rfl hI.1.o111 rfl rfl (show _ = 109 from rfl) ?_
            refine sx_RP.step (pc2 := 111) (ls2 := [(5, .int v8), (4, .int (nI 5)), (3, .int (nI x1)), (0, .ref 111), (1, .int (nI g)), (2, .int (nI c))]) (st2 := [.int 55, .ref 112, .int (v8 + 1)]) (w3 := w) rfl rfl ?_
            refine sx_RP.step (pc2 := 112) (ls2 := [(5, .int v8), (4, .int (nI 5)), (3, .int (nI x1)), (0, .ref 111), (1, .int (nI g)), (2, .int (nI c))]) (st2 := [.int (nI c), .int 55, .ref 112, .int (v8 + 1)]) (w3 := w) rfl rfl ?_
            refine sx_RP.step (pc2 := 113) (ls2 := [(5, .int v8), (4, .int (nI 5)), (3, .int (nI x1)), (0, .ref 111), (1, .int (nI g)), (2, .int (nI c))]) (st2 := [.int (55 + (nI c)), .ref 112, .int (v8 + 1)]) (w3 := w) rfl rfl ?_
            rw [show (55 + (nI c) : Int32) = nI (55 + c) from nI_add 55 c]
            refine sx_RP.ild (c := (55 + c)) rfl hI.1.a112.1 hI.1.a112.2 (sx_in_nI (show (55 + c) < 172 by omega) (by decide)) (show (nI (55 + c)).toNatClampNeg = (55 + c) from nI_clamp (by omega)) (show _ = 114 from rfl) ?_
            refine sx_RP.step (pc2 := 115) (ls2 := [(5, .int v8), (4, .int (nI 5)), (3, .int (nI x1)), (0, .ref 111), (1, .int (nI g)), (2, .int (nI c))]) (st2 := [.int ((v8 + 1) + ((ia w 112).getD (55 + c) 0))]) (w3 := w) rfl rfl ?_
            refine sx_RP.ret (r := (some (.int ((v8 + 1) + ((ia w 112).getD (55 + c) 0))))) rfl rfl ?_
            exact ⟨⟨_, rfl⟩, rfl⟩
          · replace q16 := Decidable.not_not.mp (of_decide_eq_false q16)
            replace q16 := (nI_eq (a := x1) (b := 2) (by omega) (by omega)).mp q16
            refine sx_RP.step (pc2 := 98) (ls2 := [(5, .int v8), (4, .int (nI 5)), (3, .int (nI x1)), (0, .ref 111), (1, .int (nI g)), (2, .int (nI c))]) (st2 := [.int 3]) (w3 := w) rfl rfl ?_
            refine sx_RP.step (pc2 := 115) (ls2 := [(5, .int v8), (4, .int (nI 5)), (3, .int (nI x1)), (0, .ref 111), (1, .int (nI g)), (2, .int (nI c))]) (st2 := [.int 3]) (w3 := w) rfl rfl ?_
            refine sx_RP.ret (r := (some (.int 3))) rfl rfl ?_
            exact ⟨⟨_, rfl⟩, rfl⟩
    · replace q4 := Decidable.not_not.mp (of_decide_eq_false q4)
      replace q4 := (nI_eq (a := x1) (b := 3) (by omega) (by omega)).mp q4
      refine sx_RP.step (pc2 := 16) (ls2 := [(3, .int (nI x1)), (0, .ref 111), (1, .int (nI g)), (2, .int (nI c))]) (st2 := [.int (-1)]) (w3 := w) rfl rfl ?_
      refine sx_RP.ret (r := (some (.int (-1)))) rfl rfl ?_
      exact ⟨⟨_, rfl⟩, rfl⟩
  obtain ⟨r, w2, h1, ⟨v, rfl⟩, rfl⟩ := h
  exact ⟨v, h1⟩
set_option maxRecDepth 20000 in
set_option maxHeartbeats 4000000 in
theorem p162 {xs : Option (List Int32)} {d : Nat} {w : List sx_C} (hI : WI w) {c : Nat} (x : Int32) (hc : c < 48) : ∃ v : Int32, sx_RU xs (d + 1) 162 0 (lv_args 0 [.ref 111, .int x, .int (nI c)]) [] w (some (.int v)) w := by
  have h : sx_RP xs (d + 1) 162 0 (lv_args 0 [.ref 111, .int x, .int (nI c)]) [] w (fun r w2 => (∃ v : Int32, r = some (.int v)) ∧ w2 = w) := by
    refine sx_RP.step (pc2 := 1) (ls2 := [(0, .ref 111), (1, .int x), (2, .int (nI c))]) (st2 := [.ref 111]) (w3 := w) rfl rfl ?_
    refine sx_RP.gf (v := .ref 112) rfl rfl hI.1.o111 rfl rfl (show _ = 4 from rfl) ?_
    refine sx_RP.step (pc2 := 6) (ls2 := [(0, .ref 111), (1, .int x), (2, .int (nI c))]) (st2 := [.int 7, .ref 112]) (w3 := w) rfl rfl ?_
    refine sx_RP.step (pc2 := 7) (ls2 := [(0, .ref 111), (1, .int x), (2, .int (nI c))]) (st2 := [.int (nI c), .int 7, .ref 112]) (w3 := w) rfl rfl ?_
    refine sx_RP.step (pc2 := 8) (ls2 := [(0, .ref 111), (1, .int x), (2, .int (nI c))]) (st2 := [.int (7 + (nI c)), .ref 112]) (w3 := w) rfl rfl ?_
    rw [show (7 + (nI c) : Int32) = nI (7 + c) from nI_add 7 c]
    refine sx_RP.ild (c := (7 + c)) rfl hI.1.a112.1 hI.1.a112.2 (sx_in_nI (show (7 + c) < 172 by omega) (by decide)) (show (nI (7 + c)).toNatClampNeg = (7 + c) from nI_clamp (by omega)) (show _ = 9 from rfl) ?_
    obtain ⟨x1, hx2, ex3⟩ : inR ((ia w 112).getD (7 + c) 0) 3 := (hI.s ((7 + c)) (by omega)).2.2.1 (by omega)
    rw [ex3]
    obtain ⟨v4, c5⟩ := p163 hI (nI x1)
    refine sx_RP.cu (as := [.int (nI x1)]) (rest2 := []) (st3 := [.int v4]) rfl rfl rfl rfl rfl (c5) rfl ?_
    refine sx_RP.step (pc2 := 13) (ls2 := [(3, .int v4), (0, .ref 111), (1, .int x), (2, .int (nI c))]) (st2 := []) (w3 := w) rfl rfl ?_
    refine sx_RP.step (pc2 := 14) (ls2 := [(3, .int v4), (0, .ref 111), (1, .int x), (2, .int (nI c))]) (st2 := [.int v4]) (w3 := w) rfl rfl ?_
    refine sx_RP.step (pc2 := 15) (ls2 := [(3, .int v4), (0, .ref 111), (1, .int x), (2, .int (nI c))]) (st2 := [.int 2, .int v4]) (w3 := w) rfl rfl ?_
    refine sx_RP.br (p1 := 22) (l1 := [(3, .int v4), (0, .ref 111), (1, .int x), (2, .int (nI c))]) (s1 := []) (v1 := w) (p2 := 18) (l2 := [(3, .int v4), (0, .ref 111), (1, .int x), (2, .int (nI c))]) (s2 := []) (v2 := w) rfl rfl (fun q6 => ?_) (fun q6 => ?_)
    · replace q6 := of_decide_eq_true q6
      refine sx_RP.step (pc2 := 23) (ls2 := [(3, .int v4), (0, .ref 111), (1, .int x), (2, .int (nI c))]) (st2 := [.int v4]) (w3 := w) rfl rfl ?_
      refine sx_RP.step (pc2 := 24) (ls2 := [(3, .int v4), (0, .ref 111), (1, .int x), (2, .int (nI c))]) (st2 := [.int 2, .int v4]) (w3 := w) rfl rfl ?_
      refine sx_RP.step (pc2 := 25) (ls2 := [(3, .int v4), (0, .ref 111), (1, .int x), (2, .int (nI c))]) (st2 := [.int (v4 - 2)]) (w3 := w) rfl rfl ?_
      refine sx_RP.step (pc2 := 27) (ls2 := [(4, .int (v4 - 2)), (3, .int v4), (0, .ref 111), (1, .int x), (2, .int (nI c))]) (st2 := []) (w3 := w) rfl rfl ?_
      refine sx_RP.step (pc2 := 28) (ls2 := [(4, .int (v4 - 2)), (3, .int v4), (0, .ref 111), (1, .int x), (2, .int (nI c))]) (st2 := [.int x]) (w3 := w) rfl rfl ?_
      rcases sw_cases (n := 4) (x) with q7 | ⟨x8, hx9, ex10⟩
      · refine sx_RP.swo (t := 79) rfl q7 rfl ?_
        refine sx_RP.step (pc2 := 81) (ls2 := [(4, .int (v4 - 2)), (3, .int v4), (0, .ref 111), (1, .int x), (2, .int (nI c))]) (st2 := [.int (v4 - 2)]) (w3 := w) rfl rfl ?_
        refine sx_RP.step (pc2 := 82) (ls2 := [(4, .int (v4 - 2)), (3, .int v4), (0, .ref 111), (1, .int x), (2, .int (nI c))]) (st2 := [.int 2, .int (v4 - 2)]) (w3 := w) rfl rfl ?_
        refine sx_RP.step (pc2 := 83) (ls2 := [(4, .int (v4 - 2)), (3, .int v4), (0, .ref 111), (1, .int x), (2, .int (nI c))]) (st2 := [.int ((v4 - 2) / 2)]) (w3 := w) rfl rfl ?_
        refine sx_RP.ret (r := (some (.int ((v4 - 2) / 2)))) rfl rfl ?_
        exact ⟨⟨_, rfl⟩, rfl⟩
      · rw [ex10]
        rcases (show x8 = 0 ∨ x8 = 1 ∨ x8 = 2 ∨ x8 = 3 ∨ x8 = 4 by omega) with rfl | rfl | rfl | rfl | rfl
        · refine sx_RP.step (pc2 := 64) (ls2 := [(4, .int (v4 - 2)), (3, .int v4), (0, .ref 111), (1, .int (nI 0)), (2, .int (nI c))]) (st2 := []) (w3 := w) rfl rfl ?_
          refine sx_RP.step (pc2 := 65) (ls2 := [(4, .int (v4 - 2)), (3, .int v4), (0, .ref 111), (1, .int (nI 0)), (2, .int (nI c))]) (st2 := [.int v4]) (w3 := w) rfl rfl ?_
          refine sx_RP.ret (r := (some (.int v4))) rfl rfl ?_
          exact ⟨⟨_, rfl⟩, rfl⟩
        · refine sx_RP.step (pc2 := 66) (ls2 := [(4, .int (v4 - 2)), (3, .int v4), (0, .ref 111), (1, .int (nI 1)), (2, .int (nI c))]) (st2 := []) (w3 := w) rfl rfl ?_
          refine sx_RP.step (pc2 := 68) (ls2 := [(4, .int (v4 - 2)), (3, .int v4), (0, .ref 111), (1, .int (nI 1)), (2, .int (nI c))]) (st2 := [.int (v4 - 2)]) (w3 := w) rfl rfl ?_
          refine sx_RP.ret (r := (some (.int (v4 - 2)))) rfl rfl ?_
          exact ⟨⟨_, rfl⟩, rfl⟩
        · refine sx_RP.step (pc2 := 69) (ls2 := [(4, .int (v4 - 2)), (3, .int v4), (0, .ref 111), (1, .int (nI 2)), (2, .int (nI c))]) (st2 := []) (w3 := w) rfl rfl ?_
          refine sx_RP.step (pc2 := 70) (ls2 := [(4, .int (v4 - 2)), (3, .int v4), (0, .ref 111), (1, .int (nI 2)), (2, .int (nI c))]) (st2 := [.int v4]) (w3 := w) rfl rfl ?_
          refine sx_RP.step (pc2 := 71) (ls2 := [(4, .int (v4 - 2)), (3, .int v4), (0, .ref 111), (1, .int (nI 2)), (2, .int (nI c))]) (st2 := [.int 2, .int v4]) (w3 := w) rfl rfl ?_
          refine sx_RP.step (pc2 := 72) (ls2 := [(4, .int (v4 - 2)), (3, .int v4), (0, .ref 111), (1, .int (nI 2)), (2, .int (nI c))]) (st2 := [.int (v4 / 2)]) (w3 := w) rfl rfl ?_
          refine sx_RP.ret (r := (some (.int (v4 / 2)))) rfl rfl ?_
          exact ⟨⟨_, rfl⟩, rfl⟩
        · refine sx_RP.step (pc2 := 79) (ls2 := [(4, .int (v4 - 2)), (3, .int v4), (0, .ref 111), (1, .int (nI 3)), (2, .int (nI c))]) (st2 := []) (w3 := w) rfl rfl ?_
          refine sx_RP.step (pc2 := 81) (ls2 := [(4, .int (v4 - 2)), (3, .int v4), (0, .ref 111), (1, .int (nI 3)), (2, .int (nI c))]) (st2 := [.int (v4 - 2)]) (w3 := w) rfl rfl ?_
          refine sx_RP.step (pc2 := 82) (ls2 := [(4, .int (v4 - 2)), (3, .int v4), (0, .ref 111), (1, .int (nI 3)), (2, .int (nI c))]) (st2 := [.int 2, .int (v4 - 2)]) (w3 := w) rfl rfl ?_
          refine sx_RP.step (pc2 := 83) (ls2 := [(4, .int (v4 - 2)), (3, .int v4), (0, .ref 111), (1, .int (nI 3)), (2, .int (nI c))]) (st2 := [.int ((v4 - 2) / 2)]) (w3 := w) rfl rfl ?_
          refine sx_RP.ret (r := (some (.int ((v4 - 2) / 2)))) rfl rfl ?_
          exact ⟨⟨_, rfl⟩, rfl⟩
        · refine sx_RP.step (pc2 := 73) (ls2 := [(4, .int (v4 - 2)), (3, .int v4), (0, .ref 111), (1, .int (nI 4)), (2, .int (nI c))]) (st2 := []) (w3 := w) rfl rfl ?_
          refine sx_RP.step (pc2 := 74) (ls2 := [(4, .int (v4 - 2)), (3, .int v4), (0, .ref 111), (1, .int (nI 4)), (2, .int (nI c))]) (st2 := [.int 3]) (w3 := w) rfl rfl ?_
          refine sx_RP.step (pc2 := 75) (ls2 := [(4, .int (v4 - 2)), (3, .int v4), (0, .ref 111), (1, .int (nI 4)), (2, .int (nI c))]) (st2 := [.int v4, .int 3]) (w3 := w) rfl rfl ?_
          refine sx_RP.step (pc2 := 76) (ls2 := [(4, .int (v4 - 2)), (3, .int v4), (0, .ref 111), (1, .int (nI 4)), (2, .int (nI c))]) (st2 := [.int 2, .int v4, .int 3]) (w3 := w) rfl rfl ?_
          refine sx_RP.step (pc2 := 77) (ls2 := [(4, .int (v4 - 2)), (3, .int v4), (0, .ref 111), (1, .int (nI 4)), (2, .int (nI c))]) (st2 := [.int (v4 / 2), .int 3]) (w3 := w) rfl rfl ?_
          refine sx_RP.step (pc2 := 78) (ls2 := [(4, .int (v4 - 2)), (3, .int v4), (0, .ref 111), (1, .int (nI 4)), (2, .int (nI c))]) (st2 := [.int (3 * (v4 / 2))]) (w3 := w) rfl rfl ?_
          refine sx_RP.ret (r := (some (.int (3 * (v4 / 2))))) rfl rfl ?_
          exact ⟨⟨_, rfl⟩, rfl⟩
    · replace q6 := of_decide_eq_false q6
      refine sx_RP.step (pc2 := 19) (ls2 := [(3, .int v4), (0, .ref 111), (1, .int x), (2, .int (nI c))]) (st2 := [.int 0]) (w3 := w) rfl rfl ?_
      refine sx_RP.step (pc2 := 25) (ls2 := [(3, .int v4), (0, .ref 111), (1, .int x), (2, .int (nI c))]) (st2 := [.int 0]) (w3 := w) rfl rfl ?_
      refine sx_RP.step (pc2 := 27) (ls2 := [(4, .int 0), (3, .int v4), (0, .ref 111), (1, .int x), (2, .int (nI c))]) (st2 := []) (w3 := w) rfl rfl ?_
      refine sx_RP.step (pc2 := 28) (ls2 := [(4, .int 0), (3, .int v4), (0, .ref 111), (1, .int x), (2, .int (nI c))]) (st2 := [.int x]) (w3 := w) rfl rfl ?_
      rcases sw_cases (n := 4) (x) with q11 | ⟨x12, hx13, ex14⟩
      · refine sx_RP.swo (t := 79) rfl q11 rfl ?_
        refine sx_RP.step (pc2 := 81) (ls2 := [(4, .int 0), (3, .int v4), (0, .ref 111), (1, .int x), (2, .int (nI c))]) (st2 := [.int 0]) (w3 := w) rfl rfl ?_
        refine sx_RP.step (pc2 := 82) (ls2 := [(4, .int 0), (3, .int v4), (0, .ref 111), (1, .int x), (2, .int (nI c))]) (st2 := [.int 2, .int 0]) (w3 := w) rfl rfl ?_
        refine sx_RP.step (pc2 := 83) (ls2 := [(4, .int 0), (3, .int v4), (0, .ref 111), (1, .int x), (2, .int (nI c))]) (st2 := [.int 0]) (w3 := w) rfl rfl ?_
        refine sx_RP.ret (r := (some (.int 0))) rfl rfl ?_
        exact ⟨⟨_, rfl⟩, rfl⟩
      · rw [ex14]
        rcases (show x12 = 0 ∨ x12 = 1 ∨ x12 = 2 ∨ x12 = 3 ∨ x12 = 4 by omega) with rfl | rfl | rfl | rfl | rfl
        · refine sx_RP.step (pc2 := 64) (ls2 := [(4, .int 0), (3, .int v4), (0, .ref 111), (1, .int (nI 0)), (2, .int (nI c))]) (st2 := []) (w3 := w) rfl rfl ?_
          refine sx_RP.step (pc2 := 65) (ls2 := [(4, .int 0), (3, .int v4), (0, .ref 111), (1, .int (nI 0)), (2, .int (nI c))]) (st2 := [.int v4]) (w3 := w) rfl rfl ?_
          refine sx_RP.ret (r := (some (.int v4))) rfl rfl ?_
          exact ⟨⟨_, rfl⟩, rfl⟩
        · refine sx_RP.step (pc2 := 66) (ls2 := [(4, .int 0), (3, .int v4), (0, .ref 111), (1, .int (nI 1)), (2, .int (nI c))]) (st2 := []) (w3 := w) rfl rfl ?_
          refine sx_RP.step (pc2 := 68) (ls2 := [(4, .int 0), (3, .int v4), (0, .ref 111), (1, .int (nI 1)), (2, .int (nI c))]) (st2 := [.int 0]) (w3 := w) rfl rfl ?_
          refine sx_RP.ret (r := (some (.int 0))) rfl rfl ?_
          exact ⟨⟨_, rfl⟩, rfl⟩
        · refine sx_RP.step (pc2 := 69) (ls2 := [(4, .int 0), (3, .int v4), (0, .ref 111), (1, .int (nI 2)), (2, .int (nI c))]) (st2 := []) (w3 := w) rfl rfl ?_
          refine sx_RP.step (pc2 := 70) (ls2 := [(4, .int 0), (3, .int v4), (0, .ref 111), (1, .int (nI 2)), (2, .int (nI c))]) (st2 := [.int v4]) (w3 := w) rfl rfl ?_
          refine sx_RP.step (pc2 := 71) (ls2 := [(4, .int 0), (3, .int v4), (0, .ref 111), (1, .int (nI 2)), (2, .int (nI c))]) (st2 := [.int 2, .int v4]) (w3 := w) rfl rfl ?_
          refine sx_RP.step (pc2 := 72) (ls2 := [(4, .int 0), (3, .int v4), (0, .ref 111), (1, .int (nI 2)), (2, .int (nI c))]) (st2 := [.int (v4 / 2)]) (w3 := w) rfl rfl ?_
          refine sx_RP.ret (r := (some (.int (v4 / 2)))) rfl rfl ?_
          exact ⟨⟨_, rfl⟩, rfl⟩
        · refine sx_RP.step (pc2 := 79) (ls2 := [(4, .int 0), (3, .int v4), (0, .ref 111), (1, .int (nI 3)), (2, .int (nI c))]) (st2 := []) (w3 := w) rfl rfl ?_
          refine sx_RP.step (pc2 := 81) (ls2 := [(4, .int 0), (3, .int v4), (0, .ref 111), (1, .int (nI 3)), (2, .int (nI c))]) (st2 := [.int 0]) (w3 := w) rfl rfl ?_
          refine sx_RP.step (pc2 := 82) (ls2 := [(4, .int 0), (3, .int v4), (0, .ref 111), (1, .int (nI 3)), (2, .int (nI c))]) (st2 := [.int 2, .int 0]) (w3 := w) rfl rfl ?_
          refine sx_RP.step (pc2 := 83) (ls2 := [(4, .int 0), (3, .int v4), (0, .ref 111), (1, .int (nI 3)), (2, .int (nI c))]) (st2 := [.int 0]) (w3 := w) rfl rfl ?_
          refine sx_RP.ret (r := (some (.int 0))) rfl rfl ?_
          exact ⟨⟨_, rfl⟩, rfl⟩
        · refine sx_RP.step (pc2 := 73) (ls2 := [(4, .int 0), (3, .int v4), (0, .ref 111), (1, .int (nI 4)), (2, .int (nI c))]) (st2 := []) (w3 := w) rfl rfl ?_
          refine sx_RP.step (pc2 := 74) (ls2 := [(4, .int 0), (3, .int v4), (0, .ref 111), (1, .int (nI 4)), (2, .int (nI c))]) (st2 := [.int 3]) (w3 := w) rfl rfl ?_
          refine sx_RP.step (pc2 := 75) (ls2 := [(4, .int 0), (3, .int v4), (0, .ref 111), (1, .int (nI 4)), (2, .int (nI c))]) (st2 := [.int v4, .int 3]) (w3 := w) rfl rfl ?_
          refine sx_RP.step (pc2 := 76) (ls2 := [(4, .int 0), (3, .int v4), (0, .ref 111), (1, .int (nI 4)), (2, .int (nI c))]) (st2 := [.int 2, .int v4, .int 3]) (w3 := w) rfl rfl ?_
          refine sx_RP.step (pc2 := 77) (ls2 := [(4, .int 0), (3, .int v4), (0, .ref 111), (1, .int (nI 4)), (2, .int (nI c))]) (st2 := [.int (v4 / 2), .int 3]) (w3 := w) rfl rfl ?_
          refine sx_RP.step (pc2 := 78) (ls2 := [(4, .int 0), (3, .int v4), (0, .ref 111), (1, .int (nI 4)), (2, .int (nI c))]) (st2 := [.int (3 * (v4 / 2))]) (w3 := w) rfl rfl ?_
          refine sx_RP.ret (r := (some (.int (3 * (v4 / 2))))) rfl rfl ?_
          exact ⟨⟨_, rfl⟩, rfl⟩
  obtain ⟨r, w2, h1, ⟨v, rfl⟩, rfl⟩ := h
  exact ⟨v, h1⟩
set_option maxRecDepth 20000 in
set_option maxHeartbeats 4000000 in
theorem p165 {xs : Option (List Int32)} {d : Nat} {w : List sx_C} (hI : WI w) (x : Int32) : ∃ j, j ≤ 1 ∧ sx_RU xs d 165 0 (lv_args 0 [.ref 111, .int x]) [] w (some (.int (nI j))) w := by
  have h : sx_RP xs d 165 0 (lv_args 0 [.ref 111, .int x]) [] w (fun r w2 => (∃ j, j ≤ 1 ∧ r = some (.int (nI j))) ∧ w2 = w) := by
    refine sx_RP.step (pc2 := 1) (ls2 := [(0, .ref 111), (1, .int x)]) (st2 := [.ref 111]) (w3 := w) rfl rfl ?_
    refine sx_RP.gf (v := .ref 112) rfl rfl hI.1.o111 rfl rfl (show _ = 4 from rfl) ?_
    refine sx_RP.step (pc2 := 5) (ls2 := [(0, .ref 111), (1, .int x)]) (st2 := [.int 0, .ref 112]) (w3 := w) rfl rfl ?_
    refine sx_RP.ild (c := 0) rfl hI.1.a112.1 hI.1.a112.2 (sx_in_nI (show 0 < 172 by omega) (by decide)) (show (nI 0).toNatClampNeg = 0 from nI_clamp (by omega)) (show _ = 6 from rfl) ?_
    refine sx_RP.step (pc2 := 7) (ls2 := [(0, .ref 111), (1, .int x)]) (st2 := [.int x, .int ((ia w 112).getD 0 0)]) (w3 := w) rfl rfl ?_
    refine sx_RP.step (pc2 := 8) (ls2 := [(0, .ref 111), (1, .int x)]) (st2 := [.int (((ia w 112).getD 0 0) + x)]) (w3 := w) rfl rfl ?_
    refine sx_RP.step (pc2 := 11) (ls2 := [(0, .ref 111), (1, .int x)]) (st2 := [.int 999, .int (((ia w 112).getD 0 0) + x)]) (w3 := w) rfl rfl ?_
    refine sx_RP.br (p1 := 18) (l1 := [(0, .ref 111), (1, .int x)]) (s1 := []) (v1 := w) (p2 := 14) (l2 := [(0, .ref 111), (1, .int x)]) (s2 := []) (v2 := w) rfl rfl (fun q1 => ?_) (fun q1 => ?_)
    · replace q1 := of_decide_eq_true q1
      refine sx_RP.step (pc2 := 19) (ls2 := [(0, .ref 111), (1, .int x)]) (st2 := [.int 0]) (w3 := w) rfl rfl ?_
      refine sx_RP.ret (r := (some (.int 0))) rfl rfl ?_
      exact ⟨⟨0, by decide, rfl⟩, rfl⟩
    · replace q1 := of_decide_eq_false q1
      refine sx_RP.step (pc2 := 15) (ls2 := [(0, .ref 111), (1, .int x)]) (st2 := [.int 1]) (w3 := w) rfl rfl ?_
      refine sx_RP.step (pc2 := 19) (ls2 := [(0, .ref 111), (1, .int x)]) (st2 := [.int 1]) (w3 := w) rfl rfl ?_
      refine sx_RP.ret (r := (some (.int 1))) rfl rfl ?_
      exact ⟨⟨1, by decide, rfl⟩, rfl⟩
  obtain ⟨r, w2, h1, ⟨j, hj, rfl⟩, rfl⟩ := h
  exact ⟨j, hj, h1⟩
set_option maxRecDepth 20000 in
set_option maxHeartbeats 4000000 in
theorem p160 {xs : Option (List Int32)} {d : Nat} {w : List sx_C} (hI : WI w) (x y : Int32) : ∃ j, j ≤ 1 ∧ sx_RU xs (d + 1) 160 0 (lv_args 0 [.int x, .int y]) [] w (some (.int (nI j))) w := by
  have h : sx_RP xs (d + 1) 160 0 (lv_args 0 [.int x, .int y]) [] w (fun r w2 => (∃ j, j ≤ 1 ∧ r = some (.int (nI j))) ∧ w2 = w) := by
    refine sx_RP.step (pc2 := 1) (ls2 := [(0, .int x), (1, .int y)]) (st2 := [.int y]) (w3 := w) rfl rfl ?_
    rcases sw_cases (n := 3) (y) with q1 | ⟨x2, hx3, ex4⟩
    · refine sx_RP.swo (t := 71) rfl q1 rfl ?_
      refine sx_RP.step (pc2 := 72) (ls2 := [(0, .int x), (1, .int y)]) (st2 := [.int x]) (w3 := w) rfl rfl ?_
      refine sx_RP.step (pc2 := 73) (ls2 := [(0, .int x), (1, .int y)]) (st2 := [.int y, .int x]) (w3 := w) rfl rfl ?_
      refine sx_RP.br (p1 := 80) (l1 := [(0, .int x), (1, .int y)]) (s1 := []) (v1 := w) (p2 := 76) (l2 := [(0, .int x), (1, .int y)]) (s2 := []) (v2 := w) rfl rfl (fun q5 => ?_) (fun q5 => ?_)
      · replace q5 := of_decide_eq_true q5
        refine sx_RP.step (pc2 := 81) (ls2 := [(0, .int x), (1, .int y)]) (st2 := [.int 0]) (w3 := w) rfl rfl ?_
        refine sx_RP.ret (r := (some (.int 0))) rfl rfl ?_
        exact ⟨⟨0, by decide, rfl⟩, rfl⟩
      · replace q5 := Decidable.not_not.mp (of_decide_eq_false q5)
        refine sx_RP.step (pc2 := 77) (ls2 := [(0, .int x), (1, .int y)]) (st2 := [.int 1]) (w3 := w) rfl rfl ?_
        refine sx_RP.step (pc2 := 81) (ls2 := [(0, .int x), (1, .int y)]) (st2 := [.int 1]) (w3 := w) rfl rfl ?_
        refine sx_RP.ret (r := (some (.int 1))) rfl rfl ?_
        exact ⟨⟨1, by decide, rfl⟩, rfl⟩
    · rw [ex4]
      rcases (show x2 = 0 ∨ x2 = 1 ∨ x2 = 2 ∨ x2 = 3 by omega) with rfl | rfl | rfl | rfl
      · refine sx_RP.step (pc2 := 32) (ls2 := [(0, .int x), (1, .int (nI 0))]) (st2 := []) (w3 := w) rfl rfl ?_
        refine sx_RP.step (pc2 := 33) (ls2 := [(0, .int x), (1, .int (nI 0))]) (st2 := [.int 1]) (w3 := w) rfl rfl ?_
        refine sx_RP.ret (r := (some (.int 1))) rfl rfl ?_
        exact ⟨⟨1, by decide, rfl⟩, rfl⟩
      · refine sx_RP.step (pc2 := 34) (ls2 := [(0, .int x), (1, .int (nI 1))]) (st2 := []) (w3 := w) rfl rfl ?_
        refine sx_RP.step (pc2 := 35) (ls2 := [(0, .int x), (1, .int (nI 1))]) (st2 := [.int x]) (w3 := w) rfl rfl ?_
        obtain ⟨x6, hx7, c8⟩ := p145 hI x
        refine sx_RP.cu (as := [.int x]) (rest2 := []) (st3 := [.int (nI x6)]) rfl rfl rfl rfl rfl (c8) rfl ?_
        refine sx_RP.ret (r := (some (.int (nI x6)))) rfl (bo_ret rfl (inR.n (show x6 ≤ 1 by omega))) ?_
        exact ⟨⟨x6, by omega, rfl⟩, rfl⟩
      · refine sx_RP.step (pc2 := 39) (ls2 := [(0, .int x), (1, .int (nI 2))]) (st2 := []) (w3 := w) rfl rfl ?_
        refine sx_RP.step (pc2 := 40) (ls2 := [(0, .int x), (1, .int (nI 2))]) (st2 := [.int x]) (w3 := w) rfl rfl ?_
        refine sx_RP.step (pc2 := 41) (ls2 := [(0, .int x), (1, .int (nI 2))]) (st2 := [.int 2, .int x]) (w3 := w) rfl rfl ?_
        refine sx_RP.br (p1 := 49) (l1 := [(0, .int x), (1, .int (nI 2))]) (s1 := []) (v1 := w) (p2 := 44) (l2 := [(0, .int x), (1, .int (nI 2))]) (s2 := []) (v2 := w) rfl rfl (fun q9 => ?_) (fun q9 => ?_)
        · replace q9 := of_decide_eq_true q9
          refine sx_RP.step (pc2 := 50) (ls2 := [(0, .int x), (1, .int (nI 2))]) (st2 := [.int 1]) (w3 := w) rfl rfl ?_
          refine sx_RP.step (pc2 := 54) (ls2 := [(0, .int x), (1, .int (nI 2))]) (st2 := [.int 1]) (w3 := w) rfl rfl ?_
          refine sx_RP.ret (r := (some (.int 1))) rfl rfl ?_
          exact ⟨⟨1, by decide, rfl⟩, rfl⟩
        · replace q9 := of_decide_eq_false q9
          refine sx_RP.step (pc2 := 45) (ls2 := [(0, .int x), (1, .int (nI 2))]) (st2 := [.int x]) (w3 := w) rfl rfl ?_
          refine sx_RP.step (pc2 := 46) (ls2 := [(0, .int x), (1, .int (nI 2))]) (st2 := [.int 4, .int x]) (w3 := w) rfl rfl ?_
          refine sx_RP.br (p1 := 53) (l1 := [(0, .int x), (1, .int (nI 2))]) (s1 := []) (v1 := w) (p2 := 49) (l2 := [(0, .int x), (1, .int (nI 2))]) (s2 := []) (v2 := w) rfl rfl (fun q10 => ?_) (fun q10 => ?_)
          · replace q10 := of_decide_eq_true q10
            refine sx_RP.step (pc2 := 54) (ls2 := [(0, .int x), (1, .int (nI 2))]) (st2 := [.int 0]) (w3 := w) rfl rfl ?_
            refine sx_RP.ret (r := (some (.int 0))) rfl rfl ?_
            exact ⟨⟨0, by decide, rfl⟩, rfl⟩
          · replace q10 := Decidable.not_not.mp (of_decide_eq_false q10)
            refine sx_RP.step (pc2 := 50) (ls2 := [(0, .int x), (1, .int (nI 2))]) (st2 := [.int 1]) (w3 := w) rfl rfl ?_
            refine sx_RP.step (pc2 := 54) (ls2 := [(0, .int x), (1, .int (nI 2))]) (st2 := [.int 1]) (w3 := w) rfl rfl ?_
            refine sx_RP.ret (r := (some (.int 1))) rfl rfl ?_
            exact ⟨⟨1, by decide, rfl⟩, rfl⟩
      · refine sx_RP.step (pc2 := 55) (ls2 := [(0, .int x), (1, .int (nI 3))]) (st2 := []) (w3 := w) rfl rfl ?_
        refine sx_RP.step (pc2 := 56) (ls2 := [(0, .int x), (1, .int (nI 3))]) (st2 := [.int x]) (w3 := w) rfl rfl ?_
        refine sx_RP.step (pc2 := 57) (ls2 := [(0, .int x), (1, .int (nI 3))]) (st2 := [.int 3, .int x]) (w3 := w) rfl rfl ?_
        refine sx_RP.br (p1 := 65) (l1 := [(0, .int x), (1, .int (nI 3))]) (s1 := []) (v1 := w) (p2 := 60) (l2 := [(0, .int x), (1, .int (nI 3))]) (s2 := []) (v2 := w) rfl rfl (fun q11 => ?_) (fun q11 => ?_)
        · replace q11 := of_decide_eq_true q11
          refine sx_RP.step (pc2 := 66) (ls2 := [(0, .int x), (1, .int (nI 3))]) (st2 := [.int 1]) (w3 := w) rfl rfl ?_
          refine sx_RP.step (pc2 := 70) (ls2 := [(0, .int x), (1, .int (nI 3))]) (st2 := [.int 1]) (w3 := w) rfl rfl ?_
          refine sx_RP.ret (r := (some (.int 1))) rfl rfl ?_
          exact ⟨⟨1, by decide, rfl⟩, rfl⟩
        · replace q11 := of_decide_eq_false q11
          refine sx_RP.step (pc2 := 61) (ls2 := [(0, .int x), (1, .int (nI 3))]) (st2 := [.int x]) (w3 := w) rfl rfl ?_
          refine sx_RP.step (pc2 := 62) (ls2 := [(0, .int x), (1, .int (nI 3))]) (st2 := [.int 5, .int x]) (w3 := w) rfl rfl ?_
          refine sx_RP.br (p1 := 69) (l1 := [(0, .int x), (1, .int (nI 3))]) (s1 := []) (v1 := w) (p2 := 65) (l2 := [(0, .int x), (1, .int (nI 3))]) (s2 := []) (v2 := w) rfl rfl (fun q12 => ?_) (fun q12 => ?_)
          · replace q12 := of_decide_eq_true q12
            refine sx_RP.step (pc2 := 70) (ls2 := [(0, .int x), (1, .int (nI 3))]) (st2 := [.int 0]) (w3 := w) rfl rfl ?_
            refine sx_RP.ret (r := (some (.int 0))) rfl rfl ?_
            exact ⟨⟨0, by decide, rfl⟩, rfl⟩
          · replace q12 := Decidable.not_not.mp (of_decide_eq_false q12)
            refine sx_RP.step (pc2 := 66) (ls2 := [(0, .int x), (1, .int (nI 3))]) (st2 := [.int 1]) (w3 := w) rfl rfl ?_
            refine sx_RP.step (pc2 := 70) (ls2 := [(0, .int x), (1, .int (nI 3))]) (st2 := [.int 1]) (w3 := w) rfl rfl ?_
            refine sx_RP.ret (r := (some (.int 1))) rfl rfl ?_
            exact ⟨⟨1, by decide, rfl⟩, rfl⟩
  obtain ⟨r, w2, h1, ⟨j, hj, rfl⟩, rfl⟩ := h
  exact ⟨j, hj, h1⟩
set_option maxRecDepth 20000 in
set_option maxHeartbeats 4000000 in
theorem q200 {xs : Option (List Int32)} {d : Nat} {w : List sx_C} (hI : WI w) (x y : Int32) : ∃ v : Int32, sx_RU xs d 200 0 (lv_args 0 [.int x, .int y]) [] w (some (.int v)) w := by
  have h : sx_RP xs d 200 0 (lv_args 0 [.int x, .int y]) [] w (fun r w2 => (∃ v : Int32, r = some (.int v)) ∧ w2 = w) := by
    refine sx_RP.step (pc2 := 1) (ls2 := [(0, .int x), (1, .int y)]) (st2 := [.int x]) (w3 := w) rfl rfl ?_
    refine sx_RP.step (pc2 := 3) (ls2 := [(0, .int x), (1, .int y)]) (st2 := [.int 8, .int x]) (w3 := w) rfl rfl ?_
    refine sx_RP.step (pc2 := 4) (ls2 := [(0, .int x), (1, .int y)]) (st2 := [.int (x / 8)]) (w3 := w) rfl rfl ?_
    refine sx_RP.step (pc2 := 5) (ls2 := [(0, .int x), (1, .int y)]) (st2 := [.int y, .int (x / 8)]) (w3 := w) rfl rfl ?_
    refine sx_RP.step (pc2 := 7) (ls2 := [(0, .int x), (1, .int y)]) (st2 := [.int 8, .int y, .int (x / 8)]) (w3 := w) rfl rfl ?_
    refine sx_RP.step (pc2 := 8) (ls2 := [(0, .int x), (1, .int y)]) (st2 := [.int (y / 8), .int (x / 8)]) (w3 := w) rfl rfl ?_
    refine sx_RP.step (pc2 := 9) (ls2 := [(0, .int x), (1, .int y)]) (st2 := [.int ((x / 8) - (y / 8))]) (w3 := w) rfl rfl ?_
    refine sx_RP.step (pc2 := 10) (ls2 := [(2, .int ((x / 8) - (y / 8))), (0, .int x), (1, .int y)]) (st2 := []) (w3 := w) rfl rfl ?_
    refine sx_RP.step (pc2 := 11) (ls2 := [(2, .int ((x / 8) - (y / 8))), (0, .int x), (1, .int y)]) (st2 := [.int x]) (w3 := w) rfl rfl ?_
    refine sx_RP.step (pc2 := 13) (ls2 := [(2, .int ((x / 8) - (y / 8))), (0, .int x), (1, .int y)]) (st2 := [.int 8, .int x]) (w3 := w) rfl rfl ?_
    refine sx_RP.step (pc2 := 14) (ls2 := [(2, .int ((x / 8) - (y / 8))), (0, .int x), (1, .int y)]) (st2 := [.int (x - x / 8 * 8)]) (w3 := w) rfl rfl ?_
    refine sx_RP.step (pc2 := 15) (ls2 := [(2, .int ((x / 8) - (y / 8))), (0, .int x), (1, .int y)]) (st2 := [.int y, .int (x - x / 8 * 8)]) (w3 := w) rfl rfl ?_
    refine sx_RP.step (pc2 := 17) (ls2 := [(2, .int ((x / 8) - (y / 8))), (0, .int x), (1, .int y)]) (st2 := [.int 8, .int y, .int (x - x / 8 * 8)]) (w3 := w) rfl rfl ?_
    refine sx_RP.step (pc2 := 18) (ls2 := [(2, .int ((x / 8) - (y / 8))), (0, .int x), (1, .int y)]) (st2 := [.int (y - y / 8 * 8), .int (x - x / 8 * 8)]) (w3 := w) rfl rfl ?_
    refine sx_RP.step (pc2 := 19) (ls2 := [(2, .int ((x / 8) - (y / 8))), (0, .int x), (1, .int y)]) (st2 := [.int ((x - x / 8 * 8) - (y - y / 8 * 8))]) (w3 := w) rfl rfl ?_
    refine sx_RP.step (pc2 := 20) (ls2 := [(3, .int ((x - x / 8 * 8) - (y - y / 8 * 8))), (2, .int ((x / 8) - (y / 8))), (0, .int x), (1, .int y)]) (st2 := []) (w3 := w) rfl rfl ?_
    refine sx_RP.step (pc2 := 21) (ls2 := [(3, .int ((x - x / 8 * 8) - (y - y / 8 * 8))), (2, .int ((x / 8) - (y / 8))), (0, .int x), (1, .int y)]) (st2 := [.int ((x / 8) - (y / 8))]) (w3 := w) rfl rfl ?_
    refine sx_RP.br (p1 := 29) (l1 := [(3, .int ((x - x / 8 * 8) - (y - y / 8 * 8))), (2, .int ((x / 8) - (y / 8))), (0, .int x), (1, .int y)]) (s1 := []) (v1 := w) (p2 := 24) (l2 := [(3, .int ((x - x / 8 * 8) - (y - y / 8 * 8))), (2, .int ((x / 8) - (y / 8))), (0, .int x), (1, .int y)]) (s2 := []) (v2 := w) rfl rfl (fun q1 => ?_) (fun q1 => ?_)
    · replace q1 := of_decide_eq_true q1
      refine sx_RP.step (pc2 := 30) (ls2 := [(3, .int ((x - x / 8 * 8) - (y - y / 8 * 8))), (2, .int ((x / 8) - (y / 8))), (0, .int x), (1, .int y)]) (st2 := [.int ((x / 8) - (y / 8))]) (w3 := w) rfl rfl ?_
      refine sx_RP.step (pc2 := 31) (ls2 := [(3, .int ((x - x / 8 * 8) - (y - y / 8 * 8))), (2, .int ((x / 8) - (y / 8))), (0, .int x), (1, .int y)]) (st2 := [.int ((x - x / 8 * 8) - (y - y / 8 * 8)), .int ((x / 8) - (y / 8))]) (w3 := w) rfl rfl ?_
      refine sx_RP.br (p1 := 39) (l1 := [(3, .int ((x - x / 8 * 8) - (y - y / 8 * 8))), (2, .int ((x / 8) - (y / 8))), (0, .int x), (1, .int y)]) (s1 := [.int ((x / 8) - (y / 8))]) (v1 := w) (p2 := 34) (l2 := [(3, .int ((x - x / 8 * 8) - (y - y / 8 * 8))), (2, .int ((x / 8) - (y / 8))), (0, .int x), (1, .int y)]) (s2 := [.int ((x / 8) - (y / 8))]) (v2 := w) rfl rfl (fun q2 => ?_) (fun q2 => ?_)
      · replace q2 := of_decide_eq_true q2
        refine sx_RP.step (pc2 := 40) (ls2 := [(3, .int ((x - x / 8 * 8) - (y - y / 8 * 8))), (2, .int ((x / 8) - (y / 8))), (0, .int x), (1, .int y)]) (st2 := [.int ((x - x / 8 * 8) - (y - y / 8 * 8)), .int ((x / 8) - (y / 8))]) (w3 := w) rfl rfl ?_
        refine sx_RP.step (pc2 := 41) (ls2 := [(3, .int ((x - x / 8 * 8) - (y - y / 8 * 8))), (2, .int ((x / 8) - (y / 8))), (0, .int x), (1, .int y)]) (st2 := [.int (((x / 8) - (y / 8)) + ((x - x / 8 * 8) - (y - y / 8 * 8)))]) (w3 := w) rfl rfl ?_
        refine sx_RP.ret (r := (some (.int (((x / 8) - (y / 8)) + ((x - x / 8 * 8) - (y - y / 8 * 8)))))) rfl rfl ?_
        exact ⟨⟨_, rfl⟩, rfl⟩
      · replace q2 := of_decide_eq_false q2
        refine sx_RP.step (pc2 := 35) (ls2 := [(3, .int ((x - x / 8 * 8) - (y - y / 8 * 8))), (2, .int ((x / 8) - (y / 8))), (0, .int x), (1, .int y)]) (st2 := [.int ((x - x / 8 * 8) - (y - y / 8 * 8)), .int ((x / 8) - (y / 8))]) (w3 := w) rfl rfl ?_
        refine sx_RP.step (pc2 := 36) (ls2 := [(3, .int ((x - x / 8 * 8) - (y - y / 8 * 8))), (2, .int ((x / 8) - (y / 8))), (0, .int x), (1, .int y)]) (st2 := [.int (-((x - x / 8 * 8) - (y - y / 8 * 8))), .int ((x / 8) - (y / 8))]) (w3 := w) rfl rfl ?_
        refine sx_RP.step (pc2 := 40) (ls2 := [(3, .int ((x - x / 8 * 8) - (y - y / 8 * 8))), (2, .int ((x / 8) - (y / 8))), (0, .int x), (1, .int y)]) (st2 := [.int (-((x - x / 8 * 8) - (y - y / 8 * 8))), .int ((x / 8) - (y / 8))]) (w3 := w) rfl rfl ?_
        refine sx_RP.step (pc2 := 41) (ls2 := [(3, .int ((x - x / 8 * 8) - (y - y / 8 * 8))), (2, .int ((x / 8) - (y / 8))), (0, .int x), (1, .int y)]) (st2 := [.int (((x / 8) - (y / 8)) + (-((x - x / 8 * 8) - (y - y / 8 * 8))))]) (w3 := w) rfl rfl ?_
        refine sx_RP.ret (r := (some (.int (((x / 8) - (y / 8)) + (-((x - x / 8 * 8) - (y - y / 8 * 8))))))) rfl rfl ?_
        exact ⟨⟨_, rfl⟩, rfl⟩
    · replace q1 := of_decide_eq_false q1
      refine sx_RP.step (pc2 := 25) (ls2 := [(3, .int ((x - x / 8 * 8) - (y - y / 8 * 8))), (2, .int ((x / 8) - (y / 8))), (0, .int x), (1, .int y)]) (st2 := [.int ((x / 8) - (y / 8))]) (w3 := w) rfl rfl ?_
      refine sx_RP.step (pc2 := 26) (ls2 := [(3, .int ((x - x / 8 * 8) - (y - y / 8 * 8))), (2, .int ((x / 8) - (y / 8))), (0, .int x), (1, .int y)]) (st2 := [.int (-((x / 8) - (y / 8)))]) (w3 := w) rfl rfl ?_
      refine sx_RP.step (pc2 := 30) (ls2 := [(3, .int ((x - x / 8 * 8) - (y - y / 8 * 8))), (2, .int ((x / 8) - (y / 8))), (0, .int x), (1, .int y)]) (st2 := [.int (-((x / 8) - (y / 8)))]) (w3 := w) rfl rfl ?_
      refine sx_RP.step (pc2 := 31) (ls2 := [(3, .int ((x - x / 8 * 8) - (y - y / 8 * 8))), (2, .int ((x / 8) - (y / 8))), (0, .int x), (1, .int y)]) (st2 := [.int ((x - x / 8 * 8) - (y - y / 8 * 8)), .int (-((x / 8) - (y / 8)))]) (w3 := w) rfl rfl ?_
      refine sx_RP.br (p1 := 39) (l1 := [(3, .int ((x - x / 8 * 8) - (y - y / 8 * 8))), (2, .int ((x / 8) - (y / 8))), (0, .int x), (1, .int y)]) (s1 := [.int (-((x / 8) - (y / 8)))]) (v1 := w) (p2 := 34) (l2 := [(3, .int ((x - x / 8 * 8) - (y - y / 8 * 8))), (2, .int ((x / 8) - (y / 8))), (0, .int x), (1, .int y)]) (s2 := [.int (-((x / 8) - (y / 8)))]) (v2 := w) rfl rfl (fun q3 => ?_) (fun q3 => ?_)
      · replace q3 := of_decide_eq_true q3
        refine sx_RP.step (pc2 := 40) (ls2 := [(3, .int ((x - x / 8 * 8) - (y - y / 8 * 8))), (2, .int ((x / 8) - (y / 8))), (0, .int x), (1, .int y)]) (st2 := [.int ((x - x / 8 * 8) - (y - y / 8 * 8)), .int (-((x / 8) - (y / 8)))]) (w3 := w) rfl rfl ?_
        refine sx_RP.step (pc2 := 41) (ls2 := [(3, .int ((x - x / 8 * 8) - (y - y / 8 * 8))), (2, .int ((x / 8) - (y / 8))), (0, .int x), (1, .int y)]) (st2 := [.int ((-((x / 8) - (y / 8))) + ((x - x / 8 * 8) - (y - y / 8 * 8)))]) (w3 := w) rfl rfl ?_
        refine sx_RP.ret (r := (some (.int ((-((x / 8) - (y / 8))) + ((x - x / 8 * 8) - (y - y / 8 * 8)))))) rfl rfl ?_
        exact ⟨⟨_, rfl⟩, rfl⟩
      · replace q3 := of_decide_eq_false q3
        refine sx_RP.step (pc2 := 35) (ls2 := [(3, .int ((x - x / 8 * 8) - (y - y / 8 * 8))), (2, .int ((x / 8) - (y / 8))), (0, .int x), (1, .int y)]) (st2 := [.int ((x - x / 8 * 8) - (y - y / 8 * 8)), .int (-((x / 8) - (y / 8)))]) (w3 := w) rfl rfl ?_
        refine sx_RP.step (pc2 := 36) (ls2 := [(3, .int ((x - x / 8 * 8) - (y - y / 8 * 8))), (2, .int ((x / 8) - (y / 8))), (0, .int x), (1, .int y)]) (st2 := [.int (-((x - x / 8 * 8) - (y - y / 8 * 8))), .int (-((x / 8) - (y / 8)))]) (w3 := w) rfl rfl ?_
        refine sx_RP.step (pc2 := 40) (ls2 := [(3, .int ((x - x / 8 * 8) - (y - y / 8 * 8))), (2, .int ((x / 8) - (y / 8))), (0, .int x), (1, .int y)]) (st2 := [.int (-((x - x / 8 * 8) - (y - y / 8 * 8))), .int (-((x / 8) - (y / 8)))]) (w3 := w) rfl rfl ?_
        refine sx_RP.step (pc2 := 41) (ls2 := [(3, .int ((x - x / 8 * 8) - (y - y / 8 * 8))), (2, .int ((x / 8) - (y / 8))), (0, .int x), (1, .int y)]) (st2 := [.int ((-((x / 8) - (y / 8))) + (-((x - x / 8 * 8) - (y - y / 8 * 8))))]) (w3 := w) rfl rfl ?_
        refine sx_RP.ret (r := (some (.int ((-((x / 8) - (y / 8))) + (-((x - x / 8 * 8) - (y - y / 8 * 8))))))) rfl rfl ?_
        exact ⟨⟨_, rfl⟩, rfl⟩
  obtain ⟨r, w2, h1, ⟨v, rfl⟩, rfl⟩ := h
  exact ⟨v, h1⟩
set_option maxRecDepth 20000 in
set_option maxHeartbeats 4000000 in
theorem p199 {xs : Option (List Int32)} {d : Nat} {w : List sx_C} (hI : WI w) {c : Nat} (x y : Int32) (hc : c < 48) : ∃ j, j ≤ 1 ∧ sx_RU xs (d + 1) 199 0 (lv_args 0 [.ref 111, .int x, .int y, .int (nI c)]) [] w (some (.int (nI j))) w := by
  have h : sx_RP xs (d + 1) 199 0 (lv_args 0 [.ref 111, .int x, .int y, .int (nI c)]) [] w (fun r w2 => (∃ j, j ≤ 1 ∧ r = some (.int (nI j))) ∧ w2 = w) := by
    refine sx_RP.step (pc2 := 1) (ls2 := [(0, .ref 111), (1, .int x), (2, .int y), (3, .int (nI c))]) (st2 := [.int y]) (w3 := w) rfl rfl ?_
    refine sx_RP.step (pc2 := 2) (ls2 := [(0, .ref 111), (1, .int x), (2, .int y), (3, .int (nI c))]) (st2 := [.int 3, .int y]) (w3 := w) rfl rfl ?_
    refine sx_RP.step (pc2 := 3) (ls2 := [(0, .ref 111), (1, .int x), (2, .int y), (3, .int (nI c))]) (st2 := [.int x, .int 3, .int y]) (w3 := w) rfl rfl ?_
    refine sx_RP.step (pc2 := 4) (ls2 := [(0, .ref 111), (1, .int x), (2, .int y), (3, .int (nI c))]) (st2 := [.int (nI c), .int x, .int 3, .int y]) (w3 := w) rfl rfl ?_
    obtain ⟨v1, c2⟩ := q200 hI x (nI c)
    refine sx_RP.cu (as := [.int x, .int (nI c)]) (rest2 := [.int 3, .int y]) (st3 := [.int v1, .int 3, .int y]) rfl rfl rfl rfl rfl (c2) rfl ?_
    refine sx_RP.step (pc2 := 8) (ls2 := [(0, .ref 111), (1, .int x), (2, .int y), (3, .int (nI c))]) (st2 := [.int (3 * v1), .int y]) (w3 := w) rfl rfl ?_
    refine sx_RP.step (pc2 := 9) (ls2 := [(0, .ref 111), (1, .int x), (2, .int y), (3, .int (nI c))]) (st2 := [.int (y - (3 * v1))]) (w3 := w) rfl rfl ?_
    refine sx_RP.step (pc2 := 10) (ls2 := [(0, .ref 111), (1, .int x), (2, .int y), (3, .int (nI c))]) (st2 := [.ref 111, .int (y - (3 * v1))]) (w3 := w) rfl rfl ?_
    refine sx_RP.gf (v := .ref 112) rfl rfl hI.1.o111 rfl rfl (show _ = 13 from rfl) ?_
    refine sx_RP.step (pc2 := 15) (ls2 := [(0, .ref 111), (1, .int x), (2, .int y), (3, .int (nI c))]) (st2 := [.int 7, .ref 112, .int (y - (3 * v1))]) (w3 := w) rfl rfl ?_
    refine sx_RP.step (pc2 := 16) (ls2 := [(0, .ref 111), (1, .int x), (2, .int y), (3, .int (nI c))]) (st2 := [.int (nI c), .int 7, .ref 112, .int (y - (3 * v1))]) (w3 := w) rfl rfl ?_
    refine sx_RP.step (pc2 := 17) (ls2 := [(0, .ref 111), (1, .int x), (2, .int y), (3, .int (nI c))]) (st2 := [.int (7 + (nI c)), .ref 112, .int (y - (3 * v1))]) (w3 := w) rfl rfl ?_
    rw [show (7 + (nI c) : Int32) = nI (7 + c) from nI_add 7 c]
    refine sx_RP.ild (c := (7 + c)) rfl hI.1.a112.1 hI.1.a112.2 (sx_in_nI (show (7 + c) < 172 by omega) (by decide)) (show (nI (7 + c)).toNatClampNeg = (7 + c) from nI_clamp (by omega)) (show _ = 18 from rfl) ?_
    obtain ⟨x3, hx4, ex5⟩ : inR ((ia w 112).getD (7 + c) 0) 3 := (hI.s ((7 + c)) (by omega)).2.2.1 (by omega)
    rw [ex5]
    refine sx_RP.step (pc2 := 19) (ls2 := [(0, .ref 111), (1, .int x), (2, .int y), (3, .int (nI c))]) (st2 := [.int 2, .int (nI x3), .int (y - (3 * v1))]) (w3 := w) rfl rfl ?_
    refine sx_RP.br (p1 := 26) (l1 := [(0, .ref 111), (1, .int x), (2, .int y), (3, .int (nI c))]) (s1 := [.int (y - (3 * v1))]) (v1 := w) (p2 := 22) (l2 := [(0, .ref 111), (1, .int x), (2, .int y), (3, .int (nI c))]) (s2 := [.int (y - (3 * v1))]) (v2 := w) rfl rfl (fun q6 => ?_) (fun q6 => ?_)
    · replace q6 := of_decide_eq_true q6
      replace q6 := mt (nI_eq (a := x3) (b := 2) (by omega) (by omega)).mpr q6
      refine sx_RP.step (pc2 := 27) (ls2 := [(0, .ref 111), (1, .int x), (2, .int y), (3, .int (nI c))]) (st2 := [.int 0, .int (y - (3 * v1))]) (w3 := w) rfl rfl ?_
      refine sx_RP.br (p1 := 34) (l1 := [(0, .ref 111), (1, .int x), (2, .int y), (3, .int (nI c))]) (s1 := []) (v1 := w) (p2 := 30) (l2 := [(0, .ref 111), (1, .int x), (2, .int y), (3, .int (nI c))]) (s2 := []) (v2 := w) rfl rfl (fun q7 => ?_) (fun q7 => ?_)
      · replace q7 := of_decide_eq_true q7
        refine sx_RP.step (pc2 := 35) (ls2 := [(0, .ref 111), (1, .int x), (2, .int y), (3, .int (nI c))]) (st2 := [.int 0]) (w3 := w) rfl rfl ?_
        refine sx_RP.ret (r := (some (.int 0))) rfl rfl ?_
        exact ⟨⟨0, by decide, rfl⟩, rfl⟩
      · replace q7 := of_decide_eq_false q7
        refine sx_RP.step (pc2 := 31) (ls2 := [(0, .ref 111), (1, .int x), (2, .int y), (3, .int (nI c))]) (st2 := [.int 1]) (w3 := w) rfl rfl ?_
        refine sx_RP.step (pc2 := 35) (ls2 := [(0, .ref 111), (1, .int x), (2, .int y), (3, .int (nI c))]) (st2 := [.int 1]) (w3 := w) rfl rfl ?_
        refine sx_RP.ret (r := (some (.int 1))) rfl rfl ?_
        exact ⟨⟨1, by decide, rfl⟩, rfl⟩
    · replace q6 := Decidable.not_not.mp (of_decide_eq_false q6)
      replace q6 := (nI_eq (a := x3) (b := 2) (by omega) (by omega)).mp q6
      refine sx_RP.step (pc2 := 23) (ls2 := [(0, .ref 111), (1, .int x), (2, .int y), (3, .int (nI c))]) (st2 := [.int 4, .int (y - (3 * v1))]) (w3 := w) rfl rfl ?_
      refine sx_RP.step (pc2 := 27) (ls2 := [(0, .ref 111), (1, .int x), (2, .int y), (3, .int (nI c))]) (st2 := [.int 4, .int (y - (3 * v1))]) (w3 := w) rfl rfl ?_
      refine sx_RP.br (p1 := 34) (l1 := [(0, .ref 111), (1, .int x), (2, .int y), (3, .int (nI c))]) (s1 := []) (v1 := w) (p2 := 30) (l2 := [(0, .ref 111), (1, .int x), (2, .int y), (3, .int (nI c))]) (s2 := []) (v2 := w) rfl rfl (fun q8 => ?_) (fun q8 => ?_)
      · replace q8 := of_decide_eq_true q8
        refine sx_RP.step (pc2 := 35) (ls2 := [(0, .ref 111), (1, .int x), (2, .int y), (3, .int (nI c))]) (st2 := [.int 0]) (w3 := w) rfl rfl ?_
        refine sx_RP.ret (r := (some (.int 0))) rfl rfl ?_
        exact ⟨⟨0, by decide, rfl⟩, rfl⟩
      · replace q8 := of_decide_eq_false q8
        refine sx_RP.step (pc2 := 31) (ls2 := [(0, .ref 111), (1, .int x), (2, .int y), (3, .int (nI c))]) (st2 := [.int 1]) (w3 := w) rfl rfl ?_
        refine sx_RP.step (pc2 := 35) (ls2 := [(0, .ref 111), (1, .int x), (2, .int y), (3, .int (nI c))]) (st2 := [.int 1]) (w3 := w) rfl rfl ?_
        refine sx_RP.ret (r := (some (.int 1))) rfl rfl ?_
        exact ⟨⟨1, by decide, rfl⟩, rfl⟩
  obtain ⟨r, w2, h1, ⟨j, hj, rfl⟩, rfl⟩ := h
  exact ⟨j, hj, h1⟩
set_option maxRecDepth 20000 in
set_option maxHeartbeats 4000000 in
theorem p156 {xs : Option (List Int32)} {d : Nat} {w : List sx_C} (hI : WI w) (x : Int32) : sx_RU xs (d + 1) 156 0 (lv_args 0 [.ref 111, .int x]) [] w (some (.int 0)) w ∨ ((∃ j, j < 10 ∧ x = nI j) ∧ sx_RU xs (d + 1) 156 0 (lv_args 0 [.ref 111, .int x]) [] w (some (.int 1)) w) := by
  have h : sx_RP xs (d + 1) 156 0 (lv_args 0 [.ref 111, .int x]) [] w (fun r w2 => (r = some (.int 0) ∨ ((∃ j, j < 10 ∧ x = nI j) ∧ r = some (.int 1))) ∧ w2 = w) := by
    refine sx_RP.step (pc2 := 1) (ls2 := [(0, .ref 111), (1, .int x)]) (st2 := [.int x]) (w3 := w) rfl rfl ?_
    refine sx_RP.step (pc2 := 2) (ls2 := [(0, .ref 111), (1, .int x)]) (st2 := [.int 0, .int x]) (w3 := w) rfl rfl ?_
    refine sx_RP.step (pc2 := 3) (ls2 := [(0, .ref 111), (1, .int x)]) (st2 := [.ref 111, .int 0, .int x]) (w3 := w) rfl rfl ?_
    refine sx_RP.gf (v := .ref 112) rfl rfl hI.1.o111 rfl rfl (show _ = 6 from rfl) ?_
    refine sx_RP.step (pc2 := 7) (ls2 := [(0, .ref 111), (1, .int x)]) (st2 := [.int 1, .ref 112, .int 0, .int x]) (w3 := w) rfl rfl ?_
    refine sx_RP.ild (c := 1) rfl hI.1.a112.1 hI.1.a112.2 (sx_in_nI (show 1 < 172 by omega) (by decide)) (show (nI 1).toNatClampNeg = 1 from nI_clamp (by omega)) (show _ = 8 from rfl) ?_
    obtain ⟨x1, hx2, ex3⟩ : inR ((ia w 112).getD 1 0) 10 := (hI.s (1) (by omega)).1 rfl
    rw [ex3]
    refine sx_RP.step (pc2 := 9) (ls2 := [(0, .ref 111), (1, .int x)]) (st2 := [.int 1, .int (nI x1), .int 0, .int x]) (w3 := w) rfl rfl ?_
    refine sx_RP.step (pc2 := 10) (ls2 := [(0, .ref 111), (1, .int x)]) (st2 := [.int ((nI x1) - 1), .int 0, .int x]) (w3 := w) rfl rfl ?_
    rcases in_casesS x (n := x1) (by omega) with q4 | ⟨q4, x5, hx6, rfl⟩
    · refine sx_RP.cu (as := [.int x, .int 0, .int ((nI x1) - 1)]) (rest2 := []) (st3 := [.int 0]) rfl rfl rfl rfl rfl (cx_132o q4) rfl ?_
      refine sx_RP.ret (r := (some (.int 0))) rfl rfl ?_
      exact ⟨Or.inl rfl, rfl⟩
    · refine sx_RP.cu (as := [.int (nI x5), .int 0, .int ((nI x1) - 1)]) (rest2 := []) (st3 := [.int 1]) rfl rfl rfl rfl rfl (cx_132p q4) rfl ?_
      refine sx_RP.ret (r := (some (.int 1))) rfl rfl ?_
      exact ⟨Or.inr ⟨⟨_, by omega, rfl⟩, rfl⟩, rfl⟩
  obtain ⟨r, w2, h1, h2, rfl⟩ := h
  rcases h2 with rfl | ⟨hc, rfl⟩
  · exact Or.inl h1
  · exact Or.inr ⟨hc, h1⟩
set_option maxRecDepth 20000 in
set_option maxHeartbeats 4000000 in
theorem p186 {xs : Option (List Int32)} {d : Nat} {w : List sx_C} (hI : WI w) (x : Int32) : sx_RU xs (d + 1) 186 0 (lv_args 0 [.ref 111, .int x]) [] w (some (.int 0)) w ∨ ((∃ j, j < 9 ∧ x = nI j) ∧ sx_RU xs (d + 1) 186 0 (lv_args 0 [.ref 111, .int x]) [] w (some (.int 1)) w) := by
  have h : sx_RP xs (d + 1) 186 0 (lv_args 0 [.ref 111, .int x]) [] w (fun r w2 => (r = some (.int 0) ∨ ((∃ j, j < 9 ∧ x = nI j) ∧ r = some (.int 1))) ∧ w2 = w) := by
    refine sx_RP.step (pc2 := 1) (ls2 := [(0, .ref 111), (1, .int x)]) (st2 := [.int x]) (w3 := w) rfl rfl ?_
    refine sx_RP.step (pc2 := 2) (ls2 := [(0, .ref 111), (1, .int x)]) (st2 := [.int 0, .int x]) (w3 := w) rfl rfl ?_
    refine sx_RP.step (pc2 := 3) (ls2 := [(0, .ref 111), (1, .int x)]) (st2 := [.ref 111, .int 0, .int x]) (w3 := w) rfl rfl ?_
    refine sx_RP.gf (v := .ref 112) rfl rfl hI.1.o111 rfl rfl (show _ = 6 from rfl) ?_
    refine sx_RP.step (pc2 := 7) (ls2 := [(0, .ref 111), (1, .int x)]) (st2 := [.int 2, .ref 112, .int 0, .int x]) (w3 := w) rfl rfl ?_
    refine sx_RP.ild (c := 2) rfl hI.1.a112.1 hI.1.a112.2 (sx_in_nI (show 2 < 172 by omega) (by decide)) (show (nI 2).toNatClampNeg = 2 from nI_clamp (by omega)) (show _ = 8 from rfl) ?_
    obtain ⟨x1, hx2, ex3⟩ : inR ((ia w 112).getD 2 0) 9 := (hI.s (2) (by omega)).2.1 rfl
    rw [ex3]
    refine sx_RP.step (pc2 := 9) (ls2 := [(0, .ref 111), (1, .int x)]) (st2 := [.int 1, .int (nI x1), .int 0, .int x]) (w3 := w) rfl rfl ?_
    refine sx_RP.step (pc2 := 10) (ls2 := [(0, .ref 111), (1, .int x)]) (st2 := [.int ((nI x1) - 1), .int 0, .int x]) (w3 := w) rfl rfl ?_
    rcases in_casesS x (n := x1) (by omega) with q4 | ⟨q4, x5, hx6, rfl⟩
    · refine sx_RP.cu (as := [.int x, .int 0, .int ((nI x1) - 1)]) (rest2 := []) (st3 := [.int 0]) rfl rfl rfl rfl rfl (cx_132o q4) rfl ?_
      refine sx_RP.ret (r := (some (.int 0))) rfl rfl ?_
      exact ⟨Or.inl rfl, rfl⟩
    · refine sx_RP.cu (as := [.int (nI x5), .int 0, .int ((nI x1) - 1)]) (rest2 := []) (st3 := [.int 1]) rfl rfl rfl rfl rfl (cx_132p q4) rfl ?_
      refine sx_RP.ret (r := (some (.int 1))) rfl rfl ?_
      exact ⟨Or.inr ⟨⟨_, by omega, rfl⟩, rfl⟩, rfl⟩
  obtain ⟨r, w2, h1, h2, rfl⟩ := h
  rcases h2 with rfl | ⟨hc, rfl⟩
  · exact Or.inl h1
  · exact Or.inr ⟨hc, h1⟩
end
-- 59.loopM.lean.txt
section
set_option maxRecDepth 20000 in
set_option maxHeartbeats 4000000 in
theorem p172B {xs : Option (List Int32)} {d : Nat} {w : List sx_C} {c : Nat} (hc : c < 48) (y : Int32) (hI : WI w) {j : Nat} (hj : j ≤ 4) (i : Nat) (hi : i ≤ 1) (kk : ∀ (ui : Nat), j + 1 ≤ 4 → ui ≤ 1 → sx_RP xs (d + 1) 172 13 [(0, .int (nI c)), (1, .int y), (2, .int (nI ui)), (3, .int (nI (j + 1)))] [] w (fun r w2 => (∃ j, j ≤ 1 ∧ r = some (.int (nI j))) ∧ w2 = w)) : sx_RP xs (d + 1) 172 13 [(0, .int (nI c)), (1, .int y), (2, .int (nI i)), (3, .int (nI j))] [] w (fun r w2 => (∃ j, j ≤ 1 ∧ r = some (.int (nI j))) ∧ w2 = w) := by
  refine sx_RP.step (pc2 := 14) (ls2 := [(0, .int (nI c)), (1, .int y), (2, .int (nI i)), (3, .int (nI j))]) (st2 := [.int (nI j)]) (w3 := w) rfl rfl ?_
  refine sx_RP.step (pc2 := 15) (ls2 := [(0, .int (nI c)), (1, .int y), (2, .int (nI i)), (3, .int (nI j))]) (st2 := [.int 4, .int (nI j)]) (w3 := w) rfl rfl ?_
  refine sx_RP.br (p1 := 43) (l1 := [(0, .int (nI c)), (1, .int y), (2, .int (nI i)), (3, .int (nI j))]) (s1 := []) (v1 := w) (p2 := 18) (l2 := [(0, .int (nI c)), (1, .int y), (2, .int (nI i)), (3, .int (nI j))]) (s2 := []) (v2 := w) rfl rfl (fun q1 => ?_) (fun q1 => ?_)
  · replace q1 := of_decide_eq_true q1
    replace q1 := (nI_leI (a := 4) (b := j) (by omega) (by omega)).mp q1
    refine sx_RP.step (pc2 := 44) (ls2 := [(0, .int (nI c)), (1, .int y), (2, .int (nI i)), (3, .int (nI j))]) (st2 := [.int (nI i)]) (w3 := w) rfl rfl ?_
    refine sx_RP.ret (r := (some (.int (nI i)))) rfl (bo_ret rfl (inR.n (show i ≤ 1 by omega))) ?_
    exact ⟨⟨i, by omega, rfl⟩, rfl⟩
  · replace q1 := of_decide_eq_false q1
    replace q1 := mt (nI_leI (a := 4) (b := j) (by omega) (by omega)).mpr q1
    refine sx_RP.step (pc2 := 19) (ls2 := [(0, .int (nI c)), (1, .int y), (2, .int (nI i)), (3, .int (nI j))]) (st2 := [.int (nI i)]) (w3 := w) rfl rfl ?_
    refine sx_RP.br (p1 := 43) (l1 := [(0, .int (nI c)), (1, .int y), (2, .int (nI i)), (3, .int (nI j))]) (s1 := []) (v1 := w) (p2 := 22) (l2 := [(0, .int (nI c)), (1, .int y), (2, .int (nI i)), (3, .int (nI j))]) (s2 := []) (v2 := w) rfl rfl (fun q2 => ?_) (fun q2 => ?_)
    · replace q2 := of_decide_eq_true q2
      replace q2 := mt (nI_eq (a := i) (b := 0) (by omega) (by omega)).mpr q2
      refine sx_RP.step (pc2 := 44) (ls2 := [(0, .int (nI c)), (1, .int y), (2, .int (nI i)), (3, .int (nI j))]) (st2 := [.int (nI i)]) (w3 := w) rfl rfl ?_
      refine sx_RP.ret (r := (some (.int (nI i)))) rfl (bo_ret rfl (inR.n (show i ≤ 1 by omega))) ?_
      exact ⟨⟨i, by omega, rfl⟩, rfl⟩
    · replace q2 := Decidable.not_not.mp (of_decide_eq_false q2)
      replace q2 := (nI_eq (a := i) (b := 0) (by omega) (by omega)).mp q2
      refine sx_RP.step (pc2 := 23) (ls2 := [(0, .int (nI c)), (1, .int y), (2, .int (nI i)), (3, .int (nI j))]) (st2 := [.int (nI c)]) (w3 := w) rfl rfl ?_
      refine sx_RP.step (pc2 := 24) (ls2 := [(0, .int (nI c)), (1, .int y), (2, .int (nI i)), (3, .int (nI j))]) (st2 := [.int (nI j), .int (nI c)]) (w3 := w) rfl rfl ?_
      rcases bes_cases (c := c) (j := j) (by omega) (by omega) with q3 | ⟨x4, hx5, q3⟩
      · refine sx_RP.cu (as := [.int (nI c), .int (nI j)]) (rest2 := []) (st3 := [.int (-1)]) rfl rfl rfl rfl rfl (cb_142e (by omega) (by omega) q3) rfl ?_
        refine sx_RP.step (pc2 := 28) (ls2 := [(0, .int (nI c)), (1, .int y), (2, .int (nI i)), (3, .int (nI j))]) (st2 := [.int y, .int (-1)]) (w3 := w) rfl rfl ?_
        refine sx_RP.br (p1 := 35) (l1 := [(0, .int (nI c)), (1, .int y), (2, .int (nI i)), (3, .int (nI j))]) (s1 := []) (v1 := w) (p2 := 31) (l2 := [(0, .int (nI c)), (1, .int y), (2, .int (nI i)), (3, .int (nI j))]) (s2 := []) (v2 := w) rfl rfl (fun q6 => ?_) (fun q6 => ?_)
        · replace q6 := of_decide_eq_true q6
          refine sx_RP.step (pc2 := 36) (ls2 := [(0, .int (nI c)), (1, .int y), (2, .int (nI i)), (3, .int (nI j))]) (st2 := [.int 0]) (w3 := w) rfl rfl ?_
          refine sx_RP.step (pc2 := 37) (ls2 := [(2, .int 0), (0, .int (nI c)), (1, .int y), (3, .int (nI j))]) (st2 := []) (w3 := w) rfl rfl ?_
          refine sx_RP.step (pc2 := 40) (ls2 := [(3, .int ((nI j) + 1)), (2, .int 0), (0, .int (nI c)), (1, .int y)]) (st2 := []) (w3 := w) rfl rfl ?_
          rw [nI_1 j]
          refine sx_RP.step (pc2 := 13) (ls2 := [(3, .int (nI (j + 1))), (2, .int 0), (0, .int (nI c)), (1, .int y)]) (st2 := []) (w3 := w) rfl rfl ?_
          exact sx_RP.ls (sx_lr.cons rfl (sx_lr.cons rfl (sx_lr.cons rfl (sx_lr.cons rfl sx_lr.nil)))) (kk 0 (by omega) (by omega))
        · replace q6 := Decidable.not_not.mp (of_decide_eq_false q6)
          refine sx_RP.step (pc2 := 32) (ls2 := [(0, .int (nI c)), (1, .int y), (2, .int (nI i)), (3, .int (nI j))]) (st2 := [.int 1]) (w3 := w) rfl rfl ?_
          refine sx_RP.step (pc2 := 36) (ls2 := [(0, .int (nI c)), (1, .int y), (2, .int (nI i)), (3, .int (nI j))]) (st2 := [.int 1]) (w3 := w) rfl rfl ?_
          refine sx_RP.step (pc2 := 37) (ls2 := [(2, .int 1), (0, .int (nI c)), (1, .int y), (3, .int (nI j))]) (st2 := []) (w3 := w) rfl rfl ?_
          refine sx_RP.step (pc2 := 40) (ls2 := [(3, .int ((nI j) + 1)), (2, .int 1), (0, .int (nI c)), (1, .int y)]) (st2 := []) (w3 := w) rfl rfl ?_
          rw [nI_1 j]
          refine sx_RP.step (pc2 := 13) (ls2 := [(3, .int (nI (j + 1))), (2, .int 1), (0, .int (nI c)), (1, .int y)]) (st2 := []) (w3 := w) rfl rfl ?_
          exact sx_RP.ls (sx_lr.cons rfl (sx_lr.cons rfl (sx_lr.cons rfl (sx_lr.cons rfl sx_lr.nil)))) (kk 1 (by omega) (by omega))
      · refine sx_RP.cu (as := [.int (nI c), .int (nI j)]) (rest2 := []) (st3 := [.int (nI x4)]) rfl rfl rfl rfl rfl (cb_142e (by omega) (by omega) q3) rfl ?_
        refine sx_RP.step (pc2 := 28) (ls2 := [(0, .int (nI c)), (1, .int y), (2, .int (nI i)), (3, .int (nI j))]) (st2 := [.int y, .int (nI x4)]) (w3 := w) rfl rfl ?_
        refine sx_RP.br (p1 := 35) (l1 := [(0, .int (nI c)), (1, .int y), (2, .int (nI i)), (3, .int (nI j))]) (s1 := []) (v1 := w) (p2 := 31) (l2 := [(0, .int (nI c)), (1, .int y), (2, .int (nI i)), (3, .int (nI j))]) (s2 := []) (v2 := w) rfl rfl (fun q7 => ?_) (fun q7 => ?_)
        · replace q7 := of_decide_eq_true q7
          refine sx_RP.step (pc2 := 36) (ls2 := [(0, .int (nI c)), (1, .int y), (2, .int (nI i)), (3, .int (nI j))]) (st2 := [.int 0]) (w3 := w) rfl rfl ?_
          refine sx_RP.step (pc2 := 37) (ls2 := [(2, .int 0), (0, .int (nI c)), (1, .int y), (3, .int (nI j))]) (st2 := []) (w3 := w) rfl rfl ?_
          refine sx_RP.step (pc2 := 40) (ls2 := [(3, .int ((nI j) + 1)), (2, .int 0), (0, .int (nI c)), (1, .int y)]) (st2 := []) (w3 := w) rfl rfl ?_
          rw [nI_1 j]
          refine sx_RP.step (pc2 := 13) (ls2 := [(3, .int (nI (j + 1))), (2, .int 0), (0, .int (nI c)), (1, .int y)]) (st2 := []) (w3 := w) rfl rfl ?_
          exact sx_RP.ls (sx_lr.cons rfl (sx_lr.cons rfl (sx_lr.cons rfl (sx_lr.cons rfl sx_lr.nil)))) (kk 0 (by omega) (by omega))
        · replace q7 := Decidable.not_not.mp (of_decide_eq_false q7)
          refine sx_RP.step (pc2 := 32) (ls2 := [(0, .int (nI c)), (1, .int y), (2, .int (nI i)), (3, .int (nI j))]) (st2 := [.int 1]) (w3 := w) rfl rfl ?_
          refine sx_RP.step (pc2 := 36) (ls2 := [(0, .int (nI c)), (1, .int y), (2, .int (nI i)), (3, .int (nI j))]) (st2 := [.int 1]) (w3 := w) rfl rfl ?_
          refine sx_RP.step (pc2 := 37) (ls2 := [(2, .int 1), (0, .int (nI c)), (1, .int y), (3, .int (nI j))]) (st2 := []) (w3 := w) rfl rfl ?_
          refine sx_RP.step (pc2 := 40) (ls2 := [(3, .int ((nI j) + 1)), (2, .int 1), (0, .int (nI c)), (1, .int y)]) (st2 := []) (w3 := w) rfl rfl ?_
          rw [nI_1 j]
          refine sx_RP.step (pc2 := 13) (ls2 := [(3, .int (nI (j + 1))), (2, .int 1), (0, .int (nI c)), (1, .int y)]) (st2 := []) (w3 := w) rfl rfl ?_
          exact sx_RP.ls (sx_lr.cons rfl (sx_lr.cons rfl (sx_lr.cons rfl (sx_lr.cons rfl sx_lr.nil)))) (kk 1 (by omega) (by omega))
set_option maxRecDepth 20000 in
set_option maxHeartbeats 4000000 in
theorem p172L {xs : Option (List Int32)} {d : Nat} {w : List sx_C} {c : Nat} (hc : c < 48) (y : Int32) (hI : WI w) : ∀ (fz j : Nat) (i : Nat) , 4 ≤ j + fz * 1 → j ≤ 4 → i ≤ 1 → sx_RP xs (d + 1) 172 13 [(0, .int (nI c)), (1, .int y), (2, .int (nI i)), (3, .int (nI j))] [] w (fun r w2 => (∃ j, j ≤ 1 ∧ r = some (.int (nI j))) ∧ w2 = w)
  | 0, j, i, h, hj, hi => p172B hc y hI hj i hi (fun ui  hlt hui => absurd hlt (by omega)) 
  | fz + 1, j, i, h, hj, hi => p172B hc y hI hj i hi (fun ui  hlt hui => p172L hc y hI  fz (j + 1) ui (by omega) hlt hui) 
set_option maxRecDepth 20000 in
set_option maxHeartbeats 4000000 in
theorem p172 {xs : Option (List Int32)} {d : Nat} {w : List sx_C} (hI : WI w) {c : Nat} (hc : c < 48) (y : Int32) : ∃ j, j ≤ 1 ∧ sx_RU xs (d + 1) 172 0 (lv_args 0 [.int (nI c), .int y]) [] w (some (.int (nI j))) w := by
  have h : sx_RP xs (d + 1) 172 0 (lv_args 0 [.int (nI c), .int y]) [] w (fun r w2 => (∃ j, j ≤ 1 ∧ r = some (.int (nI j))) ∧ w2 = w) := by
    refine sx_RP.step (pc2 := 1) (ls2 := [(0, .int (nI c)), (1, .int y)]) (st2 := [.int (nI c)]) (w3 := w) rfl rfl ?_
    refine sx_RP.step (pc2 := 2) (ls2 := [(0, .int (nI c)), (1, .int y)]) (st2 := [.int y, .int (nI c)]) (w3 := w) rfl rfl ?_
    refine sx_RP.br (p1 := 9) (l1 := [(0, .int (nI c)), (1, .int y)]) (s1 := []) (v1 := w) (p2 := 5) (l2 := [(0, .int (nI c)), (1, .int y)]) (s2 := []) (v2 := w) rfl rfl (fun q1 => ?_) (fun q1 => ?_)
    · replace q1 := of_decide_eq_true q1
      refine sx_RP.step (pc2 := 10) (ls2 := [(0, .int (nI c)), (1, .int y)]) (st2 := [.int 0]) (w3 := w) rfl rfl ?_
      refine sx_RP.step (pc2 := 11) (ls2 := [(2, .int 0), (0, .int (nI c)), (1, .int y)]) (st2 := []) (w3 := w) rfl rfl ?_
      refine sx_RP.step (pc2 := 12) (ls2 := [(2, .int 0), (0, .int (nI c)), (1, .int y)]) (st2 := [.int 0]) (w3 := w) rfl rfl ?_
      refine sx_RP.step (pc2 := 13) (ls2 := [(3, .int 0), (2, .int 0), (0, .int (nI c)), (1, .int y)]) (st2 := []) (w3 := w) rfl rfl ?_
      exact sx_RP.ls (sx_lr.cons rfl (sx_lr.cons rfl (sx_lr.cons rfl (sx_lr.cons rfl sx_lr.nil)))) (p172L hc y hI 4 0 0 (by omega) (by omega) (by omega))
    · replace q1 := Decidable.not_not.mp (of_decide_eq_false q1)
      refine sx_RP.step (pc2 := 6) (ls2 := [(0, .int (nI c)), (1, .int y)]) (st2 := [.int 1]) (w3 := w) rfl rfl ?_
      refine sx_RP.step (pc2 := 10) (ls2 := [(0, .int (nI c)), (1, .int y)]) (st2 := [.int 1]) (w3 := w) rfl rfl ?_
      refine sx_RP.step (pc2 := 11) (ls2 := [(2, .int 1), (0, .int (nI c)), (1, .int y)]) (st2 := []) (w3 := w) rfl rfl ?_
      refine sx_RP.step (pc2 := 12) (ls2 := [(2, .int 1), (0, .int (nI c)), (1, .int y)]) (st2 := [.int 0]) (w3 := w) rfl rfl ?_
      refine sx_RP.step (pc2 := 13) (ls2 := [(3, .int 0), (2, .int 1), (0, .int (nI c)), (1, .int y)]) (st2 := []) (w3 := w) rfl rfl ?_
      exact sx_RP.ls (sx_lr.cons rfl (sx_lr.cons rfl (sx_lr.cons rfl (sx_lr.cons rfl sx_lr.nil)))) (p172L hc y hI 4 0 1 (by omega) (by omega) (by omega))
  obtain ⟨r, w2, h1, ⟨j, hj, rfl⟩, rfl⟩ := h
  exact ⟨j, hj, h1⟩
set_option maxRecDepth 20000 in
set_option maxHeartbeats 4000000 in
theorem p136B {xs : Option (List Int32)} {d : Nat} {w : List sx_C} (x : Int32) (hI : WI w) {j : Nat} (hj : j ≤ 10) (n : Int32) (kk : ∀ (un : Int32), j + 1 ≤ 10 → sx_RP xs (d + 2) 136 4 [(0, .ref 111), (1, .int x), (2, .int un), (3, .int (nI (j + 1)))] [] w (fun r w2 => (∃ v : Int32, r = some (.int v)) ∧ w2 = w)) : sx_RP xs (d + 2) 136 4 [(0, .ref 111), (1, .int x), (2, .int n), (3, .int (nI j))] [] w (fun r w2 => (∃ v : Int32, r = some (.int v)) ∧ w2 = w) := by
  refine sx_RP.step (pc2 := 5) (ls2 := [(0, .ref 111), (1, .int x), (2, .int n), (3, .int (nI j))]) (st2 := [.int (nI j)]) (w3 := w) rfl rfl ?_
  refine sx_RP.step (pc2 := 6) (ls2 := [(0, .ref 111), (1, .int x), (2, .int n), (3, .int (nI j))]) (st2 := [.ref 111, .int (nI j)]) (w3 := w) rfl rfl ?_
  refine sx_RP.gf (v := .ref 112) rfl rfl hI.1.o111 rfl rfl (show _ = 9 from rfl) ?_
  refine sx_RP.step (pc2 := 10) (ls2 := [(0, .ref 111), (1, .int x), (2, .int n), (3, .int (nI j))]) (st2 := [.int 1, .ref 112, .int (nI j)]) (w3 := w) rfl rfl ?_
  refine sx_RP.ild (c := 1) rfl hI.1.a112.1 hI.1.a112.2 (sx_in_nI (show 1 < 172 by omega) (by decide)) (show (nI 1).toNatClampNeg = 1 from nI_clamp (by omega)) (show _ = 11 from rfl) ?_
  obtain ⟨x1, hx2, ex3⟩ : inR ((ia w 112).getD 1 0) 10 := (hI.s (1) (by omega)).1 rfl
  rw [ex3]
  refine sx_RP.br (p1 := 46) (l1 := [(0, .ref 111), (1, .int x), (2, .int n), (3, .int (nI j))]) (s1 := []) (v1 := w) (p2 := 14) (l2 := [(0, .ref 111), (1, .int x), (2, .int n), (3, .int (nI j))]) (s2 := []) (v2 := w) rfl rfl (fun q4 => ?_) (fun q4 => ?_)
  · replace q4 := of_decide_eq_true q4
    replace q4 := (nI_leI (a := x1) (b := j) (by omega) (by omega)).mp q4
    refine sx_RP.step (pc2 := 47) (ls2 := [(0, .ref 111), (1, .int x), (2, .int n), (3, .int (nI j))]) (st2 := [.int n]) (w3 := w) rfl rfl ?_
    refine sx_RP.ret (r := (some (.int n))) rfl rfl ?_
    exact ⟨⟨_, rfl⟩, rfl⟩
  · replace q4 := of_decide_eq_false q4
    replace q4 := mt (nI_leI (a := x1) (b := j) (by omega) (by omega)).mpr q4
    refine sx_RP.step (pc2 := 15) (ls2 := [(0, .ref 111), (1, .int x), (2, .int n), (3, .int (nI j))]) (st2 := [.int n]) (w3 := w) rfl rfl ?_
    refine sx_RP.step (pc2 := 16) (ls2 := [(0, .ref 111), (1, .int x), (2, .int n), (3, .int (nI j))]) (st2 := [.ref 111, .int n]) (w3 := w) rfl rfl ?_
    refine sx_RP.step (pc2 := 17) (ls2 := [(0, .ref 111), (1, .int x), (2, .int n), (3, .int (nI j))]) (st2 := [.int (nI j), .ref 111, .int n]) (w3 := w) rfl rfl ?_
    obtain ⟨x5, hx6, c7⟩ := p137 hI (show j < 10 by omega)
    refine sx_RP.cu (as := [.ref 111, .int (nI j)]) (rest2 := [.int n]) (st3 := [.int (nI x5), .int n]) rfl rfl (sx_inv_v2 (mi := 136) (k := 74) (st := [.int (nI j), .ref 111, .int n]) (w := w) rfl rfl hI.1.o111 rfl rfl rfl) rfl rfl (c7) rfl ?_
    refine sx_RP.br (p1 := 37) (l1 := [(0, .ref 111), (1, .int x), (2, .int n), (3, .int (nI j))]) (s1 := [.int n]) (v1 := w) (p2 := 23) (l2 := [(0, .ref 111), (1, .int x), (2, .int n), (3, .int (nI j))]) (s2 := [.int n]) (v2 := w) rfl rfl (fun q8 => ?_) (fun q8 => ?_)
    · replace q8 := of_decide_eq_true q8
      replace q8 := (nI_eq (a := x5) (b := 0) (by omega) (by omega)).mp q8
      refine sx_RP.step (pc2 := 38) (ls2 := [(0, .ref 111), (1, .int x), (2, .int n), (3, .int (nI j))]) (st2 := [.int 0, .int n]) (w3 := w) rfl rfl ?_
      refine sx_RP.step (pc2 := 39) (ls2 := [(0, .ref 111), (1, .int x), (2, .int n), (3, .int (nI j))]) (st2 := [.int (n + 0)]) (w3 := w) rfl rfl ?_
      refine sx_RP.step (pc2 := 40) (ls2 := [(2, .int (n + 0)), (0, .ref 111), (1, .int x), (3, .int (nI j))]) (st2 := []) (w3 := w) rfl rfl ?_
      refine sx_RP.step (pc2 := 43) (ls2 := [(3, .int ((nI j) + 1)), (2, .int (n + 0)), (0, .ref 111), (1, .int x)]) (st2 := []) (w3 := w) rfl rfl ?_
      rw [nI_1 j]
      refine sx_RP.step (pc2 := 4) (ls2 := [(3, .int (nI (j + 1))), (2, .int (n + 0)), (0, .ref 111), (1, .int x)]) (st2 := []) (w3 := w) rfl rfl ?_
      exact sx_RP.ls (sx_lr.cons rfl (sx_lr.cons rfl (sx_lr.cons rfl (sx_lr.cons rfl sx_lr.nil)))) (kk (n + 0) (by omega))
    · replace q8 := of_decide_eq_false q8
      replace q8 := mt (nI_eq (a := x5) (b := 0) (by omega) (by omega)).mpr q8
      refine sx_RP.step (pc2 := 24) (ls2 := [(0, .ref 111), (1, .int x), (2, .int n), (3, .int (nI j))]) (st2 := [.ref 111, .int n]) (w3 := w) rfl rfl ?_
      refine sx_RP.step (pc2 := 25) (ls2 := [(0, .ref 111), (1, .int x), (2, .int n), (3, .int (nI j))]) (st2 := [.int (nI j), .ref 111, .int n]) (w3 := w) rfl rfl ?_
      refine sx_RP.step (pc2 := 26) (ls2 := [(0, .ref 111), (1, .int x), (2, .int n), (3, .int (nI j))]) (st2 := [.int 2, .int (nI j), .ref 111, .int n]) (w3 := w) rfl rfl ?_
      obtain ⟨x9, hx10, c11⟩ := p138_2 hI (show j < 10 by omega)
      refine sx_RP.cu (as := [.ref 111, .int (nI j), .int 2]) (rest2 := [.int n]) (st3 := [.int (nI x9), .int n]) rfl rfl (sx_inv_v2 (mi := 136) (k := 59) (st := [.int 2, .int (nI j), .ref 111, .int n]) (w := w) rfl rfl hI.1.o111 rfl rfl rfl) rfl rfl (c11) rfl ?_
      refine sx_RP.step (pc2 := 30) (ls2 := [(0, .ref 111), (1, .int x), (2, .int n), (3, .int (nI j))]) (st2 := [.int x, .int (nI x9), .int n]) (w3 := w) rfl rfl ?_
      refine sx_RP.br (p1 := 37) (l1 := [(0, .ref 111), (1, .int x), (2, .int n), (3, .int (nI j))]) (s1 := [.int n]) (v1 := w) (p2 := 33) (l2 := [(0, .ref 111), (1, .int x), (2, .int n), (3, .int (nI j))]) (s2 := [.int n]) (v2 := w) rfl rfl (fun q12 => ?_) (fun q12 => ?_)
      · replace q12 := of_decide_eq_true q12
        refine sx_RP.step (pc2 := 38) (ls2 := [(0, .ref 111), (1, .int x), (2, .int n), (3, .int (nI j))]) (st2 := [.int 0, .int n]) (w3 := w) rfl rfl ?_
        refine sx_RP.step (pc2 := 39) (ls2 := [(0, .ref 111), (1, .int x), (2, .int n), (3, .int (nI j))]) (st2 := [.int (n + 0)]) (w3 := w) rfl rfl ?_
        refine sx_RP.step (pc2 := 40) (ls2 := [(2, .int (n + 0)), (0, .ref 111), (1, .int x), (3, .int (nI j))]) (st2 := []) (w3 := w) rfl rfl ?_
        refine sx_RP.step (pc2 := 43) (ls2 := [(3, .int ((nI j) + 1)), (2, .int (n + 0)), (0, .ref 111), (1, .int x)]) (st2 := []) (w3 := w) rfl rfl ?_
        rw [nI_1 j]
        refine sx_RP.step (pc2 := 4) (ls2 := [(3, .int (nI (j + 1))), (2, .int (n + 0)), (0, .ref 111), (1, .int x)]) (st2 := []) (w3 := w) rfl rfl ?_
        exact sx_RP.ls (sx_lr.cons rfl (sx_lr.cons rfl (sx_lr.cons rfl (sx_lr.cons rfl sx_lr.nil)))) (kk (n + 0) (by omega))
      · replace q12 := Decidable.not_not.mp (of_decide_eq_false q12)
        refine sx_RP.step (pc2 := 34) (ls2 := [(0, .ref 111), (1, .int x), (2, .int n), (3, .int (nI j))]) (st2 := [.int 1, .int n]) (w3 := w) rfl rfl ?_
        refine sx_RP.step (pc2 := 38) (ls2 := [(0, .ref 111), (1, .int x), (2, .int n), (3, .int (nI j))]) (st2 := [.int 1, .int n]) (w3 := w) rfl rfl ?_
        refine sx_RP.step (pc2 := 39) (ls2 := [(0, .ref 111), (1, .int x), (2, .int n), (3, .int (nI j))]) (st2 := [.int (n + 1)]) (w3 := w) rfl rfl ?_
        refine sx_RP.step (pc2 := 40) (ls2 := [(2, .int (n + 1)), (0, .ref 111), (1, .int x), (3, .int (nI j))]) (st2 := []) (w3 := w) rfl rfl ?_
        refine sx_RP.step (pc2 := 43) (ls2 := [(3, .int ((nI j) + 1)), (2, .int (n + 1)), (0, .ref 111), (1, .int x)]) (st2 := []) (w3 := w) rfl rfl ?_
        rw [nI_1 j]
        refine sx_RP.step (pc2 := 4) (ls2 := [(3, .int (nI (j + 1))), (2, .int (n + 1)), (0, .ref 111), (1, .int x)]) (st2 := []) (w3 := w) rfl rfl ?_
        exact sx_RP.ls (sx_lr.cons rfl (sx_lr.cons rfl (sx_lr.cons rfl (sx_lr.cons rfl sx_lr.nil)))) (kk (n + 1) (by omega))
set_option maxRecDepth 20000 in
set_option maxHeartbeats 4000000 in
theorem p136L {xs : Option (List Int32)} {d : Nat} {w : List sx_C} (x : Int32) (hI : WI w) : ∀ (fz j : Nat) (n : Int32) , 10 ≤ j + fz * 1 → j ≤ 10 → sx_RP xs (d + 2) 136 4 [(0, .ref 111), (1, .int x), (2, .int n), (3, .int (nI j))] [] w (fun r w2 => (∃ v : Int32, r = some (.int v)) ∧ w2 = w)
  | 0, j, n, h, hj => p136B x hI hj n  (fun un  hlt  => absurd hlt (by omega)) 
  | fz + 1, j, n, h, hj => p136B x hI hj n  (fun un  hlt  => p136L x hI  fz (j + 1) un (by omega) hlt ) 
set_option maxRecDepth 20000 in
set_option maxHeartbeats 4000000 in
theorem p136 {xs : Option (List Int32)} {d : Nat} {w : List sx_C} (hI : WI w) (x : Int32) : ∃ v : Int32, sx_RU xs (d + 2) 136 0 (lv_args 0 [.ref 111, .int x]) [] w (some (.int v)) w := by
  have h : sx_RP xs (d + 2) 136 0 (lv_args 0 [.ref 111, .int x]) [] w (fun r w2 => (∃ v : Int32, r = some (.int v)) ∧ w2 = w) := by
    refine sx_RP.step (pc2 := 1) (ls2 := [(0, .ref 111), (1, .int x)]) (st2 := [.int 0]) (w3 := w) rfl rfl ?_
    refine sx_RP.step (pc2 := 2) (ls2 := [(2, .int 0), (0, .ref 111), (1, .int x)]) (st2 := []) (w3 := w) rfl rfl ?_
    refine sx_RP.step (pc2 := 3) (ls2 := [(2, .int 0), (0, .ref 111), (1, .int x)]) (st2 := [.int 0]) (w3 := w) rfl rfl ?_
    refine sx_RP.step (pc2 := 4) (ls2 := [(3, .int 0), (2, .int 0), (0, .ref 111), (1, .int x)]) (st2 := []) (w3 := w) rfl rfl ?_
    exact sx_RP.ls (sx_lr.cons rfl (sx_lr.cons rfl (sx_lr.cons rfl (sx_lr.cons rfl sx_lr.nil)))) (p136L x hI 10 0 0 (by omega) (by omega) )
  obtain ⟨r, w2, h1, ⟨v, rfl⟩, rfl⟩ := h
  exact ⟨v, h1⟩
set_option maxRecDepth 20000 in
set_option maxHeartbeats 4000000 in
theorem p167B {xs : Option (List Int32)} {d : Nat} {w : List sx_C} (x : Int32) (hI : WI w) {j : Nat} (hj : j ≤ 10) (n : Int32) (kk : ∀ (un : Int32), j + 1 ≤ 10 → sx_RP xs (d + 2) 167 4 [(0, .ref 111), (1, .int x), (2, .int un), (3, .int (nI (j + 1)))] [] w (fun r w2 => (∃ v : Int32, r = some (.int v)) ∧ w2 = w)) : sx_RP xs (d + 2) 167 4 [(0, .ref 111), (1, .int x), (2, .int n), (3, .int (nI j))] [] w (fun r w2 => (∃ v : Int32, r = some (.int v)) ∧ w2 = w) := by
  refine sx_RP.step (pc2 := 5) (ls2 := [(0, .ref 111), (1, .int x), (2, .int n), (3, .int (nI j))]) (st2 := [.int (nI j)]) (w3 := w) rfl rfl ?_
  refine sx_RP.step (pc2 := 6) (ls2 := [(0, .ref 111), (1, .int x), (2, .int n), (3, .int (nI j))]) (st2 := [.ref 111, .int (nI j)]) (w3 := w) rfl rfl ?_
  refine sx_RP.gf (v := .ref 112) rfl rfl hI.1.o111 rfl rfl (show _ = 9 from rfl) ?_
  refine sx_RP.step (pc2 := 10) (ls2 := [(0, .ref 111), (1, .int x), (2, .int n), (3, .int (nI j))]) (st2 := [.int 1, .ref 112, .int (nI j)]) (w3 := w) rfl rfl ?_
  refine sx_RP.ild (c := 1) rfl hI.1.a112.1 hI.1.a112.2 (sx_in_nI (show 1 < 172 by omega) (by decide)) (show (nI 1).toNatClampNeg = 1 from nI_clamp (by omega)) (show _ = 11 from rfl) ?_
  obtain ⟨x1, hx2, ex3⟩ : inR ((ia w 112).getD 1 0) 10 := (hI.s (1) (by omega)).1 rfl
  rw [ex3]
  refine sx_RP.br (p1 := 46) (l1 := [(0, .ref 111), (1, .int x), (2, .int n), (3, .int (nI j))]) (s1 := []) (v1 := w) (p2 := 14) (l2 := [(0, .ref 111), (1, .int x), (2, .int n), (3, .int (nI j))]) (s2 := []) (v2 := w) rfl rfl (fun q4 => ?_) (fun q4 => ?_)
  · replace q4 := of_decide_eq_true q4
    replace q4 := (nI_leI (a := x1) (b := j) (by omega) (by omega)).mp q4
    refine sx_RP.step (pc2 := 47) (ls2 := [(0, .ref 111), (1, .int x), (2, .int n), (3, .int (nI j))]) (st2 := [.int n]) (w3 := w) rfl rfl ?_
    refine sx_RP.ret (r := (some (.int n))) rfl rfl ?_
    exact ⟨⟨_, rfl⟩, rfl⟩
  · replace q4 := of_decide_eq_false q4
    replace q4 := mt (nI_leI (a := x1) (b := j) (by omega) (by omega)).mpr q4
    refine sx_RP.step (pc2 := 15) (ls2 := [(0, .ref 111), (1, .int x), (2, .int n), (3, .int (nI j))]) (st2 := [.int n]) (w3 := w) rfl rfl ?_
    refine sx_RP.step (pc2 := 16) (ls2 := [(0, .ref 111), (1, .int x), (2, .int n), (3, .int (nI j))]) (st2 := [.ref 111, .int n]) (w3 := w) rfl rfl ?_
    refine sx_RP.step (pc2 := 17) (ls2 := [(0, .ref 111), (1, .int x), (2, .int n), (3, .int (nI j))]) (st2 := [.int (nI j), .ref 111, .int n]) (w3 := w) rfl rfl ?_
    obtain ⟨x5, hx6, c7⟩ := p137 hI (show j < 10 by omega)
    refine sx_RP.cu (as := [.ref 111, .int (nI j)]) (rest2 := [.int n]) (st3 := [.int (nI x5), .int n]) rfl rfl (sx_inv_v2 (mi := 167) (k := 74) (st := [.int (nI j), .ref 111, .int n]) (w := w) rfl rfl hI.1.o111 rfl rfl rfl) rfl rfl (c7) rfl ?_
    refine sx_RP.br (p1 := 37) (l1 := [(0, .ref 111), (1, .int x), (2, .int n), (3, .int (nI j))]) (s1 := [.int n]) (v1 := w) (p2 := 23) (l2 := [(0, .ref 111), (1, .int x), (2, .int n), (3, .int (nI j))]) (s2 := [.int n]) (v2 := w) rfl rfl (fun q8 => ?_) (fun q8 => ?_)
    · replace q8 := of_decide_eq_true q8
      replace q8 := (nI_eq (a := x5) (b := 0) (by omega) (by omega)).mp q8
      refine sx_RP.step (pc2 := 38) (ls2 := [(0, .ref 111), (1, .int x), (2, .int n), (3, .int (nI j))]) (st2 := [.int 0, .int n]) (w3 := w) rfl rfl ?_
      refine sx_RP.step (pc2 := 39) (ls2 := [(0, .ref 111), (1, .int x), (2, .int n), (3, .int (nI j))]) (st2 := [.int (n + 0)]) (w3 := w) rfl rfl ?_
      refine sx_RP.step (pc2 := 40) (ls2 := [(2, .int (n + 0)), (0, .ref 111), (1, .int x), (3, .int (nI j))]) (st2 := []) (w3 := w) rfl rfl ?_
      refine sx_RP.step (pc2 := 43) (ls2 := [(3, .int ((nI j) + 1)), (2, .int (n + 0)), (0, .ref 111), (1, .int x)]) (st2 := []) (w3 := w) rfl rfl ?_
      rw [nI_1 j]
      refine sx_RP.step (pc2 := 4) (ls2 := [(3, .int (nI (j + 1))), (2, .int (n + 0)), (0, .ref 111), (1, .int x)]) (st2 := []) (w3 := w) rfl rfl ?_
      exact sx_RP.ls (sx_lr.cons rfl (sx_lr.cons rfl (sx_lr.cons rfl (sx_lr.cons rfl sx_lr.nil)))) (kk (n + 0) (by omega))
    · replace q8 := of_decide_eq_false q8
      replace q8 := mt (nI_eq (a := x5) (b := 0) (by omega) (by omega)).mpr q8
      refine sx_RP.step (pc2 := 24) (ls2 := [(0, .ref 111), (1, .int x), (2, .int n), (3, .int (nI j))]) (st2 := [.ref 111, .int n]) (w3 := w) rfl rfl ?_
      refine sx_RP.step (pc2 := 25) (ls2 := [(0, .ref 111), (1, .int x), (2, .int n), (3, .int (nI j))]) (st2 := [.int (nI j), .ref 111, .int n]) (w3 := w) rfl rfl ?_
      refine sx_RP.step (pc2 := 26) (ls2 := [(0, .ref 111), (1, .int x), (2, .int n), (3, .int (nI j))]) (st2 := [.int 1, .int (nI j), .ref 111, .int n]) (w3 := w) rfl rfl ?_
      obtain ⟨x9, hx10, c11⟩ := p138_1 hI (show j < 10 by omega)
      refine sx_RP.cu (as := [.ref 111, .int (nI j), .int 1]) (rest2 := [.int n]) (st3 := [.int (nI x9), .int n]) rfl rfl (sx_inv_v2 (mi := 167) (k := 59) (st := [.int 1, .int (nI j), .ref 111, .int n]) (w := w) rfl rfl hI.1.o111 rfl rfl rfl) rfl rfl (c11) rfl ?_
      refine sx_RP.step (pc2 := 30) (ls2 := [(0, .ref 111), (1, .int x), (2, .int n), (3, .int (nI j))]) (st2 := [.int x, .int (nI x9), .int n]) (w3 := w) rfl rfl ?_
      refine sx_RP.br (p1 := 37) (l1 := [(0, .ref 111), (1, .int x), (2, .int n), (3, .int (nI j))]) (s1 := [.int n]) (v1 := w) (p2 := 33) (l2 := [(0, .ref 111), (1, .int x), (2, .int n), (3, .int (nI j))]) (s2 := [.int n]) (v2 := w) rfl rfl (fun q12 => ?_) (fun q12 => ?_)
      · replace q12 := of_decide_eq_true q12
        refine sx_RP.step (pc2 := 38) (ls2 := [(0, .ref 111), (1, .int x), (2, .int n), (3, .int (nI j))]) (st2 := [.int 0, .int n]) (w3 := w) rfl rfl ?_
        refine sx_RP.step (pc2 := 39) (ls2 := [(0, .ref 111), (1, .int x), (2, .int n), (3, .int (nI j))]) (st2 := [.int (n + 0)]) (w3 := w) rfl rfl ?_
        refine sx_RP.step (pc2 := 40) (ls2 := [(2, .int (n + 0)), (0, .ref 111), (1, .int x), (3, .int (nI j))]) (st2 := []) (w3 := w) rfl rfl ?_
        refine sx_RP.step (pc2 := 43) (ls2 := [(3, .int ((nI j) + 1)), (2, .int (n + 0)), (0, .ref 111), (1, .int x)]) (st2 := []) (w3 := w) rfl rfl ?_
        rw [nI_1 j]
        refine sx_RP.step (pc2 := 4) (ls2 := [(3, .int (nI (j + 1))), (2, .int (n + 0)), (0, .ref 111), (1, .int x)]) (st2 := []) (w3 := w) rfl rfl ?_
        exact sx_RP.ls (sx_lr.cons rfl (sx_lr.cons rfl (sx_lr.cons rfl (sx_lr.cons rfl sx_lr.nil)))) (kk (n + 0) (by omega))
      · replace q12 := Decidable.not_not.mp (of_decide_eq_false q12)
        refine sx_RP.step (pc2 := 34) (ls2 := [(0, .ref 111), (1, .int x), (2, .int n), (3, .int (nI j))]) (st2 := [.int 1, .int n]) (w3 := w) rfl rfl ?_
        refine sx_RP.step (pc2 := 38) (ls2 := [(0, .ref 111), (1, .int x), (2, .int n), (3, .int (nI j))]) (st2 := [.int 1, .int n]) (w3 := w) rfl rfl ?_
        refine sx_RP.step (pc2 := 39) (ls2 := [(0, .ref 111), (1, .int x), (2, .int n), (3, .int (nI j))]) (st2 := [.int (n + 1)]) (w3 := w) rfl rfl ?_
        refine sx_RP.step (pc2 := 40) (ls2 := [(2, .int (n + 1)), (0, .ref 111), (1, .int x), (3, .int (nI j))]) (st2 := []) (w3 := w) rfl rfl ?_
        refine sx_RP.step (pc2 := 43) (ls2 := [(3, .int ((nI j) + 1)), (2, .int (n + 1)), (0, .ref 111), (1, .int x)]) (st2 := []) (w3 := w) rfl rfl ?_
        rw [nI_1 j]
        refine sx_RP.step (pc2 := 4) (ls2 := [(3, .int (nI (j + 1))), (2, .int (n + 1)), (0, .ref 111), (1, .int x)]) (st2 := []) (w3 := w) rfl rfl ?_
        exact sx_RP.ls (sx_lr.cons rfl (sx_lr.cons rfl (sx_lr.cons rfl (sx_lr.cons rfl sx_lr.nil)))) (kk (n + 1) (by omega))
set_option maxRecDepth 20000 in
set_option maxHeartbeats 4000000 in
theorem p167L {xs : Option (List Int32)} {d : Nat} {w : List sx_C} (x : Int32) (hI : WI w) : ∀ (fz j : Nat) (n : Int32) , 10 ≤ j + fz * 1 → j ≤ 10 → sx_RP xs (d + 2) 167 4 [(0, .ref 111), (1, .int x), (2, .int n), (3, .int (nI j))] [] w (fun r w2 => (∃ v : Int32, r = some (.int v)) ∧ w2 = w)
  | 0, j, n, h, hj => p167B x hI hj n  (fun un  hlt  => absurd hlt (by omega)) 
  | fz + 1, j, n, h, hj => p167B x hI hj n  (fun un  hlt  => p167L x hI  fz (j + 1) un (by omega) hlt ) 
set_option maxRecDepth 20000 in
set_option maxHeartbeats 4000000 in
theorem p167 {xs : Option (List Int32)} {d : Nat} {w : List sx_C} (hI : WI w) (x : Int32) : ∃ v : Int32, sx_RU xs (d + 2) 167 0 (lv_args 0 [.ref 111, .int x]) [] w (some (.int v)) w := by
  have h : sx_RP xs (d + 2) 167 0 (lv_args 0 [.ref 111, .int x]) [] w (fun r w2 => (∃ v : Int32, r = some (.int v)) ∧ w2 = w) := by
    refine sx_RP.step (pc2 := 1) (ls2 := [(0, .ref 111), (1, .int x)]) (st2 := [.int 0]) (w3 := w) rfl rfl ?_
    refine sx_RP.step (pc2 := 2) (ls2 := [(2, .int 0), (0, .ref 111), (1, .int x)]) (st2 := []) (w3 := w) rfl rfl ?_
    refine sx_RP.step (pc2 := 3) (ls2 := [(2, .int 0), (0, .ref 111), (1, .int x)]) (st2 := [.int 0]) (w3 := w) rfl rfl ?_
    refine sx_RP.step (pc2 := 4) (ls2 := [(3, .int 0), (2, .int 0), (0, .ref 111), (1, .int x)]) (st2 := []) (w3 := w) rfl rfl ?_
    exact sx_RP.ls (sx_lr.cons rfl (sx_lr.cons rfl (sx_lr.cons rfl (sx_lr.cons rfl sx_lr.nil)))) (p167L x hI 10 0 0 (by omega) (by omega) )
  obtain ⟨r, w2, h1, ⟨v, rfl⟩, rfl⟩ := h
  exact ⟨v, h1⟩
set_option maxRecDepth 20000 in
set_option maxHeartbeats 4000000 in
theorem p166 {xs : Option (List Int32)} {d : Nat} {w : List sx_C} (hI : WI w) : ∃ v : Int32, sx_RU xs (d + 3) 166 0 (lv_args 0 [.ref 111]) [] w (some (.int v)) w := by
  have h : sx_RP xs (d + 3) 166 0 (lv_args 0 [.ref 111]) [] w (fun r w2 => (∃ v : Int32, r = some (.int v)) ∧ w2 = w) := by
    refine sx_RP.step (pc2 := 1) (ls2 := [(0, .ref 111)]) (st2 := [.ref 111]) (w3 := w) rfl rfl ?_
    refine sx_RP.step (pc2 := 2) (ls2 := [(0, .ref 111)]) (st2 := [.int 0, .ref 111]) (w3 := w) rfl rfl ?_
    obtain ⟨v1, c2⟩ := p167 hI 0
    refine sx_RP.cu (as := [.ref 111, .int 0]) (rest2 := []) (st3 := [.int v1]) rfl rfl (sx_inv_v2 (mi := 166) (k := 146) (st := [.int 0, .ref 111]) (w := w) rfl rfl hI.1.o111 rfl rfl rfl) rfl rfl (c2) rfl ?_
    refine sx_RP.step (pc2 := 6) (ls2 := [(0, .ref 111)]) (st2 := [.ref 111, .int v1]) (w3 := w) rfl rfl ?_
    refine sx_RP.step (pc2 := 7) (ls2 := [(0, .ref 111)]) (st2 := [.int 1, .ref 111, .int v1]) (w3 := w) rfl rfl ?_
    obtain ⟨v3, c4⟩ := p167 hI 1
    refine sx_RP.cu (as := [.ref 111, .int 1]) (rest2 := [.int v1]) (st3 := [.int v3, .int v1]) rfl rfl (sx_inv_v2 (mi := 166) (k := 146) (st := [.int 1, .ref 111, .int v1]) (w := w) rfl rfl hI.1.o111 rfl rfl rfl) rfl rfl (c4) rfl ?_
    refine sx_RP.step (pc2 := 11) (ls2 := [(0, .ref 111)]) (st2 := [.int (v1 + v3)]) (w3 := w) rfl rfl ?_
    refine sx_RP.ret (r := (some (.int (v1 + v3)))) rfl rfl ?_
    exact ⟨⟨_, rfl⟩, rfl⟩
  obtain ⟨r, w2, h1, ⟨v, rfl⟩, rfl⟩ := h
  exact ⟨v, h1⟩
set_option maxRecDepth 20000 in
set_option maxHeartbeats 4000000 in
theorem p171B {xs : Option (List Int32)} {d : Nat} {w : List sx_C} {g : Nat} (hg : g < 10) (hI : WI w) {j : Nat} (hj : j ≤ 10) (i : Nat) (hi : i ≤ 1) (kk : ∀ (ui : Nat), j + 1 ≤ 10 → ui ≤ 1 → sx_RP xs (d + 2) 171 4 [(0, .ref 111), (1, .int (nI g)), (2, .int (nI ui)), (3, .int (nI (j + 1)))] [] w (fun r w2 => (∃ j, j ≤ 1 ∧ r = some (.int (nI j))) ∧ w2 = w)) : sx_RP xs (d + 2) 171 4 [(0, .ref 111), (1, .int (nI g)), (2, .int (nI i)), (3, .int (nI j))] [] w (fun r w2 => (∃ j, j ≤ 1 ∧ r = some (.int (nI j))) ∧ w2 = w) := by
  refine sx_RP.step (pc2 := 5) (ls2 := [(0, .ref 111), (1, .int (nI g)), (2, .int (nI i)), (3, .int (nI j))]) (st2 := [.int (nI j)]) (w3 := w) rfl rfl ?_
  refine sx_RP.step (pc2 := 6) (ls2 := [(0, .ref 111), (1, .int (nI g)), (2, .int (nI i)), (3, .int (nI j))]) (st2 := [.ref 111, .int (nI j)]) (w3 := w) rfl rfl ?_
  refine sx_RP.gf (v := .ref 112) rfl rfl hI.1.o111 rfl rfl (show _ = 9 from rfl) ?_
  refine sx_RP.step (pc2 := 10) (ls2 := [(0, .ref 111), (1, .int (nI g)), (2, .int (nI i)), (3, .int (nI j))]) (st2 := [.int 1, .ref 112, .int (nI j)]) (w3 := w) rfl rfl ?_
  refine sx_RP.ild (c := 1) rfl hI.1.a112.1 hI.1.a112.2 (sx_in_nI (show 1 < 172 by omega) (by decide)) (show (nI 1).toNatClampNeg = 1 from nI_clamp (by omega)) (show _ = 11 from rfl) ?_
  obtain ⟨x1, hx2, ex3⟩ : inR ((ia w 112).getD 1 0) 10 := (hI.s (1) (by omega)).1 rfl
  rw [ex3]
  refine sx_RP.br (p1 := 66) (l1 := [(0, .ref 111), (1, .int (nI g)), (2, .int (nI i)), (3, .int (nI j))]) (s1 := []) (v1 := w) (p2 := 14) (l2 := [(0, .ref 111), (1, .int (nI g)), (2, .int (nI i)), (3, .int (nI j))]) (s2 := []) (v2 := w) rfl rfl (fun q4 => ?_) (fun q4 => ?_)
  · replace q4 := of_decide_eq_true q4
    replace q4 := (nI_leI (a := x1) (b := j) (by omega) (by omega)).mp q4
    refine sx_RP.step (pc2 := 67) (ls2 := [(0, .ref 111), (1, .int (nI g)), (2, .int (nI i)), (3, .int (nI j))]) (st2 := [.int (nI i)]) (w3 := w) rfl rfl ?_
    refine sx_RP.ret (r := (some (.int (nI i)))) rfl (bo_ret rfl (inR.n (show i ≤ 1 by omega))) ?_
    exact ⟨⟨i, by omega, rfl⟩, rfl⟩
  · replace q4 := of_decide_eq_false q4
    replace q4 := mt (nI_leI (a := x1) (b := j) (by omega) (by omega)).mpr q4
    refine sx_RP.step (pc2 := 15) (ls2 := [(0, .ref 111), (1, .int (nI g)), (2, .int (nI i)), (3, .int (nI j))]) (st2 := [.int (nI i)]) (w3 := w) rfl rfl ?_
    refine sx_RP.br (p1 := 66) (l1 := [(0, .ref 111), (1, .int (nI g)), (2, .int (nI i)), (3, .int (nI j))]) (s1 := []) (v1 := w) (p2 := 18) (l2 := [(0, .ref 111), (1, .int (nI g)), (2, .int (nI i)), (3, .int (nI j))]) (s2 := []) (v2 := w) rfl rfl (fun q5 => ?_) (fun q5 => ?_)
    · replace q5 := of_decide_eq_true q5
      replace q5 := mt (nI_eq (a := i) (b := 0) (by omega) (by omega)).mpr q5
      refine sx_RP.step (pc2 := 67) (ls2 := [(0, .ref 111), (1, .int (nI g)), (2, .int (nI i)), (3, .int (nI j))]) (st2 := [.int (nI i)]) (w3 := w) rfl rfl ?_
      refine sx_RP.ret (r := (some (.int (nI i)))) rfl (bo_ret rfl (inR.n (show i ≤ 1 by omega))) ?_
      exact ⟨⟨i, by omega, rfl⟩, rfl⟩
    · replace q5 := Decidable.not_not.mp (of_decide_eq_false q5)
      replace q5 := (nI_eq (a := i) (b := 0) (by omega) (by omega)).mp q5
      refine sx_RP.step (pc2 := 19) (ls2 := [(0, .ref 111), (1, .int (nI g)), (2, .int (nI i)), (3, .int (nI j))]) (st2 := [.ref 111]) (w3 := w) rfl rfl ?_
      refine sx_RP.step (pc2 := 20) (ls2 := [(0, .ref 111), (1, .int (nI g)), (2, .int (nI i)), (3, .int (nI j))]) (st2 := [.int (nI j), .ref 111]) (w3 := w) rfl rfl ?_
      refine sx_RP.step (pc2 := 21) (ls2 := [(0, .ref 111), (1, .int (nI g)), (2, .int (nI i)), (3, .int (nI j))]) (st2 := [.int 1, .int (nI j), .ref 111]) (w3 := w) rfl rfl ?_
      obtain ⟨x6, hx7, c8⟩ := p138_1 hI (show j < 10 by omega)
      refine sx_RP.cu (as := [.ref 111, .int (nI j), .int 1]) (rest2 := []) (st3 := [.int (nI x6)]) rfl rfl (sx_inv_v2 (mi := 171) (k := 59) (st := [.int 1, .int (nI j), .ref 111]) (w := w) rfl rfl hI.1.o111 rfl rfl rfl) rfl rfl (c8) rfl ?_
      refine sx_RP.step (pc2 := 25) (ls2 := [(0, .ref 111), (1, .int (nI g)), (2, .int (nI i)), (3, .int (nI j))]) (st2 := [.int 1, .int (nI x6)]) (w3 := w) rfl rfl ?_
      refine sx_RP.br (p1 := 58) (l1 := [(0, .ref 111), (1, .int (nI g)), (2, .int (nI i)), (3, .int (nI j))]) (s1 := []) (v1 := w) (p2 := 28) (l2 := [(0, .ref 111), (1, .int (nI g)), (2, .int (nI i)), (3, .int (nI j))]) (s2 := []) (v2 := w) rfl rfl (fun q9 => ?_) (fun q9 => ?_)
      · replace q9 := of_decide_eq_true q9
        replace q9 := mt (nI_eq (a := x6) (b := 1) (by omega) (by omega)).mpr q9
        refine sx_RP.step (pc2 := 59) (ls2 := [(0, .ref 111), (1, .int (nI g)), (2, .int (nI i)), (3, .int (nI j))]) (st2 := [.int 0]) (w3 := w) rfl rfl ?_
        refine sx_RP.step (pc2 := 60) (ls2 := [(2, .int 0), (0, .ref 111), (1, .int (nI g)), (3, .int (nI j))]) (st2 := []) (w3 := w) rfl rfl ?_
        refine sx_RP.step (pc2 := 63) (ls2 := [(3, .int ((nI j) + 1)), (2, .int 0), (0, .ref 111), (1, .int (nI g))]) (st2 := []) (w3 := w) rfl rfl ?_
        rw [nI_1 j]
        refine sx_RP.step (pc2 := 4) (ls2 := [(3, .int (nI (j + 1))), (2, .int 0), (0, .ref 111), (1, .int (nI g))]) (st2 := []) (w3 := w) rfl rfl ?_
        exact sx_RP.ls (sx_lr.cons rfl (sx_lr.cons rfl (sx_lr.cons rfl (sx_lr.cons rfl sx_lr.nil)))) (kk 0 (by omega) (by omega))
      · replace q9 := Decidable.not_not.mp (of_decide_eq_false q9)
        replace q9 := (nI_eq (a := x6) (b := 1) (by omega) (by omega)).mp q9
        refine sx_RP.step (pc2 := 29) (ls2 := [(0, .ref 111), (1, .int (nI g)), (2, .int (nI i)), (3, .int (nI j))]) (st2 := [.ref 111]) (w3 := w) rfl rfl ?_
        refine sx_RP.step (pc2 := 30) (ls2 := [(0, .ref 111), (1, .int (nI g)), (2, .int (nI i)), (3, .int (nI j))]) (st2 := [.int (nI j), .ref 111]) (w3 := w) rfl rfl ?_
        obtain ⟨x10, hx11, c12⟩ := p137 hI (show j < 10 by omega)
        refine sx_RP.cu (as := [.ref 111, .int (nI j)]) (rest2 := []) (st3 := [.int (nI x10)]) rfl rfl (sx_inv_v2 (mi := 171) (k := 74) (st := [.int (nI j), .ref 111]) (w := w) rfl rfl hI.1.o111 rfl rfl rfl) rfl rfl (c12) rfl ?_
        refine sx_RP.br (p1 := 58) (l1 := [(0, .ref 111), (1, .int (nI g)), (2, .int (nI i)), (3, .int (nI j))]) (s1 := []) (v1 := w) (p2 := 36) (l2 := [(0, .ref 111), (1, .int (nI g)), (2, .int (nI i)), (3, .int (nI j))]) (s2 := []) (v2 := w) rfl rfl (fun q13 => ?_) (fun q13 => ?_)
        · replace q13 := of_decide_eq_true q13
          replace q13 := (nI_eq (a := x10) (b := 0) (by omega) (by omega)).mp q13
          refine sx_RP.step (pc2 := 59) (ls2 := [(0, .ref 111), (1, .int (nI g)), (2, .int (nI i)), (3, .int (nI j))]) (st2 := [.int 0]) (w3 := w) rfl rfl ?_
          refine sx_RP.step (pc2 := 60) (ls2 := [(2, .int 0), (0, .ref 111), (1, .int (nI g)), (3, .int (nI j))]) (st2 := []) (w3 := w) rfl rfl ?_
          refine sx_RP.step (pc2 := 63) (ls2 := [(3, .int ((nI j) + 1)), (2, .int 0), (0, .ref 111), (1, .int (nI g))]) (st2 := []) (w3 := w) rfl rfl ?_
          rw [nI_1 j]
          refine sx_RP.step (pc2 := 4) (ls2 := [(3, .int (nI (j + 1))), (2, .int 0), (0, .ref 111), (1, .int (nI g))]) (st2 := []) (w3 := w) rfl rfl ?_
          exact sx_RP.ls (sx_lr.cons rfl (sx_lr.cons rfl (sx_lr.cons rfl (sx_lr.cons rfl sx_lr.nil)))) (kk 0 (by omega) (by omega))
        · replace q13 := of_decide_eq_false q13
          replace q13 := mt (nI_eq (a := x10) (b := 0) (by omega) (by omega)).mpr q13
          refine sx_RP.step (pc2 := 37) (ls2 := [(0, .ref 111), (1, .int (nI g)), (2, .int (nI i)), (3, .int (nI j))]) (st2 := [.ref 111]) (w3 := w) rfl rfl ?_
          refine sx_RP.step (pc2 := 38) (ls2 := [(0, .ref 111), (1, .int (nI g)), (2, .int (nI i)), (3, .int (nI j))]) (st2 := [.int (nI g), .ref 111]) (w3 := w) rfl rfl ?_
          refine sx_RP.step (pc2 := 39) (ls2 := [(0, .ref 111), (1, .int (nI g)), (2, .int (nI i)), (3, .int (nI j))]) (st2 := [.int 2, .int (nI g), .ref 111]) (w3 := w) rfl rfl ?_
          obtain ⟨x14, hx15, c16⟩ := p138_2 hI (show g < 10 by omega)
          refine sx_RP.cu (as := [.ref 111, .int (nI g), .int 2]) (rest2 := []) (st3 := [.int (nI x14)]) rfl rfl (sx_inv_v2 (mi := 171) (k := 59) (st := [.int 2, .int (nI g), .ref 111]) (w := w) rfl rfl hI.1.o111 rfl rfl rfl) rfl rfl (c16) rfl ?_
          refine sx_RP.step (pc2 := 43) (ls2 := [(0, .ref 111), (1, .int (nI g)), (2, .int (nI i)), (3, .int (nI j))]) (st2 := [.ref 111, .int (nI x14)]) (w3 := w) rfl rfl ?_
          refine sx_RP.step (pc2 := 44) (ls2 := [(0, .ref 111), (1, .int (nI g)), (2, .int (nI i)), (3, .int (nI j))]) (st2 := [.int (nI j), .ref 111, .int (nI x14)]) (w3 := w) rfl rfl ?_
          refine sx_RP.step (pc2 := 45) (ls2 := [(0, .ref 111), (1, .int (nI g)), (2, .int (nI i)), (3, .int (nI j))]) (st2 := [.int 2, .int (nI j), .ref 111, .int (nI x14)]) (w3 := w) rfl rfl ?_
          obtain ⟨x17, hx18, c19⟩ := p138_2 hI (show j < 10 by omega)
          refine sx_RP.cu (as := [.ref 111, .int (nI j), .int 2]) (rest2 := [.int (nI x14)]) (st3 := [.int (nI x17), .int (nI x14)]) rfl rfl (sx_inv_v2 (mi := 171) (k := 59) (st := [.int 2, .int (nI j), .ref 111, .int (nI x14)]) (w := w) rfl rfl hI.1.o111 rfl rfl rfl) rfl rfl (c19) rfl ?_
          obtain ⟨x20, hx21, c22⟩ := p172 hI (show x14 < 48 by omega) (nI x17)
          refine sx_RP.cu (as := [.int (nI x14), .int (nI x17)]) (rest2 := []) (st3 := [.int (nI x20)]) rfl rfl rfl rfl rfl (c22) rfl ?_
          refine sx_RP.br (p1 := 58) (l1 := [(0, .ref 111), (1, .int (nI g)), (2, .int (nI i)), (3, .int (nI j))]) (s1 := []) (v1 := w) (p2 := 54) (l2 := [(0, .ref 111), (1, .int (nI g)), (2, .int (nI i)), (3, .int (nI j))]) (s2 := []) (v2 := w) rfl rfl (fun q23 => ?_) (fun q23 => ?_)
          · replace q23 := of_decide_eq_true q23
            replace q23 := (nI_eq (a := x20) (b := 0) (by omega) (by omega)).mp q23
            refine sx_RP.step (pc2 := 59) (ls2 := [(0, .ref 111), (1, .int (nI g)), (2, .int (nI i)), (3, .int (nI j))]) (st2 := [.int 0]) (w3 := w) rfl rfl ?_
            refine sx_RP.step (pc2 := 60) (ls2 := [(2, .int 0), (0, .ref 111), (1, .int (nI g)), (3, .int (nI j))]) (st2 := []) (w3 := w) rfl rfl ?_
            refine sx_RP.step (pc2 := 63) (ls2 := [(3, .int ((nI j) + 1)), (2, .int 0), (0, .ref 111), (1, .int (nI g))]) (st2 := []) (w3 := w) rfl rfl ?_
            rw [nI_1 j]
            refine sx_RP.step (pc2 := 4) (ls2 := [(3, .int (nI (j + 1))), (2, .int 0), (0, .ref 111), (1, .int (nI g))]) (st2 := []) (w3 := w) rfl rfl ?_
            exact sx_RP.ls (sx_lr.cons rfl (sx_lr.cons rfl (sx_lr.cons rfl (sx_lr.cons rfl sx_lr.nil)))) (kk 0 (by omega) (by omega))
          · replace q23 := of_decide_eq_false q23
            replace q23 := mt (nI_eq (a := x20) (b := 0) (by omega) (by omega)).mpr q23
            refine sx_RP.step (pc2 := 55) (ls2 := [(0, .ref 111), (1, .int (nI g)), (2, .int (nI i)), (3, .int (nI j))]) (st2 := [.int 1]) (w3 := w) rfl rfl ?_
            refine sx_RP.step (pc2 := 59) (ls2 := [(0, .ref 111), (1, .int (nI g)), (2, .int (nI i)), (3, .int (nI j))]) (st2 := [.int 1]) (w3 := w) rfl rfl ?_
            refine sx_RP.step (pc2 := 60) (ls2 := [(2, .int 1), (0, .ref 111), (1, .int (nI g)), (3, .int (nI j))]) (st2 := []) (w3 := w) rfl rfl ?_
            refine sx_RP.step (pc2 := 63) (ls2 := [(3, .int ((nI j) + 1)), (2, .int 1), (0, .ref 111), (1, .int (nI g))]) (st2 := []) (w3 := w) rfl rfl ?_
            rw [nI_1 j]
            refine sx_RP.step (pc2 := 4) (ls2 := [(3, .int (nI (j + 1))), (2, .int 1), (0, .ref 111), (1, .int (nI g))]) (st2 := []) (w3 := w) rfl rfl ?_
            exact sx_RP.ls (sx_lr.cons rfl (sx_lr.cons rfl (sx_lr.cons rfl (sx_lr.cons rfl sx_lr.nil)))) (kk 1 (by omega) (by omega))
set_option maxRecDepth 20000 in
set_option maxHeartbeats 4000000 in
theorem p171L {xs : Option (List Int32)} {d : Nat} {w : List sx_C} {g : Nat} (hg : g < 10) (hI : WI w) : ∀ (fz j : Nat) (i : Nat) , 10 ≤ j + fz * 1 → j ≤ 10 → i ≤ 1 → sx_RP xs (d + 2) 171 4 [(0, .ref 111), (1, .int (nI g)), (2, .int (nI i)), (3, .int (nI j))] [] w (fun r w2 => (∃ j, j ≤ 1 ∧ r = some (.int (nI j))) ∧ w2 = w)
  | 0, j, i, h, hj, hi => p171B hg hI hj i hi (fun ui  hlt hui => absurd hlt (by omega)) 
  | fz + 1, j, i, h, hj, hi => p171B hg hI hj i hi (fun ui  hlt hui => p171L hg hI  fz (j + 1) ui (by omega) hlt hui) 
set_option maxRecDepth 20000 in
set_option maxHeartbeats 4000000 in
theorem p171 {xs : Option (List Int32)} {d : Nat} {w : List sx_C} (hI : WI w) {g : Nat} (hg : g < 10) : ∃ j, j ≤ 1 ∧ sx_RU xs (d + 2) 171 0 (lv_args 0 [.ref 111, .int (nI g)]) [] w (some (.int (nI j))) w := by
  have h : sx_RP xs (d + 2) 171 0 (lv_args 0 [.ref 111, .int (nI g)]) [] w (fun r w2 => (∃ j, j ≤ 1 ∧ r = some (.int (nI j))) ∧ w2 = w) := by
    refine sx_RP.step (pc2 := 1) (ls2 := [(0, .ref 111), (1, .int (nI g))]) (st2 := [.int 0]) (w3 := w) rfl rfl ?_
    refine sx_RP.step (pc2 := 2) (ls2 := [(2, .int 0), (0, .ref 111), (1, .int (nI g))]) (st2 := []) (w3 := w) rfl rfl ?_
    refine sx_RP.step (pc2 := 3) (ls2 := [(2, .int 0), (0, .ref 111), (1, .int (nI g))]) (st2 := [.int 0]) (w3 := w) rfl rfl ?_
    refine sx_RP.step (pc2 := 4) (ls2 := [(3, .int 0), (2, .int 0), (0, .ref 111), (1, .int (nI g))]) (st2 := []) (w3 := w) rfl rfl ?_
    exact sx_RP.ls (sx_lr.cons rfl (sx_lr.cons rfl (sx_lr.cons rfl (sx_lr.cons rfl sx_lr.nil)))) (p171L hg hI 10 0 0 (by omega) (by omega) (by omega))
  obtain ⟨r, w2, h1, ⟨j, hj, rfl⟩, rfl⟩ := h
  exact ⟨j, hj, h1⟩
set_option maxRecDepth 20000 in
set_option maxHeartbeats 4000000 in
theorem p181 {xs : Option (List Int32)} {d : Nat} {w : List sx_C} (hI : WI w) {g : Nat} (hg : g < 10) (x : Int32) : ∃ j, j ≤ 1 ∧ sx_RU xs (d + 2) 181 0 (lv_args 0 [.ref 111, .int (nI g), .int x]) [] w (some (.int (nI j))) w := by
  have h : sx_RP xs (d + 2) 181 0 (lv_args 0 [.ref 111, .int (nI g), .int x]) [] w (fun r w2 => (∃ j, j ≤ 1 ∧ r = some (.int (nI j))) ∧ w2 = w) := by
    refine sx_RP.step (pc2 := 1) (ls2 := [(0, .ref 111), (1, .int (nI g)), (2, .int x)]) (st2 := [.ref 111]) (w3 := w) rfl rfl ?_
    refine sx_RP.step (pc2 := 2) (ls2 := [(0, .ref 111), (1, .int (nI g)), (2, .int x)]) (st2 := [.int (nI g), .ref 111]) (w3 := w) rfl rfl ?_
    obtain ⟨x1, hx2, c3⟩ := p137 hI (show g < 10 by omega)
    refine sx_RP.cu (as := [.ref 111, .int (nI g)]) (rest2 := []) (st3 := [.int (nI x1)]) rfl rfl (sx_inv_v2 (mi := 181) (k := 74) (st := [.int (nI g), .ref 111]) (w := w) rfl rfl hI.1.o111 rfl rfl rfl) rfl rfl (c3) rfl ?_
    refine sx_RP.br (p1 := 22) (l1 := [(0, .ref 111), (1, .int (nI g)), (2, .int x)]) (s1 := []) (v1 := w) (p2 := 8) (l2 := [(0, .ref 111), (1, .int (nI g)), (2, .int x)]) (s2 := []) (v2 := w) rfl rfl (fun q4 => ?_) (fun q4 => ?_)
    · replace q4 := of_decide_eq_true q4
      replace q4 := (nI_eq (a := x1) (b := 0) (by omega) (by omega)).mp q4
      refine sx_RP.step (pc2 := 23) (ls2 := [(0, .ref 111), (1, .int (nI g)), (2, .int x)]) (st2 := [.int 0]) (w3 := w) rfl rfl ?_
      refine sx_RP.ret (r := (some (.int 0))) rfl rfl ?_
      exact ⟨⟨0, by decide, rfl⟩, rfl⟩
    · replace q4 := of_decide_eq_false q4
      replace q4 := mt (nI_eq (a := x1) (b := 0) (by omega) (by omega)).mpr q4
      refine sx_RP.step (pc2 := 9) (ls2 := [(0, .ref 111), (1, .int (nI g)), (2, .int x)]) (st2 := [.ref 111]) (w3 := w) rfl rfl ?_
      refine sx_RP.step (pc2 := 10) (ls2 := [(0, .ref 111), (1, .int (nI g)), (2, .int x)]) (st2 := [.int (nI g), .ref 111]) (w3 := w) rfl rfl ?_
      refine sx_RP.step (pc2 := 11) (ls2 := [(0, .ref 111), (1, .int (nI g)), (2, .int x)]) (st2 := [.int 1, .int (nI g), .ref 111]) (w3 := w) rfl rfl ?_
      obtain ⟨x5, hx6, c7⟩ := p138_1 hI (show g < 10 by omega)
      refine sx_RP.cu (as := [.ref 111, .int (nI g), .int 1]) (rest2 := []) (st3 := [.int (nI x5)]) rfl rfl (sx_inv_v2 (mi := 181) (k := 59) (st := [.int 1, .int (nI g), .ref 111]) (w := w) rfl rfl hI.1.o111 rfl rfl rfl) rfl rfl (c7) rfl ?_
      refine sx_RP.step (pc2 := 15) (ls2 := [(0, .ref 111), (1, .int (nI g)), (2, .int x)]) (st2 := [.int x, .int (nI x5)]) (w3 := w) rfl rfl ?_
      refine sx_RP.br (p1 := 22) (l1 := [(0, .ref 111), (1, .int (nI g)), (2, .int x)]) (s1 := []) (v1 := w) (p2 := 18) (l2 := [(0, .ref 111), (1, .int (nI g)), (2, .int x)]) (s2 := []) (v2 := w) rfl rfl (fun q8 => ?_) (fun q8 => ?_)
      · replace q8 := of_decide_eq_true q8
        refine sx_RP.step (pc2 := 23) (ls2 := [(0, .ref 111), (1, .int (nI g)), (2, .int x)]) (st2 := [.int 0]) (w3 := w) rfl rfl ?_
        refine sx_RP.ret (r := (some (.int 0))) rfl rfl ?_
        exact ⟨⟨0, by decide, rfl⟩, rfl⟩
      · replace q8 := Decidable.not_not.mp (of_decide_eq_false q8)
        refine sx_RP.step (pc2 := 19) (ls2 := [(0, .ref 111), (1, .int (nI g)), (2, .int x)]) (st2 := [.int 1]) (w3 := w) rfl rfl ?_
        refine sx_RP.step (pc2 := 23) (ls2 := [(0, .ref 111), (1, .int (nI g)), (2, .int x)]) (st2 := [.int 1]) (w3 := w) rfl rfl ?_
        refine sx_RP.ret (r := (some (.int 1))) rfl rfl ?_
        exact ⟨⟨1, by decide, rfl⟩, rfl⟩
  obtain ⟨r, w2, h1, ⟨j, hj, rfl⟩, rfl⟩ := h
  exact ⟨j, hj, h1⟩
set_option maxRecDepth 20000 in
set_option maxHeartbeats 4000000 in
theorem p178B {xs : Option (List Int32)} {d : Nat} {w : List sx_C} (hI : WI w) {j : Nat} (hj : j ≤ 10) (kk : j + 1 ≤ 10 → sx_RP xs (d + 2) 178 2 [(0, .ref 111), (1, .int (nI (j + 1)))] [] w (fun r w2 => (∃ v : Int32, r = some (.int v)) ∧ w2 = w)) : sx_RP xs (d + 2) 178 2 [(0, .ref 111), (1, .int (nI j))] [] w (fun r w2 => (∃ v : Int32, r = some (.int v)) ∧ w2 = w) := by
  refine sx_RP.step (pc2 := 3) (ls2 := [(0, .ref 111), (1, .int (nI j))]) (st2 := [.int (nI j)]) (w3 := w) rfl rfl ?_
  refine sx_RP.step (pc2 := 4) (ls2 := [(0, .ref 111), (1, .int (nI j))]) (st2 := [.ref 111, .int (nI j)]) (w3 := w) rfl rfl ?_
  refine sx_RP.gf (v := .ref 112) rfl rfl hI.1.o111 rfl rfl (show _ = 7 from rfl) ?_
  refine sx_RP.step (pc2 := 8) (ls2 := [(0, .ref 111), (1, .int (nI j))]) (st2 := [.int 1, .ref 112, .int (nI j)]) (w3 := w) rfl rfl ?_
  refine sx_RP.ild (c := 1) rfl hI.1.a112.1 hI.1.a112.2 (sx_in_nI (show 1 < 172 by omega) (by decide)) (show (nI 1).toNatClampNeg = 1 from nI_clamp (by omega)) (show _ = 9 from rfl) ?_
  obtain ⟨x1, hx2, ex3⟩ : inR ((ia w 112).getD 1 0) 10 := (hI.s (1) (by omega)).1 rfl
  rw [ex3]
  refine sx_RP.br (p1 := 53) (l1 := [(0, .ref 111), (1, .int (nI j))]) (s1 := []) (v1 := w) (p2 := 12) (l2 := [(0, .ref 111), (1, .int (nI j))]) (s2 := []) (v2 := w) rfl rfl (fun q4 => ?_) (fun q4 => ?_)
  · replace q4 := of_decide_eq_true q4
    replace q4 := (nI_leI (a := x1) (b := j) (by omega) (by omega)).mp q4
    refine sx_RP.step (pc2 := 54) (ls2 := [(0, .ref 111), (1, .int (nI j))]) (st2 := [.int (nI j)]) (w3 := w) rfl rfl ?_
    refine sx_RP.step (pc2 := 55) (ls2 := [(0, .ref 111), (1, .int (nI j))]) (st2 := [.ref 111, .int (nI j)]) (w3 := w) rfl rfl ?_
    refine sx_RP.gf (v := .ref 112) rfl rfl hI.1.o111 rfl rfl (show _ = 58 from rfl) ?_
    refine sx_RP.step (pc2 := 59) (ls2 := [(0, .ref 111), (1, .int (nI j))]) (st2 := [.int 1, .ref 112, .int (nI j)]) (w3 := w) rfl rfl ?_
    refine sx_RP.ild (c := 1) rfl hI.1.a112.1 hI.1.a112.2 (sx_in_nI (show 1 < 172 by omega) (by decide)) (show (nI 1).toNatClampNeg = 1 from nI_clamp (by omega)) (show _ = 60 from rfl) ?_
    rw [ex3]
    refine sx_RP.br (p1 := 67) (l1 := [(0, .ref 111), (1, .int (nI j))]) (s1 := []) (v1 := w) (p2 := 63) (l2 := [(0, .ref 111), (1, .int (nI j))]) (s2 := []) (v2 := w) rfl rfl (fun q5 => ?_) (fun q5 => ?_)
    · replace q5 := of_decide_eq_true q5
      replace q5 := (nI_leI (a := x1) (b := j) (by omega) (by omega)).mp q5
      refine sx_RP.step (pc2 := 68) (ls2 := [(0, .ref 111), (1, .int (nI j))]) (st2 := [.int (-1)]) (w3 := w) rfl rfl ?_
      refine sx_RP.ret (r := (some (.int (-1)))) rfl rfl ?_
      exact ⟨⟨_, rfl⟩, rfl⟩
    · replace q5 := of_decide_eq_false q5
      replace q5 := mt (nI_leI (a := x1) (b := j) (by omega) (by omega)).mpr q5
      refine sx_RP.step (pc2 := 64) (ls2 := [(0, .ref 111), (1, .int (nI j))]) (st2 := [.int (nI j)]) (w3 := w) rfl rfl ?_
      refine sx_RP.step (pc2 := 68) (ls2 := [(0, .ref 111), (1, .int (nI j))]) (st2 := [.int (nI j)]) (w3 := w) rfl rfl ?_
      refine sx_RP.ret (r := (some (.int (nI j)))) rfl rfl ?_
      exact ⟨⟨_, rfl⟩, rfl⟩
  · replace q4 := of_decide_eq_false q4
    replace q4 := mt (nI_leI (a := x1) (b := j) (by omega) (by omega)).mpr q4
    refine sx_RP.step (pc2 := 13) (ls2 := [(0, .ref 111), (1, .int (nI j))]) (st2 := [.ref 111]) (w3 := w) rfl rfl ?_
    refine sx_RP.step (pc2 := 14) (ls2 := [(0, .ref 111), (1, .int (nI j))]) (st2 := [.int (nI j), .ref 111]) (w3 := w) rfl rfl ?_
    refine sx_RP.step (pc2 := 15) (ls2 := [(0, .ref 111), (1, .int (nI j))]) (st2 := [.int 1, .int (nI j), .ref 111]) (w3 := w) rfl rfl ?_
    obtain ⟨x6, hx7, c8⟩ := p138_1 hI (show j < 10 by omega)
    refine sx_RP.cu (as := [.ref 111, .int (nI j), .int 1]) (rest2 := []) (st3 := [.int (nI x6)]) rfl rfl (sx_inv_v2 (mi := 178) (k := 59) (st := [.int 1, .int (nI j), .ref 111]) (w := w) rfl rfl hI.1.o111 rfl rfl rfl) rfl rfl (c8) rfl ?_
    refine sx_RP.br (p1 := 47) (l1 := [(0, .ref 111), (1, .int (nI j))]) (s1 := []) (v1 := w) (p2 := 21) (l2 := [(0, .ref 111), (1, .int (nI j))]) (s2 := []) (v2 := w) rfl rfl (fun q9 => ?_) (fun q9 => ?_)
    · replace q9 := of_decide_eq_true q9
      replace q9 := mt (nI_eq (a := x6) (b := 0) (by omega) (by omega)).mpr q9
      refine sx_RP.step (pc2 := 50) (ls2 := [(1, .int ((nI j) + 1)), (0, .ref 111)]) (st2 := []) (w3 := w) rfl rfl ?_
      rw [nI_1 j]
      refine sx_RP.step (pc2 := 2) (ls2 := [(1, .int (nI (j + 1))), (0, .ref 111)]) (st2 := []) (w3 := w) rfl rfl ?_
      exact sx_RP.ls (sx_lr.cons rfl (sx_lr.cons rfl sx_lr.nil)) (kk (by omega))
    · replace q9 := Decidable.not_not.mp (of_decide_eq_false q9)
      replace q9 := (nI_eq (a := x6) (b := 0) (by omega) (by omega)).mp q9
      refine sx_RP.step (pc2 := 22) (ls2 := [(0, .ref 111), (1, .int (nI j))]) (st2 := [.ref 111]) (w3 := w) rfl rfl ?_
      refine sx_RP.step (pc2 := 23) (ls2 := [(0, .ref 111), (1, .int (nI j))]) (st2 := [.int (nI j), .ref 111]) (w3 := w) rfl rfl ?_
      obtain ⟨x10, hx11, c12⟩ := p137 hI (show j < 10 by omega)
      refine sx_RP.cu (as := [.ref 111, .int (nI j)]) (rest2 := []) (st3 := [.int (nI x10)]) rfl rfl (sx_inv_v2 (mi := 178) (k := 74) (st := [.int (nI j), .ref 111]) (w := w) rfl rfl hI.1.o111 rfl rfl rfl) rfl rfl (c12) rfl ?_
      refine sx_RP.br (p1 := 47) (l1 := [(0, .ref 111), (1, .int (nI j))]) (s1 := []) (v1 := w) (p2 := 29) (l2 := [(0, .ref 111), (1, .int (nI j))]) (s2 := []) (v2 := w) rfl rfl (fun q13 => ?_) (fun q13 => ?_)
      · replace q13 := of_decide_eq_true q13
        replace q13 := (nI_eq (a := x10) (b := 0) (by omega) (by omega)).mp q13
        refine sx_RP.step (pc2 := 50) (ls2 := [(1, .int ((nI j) + 1)), (0, .ref 111)]) (st2 := []) (w3 := w) rfl rfl ?_
        rw [nI_1 j]
        refine sx_RP.step (pc2 := 2) (ls2 := [(1, .int (nI (j + 1))), (0, .ref 111)]) (st2 := []) (w3 := w) rfl rfl ?_
        exact sx_RP.ls (sx_lr.cons rfl (sx_lr.cons rfl sx_lr.nil)) (kk (by omega))
      · replace q13 := of_decide_eq_false q13
        replace q13 := mt (nI_eq (a := x10) (b := 0) (by omega) (by omega)).mpr q13
        refine sx_RP.step (pc2 := 30) (ls2 := [(0, .ref 111), (1, .int (nI j))]) (st2 := [.ref 111]) (w3 := w) rfl rfl ?_
        refine sx_RP.gf (v := .ref 112) rfl rfl hI.1.o111 rfl rfl (show _ = 33 from rfl) ?_
        refine sx_RP.step (pc2 := 35) (ls2 := [(0, .ref 111), (1, .int (nI j))]) (st2 := [.int 55, .ref 112]) (w3 := w) rfl rfl ?_
        refine sx_RP.step (pc2 := 36) (ls2 := [(0, .ref 111), (1, .int (nI j))]) (st2 := [.ref 111, .int 55, .ref 112]) (w3 := w) rfl rfl ?_
        refine sx_RP.step (pc2 := 37) (ls2 := [(0, .ref 111), (1, .int (nI j))]) (st2 := [.int (nI j), .ref 111, .int 55, .ref 112]) (w3 := w) rfl rfl ?_
        refine sx_RP.step (pc2 := 38) (ls2 := [(0, .ref 111), (1, .int (nI j))]) (st2 := [.int 2, .int (nI j), .ref 111, .int 55, .ref 112]) (w3 := w) rfl rfl ?_
        obtain ⟨x14, hx15, c16⟩ := p138_2 hI (show j < 10 by omega)
        refine sx_RP.cu (as := [.ref 111, .int (nI j), .int 2]) (rest2 := [.int 55, .ref 112]) (st3 := [.int (nI x14), .int 55, .ref 112]) rfl rfl (sx_inv_v2 (mi := 178) (k := 59) (st := [.int 2, .int (nI j), .ref 111, .int 55, .ref 112]) (w := w) rfl rfl hI.1.o111 rfl rfl rfl) rfl rfl (c16) rfl ?_
        refine sx_RP.step (pc2 := 42) (ls2 := [(0, .ref 111), (1, .int (nI j))]) (st2 := [.int (55 + (nI x14)), .ref 112]) (w3 := w) rfl rfl ?_
        rw [show (55 + (nI x14) : Int32) = nI (55 + x14) from nI_add 55 x14]
        refine sx_RP.ild (c := (55 + x14)) rfl hI.1.a112.1 hI.1.a112.2 (sx_in_nI (show (55 + x14) < 172 by omega) (by decide)) (show (nI (55 + x14)).toNatClampNeg = (55 + x14) from nI_clamp (by omega)) (show _ = 43 from rfl) ?_
        refine sx_RP.step (pc2 := 44) (ls2 := [(0, .ref 111), (1, .int (nI j))]) (st2 := [.int 1, .int ((ia w 112).getD (55 + x14) 0)]) (w3 := w) rfl rfl ?_
        refine sx_RP.br (p1 := 53) (l1 := [(0, .ref 111), (1, .int (nI j))]) (s1 := []) (v1 := w) (p2 := 47) (l2 := [(0, .ref 111), (1, .int (nI j))]) (s2 := []) (v2 := w) rfl rfl (fun q17 => ?_) (fun q17 => ?_)
        · replace q17 := of_decide_eq_true q17
          refine sx_RP.step (pc2 := 54) (ls2 := [(0, .ref 111), (1, .int (nI j))]) (st2 := [.int (nI j)]) (w3 := w) rfl rfl ?_
          refine sx_RP.step (pc2 := 55) (ls2 := [(0, .ref 111), (1, .int (nI j))]) (st2 := [.ref 111, .int (nI j)]) (w3 := w) rfl rfl ?_
          refine sx_RP.gf (v := .ref 112) rfl rfl hI.1.o111 rfl rfl (show _ = 58 from rfl) ?_
          refine sx_RP.step (pc2 := 59) (ls2 := [(0, .ref 111), (1, .int (nI j))]) (st2 := [.int 1, .ref 112, .int (nI j)]) (w3 := w) rfl rfl ?_
          refine sx_RP.ild (c := 1) rfl hI.1.a112.1 hI.1.a112.2 (sx_in_nI (show 1 < 172 by omega) (by decide)) (show (nI 1).toNatClampNeg = 1 from nI_clamp (by omega)) (show _ = 60 from rfl) ?_
          rw [ex3]
          refine sx_RP.br (p1 := 67) (l1 := [(0, .ref 111), (1, .int (nI j))]) (s1 := []) (v1 := w) (p2 := 63) (l2 := [(0, .ref 111), (1, .int (nI j))]) (s2 := []) (v2 := w) rfl rfl (fun q18 => ?_) (fun q18 => ?_)
          · replace q18 := of_decide_eq_true q18
            replace q18 := (nI_leI (a := x1) (b := j) (by omega) (by omega)).mp q18
            refine sx_RP.step (pc2 := 68) (ls2 := [(0, .ref 111), (1, .int (nI j))]) (st2 := [.int (-1)]) (w3 := w) rfl rfl ?_
            refine sx_RP.ret (r := (some (.int (-1)))) rfl rfl ?_
            exact ⟨⟨_, rfl⟩, rfl⟩
          · replace q18 := of_decide_eq_false q18
            replace q18 := mt (nI_leI (a := x1) (b := j) (by omega) (by omega)).mpr q18
            refine sx_RP.step (pc2 := 64) (ls2 := [(0, .ref 111), (1, .int (nI j))]) (st2 := [.int (nI j)]) (w3 := w) rfl rfl ?_
            refine sx_RP.step (pc2 := 68) (ls2 := [(0, .ref 111), (1, .int (nI j))]) (st2 := [.int (nI j)]) (w3 := w) rfl rfl ?_
            refine sx_RP.ret (r := (some (.int (nI j)))) rfl rfl ?_
            exact ⟨⟨_, rfl⟩, rfl⟩
        · replace q17 := of_decide_eq_false q17
          refine sx_RP.step (pc2 := 50) (ls2 := [(1, .int ((nI j) + 1)), (0, .ref 111)]) (st2 := []) (w3 := w) rfl rfl ?_
          rw [nI_1 j]
          refine sx_RP.step (pc2 := 2) (ls2 := [(1, .int (nI (j + 1))), (0, .ref 111)]) (st2 := []) (w3 := w) rfl rfl ?_
          exact sx_RP.ls (sx_lr.cons rfl (sx_lr.cons rfl sx_lr.nil)) (kk (by omega))
set_option maxRecDepth 20000 in
set_option maxHeartbeats 4000000 in
theorem p178L {xs : Option (List Int32)} {d : Nat} {w : List sx_C} (hI : WI w) : ∀ (fz j : Nat) , 10 ≤ j + fz * 1 → j ≤ 10 → sx_RP xs (d + 2) 178 2 [(0, .ref 111), (1, .int (nI j))] [] w (fun r w2 => (∃ v : Int32, r = some (.int v)) ∧ w2 = w)
  | 0, j, h, hj => p178B  hI hj   (fun   hlt  => absurd hlt (by omega)) 
  | fz + 1, j, h, hj => p178B  hI hj   (fun   hlt  => p178L  hI  fz (j + 1)  (by omega) hlt ) 
set_option maxRecDepth 20000 in
set_option maxHeartbeats 4000000 in
theorem p178 {xs : Option (List Int32)} {d : Nat} {w : List sx_C} (hI : WI w) : ∃ v : Int32, sx_RU xs (d + 2) 178 0 (lv_args 0 [.ref 111]) [] w (some (.int v)) w := by
  have h : sx_RP xs (d + 2) 178 0 (lv_args 0 [.ref 111]) [] w (fun r w2 => (∃ v : Int32, r = some (.int v)) ∧ w2 = w) := by
    refine sx_RP.step (pc2 := 1) (ls2 := [(0, .ref 111)]) (st2 := [.int 0]) (w3 := w) rfl rfl ?_
    refine sx_RP.step (pc2 := 2) (ls2 := [(1, .int 0), (0, .ref 111)]) (st2 := []) (w3 := w) rfl rfl ?_
    exact sx_RP.ls (sx_lr.cons rfl (sx_lr.cons rfl sx_lr.nil)) (p178L  hI 10 0  (by omega) (by omega) )
  obtain ⟨r, w2, h1, ⟨v, rfl⟩, rfl⟩ := h
  exact ⟨v, h1⟩
set_option maxRecDepth 20000 in
set_option maxHeartbeats 4000000 in
theorem p198B {xs : Option (List Int32)} {d : Nat} {w : List sx_C} (x y : Int32) (hI : WI w) {j : Nat} (hj : j ≤ 48) (n : Int32) (kk : ∀ (un : Int32), j + 1 ≤ 48 → sx_RP xs (d + 2) 198 5 [(0, .ref 111), (1, .int x), (2, .int y), (3, .int un), (4, .int (nI (j + 1)))] [] w (fun r w2 => (∃ v : Int32, r = some (.int v)) ∧ w2 = w)) : sx_RP xs (d + 2) 198 5 [(0, .ref 111), (1, .int x), (2, .int y), (3, .int n), (4, .int (nI j))] [] w (fun r w2 => (∃ v : Int32, r = some (.int v)) ∧ w2 = w) := by
  refine sx_RP.step (pc2 := 7) (ls2 := [(0, .ref 111), (1, .int x), (2, .int y), (3, .int n), (4, .int (nI j))]) (st2 := [.int (nI j)]) (w3 := w) rfl rfl ?_
  refine sx_RP.step (pc2 := 9) (ls2 := [(0, .ref 111), (1, .int x), (2, .int y), (3, .int n), (4, .int (nI j))]) (st2 := [.int 48, .int (nI j)]) (w3 := w) rfl rfl ?_
  refine sx_RP.br (p1 := 51) (l1 := [(0, .ref 111), (1, .int x), (2, .int y), (3, .int n), (4, .int (nI j))]) (s1 := []) (v1 := w) (p2 := 12) (l2 := [(0, .ref 111), (1, .int x), (2, .int y), (3, .int n), (4, .int (nI j))]) (s2 := []) (v2 := w) rfl rfl (fun q1 => ?_) (fun q1 => ?_)
  · replace q1 := of_decide_eq_true q1
    replace q1 := (nI_leI (a := 48) (b := j) (by omega) (by omega)).mp q1
    refine sx_RP.step (pc2 := 52) (ls2 := [(0, .ref 111), (1, .int x), (2, .int y), (3, .int n), (4, .int (nI j))]) (st2 := [.int n]) (w3 := w) rfl rfl ?_
    refine sx_RP.ret (r := (some (.int n))) rfl rfl ?_
    exact ⟨⟨_, rfl⟩, rfl⟩
  · replace q1 := of_decide_eq_false q1
    replace q1 := mt (nI_leI (a := 48) (b := j) (by omega) (by omega)).mpr q1
    refine sx_RP.step (pc2 := 13) (ls2 := [(0, .ref 111), (1, .int x), (2, .int y), (3, .int n), (4, .int (nI j))]) (st2 := [.int n]) (w3 := w) rfl rfl ?_
    refine sx_RP.step (pc2 := 14) (ls2 := [(0, .ref 111), (1, .int x), (2, .int y), (3, .int n), (4, .int (nI j))]) (st2 := [.ref 111, .int n]) (w3 := w) rfl rfl ?_
    refine sx_RP.gf (v := .ref 112) rfl rfl hI.1.o111 rfl rfl (show _ = 17 from rfl) ?_
    refine sx_RP.step (pc2 := 19) (ls2 := [(0, .ref 111), (1, .int x), (2, .int y), (3, .int n), (4, .int (nI j))]) (st2 := [.int 55, .ref 112, .int n]) (w3 := w) rfl rfl ?_
    refine sx_RP.step (pc2 := 21) (ls2 := [(0, .ref 111), (1, .int x), (2, .int y), (3, .int n), (4, .int (nI j))]) (st2 := [.int (nI j), .int 55, .ref 112, .int n]) (w3 := w) rfl rfl ?_
    refine sx_RP.step (pc2 := 22) (ls2 := [(0, .ref 111), (1, .int x), (2, .int y), (3, .int n), (4, .int (nI j))]) (st2 := [.int (55 + (nI j)), .ref 112, .int n]) (w3 := w) rfl rfl ?_
    rw [show (55 + (nI j) : Int32) = nI (55 + j) from nI_add 55 j]
    refine sx_RP.ild (c := (55 + j)) rfl hI.1.a112.1 hI.1.a112.2 (sx_in_nI (show (55 + j) < 172 by omega) (by decide)) (show (nI (55 + j)).toNatClampNeg = (55 + j) from nI_clamp (by omega)) (show _ = 23 from rfl) ?_
    refine sx_RP.step (pc2 := 24) (ls2 := [(0, .ref 111), (1, .int x), (2, .int y), (3, .int n), (4, .int (nI j))]) (st2 := [.int 1, .int ((ia w 112).getD (55 + j) 0), .int n]) (w3 := w) rfl rfl ?_
    refine sx_RP.br (p1 := 42) (l1 := [(0, .ref 111), (1, .int x), (2, .int y), (3, .int n), (4, .int (nI j))]) (s1 := [.int n]) (v1 := w) (p2 := 27) (l2 := [(0, .ref 111), (1, .int x), (2, .int y), (3, .int n), (4, .int (nI j))]) (s2 := [.int n]) (v2 := w) rfl rfl (fun q2 => ?_) (fun q2 => ?_)
    · replace q2 := of_decide_eq_true q2
      refine sx_RP.step (pc2 := 43) (ls2 := [(0, .ref 111), (1, .int x), (2, .int y), (3, .int n), (4, .int (nI j))]) (st2 := [.int 0, .int n]) (w3 := w) rfl rfl ?_
      refine sx_RP.step (pc2 := 44) (ls2 := [(0, .ref 111), (1, .int x), (2, .int y), (3, .int n), (4, .int (nI j))]) (st2 := [.int (n + 0)]) (w3 := w) rfl rfl ?_
      refine sx_RP.step (pc2 := 45) (ls2 := [(3, .int (n + 0)), (0, .ref 111), (1, .int x), (2, .int y), (4, .int (nI j))]) (st2 := []) (w3 := w) rfl rfl ?_
      refine sx_RP.step (pc2 := 48) (ls2 := [(4, .int ((nI j) + 1)), (3, .int (n + 0)), (0, .ref 111), (1, .int x), (2, .int y)]) (st2 := []) (w3 := w) rfl rfl ?_
      rw [nI_1 j]
      refine sx_RP.step (pc2 := 5) (ls2 := [(4, .int (nI (j + 1))), (3, .int (n + 0)), (0, .ref 111), (1, .int x), (2, .int y)]) (st2 := []) (w3 := w) rfl rfl ?_
      exact sx_RP.ls (sx_lr.cons rfl (sx_lr.cons rfl (sx_lr.cons rfl (sx_lr.cons rfl (sx_lr.cons rfl sx_lr.nil))))) (kk (n + 0) (by omega))
    · replace q2 := Decidable.not_not.mp (of_decide_eq_false q2)
      refine sx_RP.step (pc2 := 28) (ls2 := [(0, .ref 111), (1, .int x), (2, .int y), (3, .int n), (4, .int (nI j))]) (st2 := [.ref 111, .int n]) (w3 := w) rfl rfl ?_
      refine sx_RP.step (pc2 := 29) (ls2 := [(0, .ref 111), (1, .int x), (2, .int y), (3, .int n), (4, .int (nI j))]) (st2 := [.int x, .ref 111, .int n]) (w3 := w) rfl rfl ?_
      refine sx_RP.step (pc2 := 30) (ls2 := [(0, .ref 111), (1, .int x), (2, .int y), (3, .int n), (4, .int (nI j))]) (st2 := [.int y, .int x, .ref 111, .int n]) (w3 := w) rfl rfl ?_
      refine sx_RP.step (pc2 := 32) (ls2 := [(0, .ref 111), (1, .int x), (2, .int y), (3, .int n), (4, .int (nI j))]) (st2 := [.int (nI j), .int y, .int x, .ref 111, .int n]) (w3 := w) rfl rfl ?_
      obtain ⟨x3, hx4, c5⟩ := p199 hI x y (show j < 48 by omega)
      refine sx_RP.cu (as := [.ref 111, .int x, .int y, .int (nI j)]) (rest2 := [.int n]) (st3 := [.int (nI x3), .int n]) rfl rfl (sx_inv_v2 (mi := 198) (k := 192) (st := [.int (nI j), .int y, .int x, .ref 111, .int n]) (w := w) rfl rfl hI.1.o111 rfl rfl rfl) rfl rfl (c5) rfl ?_
      refine sx_RP.br (p1 := 42) (l1 := [(0, .ref 111), (1, .int x), (2, .int y), (3, .int n), (4, .int (nI j))]) (s1 := [.int n]) (v1 := w) (p2 := 38) (l2 := [(0, .ref 111), (1, .int x), (2, .int y), (3, .int n), (4, .int (nI j))]) (s2 := [.int n]) (v2 := w) rfl rfl (fun q6 => ?_) (fun q6 => ?_)
      · replace q6 := of_decide_eq_true q6
        replace q6 := (nI_eq (a := x3) (b := 0) (by omega) (by omega)).mp q6
        refine sx_RP.step (pc2 := 43) (ls2 := [(0, .ref 111), (1, .int x), (2, .int y), (3, .int n), (4, .int (nI j))]) (st2 := [.int 0, .int n]) (w3 := w) rfl rfl ?_
        refine sx_RP.step (pc2 := 44) (ls2 := [(0, .ref 111), (1, .int x), (2, .int y), (3, .int n), (4, .int (nI j))]) (st2 := [.int (n + 0)]) (w3 := w) rfl rfl ?_
        refine sx_RP.step (pc2 := 45) (ls2 := [(3, .int (n + 0)), (0, .ref 111), (1, .int x), (2, .int y), (4, .int (nI j))]) (st2 := []) (w3 := w) rfl rfl ?_
        refine sx_RP.step (pc2 := 48) (ls2 := [(4, .int ((nI j) + 1)), (3, .int (n + 0)), (0, .ref 111), (1, .int x), (2, .int y)]) (st2 := []) (w3 := w) rfl rfl ?_
        rw [nI_1 j]
        refine sx_RP.step (pc2 := 5) (ls2 := [(4, .int (nI (j + 1))), (3, .int (n + 0)), (0, .ref 111), (1, .int x), (2, .int y)]) (st2 := []) (w3 := w) rfl rfl ?_
        exact sx_RP.ls (sx_lr.cons rfl (sx_lr.cons rfl (sx_lr.cons rfl (sx_lr.cons rfl (sx_lr.cons rfl sx_lr.nil))))) (kk (n + 0) (by omega))
      · replace q6 := of_decide_eq_false q6
        replace q6 := mt (nI_eq (a := x3) (b := 0) (by omega) (by omega)).mpr q6
        refine sx_RP.step (pc2 := 39) (ls2 := [(0, .ref 111), (1, .int x), (2, .int y), (3, .int n), (4, .int (nI j))]) (st2 := [.int 1, .int n]) (w3 := w) rfl rfl ?_
        refine sx_RP.step (pc2 := 43) (ls2 := [(0, .ref 111), (1, .int x), (2, .int y), (3, .int n), (4, .int (nI j))]) (st2 := [.int 1, .int n]) (w3 := w) rfl rfl ?_
        refine sx_RP.step (pc2 := 44) (ls2 := [(0, .ref 111), (1, .int x), (2, .int y), (3, .int n), (4, .int (nI j))]) (st2 := [.int (n + 1)]) (w3 := w) rfl rfl ?_
        refine sx_RP.step (pc2 := 45) (ls2 := [(3, .int (n + 1)), (0, .ref 111), (1, .int x), (2, .int y), (4, .int (nI j))]) (st2 := []) (w3 := w) rfl rfl ?_
        refine sx_RP.step (pc2 := 48) (ls2 := [(4, .int ((nI j) + 1)), (3, .int (n + 1)), (0, .ref 111), (1, .int x), (2, .int y)]) (st2 := []) (w3 := w) rfl rfl ?_
        rw [nI_1 j]
        refine sx_RP.step (pc2 := 5) (ls2 := [(4, .int (nI (j + 1))), (3, .int (n + 1)), (0, .ref 111), (1, .int x), (2, .int y)]) (st2 := []) (w3 := w) rfl rfl ?_
        exact sx_RP.ls (sx_lr.cons rfl (sx_lr.cons rfl (sx_lr.cons rfl (sx_lr.cons rfl (sx_lr.cons rfl sx_lr.nil))))) (kk (n + 1) (by omega))
set_option maxRecDepth 20000 in
set_option maxHeartbeats 4000000 in
theorem p198L {xs : Option (List Int32)} {d : Nat} {w : List sx_C} (x y : Int32) (hI : WI w) : ∀ (fz j : Nat) (n : Int32) , 48 ≤ j + fz * 1 → j ≤ 48 → sx_RP xs (d + 2) 198 5 [(0, .ref 111), (1, .int x), (2, .int y), (3, .int n), (4, .int (nI j))] [] w (fun r w2 => (∃ v : Int32, r = some (.int v)) ∧ w2 = w)
  | 0, j, n, h, hj => p198B x y hI hj n  (fun un  hlt  => absurd hlt (by omega)) 
  | fz + 1, j, n, h, hj => p198B x y hI hj n  (fun un  hlt  => p198L x y hI  fz (j + 1) un (by omega) hlt ) 
set_option maxRecDepth 20000 in
set_option maxHeartbeats 4000000 in
theorem p198 {xs : Option (List Int32)} {d : Nat} {w : List sx_C} (hI : WI w) (x y : Int32) : ∃ v : Int32, sx_RU xs (d + 2) 198 0 (lv_args 0 [.ref 111, .int x, .int y]) [] w (some (.int v)) w := by
  have h : sx_RP xs (d + 2) 198 0 (lv_args 0 [.ref 111, .int x, .int y]) [] w (fun r w2 => (∃ v : Int32, r = some (.int v)) ∧ w2 = w) := by
    refine sx_RP.step (pc2 := 1) (ls2 := [(0, .ref 111), (1, .int x), (2, .int y)]) (st2 := [.int 0]) (w3 := w) rfl rfl ?_
    refine sx_RP.step (pc2 := 2) (ls2 := [(3, .int 0), (0, .ref 111), (1, .int x), (2, .int y)]) (st2 := []) (w3 := w) rfl rfl ?_
    refine sx_RP.step (pc2 := 3) (ls2 := [(3, .int 0), (0, .ref 111), (1, .int x), (2, .int y)]) (st2 := [.int 0]) (w3 := w) rfl rfl ?_
    refine sx_RP.step (pc2 := 5) (ls2 := [(4, .int 0), (3, .int 0), (0, .ref 111), (1, .int x), (2, .int y)]) (st2 := []) (w3 := w) rfl rfl ?_
    exact sx_RP.ls (sx_lr.cons rfl (sx_lr.cons rfl (sx_lr.cons rfl (sx_lr.cons rfl (sx_lr.cons rfl sx_lr.nil))))) (p198L x y hI 48 0 0 (by omega) (by omega) )
  obtain ⟨r, w2, h1, ⟨v, rfl⟩, rfl⟩ := h
  exact ⟨v, h1⟩
set_option maxRecDepth 20000 in
set_option maxHeartbeats 4000000 in
theorem p244B {xs : Option (List Int32)} {d : Nat} {w : List sx_C} (hI : WI w) {j : Nat} (hj : j ≤ 48) (n : Int32) (kk : ∀ (un : Int32), j + 1 ≤ 48 → sx_RP xs d 244 4 [(0, .ref 111), (1, .int un), (2, .int (nI (j + 1)))] [] w (fun r w2 => (∃ v : Int32, r = some (.int v)) ∧ w2 = w)) : sx_RP xs d 244 4 [(0, .ref 111), (1, .int n), (2, .int (nI j))] [] w (fun r w2 => (∃ v : Int32, r = some (.int v)) ∧ w2 = w) := by
  refine sx_RP.step (pc2 := 5) (ls2 := [(0, .ref 111), (1, .int n), (2, .int (nI j))]) (st2 := [.int (nI j)]) (w3 := w) rfl rfl ?_
  refine sx_RP.step (pc2 := 7) (ls2 := [(0, .ref 111), (1, .int n), (2, .int (nI j))]) (st2 := [.int 48, .int (nI j)]) (w3 := w) rfl rfl ?_
  refine sx_RP.br (p1 := 28) (l1 := [(0, .ref 111), (1, .int n), (2, .int (nI j))]) (s1 := []) (v1 := w) (p2 := 10) (l2 := [(0, .ref 111), (1, .int n), (2, .int (nI j))]) (s2 := []) (v2 := w) rfl rfl (fun q1 => ?_) (fun q1 => ?_)
  · replace q1 := of_decide_eq_true q1
    replace q1 := (nI_leI (a := 48) (b := j) (by omega) (by omega)).mp q1
    refine sx_RP.step (pc2 := 29) (ls2 := [(0, .ref 111), (1, .int n), (2, .int (nI j))]) (st2 := [.int n]) (w3 := w) rfl rfl ?_
    refine sx_RP.ret (r := (some (.int n))) rfl rfl ?_
    exact ⟨⟨_, rfl⟩, rfl⟩
  · replace q1 := of_decide_eq_false q1
    replace q1 := mt (nI_leI (a := 48) (b := j) (by omega) (by omega)).mpr q1
    refine sx_RP.step (pc2 := 11) (ls2 := [(0, .ref 111), (1, .int n), (2, .int (nI j))]) (st2 := [.int n]) (w3 := w) rfl rfl ?_
    refine sx_RP.step (pc2 := 12) (ls2 := [(0, .ref 111), (1, .int n), (2, .int (nI j))]) (st2 := [.ref 111, .int n]) (w3 := w) rfl rfl ?_
    refine sx_RP.gf (v := .ref 112) rfl rfl hI.1.o111 rfl rfl (show _ = 15 from rfl) ?_
    refine sx_RP.step (pc2 := 17) (ls2 := [(0, .ref 111), (1, .int n), (2, .int (nI j))]) (st2 := [.int 55, .ref 112, .int n]) (w3 := w) rfl rfl ?_
    refine sx_RP.step (pc2 := 18) (ls2 := [(0, .ref 111), (1, .int n), (2, .int (nI j))]) (st2 := [.int (nI j), .int 55, .ref 112, .int n]) (w3 := w) rfl rfl ?_
    refine sx_RP.step (pc2 := 19) (ls2 := [(0, .ref 111), (1, .int n), (2, .int (nI j))]) (st2 := [.int (55 + (nI j)), .ref 112, .int n]) (w3 := w) rfl rfl ?_
    rw [show (55 + (nI j) : Int32) = nI (55 + j) from nI_add 55 j]
    refine sx_RP.ild (c := (55 + j)) rfl hI.1.a112.1 hI.1.a112.2 (sx_in_nI (show (55 + j) < 172 by omega) (by decide)) (show (nI (55 + j)).toNatClampNeg = (55 + j) from nI_clamp (by omega)) (show _ = 20 from rfl) ?_
    refine sx_RP.step (pc2 := 21) (ls2 := [(0, .ref 111), (1, .int n), (2, .int (nI j))]) (st2 := [.int (n + ((ia w 112).getD (55 + j) 0))]) (w3 := w) rfl rfl ?_
    refine sx_RP.step (pc2 := 22) (ls2 := [(1, .int (n + ((ia w 112).getD (55 + j) 0))), (0, .ref 111), (2, .int (nI j))]) (st2 := []) (w3 := w) rfl rfl ?_
    refine sx_RP.step (pc2 := 25) (ls2 := [(2, .int ((nI j) + 1)), (1, .int (n + ((ia w 112).getD (55 + j) 0))), (0, .ref 111)]) (st2 := []) (w3 := w) rfl rfl ?_
    rw [nI_1 j]
    refine sx_RP.step (pc2 := 4) (ls2 := [(2, .int (nI (j + 1))), (1, .int (n + ((ia w 112).getD (55 + j) 0))), (0, .ref 111)]) (st2 := []) (w3 := w) rfl rfl ?_
    exact sx_RP.ls (sx_lr.cons rfl (sx_lr.cons rfl (sx_lr.cons rfl sx_lr.nil))) (kk (n + ((ia w 112).getD (55 + j) 0)) (by omega))
set_option maxRecDepth 20000 in
set_option maxHeartbeats 4000000 in
theorem p244L {xs : Option (List Int32)} {d : Nat} {w : List sx_C} (hI : WI w) : ∀ (fz j : Nat) (n : Int32) , 48 ≤ j + fz * 1 → j ≤ 48 → sx_RP xs d 244 4 [(0, .ref 111), (1, .int n), (2, .int (nI j))] [] w (fun r w2 => (∃ v : Int32, r = some (.int v)) ∧ w2 = w)
  | 0, j, n, h, hj => p244B  hI hj n  (fun un  hlt  => absurd hlt (by omega)) 
  | fz + 1, j, n, h, hj => p244B  hI hj n  (fun un  hlt  => p244L  hI  fz (j + 1) un (by omega) hlt ) 
set_option maxRecDepth 20000 in
set_option maxHeartbeats 4000000 in
theorem p244 {xs : Option (List Int32)} {d : Nat} {w : List sx_C} (hI : WI w) : ∃ v : Int32, sx_RU xs d 244 0 (lv_args 0 [.ref 111]) [] w (some (.int v)) w := by
  have h : sx_RP xs d 244 0 (lv_args 0 [.ref 111]) [] w (fun r w2 => (∃ v : Int32, r = some (.int v)) ∧ w2 = w) := by
    refine sx_RP.step (pc2 := 1) (ls2 := [(0, .ref 111)]) (st2 := [.int 0]) (w3 := w) rfl rfl ?_
    refine sx_RP.step (pc2 := 2) (ls2 := [(1, .int 0), (0, .ref 111)]) (st2 := []) (w3 := w) rfl rfl ?_
    refine sx_RP.step (pc2 := 3) (ls2 := [(1, .int 0), (0, .ref 111)]) (st2 := [.int 0]) (w3 := w) rfl rfl ?_
    refine sx_RP.step (pc2 := 4) (ls2 := [(2, .int 0), (1, .int 0), (0, .ref 111)]) (st2 := []) (w3 := w) rfl rfl ?_
    exact sx_RP.ls (sx_lr.cons rfl (sx_lr.cons rfl (sx_lr.cons rfl sx_lr.nil))) (p244L  hI 48 0 0 (by omega) (by omega) )
  obtain ⟨r, w2, h1, ⟨v, rfl⟩, rfl⟩ := h
  exact ⟨v, h1⟩
set_option maxRecDepth 20000 in
set_option maxHeartbeats 4000000 in
theorem p139B {xs : Option (List Int32)} {d : Nat} {w : List sx_C} (hI : WI w) {j : Nat} (hj : j ≤ 48) (n : Int64) (kk : ∀ (un : Int64), j + 1 ≤ 48 → sx_RP xs (d + 7) 139 4 [(0, .ref 111), (1, .long un), (3, .int (nI (j + 1)))] [] w (fun r w2 => (∃ v : Int64, r = some (.long v)) ∧ w2 = w)) : sx_RP xs (d + 7) 139 4 [(0, .ref 111), (1, .long n), (3, .int (nI j))] [] w (fun r w2 => (∃ v : Int64, r = some (.long v)) ∧ w2 = w) := by
  refine sx_RP.step (pc2 := 5) (ls2 := [(0, .ref 111), (1, .long n), (3, .int (nI j))]) (st2 := [.int (nI j)]) (w3 := w) rfl rfl ?_
  refine sx_RP.step (pc2 := 7) (ls2 := [(0, .ref 111), (1, .long n), (3, .int (nI j))]) (st2 := [.int 48, .int (nI j)]) (w3 := w) rfl rfl ?_
  refine sx_RP.br (p1 := 39) (l1 := [(0, .ref 111), (1, .long n), (3, .int (nI j))]) (s1 := []) (v1 := w) (p2 := 10) (l2 := [(0, .ref 111), (1, .long n), (3, .int (nI j))]) (s2 := []) (v2 := w) rfl rfl (fun q1 => ?_) (fun q1 => ?_)
  · replace q1 := of_decide_eq_true q1
    replace q1 := (nI_leI (a := 48) (b := j) (by omega) (by omega)).mp q1
    refine sx_RP.step (pc2 := 40) (ls2 := [(0, .ref 111), (1, .long n), (3, .int (nI j))]) (st2 := [.long n]) (w3 := w) rfl rfl ?_
    refine sx_RP.ret (r := (some (.long n))) rfl rfl ?_
    exact ⟨⟨_, rfl⟩, rfl⟩
  · replace q1 := of_decide_eq_false q1
    replace q1 := mt (nI_leI (a := 48) (b := j) (by omega) (by omega)).mpr q1
    refine sx_RP.step (pc2 := 11) (ls2 := [(0, .ref 111), (1, .long n), (3, .int (nI j))]) (st2 := [.long n]) (w3 := w) rfl rfl ?_
    refine sx_RP.step (pc2 := 12) (ls2 := [(0, .ref 111), (1, .long n), (3, .int (nI j))]) (st2 := [.ref 111, .long n]) (w3 := w) rfl rfl ?_
    refine sx_RP.gf (v := .ref 112) rfl rfl hI.1.o111 rfl rfl (show _ = 15 from rfl) ?_
    refine sx_RP.step (pc2 := 17) (ls2 := [(0, .ref 111), (1, .long n), (3, .int (nI j))]) (st2 := [.int 55, .ref 112, .long n]) (w3 := w) rfl rfl ?_
    refine sx_RP.step (pc2 := 18) (ls2 := [(0, .ref 111), (1, .long n), (3, .int (nI j))]) (st2 := [.int (nI j), .int 55, .ref 112, .long n]) (w3 := w) rfl rfl ?_
    refine sx_RP.step (pc2 := 19) (ls2 := [(0, .ref 111), (1, .long n), (3, .int (nI j))]) (st2 := [.int (55 + (nI j)), .ref 112, .long n]) (w3 := w) rfl rfl ?_
    rw [show (55 + (nI j) : Int32) = nI (55 + j) from nI_add 55 j]
    refine sx_RP.ild (c := (55 + j)) rfl hI.1.a112.1 hI.1.a112.2 (sx_in_nI (show (55 + j) < 172 by omega) (by decide)) (show (nI (55 + j)).toNatClampNeg = (55 + j) from nI_clamp (by omega)) (show _ = 20 from rfl) ?_
    refine sx_RP.step (pc2 := 21) (ls2 := [(0, .ref 111), (1, .long n), (3, .int (nI j))]) (st2 := [.int 1, .int ((ia w 112).getD (55 + j) 0), .long n]) (w3 := w) rfl rfl ?_
    refine sx_RP.br (p1 := 30) (l1 := [(0, .ref 111), (1, .long n), (3, .int (nI j))]) (s1 := [.long n]) (v1 := w) (p2 := 24) (l2 := [(0, .ref 111), (1, .long n), (3, .int (nI j))]) (s2 := [.long n]) (v2 := w) rfl rfl (fun q2 => ?_) (fun q2 => ?_)
    · replace q2 := of_decide_eq_true q2
      refine sx_RP.step (pc2 := 31) (ls2 := [(0, .ref 111), (1, .long n), (3, .int (nI j))]) (st2 := [.long 0, .long n]) (w3 := w) rfl rfl ?_
      refine sx_RP.step (pc2 := 32) (ls2 := [(0, .ref 111), (1, .long n), (3, .int (nI j))]) (st2 := [.long (n ||| 0)]) (w3 := w) rfl rfl ?_
      refine sx_RP.step (pc2 := 33) (ls2 := [(1, .long (n ||| 0)), (0, .ref 111), (3, .int (nI j))]) (st2 := []) (w3 := w) rfl rfl ?_
      refine sx_RP.step (pc2 := 36) (ls2 := [(3, .int ((nI j) + 1)), (1, .long (n ||| 0)), (0, .ref 111)]) (st2 := []) (w3 := w) rfl rfl ?_
      rw [nI_1 j]
      refine sx_RP.step (pc2 := 4) (ls2 := [(3, .int (nI (j + 1))), (1, .long (n ||| 0)), (0, .ref 111)]) (st2 := []) (w3 := w) rfl rfl ?_
      exact sx_RP.ls (sx_lr.cons rfl (sx_lr.cons rfl (sx_lr.cons rfl sx_lr.nil))) (kk (n ||| 0) (by omega))
    · replace q2 := Decidable.not_not.mp (of_decide_eq_false q2)
      refine sx_RP.step (pc2 := 25) (ls2 := [(0, .ref 111), (1, .long n), (3, .int (nI j))]) (st2 := [.long 1, .long n]) (w3 := w) rfl rfl ?_
      refine sx_RP.step (pc2 := 26) (ls2 := [(0, .ref 111), (1, .long n), (3, .int (nI j))]) (st2 := [.int (nI j), .long 1, .long n]) (w3 := w) rfl rfl ?_
      refine sx_RP.step (pc2 := 27) (ls2 := [(0, .ref 111), (1, .long n), (3, .int (nI j))]) (st2 := [.long ((1 : Int64) <<< ((nI j).toInt64 &&& 63)), .long n]) (w3 := w) rfl rfl ?_
      refine sx_RP.step (pc2 := 31) (ls2 := [(0, .ref 111), (1, .long n), (3, .int (nI j))]) (st2 := [.long ((1 : Int64) <<< ((nI j).toInt64 &&& 63)), .long n]) (w3 := w) rfl rfl ?_
      refine sx_RP.step (pc2 := 32) (ls2 := [(0, .ref 111), (1, .long n), (3, .int (nI j))]) (st2 := [.long (n ||| ((1 : Int64) <<< ((nI j).toInt64 &&& 63)))]) (w3 := w) rfl rfl ?_
      refine sx_RP.step (pc2 := 33) (ls2 := [(1, .long (n ||| ((1 : Int64) <<< ((nI j).toInt64 &&& 63)))), (0, .ref 111), (3, .int (nI j))]) (st2 := []) (w3 := w) rfl rfl ?_
      refine sx_RP.step (pc2 := 36) (ls2 := [(3, .int ((nI j) + 1)), (1, .long (n ||| ((1 : Int64) <<< ((nI j).toInt64 &&& 63)))), (0, .ref 111)]) (st2 := []) (w3 := w) rfl rfl ?_
      rw [nI_1 j]
      refine sx_RP.step (pc2 := 4) (ls2 := [(3, .int (nI (j + 1))), (1, .long (n ||| ((1 : Int64) <<< ((nI j).toInt64 &&& 63)))), (0, .ref 111)]) (st2 := []) (w3 := w) rfl rfl ?_
      exact sx_RP.ls (sx_lr.cons rfl (sx_lr.cons rfl (sx_lr.cons rfl sx_lr.nil))) (kk (n ||| ((1 : Int64) <<< ((nI j).toInt64 &&& 63))) (by omega))
set_option maxRecDepth 20000 in
set_option maxHeartbeats 4000000 in
theorem p139L {xs : Option (List Int32)} {d : Nat} {w : List sx_C} (hI : WI w) : ∀ (fz j : Nat) (n : Int64) , 48 ≤ j + fz * 1 → j ≤ 48 → sx_RP xs (d + 7) 139 4 [(0, .ref 111), (1, .long n), (3, .int (nI j))] [] w (fun r w2 => (∃ v : Int64, r = some (.long v)) ∧ w2 = w)
  | 0, j, n, h, hj => p139B  hI hj n  (fun un  hlt  => absurd hlt (by omega)) 
  | fz + 1, j, n, h, hj => p139B  hI hj n  (fun un  hlt  => p139L  hI  fz (j + 1) un (by omega) hlt ) 
set_option maxRecDepth 20000 in
set_option maxHeartbeats 4000000 in
theorem p139 {xs : Option (List Int32)} {d : Nat} {w : List sx_C} (hI : WI w) : ∃ v : Int64, sx_RU xs (d + 7) 139 0 (lv_args 0 [.ref 111]) [] w (some (.long v)) w := by
  have h : sx_RP xs (d + 7) 139 0 (lv_args 0 [.ref 111]) [] w (fun r w2 => (∃ v : Int64, r = some (.long v)) ∧ w2 = w) := by
    refine sx_RP.step (pc2 := 1) (ls2 := [(0, .ref 111)]) (st2 := [.long 0]) (w3 := w) rfl rfl ?_
    refine sx_RP.step (pc2 := 2) (ls2 := [(1, .long 0), (0, .ref 111)]) (st2 := []) (w3 := w) rfl rfl ?_
    refine sx_RP.step (pc2 := 3) (ls2 := [(1, .long 0), (0, .ref 111)]) (st2 := [.int 0]) (w3 := w) rfl rfl ?_
    refine sx_RP.step (pc2 := 4) (ls2 := [(3, .int 0), (1, .long 0), (0, .ref 111)]) (st2 := []) (w3 := w) rfl rfl ?_
    exact sx_RP.ls (sx_lr.cons rfl (sx_lr.cons rfl (sx_lr.cons rfl sx_lr.nil))) (p139L  hI 48 0 0 (by omega) (by omega) )
  obtain ⟨r, w2, h1, ⟨v, rfl⟩, rfl⟩ := h
  exact ⟨v, h1⟩
end
-- 61.pubM.lean.txt
section
theorem nI_m1 {v : Nat} (h : 0 < v) : nI v + (-1) = nI (v - 1) := by
  obtain ⟨k, rfl⟩ : ∃ k, v = k + 1 := ⟨v - 1, by omega⟩
  rw [Nat.add_sub_cancel, ← nI_pred k, Int32.sub_eq_add_neg]
set_option maxRecDepth 20000 in
set_option maxHeartbeats 4000000 in
theorem p237 {xs : Option (List Int32)} {d : Nat} {w : List sx_C} (hI : WI w) {k : Nat} (hk : k < 4) : ∃ j, j ≤ 9 ∧ sx_RU xs d 237 0 (lv_args 0 [.ref 111, .int (nI k)]) [] w (some (.int (nI j))) w := by
  have h : sx_RP xs d 237 0 (lv_args 0 [.ref 111, .int (nI k)]) [] w (fun r w2 => (∃ j, j ≤ 9 ∧ r = some (.int (nI j))) ∧ w2 = w) := by
    refine sx_RP.step (pc2 := 1) (ls2 := [(0, .ref 111), (1, .int (nI k))]) (st2 := [.ref 111]) (w3 := w) rfl rfl ?_
    refine sx_RP.gf (v := .ref 123) rfl rfl hI.1.o111 rfl rfl (show _ = 4 from rfl) ?_
    refine sx_RP.step (pc2 := 5) (ls2 := [(0, .ref 111), (1, .int (nI k))]) (st2 := [.int (nI k), .ref 123]) (w3 := w) rfl rfl ?_
    refine sx_RP.ild (c := k) rfl hI.1.a123.1 hI.1.a123.2 (sx_in_nI (show k < 4 by omega) (by decide)) (show (nI k).toNatClampNeg = k from nI_clamp (by omega)) (show _ = 6 from rfl) ?_
    obtain ⟨x1, hx2, ex3⟩ : inR ((ia w 123).getD k 0) 40 := hI.l (show k < 4 by omega)
    rw [ex3]
    refine sx_RP.step (pc2 := 7) (ls2 := [(0, .ref 111), (1, .int (nI k))]) (st2 := [.ref 111, .int (nI x1)]) (w3 := w) rfl rfl ?_
    refine sx_RP.gf (v := .ref 112) rfl rfl hI.1.o111 rfl rfl (show _ = 10 from rfl) ?_
    refine sx_RP.step (pc2 := 11) (ls2 := [(0, .ref 111), (1, .int (nI k))]) (st2 := [.int 2, .ref 112, .int (nI x1)]) (w3 := w) rfl rfl ?_
    refine sx_RP.ild (c := 2) rfl hI.1.a112.1 hI.1.a112.2 (sx_in_nI (show 2 < 172 by omega) (by decide)) (show (nI 2).toNatClampNeg = 2 from nI_clamp (by omega)) (show _ = 12 from rfl) ?_
    obtain ⟨x4, hx5, ex6⟩ : inR ((ia w 112).getD 2 0) 9 := (hI.s (2) (by omega)).2.1 rfl
    rw [ex6]
    refine sx_RP.br (p1 := 24) (l1 := [(0, .ref 111), (1, .int (nI k))]) (s1 := []) (v1 := w) (p2 := 15) (l2 := [(0, .ref 111), (1, .int (nI k))]) (s2 := []) (v2 := w) rfl rfl (fun q7 => ?_) (fun q7 => ?_)
    · replace q7 := of_decide_eq_true q7
      replace q7 := (nI_leI (a := x4) (b := x1) (by omega) (by omega)).mp q7
      refine sx_RP.step (pc2 := 25) (ls2 := [(0, .ref 111), (1, .int (nI k))]) (st2 := [.ref 111]) (w3 := w) rfl rfl ?_
      refine sx_RP.gf (v := .ref 112) rfl rfl hI.1.o111 rfl rfl (show _ = 28 from rfl) ?_
      refine sx_RP.step (pc2 := 29) (ls2 := [(0, .ref 111), (1, .int (nI k))]) (st2 := [.int 2, .ref 112]) (w3 := w) rfl rfl ?_
      refine sx_RP.ild (c := 2) rfl hI.1.a112.1 hI.1.a112.2 (sx_in_nI (show 2 < 172 by omega) (by decide)) (show (nI 2).toNatClampNeg = 2 from nI_clamp (by omega)) (show _ = 30 from rfl) ?_
      rw [ex6]
      refine sx_RP.ret (r := (some (.int (nI x4)))) rfl rfl ?_
      exact ⟨⟨x4, by omega, rfl⟩, rfl⟩
    · replace q7 := of_decide_eq_false q7
      replace q7 := mt (nI_leI (a := x4) (b := x1) (by omega) (by omega)).mpr q7
      refine sx_RP.step (pc2 := 16) (ls2 := [(0, .ref 111), (1, .int (nI k))]) (st2 := [.ref 111]) (w3 := w) rfl rfl ?_
      refine sx_RP.gf (v := .ref 123) rfl rfl hI.1.o111 rfl rfl (show _ = 19 from rfl) ?_
      refine sx_RP.step (pc2 := 20) (ls2 := [(0, .ref 111), (1, .int (nI k))]) (st2 := [.int (nI k), .ref 123]) (w3 := w) rfl rfl ?_
      refine sx_RP.ild (c := k) rfl hI.1.a123.1 hI.1.a123.2 (sx_in_nI (show k < 4 by omega) (by decide)) (show (nI k).toNatClampNeg = k from nI_clamp (by omega)) (show _ = 21 from rfl) ?_
      rw [ex3]
      refine sx_RP.step (pc2 := 30) (ls2 := [(0, .ref 111), (1, .int (nI k))]) (st2 := [.int (nI x1)]) (w3 := w) rfl rfl ?_
      refine sx_RP.ret (r := (some (.int (nI x1)))) rfl rfl ?_
      exact ⟨⟨x1, by omega, rfl⟩, rfl⟩
  obtain ⟨r, w2, h1, ⟨j, hj, rfl⟩, rfl⟩ := h
  exact ⟨j, hj, h1⟩
end
-- 62.specM.lean.txt
section
def EXm (b : Nat) (w w2 : List sx_C) : Prop := ∀ a, a ≠ b → (a < 111 → w2[a]? = w[a]?) ∧ (111 ≤ a → (w2[a]?).map (kp a) = (w[a]?).map (kp a))
theorem EM.ex {b : Nat} {w w2 : List sx_C} (h : EM w w2) : EXm b w w2 := fun a _ => h a
theorem EXm.rf {b : Nat} {w : List sx_C} : EXm b w w := fun _ _ => ⟨fun _ => rfl, fun _ => rfl⟩
theorem EXm.tr {b : Nat} {w w1 w2 : List sx_C} (h : EXm b w w1) (h2 : EXm b w1 w2) : EXm b w w2 := fun a ha => ⟨fun z => ((h2 a ha).1 z).trans ((h a ha).1 z), fun z => ((h2 a ha).2 z).trans ((h a ha).2 z)⟩
theorem EXm.at {b : Nat} {w : List sx_C} {c : sx_C} : EXm b w (w.set b c) := by
  intro a ha
  rw [List.getElem?_set_ne (Ne.symm ha)]
  exact ⟨fun _ => rfl, fun _ => rfl⟩
section SXX2
variable {xs : Option (List Int32)} {d mi pc pc2 idx p : Nat} {ls : sx_L} {r : List Value} {w w0 : List sx_C} {P : Option Value → List sx_C → Prop}
end SXX2
end
-- 63.copyM.lean.txt
section
theorem cop_of {x y : Int32} {n : Nat} (hn : n ≤ 40) (q1 : ¬ x < 0) (q2 : ¬ y < 0) (q4 : ¬ nI n - y < x) : ∃ f m, x = nI f ∧ y = nI m ∧ f + m ≤ n := by
  obtain ⟨f, hf, rfl⟩ := nI_of q1
  obtain ⟨m, hm, rfl⟩ := nI_of q2
  refine ⟨f, m, rfl, rfl, ?_⟩
  have h := mt Int32.lt_iff_toInt_lt.mpr q4
  rw [nI_toInt hf] at h
  have h2 := Int32.toInt_sub (nI n) (nI m)
  rw [nI_toInt (by omega), nI_toInt hm] at h2
  rw [h2] at h
  have h3 : Int.bmod ((n : Int) - m) (2 ^ 32) = (n : Int) - m := by
    rw [Int.bmod_def]
    split <;> omega
  rw [h3] at h
  omega
end
-- 64.sound.lean.txt
section
theorem bsd_v : ∀ c, c < 48 → (8 ≤ c → bsd c 0 = nI (c - 8)) ∧ (c % 8 < 7 → bsd c 1 = nI (c + 1)) ∧ (c < 40 → bsd c 2 = nI (c + 8)) ∧ (0 < c % 8 → bsd c 3 = nI (c - 1)) := by decide +kernel
theorem bsd_self : ∀ c, c < 48 → ∀ j, j < 4 → bsd c j ≠ nI c := by decide +kernel
def clo (S : Nat → Prop) : Prop := ∀ c, c < 48 → S c → ∀ j, j < 4 → ∀ n, n < 48 → bsd c j = nI n → S n
theorem conn0 {S : Nat → Prop} (h : clo S) : ∀ (k c : Nat), c ≤ k → c < 48 → S c → S 0
  | 0, c, hk, _, hs => by
    obtain rfl : c = 0 := by omega
    exact hs
  | k + 1, c, hk, hc, hs => by
    by_cases h8 : 8 ≤ c
    · exact conn0 h k (c - 8) (by omega) (by omega) (h c hc hs 0 (by decide) (c - 8) (by omega) ((bsd_v c hc).1 h8))
    · by_cases h0 : c = 0
      · subst h0
        exact hs
      · exact conn0 h k (c - 1) (by omega) (by omega) (h c hc hs 3 (by decide) (c - 1) (by omega) ((bsd_v c hc).2.2.2 (by omega)))
theorem conn1 {S : Nat → Prop} (h : clo S) (h0 : S 0) : ∀ (k c : Nat), c ≤ k → c < 48 → S c
  | 0, c, hk, _ => by
    obtain rfl : c = 0 := by omega
    exact h0
  | k + 1, c, hk, hc => by
    by_cases hz : c = 0
    · subst hz
      exact h0
    · by_cases h8 : c % 8 = 0
      · have := conn1 h h0 k (c - 8) (by omega) (by omega)
        exact h (c - 8) (by omega) this 2 (by decide) c hc (by rw [(bsd_v (c - 8) (by omega)).2.2.1 (by omega)]; congr 1; omega)
      · have := conn1 h h0 k (c - 1) (by omega) (by omega)
        exact h (c - 1) (by omega) this 1 (by decide) c hc (by rw [(bsd_v (c - 1) (by omega)).2.1 (by omega)]; congr 1; omega)
theorem conn {S : Nat → Prop} {src : Nat} (h : clo S) (hsrc : src < 48) (hs : S src) : ∀ c, c < 48 → S c := fun c hc => conn1 h (conn0 h 48 src (by omega) hsrc hs) 48 c (by omega) hc
theorem crF_n (x : Int32) : ∃ j, 1 ≤ j ∧ j ≤ 4 ∧ crF x = nI j := by
  unfold crF
  split
  · exact ⟨2, by decide, by decide, rfl⟩
  · split
    · exact ⟨4, by decide, by decide, rfl⟩
    · exact ⟨1, by decide, by decide, rfl⟩
theorem gd_set {l : List Int32} {i : Nat} {v : Int32} (hi : i < l.length) (k : Nat) : (l.set i v).getD k 0 = if k = i then v else l.getD k 0 := by
  rw [List.getD_eq_getElem?_getD, List.getElem?_set]
  by_cases e : i = k
  · subst e
    rw [if_pos rfl, if_pos hi, if_pos rfl]
    rfl
  · rw [if_neg e, if_neg (Ne.symm e), ← List.getD_eq_getElem?_getD]
def wA (s : List Int32) (src M : Nat) (wy : List Int32) : Prop := ∀ c, c < 48 → wy.getD c 0 = -1 ∨ ∃ v, v ≤ M ∧ wy.getD c 0 = nI v ∧ (c ≠ src → ∃ j, j ≤ v ∧ crF (s.getD (7 + c) 0) = nI j)
theorem wA.up {s wy : List Int32} {src M M2 : Nat} (h : wA s src M wy) (hm : M ≤ M2) : wA s src M2 wy := by
  intro c hc
  rcases h c hc with h1 | ⟨v, h1, h2, h3⟩
  · exact Or.inl h1
  · exact Or.inr ⟨v, by omega, h2, h3⟩
theorem wr1_inv {s wy : List Int32} {src M c v j : Nat} (hM : M < 2 ^ 20) (hl : wy.length = 48) (hA : wA s src (M + 4) wy) (hc : c < 48) (hv : wy.getD c 0 = nI v) (hvM : v ≤ M) (hj : j < 4) : wA s src (M + 4) (wr1 s c wy (bsd c j)) ∧ (wr1 s c wy (bsd c j)).getD c 0 = nI v ∧ (∀ x, x < 48 → wy.getD x 0 ≠ -1 → (wr1 s c wy (bsd c j)).getD x 0 ≠ -1) ∧ (∀ n, n < 48 → bsd c j = nI n → (wr1 s c wy (bsd c j)).getD n 0 ≠ -1) := by
  rcases bes_cases hc hj with hb | ⟨n, hn, hb⟩
  · have e : wr1 s c wy (bsd c j) = wy := by
      unfold wr1
      rw [if_pos (by rw [hb]; decide)]
    rw [e]
    exact ⟨hA, hv, fun _ _ h => h, fun n hn z => absurd (hb.symm.trans z).symm (nI_ne1 (by omega))⟩
  · have hne : n ≠ c := fun z => bsd_self c hc j hj (by rw [hb, z])
    obtain ⟨k, hk1, hk4, hk⟩ := crF_n (s.getD (7 + n) 0)
    have hsum : nI v + nI k = nI (v + k) := nI_add v k
    have eq : wr1 s c wy (bsd c j) = if wy.getD n 0 < 0 then wy.set n (nI (v + k)) else if wy.getD n 0 ≤ nI (v + k) then wy else wy.set n (nI (v + k)) := by
      unfold wr1
      rw [if_neg (by rw [hb]; exact nI_pos (by omega)), hb, nI_clamp (by omega), hv, hk, hsum]
    have hset : wA s src (M + 4) (wy.set n (nI (v + k))) ∧ (wy.set n (nI (v + k))).getD c 0 = nI v ∧ (∀ x, x < 48 → wy.getD x 0 ≠ -1 → (wy.set n (nI (v + k))).getD x 0 ≠ -1) ∧ (∀ m, m < 48 → bsd c j = nI m → (wy.set n (nI (v + k))).getD m 0 ≠ -1) := by
      refine ⟨fun x hx => ?_, ?_, fun x hx h => ?_, fun m hm z => ?_⟩
      · rw [gd_set (by omega)]
        split
        · rename_i e
          subst e
          exact Or.inr ⟨v + k, by omega, rfl, fun _ => ⟨k, by omega, hk⟩⟩
        · exact hA x hx
      · rw [gd_set (by omega), if_neg (Ne.symm hne)]
        exact hv
      · rw [gd_set (by omega)]
        split
        · exact nI_ne1 (by omega)
        · exact h
      · obtain rfl : n = m := (nI_eq (by omega) (by omega)).mp (hb.symm.trans z)
        rw [gd_set (by omega), if_pos rfl]
        exact nI_ne1 (by omega)
    rw [eq]
    by_cases q1 : wy.getD n 0 < 0
    · rw [if_pos q1]
      exact hset
    · rw [if_neg q1]
      split
      · refine ⟨hA, hv, fun _ _ h => h, fun m hm z => ?_⟩
        obtain rfl : n = m := (nI_eq (by omega) (by omega)).mp (hb.symm.trans z)
        intro y
        rw [y] at q1
        exact q1 (by decide)
      · exact hset
theorem wrF_inv {s : List Int32} {src M c v : Nat} (hM : M < 2 ^ 20) (hc : c < 48) (hvM : v ≤ M) : ∀ (k j : Nat) (wy : List Int32), j + k = 4 → wy.length = 48 → wA s src (M + 4) wy → wy.getD c 0 = nI v → (∀ i, i < j → ∀ n, n < 48 → bsd c i = nI n → wy.getD n 0 ≠ -1) → wA s src (M + 4) (wrF s c k j wy) ∧ (wrF s c k j wy).getD c 0 = nI v ∧ (∀ x, x < 48 → wy.getD x 0 ≠ -1 → (wrF s c k j wy).getD x 0 ≠ -1) ∧ (∀ i, i < 4 → ∀ n, n < 48 → bsd c i = nI n → (wrF s c k j wy).getD n 0 ≠ -1)
  | 0, j, wy, hjk, hl, hA, hv, hN => by
    refine ⟨hA, hv, fun _ _ h => h, fun i hi => hN i (by omega)⟩
  | k + 1, j, wy, hjk, hl, hA, hv, hN => by
    obtain ⟨a1, a2, a3, a4⟩ := wr1_inv hM hl hA hc hv hvM (show j < 4 by omega)
    obtain ⟨b1, b2, b3, b4⟩ := wrF_inv hM hc hvM k (j + 1) (wr1 s c wy (bsd c j)) (by omega) (wr1_len hl) a1 a2 (fun i hi n hn z => by
      by_cases e : i = j
      · subst e
        exact a4 n hn z
      · exact a3 n hn (hN i (by omega) n hn z))
    exact ⟨b1, b2, fun x hx h => b3 x hx (a3 x hx h), b4⟩
theorem nrF_inv {wy su : List Int32} : ∀ (k c : Nat) (b : Int32), c + k = 48 → ((b < 0 ∧ ∀ x, x < c → ¬ su.getD x 0 = 0 ∨ wy.getD x 0 < 0) ∨ ∃ x, x < 48 ∧ b = nI x ∧ su.getD x 0 = 0 ∧ ¬ wy.getD x 0 < 0) → ((nrF wy su k c b < 0 ∧ ∀ x, x < 48 → ¬ su.getD x 0 = 0 ∨ wy.getD x 0 < 0) ∨ ∃ x, x < 48 ∧ nrF wy su k c b = nI x ∧ su.getD x 0 = 0 ∧ ¬ wy.getD x 0 < 0)
  | 0, c, b, h, hb => by
    obtain rfl : c = 48 := by omega
    exact hb
  | k + 1, c, b, h, hb => by
    refine nrF_inv k (c + 1) (nr1 wy su b c) (by omega) ?_
    unfold nr1
    by_cases q1 : ¬ su.getD c 0 = 0
    · rw [if_pos q1]
      rcases hb with ⟨h1, h2⟩ | hb
      · refine Or.inl ⟨h1, fun x hx => ?_⟩
        by_cases e : x = c
        · subst e
          exact Or.inl q1
        · exact h2 x (by omega)
      · exact Or.inr hb
    · rw [if_neg q1]
      by_cases q2 : wy.getD c 0 < 0
      · rw [if_pos q2]
        rcases hb with ⟨h1, h2⟩ | hb
        · refine Or.inl ⟨h1, fun x hx => ?_⟩
          by_cases e : x = c
          · subst e
            exact Or.inr q2
          · exact h2 x (by omega)
        · exact Or.inr hb
      · rw [if_neg q2]
        have hc : ∃ x, x < 48 ∧ nI c = nI x ∧ su.getD x 0 = 0 ∧ ¬ wy.getD x 0 < 0 := ⟨c, by omega, rfl, Decidable.not_not.mp q1, q2⟩
        by_cases q3 : b < 0
        · rw [if_pos q3]
          exact Or.inr hc
        · rw [if_neg q3]
          have hb2 : ∃ x, x < 48 ∧ b = nI x ∧ su.getD x 0 = 0 ∧ ¬ wy.getD x 0 < 0 := by
            rcases hb with hb | hb
            · exact absurd hb.1 q3
            · exact hb
          split
          · exact Or.inr hb2
          · exact Or.inr hc
theorem wkF_inv {s : List Int32} {src : Nat} (hsrc : src < 48) : ∀ (f : Nat) (b : Int32) (wy su : List Int32) (M : Nat), M + 4 * f ≤ 1000 → wy.length = 48 → su.length = 48 → su.count 0 < f → wA s src M wy → wy.getD src 0 ≠ -1 → (∀ c, c < 48 → ¬ su.getD c 0 = 0 → wy.getD c 0 ≠ -1) → (∀ c, c < 48 → ¬ su.getD c 0 = 0 → ∀ j, j < 4 → ∀ n, n < 48 → bsd c j = nI n → wy.getD n 0 ≠ -1) → ((b < 0 ∧ ∀ x, x < 48 → ¬ su.getD x 0 = 0 ∨ wy.getD x 0 < 0) ∨ ∃ x, x < 48 ∧ b = nI x ∧ su.getD x 0 = 0 ∧ ¬ wy.getD x 0 < 0) → wA s src 1000 (wkF s f b wy su).1 ∧ ∀ c, c < 48 → (wkF s f b wy su).1.getD c 0 ≠ -1
  | 0, _, _, _, _, _, _, _, hf, _, _, _, _, _ => absurd hf (by omega)
  | f + 1, b, wy, su, M, hM, hl, hs, hf, hA, hS, hB, hN, hb => by
    rw [wkF]
    rcases hb with ⟨h1, h2⟩ | ⟨c, hc, rfl, h0, hw⟩
    · rw [if_pos h1]
      have hpos : ∀ x, x < 48 → wy.getD x 0 ≠ -1 → ¬ wy.getD x 0 < 0 := by
        intro x hx h
        rcases hA x hx with h3 | ⟨v, hv, h3, _⟩
        · exact absurd h3 h
        · rw [h3]
          exact nI_pos (by omega)
      have hcl : clo (fun x => ¬ su.getD x 0 = 0) := fun x hx hsx j hj n hn z => (h2 n hn).resolve_right (hpos n hn (hN x hx hsx j hj n hn z))
      have hall := conn hcl hsrc ((h2 src hsrc).resolve_right (hpos src hsrc hS))
      exact ⟨hA.up (by omega), fun x hx => hB x hx (hall x hx)⟩
    · rw [if_neg (nI_pos (by omega)), nI_clamp (by omega)]
      obtain ⟨v, hv, hvc⟩ : ∃ v, v ≤ M ∧ wy.getD c 0 = nI v := by
        rcases hA c hc with h3 | ⟨v, hv, h3, _⟩
        · exact absurd (show wy.getD c 0 < 0 by rw [h3]; decide) hw
        · exact ⟨v, hv, h3⟩
      obtain ⟨b1, b2, b3, b4⟩ := wrF_inv (s := s) (src := src) (show M < 2 ^ 20 by omega) hc hv 4 0 wy rfl hl (hA.up (by omega)) hvc (fun i hi => absurd hi (by omega))
      have hsu : ∀ x, x < 48 → ¬ (su.set c 1).getD x 0 = 0 → x = c ∨ ¬ su.getD x 0 = 0 := by
        intro x hx h
        rw [gd_set (by omega)] at h
        by_cases e : x = c
        · exact Or.inl e
        · rw [if_neg e] at h
          exact Or.inr h
      refine wkF_inv hsrc f _ _ _ (M + 4) (by omega) (wrF_len 4 0 _ hl) (sx_ls hs) ?_ b1 (b3 src hsrc hS) ?_ ?_ (nrF_inv 48 0 (-1) rfl (Or.inl ⟨by decide, fun x hx => absurd hx (by omega)⟩))
      · have := cnt_set (f := f) (by omega) h0 (by omega)
        have h5 := cnt_pos (su := su) (c := c) (by omega) h0
        have h6 : (su.set c 1).count 0 ≤ su.count 0 - 1 := cnt_set (f := su.count 0 - 1) (by omega) h0 (by omega)
        omega
      · intro x hx h
        rcases hsu x hx h with rfl | h
        · rw [b2]
          exact nI_ne1 (by omega)
        · exact b3 x hx (hB x hx h)
      · intro x hx h j hj n hn z
        rcases hsu x hx h with rfl | h
        · exact b4 j hj n hn z
        · exact b3 n hn (hN x hx h j hj n hn z)
theorem wiF_at {src : Nat} : ∀ (k j : Nat) (l : List Int32), j + k = l.length → ∀ c, c < l.length → (j ≤ c → (wiF src k j l).getD c 0 = if nI c = nI src then 0 else -1) ∧ (c < j → (wiF src k j l).getD c 0 = l.getD c 0)
  | 0, j, l, h, c, hc => ⟨fun z => by omega, fun _ => rfl⟩
  | k + 1, j, l, h, c, hc => by
    have IH := wiF_at (src := src) k (j + 1) (l.set j (if nI j = nI src then 0 else -1)) (by rw [List.length_set]; omega) c (by rw [List.length_set]; exact hc)
    refine ⟨fun z => ?_, fun z => ?_⟩
    · by_cases e : c = j
      · subst e
        show (wiF src k (c + 1) (l.set c (if nI c = nI src then 0 else -1))).getD c 0 = _
        rw [IH.2 (by omega), gd_set hc, if_pos rfl]
      · exact IH.1 (by omega)
    · show (wiF src k (j + 1) (l.set j (if nI j = nI src then 0 else -1))).getD c 0 = l.getD c 0
      rw [IH.2 (by omega), gd_set (by omega), if_neg (by omega)]
theorem wlF_inv {s wy0 su0 : List Int32} {src : Nat} (hsrc : src < 48) (h1 : wy0.length = 48) (h2 : su0.length = 48) : wA s src 1000 (wlF s src wy0 su0).1 ∧ ∀ c, c < 48 → (wlF s src wy0 su0).1.getD c 0 ≠ -1 := by
  unfold wlF
  have hw : ∀ c, c < 48 → (wiF src 48 0 wy0).getD c 0 = if nI c = nI src then 0 else -1 := fun c hc => (wiF_at 48 0 wy0 (by omega) c (by omega)).1 (Nat.zero_le _)
  have hsz : ∀ c, c < 48 → (flF 0 48 0 su0).getD c 0 = 0 := fun c hc => (flF_at 48 0 su0 (by omega) c (by omega)).1 (Nat.zero_le _)
  refine wkF_inv hsrc 49 (nI src) _ _ 0 (by decide) (wiF_len 48 0 _ h1) (flF_len 48 0 _ h2) ?_ ?_ ?_ ?_ ?_ ?_
  · exact Nat.lt_succ_of_le (Nat.le_trans List.count_le_length (by rw [flF_len 48 0 _ h2]; exact Nat.le_refl _))
  · intro c hc
    rw [hw c hc]
    split
    · rename_i e
      have e2 : c = src := (nI_eq (by omega) (by omega)).mp e
      exact Or.inr ⟨0, by omega, rfl, fun z => absurd e2 z⟩
    · exact Or.inl rfl
  · rw [hw src hsrc, if_pos rfl]
    decide
  · intro c hc h
    exact absurd (hsz c hc) h
  · intro c hc h
    exact absurd (hsz c hc) h
  · refine Or.inr ⟨src, hsrc, rfl, hsz src hsrc, ?_⟩
    rw [hw src hsrc, if_pos rfl]
    decide
end
-- 65.walksM.lean.txt
section
def EW (w w2 : List sx_C) : Prop := EM w w2 ∧ ia w2 118 = ia w 118
theorem EW.rf {w : List sx_C} : EW w w := ⟨EM.rf, rfl⟩
theorem wkF_len {s : List Int32} : ∀ (f : Nat) (b : Int32) (wy su : List Int32), wy.length = 48 → su.length = 48 → (wkF s f b wy su).1.length = 48 ∧ (wkF s f b wy su).2.length = 48
  | 0, b, wy, su, h1, h2 => ⟨h1, h2⟩
  | f + 1, b, wy, su, h1, h2 => by
    rw [wkF]
    split
    · exact ⟨h1, h2⟩
    · exact wkF_len f _ _ _ (wrF_len 4 0 _ h1) (sx_ls h2)
end
-- 66.farM.lean.txt
section
def wOK (w : List sx_C) (src : Nat) (w2 : List sx_C) : Prop := ia w2 112 = ia w 112 ∧ wA (ia w 112) src 1000 (ia w2 117) ∧ ∀ c, c < 48 → (ia w2 117).getD c 0 ≠ -1
theorem wOK.at {w w2 : List sx_C} {src c : Nat} (h : wOK w src w2) (hc : c < 48) : inR ((ia w2 117).getD c 0) 1000 := by
  rcases h.2.1 c hc with e | ⟨v, h1, h2, _⟩
  · exact absurd e (h.2.2 c hc)
  · exact ⟨v, h1, h2⟩
theorem nI_n0 {c : Nat} (h : c < 2 ^ 31) (h0 : 0 < c) : ¬ nI c = 0 := fun e => by
  have := (nI_eq (a := c) (b := 0) h (by omega)).mp e
  omega
end
-- 67.findM.lean.txt
section
def EV (w w2 : List sx_C) : Prop := EM w w2 ∧ ia w2 117 = ia w 117
theorem EV.rf {w : List sx_C} : EV w w := ⟨EM.rf, rfl⟩
theorem sx_RP.mono9 {xs : Option (List Int32)} {d mi pc : Nat} {ls : sx_L} {st : List Value} {w : List sx_C} {P Q : Option Value → List sx_C → Prop} (h : sx_RP xs d mi pc ls st w P) (k : ∀ r w2, P r w2 → Q r w2) : sx_RP xs d mi pc ls st w Q := by
  obtain ⟨r, w2, a, b⟩ := h
  exact ⟨r, w2, a, k r w2 b⟩
theorem l146 {xs : Option (List Int32)} {d : Nat} {w : List sx_C} (hI : WI w) {c : Nat} (hc : c < 48) : ∃ j, (1 ≤ j ∧ j ≤ 4 ∧ crF ((ia w 112).getD (7 + c) 0) = nI j) ∧ sx_RU xs d 146 0 (lv_args 0 [.ref 111, .int (nI c)]) [] w (some (.int (nI j))) w := by
  obtain ⟨j, h1, h2, h3⟩ := crF_n ((ia w 112).getD (7 + c) 0)
  have h := hI.1.aM (a := 112) (by omega)
  have k := cp_146 (xs := xs) (d := d) hI.1.o111 h.1 h.2 hc
  rw [h3] at k
  exact ⟨j, ⟨h1, h2, h3⟩, k⟩
theorem lf_n0 {w wz : List sx_C} {src c v x y : Nat} (h : wOK wz src w) (hc : c < 48) (hne : ¬ c = src) (hv1 : v ≤ 1000) (hv : (ia w 117).getD c 0 = nI v) (hx : crF ((ia w 112).getD (7 + c) 0) = nI x) (hx4 : x ≤ 4) (hy : y ≤ 4) : ¬ (1 + (nI v - nI x + nI y) : Int32) = 0 := by
  rcases h.2.1 c hc with e | ⟨v2, h1, h2, h3⟩
  · exact absurd e (h.2.2 c hc)
  · obtain ⟨j, hj, e⟩ := h3 hne
    rw [← h.1, hx] at e
    obtain rfl : x = j := (nI_eq (by omega) (by omega)).mp e
    obtain rfl : v = v2 := (nI_eq (by omega) (by omega)).mp (hv.symm.trans h2)
    rw [show nI v - nI x = nI (v - x) from nI_sub (by omega), nI_add, show (1 : Int32) = nI 1 from rfl, nI_add]
    exact nI_n0 (by omega) (by omega)
end
-- 68.feedM.lean.txt
section
def EF (w w2 : List sx_C) : Prop := (∀ a, a < 111 → w2[a]? = w[a]?) ∧ fi w2 111 4 = fi w 111 4
theorem EF.rf {w : List sx_C} : EF w w := ⟨fun _ _ => rfl, rfl⟩
theorem EF.tr {w w1 w2 : List sx_C} (h : EF w w1) (h2 : EF w1 w2) : EF w w2 := ⟨fun a ha => (h2.1 a ha).trans (h.1 a ha), h2.2.trans h.2⟩
theorem EM.ef {w w2 : List sx_C} (h : EM w w2) (hI : WI w) (hI2 : WI w2) : EF w w2 := ⟨fun a ha => (h a).1 ha, (keep111 hI hI2 ((h 111).2 (by decide))).1⟩
theorem EF.set {w0 w : List sx_C} {a : Nat} {c : sx_C} (h : EF w0 w) (ha : 112 ≤ a) : EF w0 (w.set a c) := by
  refine h.tr ⟨fun b hb => ?_, fi_ne (by omega)⟩
  rw [List.getElem?_set_ne (by omega)]
section SXEF
variable {xs : Option (List Int32)} {d mi pc pc2 idx p : Nat} {ls : sx_L} {r : List Value} {w w0 : List sx_C} {P : Option Value → List sx_C → Prop}
theorem fd_m1 {x : Int32} : x + (-1) = x - 1 := (Int32.sub_eq_add_neg x 1).symm
theorem fd_s1 {k : Nat} : nI (k + 1) - 1 = nI k := by
  rw [show (1 : Int32) = nI 1 from rfl, nI_sub (by omega)]
  rfl
end SXEF
end
-- 69.sheetM.lean.txt
section
section SXSZ
variable {xs : Option (List Int32)} {d mi pc pc2 idx p : Nat} {ls : sx_L} {r : List Value} {w w0 : List sx_C} {P : Option Value → List sx_C → Prop}
theorem sz_of {x : Int32} (h0 : ¬ x < 0) (h1 : x ≤ 40) : inR x 40 := by
  obtain ⟨f, hf, rfl⟩ := nI_of h0
  refine ⟨f, ?_, rfl⟩
  have h := Int32.le_iff_toInt_le.mp h1
  rw [nI_toInt hf] at h
  have : (40 : Int32).toInt = 40 := by decide
  omega
end SXSZ
end
-- 70.byteM.lean.txt
section
def EH (w w2 : List sx_C) : Prop := (∀ a, a ≠ 111 → w2[a]? = w[a]?) ∧ (w2[111]?).map (kp 111) = (w[111]?).map (kp 111) ∧ (fi w 111 12).toInt ≤ (fi w2 111 12).toInt
theorem EH.rf {w : List sx_C} : EH w w := ⟨fun _ _ => rfl, rfl, Int.le_refl _⟩
theorem EH.tr {w w1 w2 : List sx_C} (h : EH w w1) (h2 : EH w1 w2) : EH w w2 := ⟨fun a ha => (h2.1 a ha).trans (h.1 a ha), h2.2.1.trans h.2.1, Int.le_trans h.2.2 h2.2.2⟩
theorem EH.em {w w2 : List sx_C} (h : EH w w2) : EM w w2 := by
  intro a
  by_cases e : a = 111
  · subst e
    exact ⟨fun z => by omega, fun _ => h.2.1⟩
  · rw [h.1 a e]
    exact ⟨fun _ => rfl, fun _ => rfl⟩
end
-- 74.cellsM.lean.txt
section
def EI (w w2 : List sx_C) : Prop := EM w w2 ∧ (fi w 111 12).toInt ≤ (fi w2 111 12).toInt
theorem EI.rf {w : List sx_C} : EI w w := ⟨EM.rf, Int.le_refl _⟩
theorem EI.tr {w w1 w2 : List sx_C} (h : EI w w1) (h2 : EI w1 w2) : EI w w2 := ⟨h.1.tr h2.1, Int.le_trans h.2 h2.2⟩
theorem EI.set {w0 w : List sx_C} {a : Nat} {c c2 : sx_C} (h : EI w0 w) (hw : w[a]? = some c) (ha : 112 ≤ a) (hk : kp a c2 = kp a c) : EI w0 (w.set a c2) := ⟨h.1.set hw (by omega) hk, by rw [fi_ne (by omega)]; exact h.2⟩
end
-- 75.itemM.lean.txt
section
theorem sx_dep1 (md : Bool) (xs : Option (List Int32)) : ∀ (f d mi pc : Nat) (ls : sx_L) (st : List Value) (w : List sx_C) (r : Option Value) (w2 : List sx_C), sx_run md xs f d mi pc ls st w = some (r, w2) → sx_run md xs f (d + 1) mi pc ls st w = some (r, w2)
  | 0, d, mi, pc, ls, st, w, r, w2, h => by cases h
  | f + 1, d, mi, pc, ls, st, w, r, w2, h => by
    unfold sx_run at h
    unfold sx_run
    split at h
    · cases h
    · rename_i i n hi
      try rw [hi]
      try simp only
      split at h
      · rename_i pc2 ls2 st2 w3 hs
        try rw [hs]
        exact sx_dep1 md xs f d mi pc2 ls2 st2 w3 r w2 h
      · rename_i hs
        try rw [hs]
        try simp only
        split at h
        · rename_i r2 hr
          try rw [hr]
          exact h
        · rename_i hr
          try rw [hr]
          try simp only
          split at h
          · rename_i mi2 as rest d2 hinv
            try rw [hinv]
            try simp only
            simp only [Bool.cond_eq_ite] at h ⊢
            split at h
            · rename_i hsum
              rw [if_pos hsum]
              split at h
              · rename_i r2 w4 hc
                rw [sx_dep1 md xs f d2 mi2 0 _ [] w r2 w4 hc]
                exact sx_dep1 md xs f (d2 + 1) mi (pc + 3) ls _ w4 r w2 h
              · cases h
            · cases h
          · cases h
theorem sx_RU.deep {xs : Option (List Int32)} {d mi pc : Nat} {ls : sx_L} {st : List Value} {w : List sx_C} {r : Option Value} {w2 : List sx_C} (h : sx_RU xs d mi pc ls st w r w2) : ∀ k, sx_RU xs (k + d) mi pc ls st w r w2
  | 0 => by
    rw [Nat.zero_add]
    exact h
  | k + 1 => by
    obtain ⟨f, hf⟩ := sx_RU.deep h k
    refine ⟨f, ?_⟩
    rw [show k + 1 + d = k + d + 1 by omega]
    exact sx_dep1 false xs f (k + d) mi pc ls st w r w2 hf
theorem p212_0 {xs : Option (List Int32)} {d : Nat} {w : List sx_C} : sx_RU xs d 212 0 (lv_args 0 [.int 0]) [] w (some (.float 102)) w := sx_RU.step rfl rfl (sx_RU.step rfl rfl (sx_RU.step rfl rfl (sx_RU.ret rfl rfl)))
theorem p212_1 {xs : Option (List Int32)} {d : Nat} {w : List sx_C} : sx_RU xs d 212 0 (lv_args 0 [.int 1]) [] w (some (.float 113)) w := sx_RU.step rfl rfl (sx_RU.step rfl rfl (sx_RU.step rfl rfl (sx_RU.ret rfl rfl)))
theorem p212_2 {xs : Option (List Int32)} {d : Nat} {w : List sx_C} : sx_RU xs d 212 0 (lv_args 0 [.int 2]) [] w (some (.float 112)) w := sx_RU.step rfl rfl (sx_RU.step rfl rfl (sx_RU.step rfl rfl (sx_RU.ret rfl rfl)))
theorem p212_3 {xs : Option (List Int32)} {d : Nat} {w : List sx_C} : sx_RU xs d 212 0 (lv_args 0 [.int 3]) [] w (some (.float 118)) w := sx_RU.step rfl rfl (sx_RU.step rfl rfl (sx_RU.step rfl rfl (sx_RU.ret rfl rfl)))
theorem p212_4 {xs : Option (List Int32)} {d : Nat} {w : List sx_C} : sx_RU xs d 212 0 (lv_args 0 [.int 4]) [] w (some (.float 117)) w := sx_RU.step rfl rfl (sx_RU.step rfl rfl (sx_RU.step rfl rfl (sx_RU.ret rfl rfl)))
theorem p226_0 {xs : Option (List Int32)} {d : Nat} {w : List sx_C} : sx_RU xs d 226 0 (lv_args 0 [.int 0]) [] w (some (.float 106)) w := sx_RU.step rfl rfl (sx_RU.step rfl rfl (sx_RU.step rfl rfl (sx_RU.ret rfl rfl)))
theorem p226_1 {xs : Option (List Int32)} {d : Nat} {w : List sx_C} : sx_RU xs d 226 0 (lv_args 0 [.int 1]) [] w (some (.float 110)) w := sx_RU.step rfl rfl (sx_RU.step rfl rfl (sx_RU.step rfl rfl (sx_RU.ret rfl rfl)))
theorem p226_2 {xs : Option (List Int32)} {d : Nat} {w : List sx_C} : sx_RU xs d 226 0 (lv_args 0 [.int 2]) [] w (some (.float 114)) w := sx_RU.step rfl rfl (sx_RU.step rfl rfl (sx_RU.step rfl rfl (sx_RU.ret rfl rfl)))
theorem p226_3 {xs : Option (List Int32)} {d : Nat} {w : List sx_C} : sx_RU xs d 226 0 (lv_args 0 [.int 3]) [] w (some (.float 107)) w := sx_RU.step rfl rfl (sx_RU.step rfl rfl (sx_RU.step rfl rfl (sx_RU.ret rfl rfl)))
theorem p226_4 {xs : Option (List Int32)} {d : Nat} {w : List sx_C} : sx_RU xs d 226 0 (lv_args 0 [.int 4]) [] w (some (.float 105)) w := sx_RU.step rfl rfl (sx_RU.step rfl rfl (sx_RU.step rfl rfl (sx_RU.ret rfl rfl)))
theorem p226_5 {xs : Option (List Int32)} {d : Nat} {w : List sx_C} : sx_RU xs d 226 0 (lv_args 0 [.int 5]) [] w (some (.float 103)) w := sx_RU.step rfl rfl (sx_RU.step rfl rfl (sx_RU.step rfl rfl (sx_RU.ret rfl rfl)))
end
-- 77.tapes.lean.txt
section
def feedA (n : Nat) (a : Int32) : Int32 := if 1 ≤ a ∧ a ≤ 4 then (if n + a.toInt.toNat ≤ 120 then nI (n + a.toInt.toNat) else -1000000002) else -1000000001
def feedL (n : Nat) (a : Int32) : Nat := if 1 ≤ a ∧ a ≤ 4 then (if n + a.toInt.toNat ≤ 120 then n + a.toInt.toNat else n) else n
theorem feed_n {n : Nat} {a : Int32} (q : ¬ (1 ≤ a ∧ a ≤ 4)) : feedA n a = -1000000001 ∧ feedL n a = n := by
  unfold feedA feedL
  rw [if_neg q, if_neg q]
  exact ⟨rfl, rfl⟩
theorem feed_in {x : Nat} (h1 : 1 ≤ x) (h4 : x ≤ 4) : (1 : Int32) ≤ nI x ∧ nI x ≤ 4 := ⟨nI_le (a := 1) h1 (by omega), nI_le (b := 4) h4 (by decide)⟩
theorem feed_f {n x : Nat} (h1 : 1 ≤ x) (h4 : x ≤ 4) (h : ¬ n + x ≤ 120) : feedA n (nI x) = -1000000002 ∧ feedL n (nI x) = n := by
  unfold feedA feedL
  rw [if_pos (feed_in h1 h4), if_pos (feed_in h1 h4), nI_toInt (by omega), Int.toNat_natCast, if_neg h, if_neg h]
  exact ⟨rfl, rfl⟩
theorem feed_y {n x : Nat} (h1 : 1 ≤ x) (h4 : x ≤ 4) (h : n + x ≤ 120) : feedA n (nI x) = nI (n + x) ∧ feedL n (nI x) = n + x := by
  unfold feedA feedL
  rw [if_pos (feed_in h1 h4), if_pos (feed_in h1 h4), nI_toInt (by omega), Int.toNat_natCast, if_pos h, if_pos h]
  exact ⟨rfl, rfl⟩
set_option maxRecDepth 20000 in
set_option maxHeartbeats 4000000 in
theorem p88y {xs : Option (List Int32)} {d n k : Nat} {w : List sx_C} (hI : WI w) (hn : fi w 96 1 = nI n) (hn1 : n ≤ 120) (hk : k ≤ 4) (hh : n + k ≤ 120) : sx_RU xs d 88 0 (lv_args 0 [.ref 96, .int (nI k)]) [] w (some (.int 1)) w := by
  have h : sx_RP xs d 88 0 (lv_args 0 [.ref 96, .int (nI k)]) [] w (fun r w2 => r = some (.int 1) ∧ w2 = w) := by
    refine sx_RP.step (pc2 := 1) (ls2 := [(0, .ref 96), (1, .int (nI k))]) (st2 := [.ref 96]) (w3 := w) rfl rfl ?_
    refine sx_RP.gt (k := 1) hI rfl rfl (by decide) (show _ = 4 from rfl) ?_
    rw [hn]
    refine sx_RP.step (pc2 := 5) (ls2 := [(0, .ref 96), (1, .int (nI k))]) (st2 := [.int (nI k), .int (nI n)]) (w3 := w) rfl rfl ?_
    refine sx_RP.step (pc2 := 6) (ls2 := [(0, .ref 96), (1, .int (nI k))]) (st2 := [.int ((nI n) + (nI k))]) (w3 := w) rfl rfl ?_
    rw [show ((nI n) + (nI k) : Int32) = nI (n + k) from nI_add n k]
    refine sx_RP.step (pc2 := 8) (ls2 := [(0, .ref 96), (1, .int (nI k))]) (st2 := [.int 120, .int (nI (n + k))]) (w3 := w) rfl rfl ?_
    refine sx_RP.br (p1 := 15) (l1 := [(0, .ref 96), (1, .int (nI k))]) (s1 := []) (v1 := w) (p2 := 11) (l2 := [(0, .ref 96), (1, .int (nI k))]) (s2 := []) (v2 := w) rfl rfl (fun q1 => ?_) (fun q1 => ?_)
    · replace q1 := of_decide_eq_true q1
      replace q1 := (nI_ltI (a := 120) (b := (n + k)) (by omega) (by omega)).mp q1
      refine sx_RP.step (pc2 := 16) (ls2 := [(0, .ref 96), (1, .int (nI k))]) (st2 := [.int 0]) (w3 := w) rfl rfl ?_
      refine sx_RP.ret (r := (some (.int 0))) rfl rfl ?_
      first | exact ⟨rfl, rfl⟩ | (exfalso; omega)
    · replace q1 := of_decide_eq_false q1
      replace q1 := mt (nI_ltI (a := 120) (b := (n + k)) (by omega) (by omega)).mpr q1
      refine sx_RP.step (pc2 := 12) (ls2 := [(0, .ref 96), (1, .int (nI k))]) (st2 := [.int 1]) (w3 := w) rfl rfl ?_
      refine sx_RP.step (pc2 := 16) (ls2 := [(0, .ref 96), (1, .int (nI k))]) (st2 := [.int 1]) (w3 := w) rfl rfl ?_
      refine sx_RP.ret (r := (some (.int 1))) rfl rfl ?_
      first | exact ⟨rfl, rfl⟩ | (exfalso; omega)
  obtain ⟨r, w2, h1, rfl, rfl⟩ := h
  exact h1
set_option maxRecDepth 20000 in
set_option maxHeartbeats 4000000 in
theorem p88n {xs : Option (List Int32)} {d n k : Nat} {w : List sx_C} (hI : WI w) (hn : fi w 96 1 = nI n) (hn1 : n ≤ 120) (hk : k ≤ 4) (hh : ¬ n + k ≤ 120) : sx_RU xs d 88 0 (lv_args 0 [.ref 96, .int (nI k)]) [] w (some (.int 0)) w := by
  have h : sx_RP xs d 88 0 (lv_args 0 [.ref 96, .int (nI k)]) [] w (fun r w2 => r = some (.int 0) ∧ w2 = w) := by
    refine sx_RP.step (pc2 := 1) (ls2 := [(0, .ref 96), (1, .int (nI k))]) (st2 := [.ref 96]) (w3 := w) rfl rfl ?_
    refine sx_RP.gt (k := 1) hI rfl rfl (by decide) (show _ = 4 from rfl) ?_
    rw [hn]
    refine sx_RP.step (pc2 := 5) (ls2 := [(0, .ref 96), (1, .int (nI k))]) (st2 := [.int (nI k), .int (nI n)]) (w3 := w) rfl rfl ?_
    refine sx_RP.step (pc2 := 6) (ls2 := [(0, .ref 96), (1, .int (nI k))]) (st2 := [.int ((nI n) + (nI k))]) (w3 := w) rfl rfl ?_
    rw [show ((nI n) + (nI k) : Int32) = nI (n + k) from nI_add n k]
    refine sx_RP.step (pc2 := 8) (ls2 := [(0, .ref 96), (1, .int (nI k))]) (st2 := [.int 120, .int (nI (n + k))]) (w3 := w) rfl rfl ?_
    refine sx_RP.br (p1 := 15) (l1 := [(0, .ref 96), (1, .int (nI k))]) (s1 := []) (v1 := w) (p2 := 11) (l2 := [(0, .ref 96), (1, .int (nI k))]) (s2 := []) (v2 := w) rfl rfl (fun q1 => ?_) (fun q1 => ?_)
    · replace q1 := of_decide_eq_true q1
      replace q1 := (nI_ltI (a := 120) (b := (n + k)) (by omega) (by omega)).mp q1
      refine sx_RP.step (pc2 := 16) (ls2 := [(0, .ref 96), (1, .int (nI k))]) (st2 := [.int 0]) (w3 := w) rfl rfl ?_
      refine sx_RP.ret (r := (some (.int 0))) rfl rfl ?_
      first | exact ⟨rfl, rfl⟩ | (exfalso; omega)
    · replace q1 := of_decide_eq_false q1
      replace q1 := mt (nI_ltI (a := 120) (b := (n + k)) (by omega) (by omega)).mpr q1
      refine sx_RP.step (pc2 := 12) (ls2 := [(0, .ref 96), (1, .int (nI k))]) (st2 := [.int 1]) (w3 := w) rfl rfl ?_
      refine sx_RP.step (pc2 := 16) (ls2 := [(0, .ref 96), (1, .int (nI k))]) (st2 := [.int 1]) (w3 := w) rfl rfl ?_
      refine sx_RP.ret (r := (some (.int 1))) rfl rfl ?_
      first | exact ⟨rfl, rfl⟩ | (exfalso; omega)
  obtain ⟨r, w2, h1, rfl, rfl⟩ := h
  exact h1
def EFT (w w2 : List sx_C) : Prop := EF w w2 ∧ fi w2 111 11 = fi w 111 11
theorem EFT.rf {w : List sx_C} : EFT w w := ⟨EF.rf, rfl⟩
theorem EFT.tr {w w1 w2 : List sx_C} (h : EFT w w1) (h2 : EFT w1 w2) : EFT w w2 := ⟨h.1.tr h2.1, h2.2.trans h.2⟩
theorem EFT.set {w0 w : List sx_C} {a : Nat} {c : sx_C} (h : EFT w0 w) (ha : 112 ≤ a) : EFT w0 (w.set a c) := h.tr ⟨EF.rf.set ha, fi_ne (by omega)⟩
section SXEFT
variable {xs : Option (List Int32)} {d mi pc pc2 idx p : Nat} {ls : sx_L} {r : List Value} {w w0 : List sx_C} {P : Option Value → List sx_C → Prop}
end SXEFT
end
-- 79a.exact.lean.txt
section
section SXX
variable {xs : Option (List Int32)} {d mi pc pc2 a idx p : Nat} {ls : sx_L} {r : List Value} {w w0 : List sx_C} {P : Option Value → List sx_C → Prop}
def Same (a : Nat) (w w2 : List sx_C) : Prop := ∀ b, b ≠ a → w2[b]? = w[b]?
theorem Same.set {a : Nat} {w : List sx_C} {c : sx_C} : Same a w (w.set a c) := fun _ hb => List.getElem?_set_ne (Ne.symm hb)
theorem sx_RP.xG {k : Nat} {v : Int32} (hI : WI w) (ha : gAd a) (hi : sx_ins mi pc = some (.putfield idx, 3)) (hq : sx_lk (sx_fl (sx_own mi)) idx = some (2, k, p)) (hk : k < 6) (hf : sx_fin mi 2 k = true) (hv : gR k v) (hp : pc + 3 = pc2) (kk : ∀ w2, WI w2 → Same a w w2 → fi w2 a k = v → (∀ j, j ≠ k → fi w2 a j = fi w a j) → sx_RP xs d mi pc2 ls r w2 P) : sx_RP xs d mi pc ls (.int v :: .ref a :: r) w P := by
  have hw := hI.1.oG ha
  have q := hI.g ha
  have hfs : fs_ w a = [.int (fi w a 0), .int (fi w a 1), .int (fi w a 2), .int (fi w a 3), .int (fi w a 4), .int (fi w a 5)] := by unfold fs_; rw [hw]
  have hne : ∀ (fs : List Value) (j : Nat), fs_ w a = fs → j ≠ k → fi (w.set a (.inr (.inr (.inr (2, fs.set k (.int v)))))) a j = fi w a j := by
    intro fs j e hj
    unfold fi
    rw [fs_set hw, List.getElem?_set_ne (Ne.symm hj), e]
  match k, hk with
  | 0, _ => exact sx_RP.pf hi hq hw (by rw [hf]; rfl) rfl rfl hp (kk _ (hI.set hw rfl (cOK.g ha ⟨hv, q.2⟩)) Same.set (by unfold fi; rw [fs_set hw]; rfl) (fun j hj => hne _ j hfs hj))
  | 1, _ => exact sx_RP.pf hi hq hw (by rw [hf]; rfl) rfl rfl hp (kk _ (hI.set hw rfl (cOK.g ha ⟨q.1, hv, q.2.2⟩)) Same.set (by unfold fi; rw [fs_set hw]; rfl) (fun j hj => hne _ j hfs hj))
  | 2, _ => exact sx_RP.pf hi hq hw (by rw [hf]; rfl) rfl rfl hp (kk _ (hI.set hw rfl (cOK.g ha ⟨q.1, q.2.1, hv, q.2.2.2⟩)) Same.set (by unfold fi; rw [fs_set hw]; rfl) (fun j hj => hne _ j hfs hj))
  | 3, _ => exact sx_RP.pf hi hq hw (by rw [hf]; rfl) rfl rfl hp (kk _ (hI.set hw rfl (cOK.g ha ⟨q.1, q.2.1, q.2.2.1, hv, q.2.2.2.2⟩)) Same.set (by unfold fi; rw [fs_set hw]; rfl) (fun j hj => hne _ j hfs hj))
  | 4, _ => exact sx_RP.pf hi hq hw (by rw [hf]; rfl) rfl rfl hp (kk _ (hI.set hw rfl (cOK.g ha ⟨q.1, q.2.1, q.2.2.1, q.2.2.2.1, q.2.2.2.2⟩)) Same.set (by unfold fi; rw [fs_set hw]; rfl) (fun j hj => hne _ j hfs hj))
  | 5, _ => exact sx_RP.pf hi hq hw (by rw [hf, show sx_okv (sx_ty 2 5) (.int v) = (v == 0 || v == 1) from rfl, inR.bo hv]; rfl) rfl rfl hp (kk _ (hI.set hw rfl (cOK.g ha ⟨q.1, q.2.1, q.2.2.1, q.2.2.2.1, hv⟩)) Same.set (by unfold fi; rw [fs_set hw]; rfl) (fun j hj => hne _ j hfs hj))
theorem sx_RP.xC {k : Nat} {v : Int32} (hI : WI w) (ha : isA a) (hi : sx_ins mi pc = some (.putfield idx, 3)) (hq : sx_lk (sx_fl (sx_own mi)) idx = some (1, k, p)) (hk : k = 3 ∨ (5 ≤ k ∧ k < 11)) (hf : sx_fin mi 1 k = true) (hv : cR k v) (hp : pc + 3 = pc2) (kk : ∀ w2, WI w2 → Same a w w2 → fi w2 a k = v → (∀ j, j ≠ k → fi w2 a j = fi w a j) → fj w2 a 1 = fj w a 1 → sx_RP xs d mi pc2 ls r w2 P) : sx_RP xs d mi pc ls (.int v :: .ref a :: r) w P := by
  have hw := hI.1.oC ha
  have q := hI.c ha
  have hfs : fs_ w a = [.ref (a + 1), .long (fj w a 1), .ref (a + 2), .int (fi w a 3), .ref (a + 3), .int (fi w a 5), .int (fi w a 6), .int (fi w a 7), .int (fi w a 8), .int (fi w a 9), .int (fi w a 10)] := by unfold fs_; rw [hw]
  have hne : ∀ (fs : List Value) (j : Nat), fs_ w a = fs → j ≠ k → fi (w.set a (.inr (.inr (.inr (1, fs.set k (.int v)))))) a j = fi w a j := by
    intro fs j e hj
    unfold fi
    rw [fs_set hw, List.getElem?_set_ne (Ne.symm hj), e]
  have hnj : ∀ (fs : List Value), fs_ w a = fs → 1 ≠ k → fj (w.set a (.inr (.inr (.inr (1, fs.set k (.int v)))))) a 1 = fj w a 1 := by
    intro fs e hj
    unfold fj
    rw [fs_set hw, List.getElem?_set_ne (Ne.symm hj), e]
  rcases (show k = 3 ∨ k = 5 ∨ k = 6 ∨ k = 7 ∨ k = 8 ∨ k = 9 ∨ k = 10 by omega) with rfl | rfl | rfl | rfl | rfl | rfl | rfl
  · exact sx_RP.pf hi hq hw (by rw [hf]; rfl) rfl rfl hp (kk _ (hI.set hw rfl (cOK.c ha ⟨hv, q.2⟩)) Same.set (by unfold fi; rw [fs_set hw]; rfl) (fun j hj => hne _ j hfs hj) (hnj _ hfs (by decide)))
  · exact sx_RP.pf hi hq hw (by rw [hf]; rfl) rfl rfl hp (kk _ (hI.set hw rfl (cOK.c ha ⟨q.1, hv⟩)) Same.set (by unfold fi; rw [fs_set hw]; rfl) (fun j hj => hne _ j hfs hj) (hnj _ hfs (by decide)))
  · exact sx_RP.pf hi hq hw (by rw [hf]; rfl) rfl rfl hp (kk _ (hI.set hw rfl (cOK.c ha q)) Same.set (by unfold fi; rw [fs_set hw]; rfl) (fun j hj => hne _ j hfs hj) (hnj _ hfs (by decide)))
  · exact sx_RP.pf hi hq hw (by rw [hf]; rfl) rfl rfl hp (kk _ (hI.set hw rfl (cOK.c ha q)) Same.set (by unfold fi; rw [fs_set hw]; rfl) (fun j hj => hne _ j hfs hj) (hnj _ hfs (by decide)))
  · exact sx_RP.pf hi hq hw (by rw [hf]; rfl) rfl rfl hp (kk _ (hI.set hw rfl (cOK.c ha q)) Same.set (by unfold fi; rw [fs_set hw]; rfl) (fun j hj => hne _ j hfs hj) (hnj _ hfs (by decide)))
  · exact sx_RP.pf hi hq hw (by rw [hf]; rfl) rfl rfl hp (kk _ (hI.set hw rfl (cOK.c ha q)) Same.set (by unfold fi; rw [fs_set hw]; rfl) (fun j hj => hne _ j hfs hj) (hnj _ hfs (by decide)))
  · exact sx_RP.pf hi hq hw (by rw [hf]; rfl) rfl rfl hp (kk _ (hI.set hw rfl (cOK.c ha q)) Same.set (by unfold fi; rw [fs_set hw]; rfl) (fun j hj => hne _ j hfs hj) (hnj _ hfs (by decide)))
theorem sx_RP.xW {v : Int64} (hI : WI w) (ha : isA a) (hi : sx_ins mi pc = some (.putfield idx, 3)) (hq : sx_lk (sx_fl (sx_own mi)) idx = some (1, 1, p)) (hf : sx_fin mi 1 1 = true) (hp : pc + 3 = pc2) (kk : ∀ w2, WI w2 → Same a w w2 → fj w2 a 1 = v → (∀ j, fi w2 a j = fi w a j) → sx_RP xs d mi pc2 ls r w2 P) : sx_RP xs d mi pc ls (.long v :: .ref a :: r) w P := by
  have hw := hI.1.oC ha
  have q := hI.c ha
  have hfs : fs_ w a = [.ref (a + 1), .long (fj w a 1), .ref (a + 2), .int (fi w a 3), .ref (a + 3), .int (fi w a 5), .int (fi w a 6), .int (fi w a 7), .int (fi w a 8), .int (fi w a 9), .int (fi w a 10)] := by unfold fs_; rw [hw]
  refine sx_RP.pf hi hq hw (by rw [hf]; rfl) rfl rfl hp (kk _ (hI.set hw rfl (cOK.c ha q)) Same.set (by unfold fj; rw [fs_set hw]; rfl) (fun j => ?_))
  unfold fi
  rw [fs_set hw, hfs]
  match j with
  | 0 => rfl
  | 1 => rfl
  | j + 2 => rfl
theorem sx_RP.xI {x : Int32} {c n : Nat} (hI : WI w) (hi : sx_ins mi pc = some (.iastore, 1)) (hw : w[a]? = some (.inl (0, ia w a)) ∧ (ia w a).length = n) (hc : c < n) (hn : n < 2 ^ 31) (ho : cOK a (.inl (0, (ia w a).set c x))) (hp : pc + 1 = pc2) (kk : ∀ w2, WI w2 → Same a w w2 → ia w2 a = (ia w a).set c x → sx_RP xs d mi pc2 ls r w2 P) : sx_RP xs d mi pc ls (.int x :: .int (nI c) :: .ref a :: r) w P := by
  refine sx_RP.ist (c := c) hi hw.1 hw.2 (sx_in_nI hc hn) (nI_clamp (by omega)) rfl hp (kk _ (hI.set hw.1 sh_set ho) Same.set (ia_set hw.1))
theorem sx_RP.xD {x : Int32} {A c : Nat} (hI : WI w) (hA : isA A) (hi : sx_ins mi pc = some (.iastore, 1)) (hc : c < 9) (hv : inR x 47) (hp : pc + 1 = pc2) (kk : ∀ w2, WI w2 → Same (A + 3) w w2 → ia w2 (A + 3) = (ia w (A + 3)).set c x → sx_RP xs d mi pc2 ls r w2 P) : sx_RP xs d mi pc ls (.int x :: .int (nI c) :: .ref (A + 3) :: r) w P :=
  sx_RP.xI hI hi (hI.1.aD hA) hc (by decide) (cOK.di hA (inR.set (fun k hk => hI.di hA hk) hv)) hp kk
theorem sx_RP.xF {x : Int32} {c n : Nat} (hI : WI w) (hi : sx_ins mi pc = some (.iastore, 1)) (hw : w[a]? = some (.inl (0, ia w a)) ∧ (ia w a).length = n) (hc : c < n) (hn : n < 2 ^ 31) (hf : (44 ≤ a ∧ a ≤ 95) ∨ (97 ≤ a ∧ a ≤ 102) ∨ (116 ≤ a ∧ a ≤ 122) ∨ 124 ≤ a) (hp : pc + 1 = pc2) (kk : ∀ w2, WI w2 → Same a w w2 → ia w2 a = (ia w a).set c x → sx_RP xs d mi pc2 ls r w2 P) : sx_RP xs d mi pc ls (.int x :: .int (nI c) :: .ref a :: r) w P :=
  sx_RP.xI hI hi hw hc hn (cOK.free (by omega)) hp kk
theorem sx_RP.xM {x : Int32} {k : Nat} (hI : WI w) (ha : 112 ≤ a ∧ a ≤ 115) (hi : sx_ins mi pc = some (.iastore, 1)) (hk : k < 172) (hv : eOK k x) (hp : pc + 1 = pc2) (kk : ∀ w2, WI w2 → Same a w w2 → ia w2 a = (ia w a).set k x → sx_RP xs d mi pc2 ls r w2 P) : sx_RP xs d mi pc ls (.int x :: .int (nI k) :: .ref a :: r) w P :=
  sx_RP.xI hI hi (hI.1.aM ha) hk (by decide) (cOK.s ha ((hI.sA ha).set (hI.1.aM ha).2 hk hv)) hp kk
theorem sx_RP.xT {x : Int32} {c : Nat} (hI : WI w) (hi : sx_ins mi pc = some (.bastore, 1)) (hc : c < 120) (hp : pc + 1 = pc2) (kk : ∀ w2, WI w2 → Same 97 w w2 → ia w2 97 = (ia w 97).set c (vp_nar .byte x) → sx_RP xs d mi pc2 ls r w2 P) : sx_RP xs d mi pc ls (.int x :: .int (nI c) :: .ref 97 :: r) w P := by
  have hw := hI.1.a97
  subst hp
  refine sx_RP.step hi (show sx_bast ls pc (.int x :: .int (nI c) :: .ref 97 :: r) w = some (pc + 1, ls, r, w.set 97 (.inl (2, (ia w 97).set c (vp_nar .byte x)))) from ?_) (kk _ (hI.set hw.1 sh_set (cOK.free (by decide))) Same.set (ia_set hw.1))
  unfold sx_bast
  simp only
  rw [hw.1]
  simp only
  rw [hw.2, sx_in_nI hc (by decide), nI_clamp (by omega)]
  rfl
end SXX
end
-- 79b.qrules.lean.txt
section
def qc (a : Nat) : Prop := a < 29 ∨ (96 ≤ a ∧ a < 99) ∨ 103 ≤ a
def EQ (w w2 : List sx_C) : Prop := ∀ a, qc a → w2[a]? = w[a]?
theorem EQ.rf {w : List sx_C} : EQ w w := fun _ _ => rfl
theorem EQ.tr {w w1 w2 : List sx_C} (h : EQ w w1) (h2 : EQ w1 w2) : EQ w w2 := fun a ha => (h2 a ha).trans (h a ha)
theorem EQ.st {w0 w w2 : List sx_C} {a : Nat} (h : EQ w0 w) (hs : Same a w w2) (ha : (29 ≤ a ∧ a ≤ 95) ∨ (99 ≤ a ∧ a ≤ 102)) : EQ w0 w2 := fun b hb => (hs b (by unfold qc at hb; omega)).trans (h b hb)
theorem EQ.fr {w0 w : List sx_C} (h : EQ w0 w) {a : Nat} {c c2 : sx_C} (_ : w[a]? = some c) (hf : (44 ≤ a ∧ a ≤ 95) ∨ (99 ≤ a ∧ a ≤ 102)) : EQ w0 (w.set a c2) := h.st Same.set (by omega)
def nc (a : Nat) : Prop := a = 0 ∨ a = 3 ∨ a = 4 ∨ (15 ≤ a ∧ a < 29) ∨ (96 ≤ a ∧ a < 99) ∨ 111 ≤ a
def nk (k : Nat) : Prop := k = 3 ∨ k = 5 ∨ k = 8 ∨ k = 9 ∨ k = 10
def EN (w w2 : List sx_C) : Prop := (∀ a, nc a → w2[a]? = w[a]?) ∧ (∀ k, nk k → fi w2 1 k = fi w 1 k) ∧ ∀ g, g < 10 → fi w2 (5 + g) 0 = fi w (5 + g) 0
theorem EN.rf {w : List sx_C} : EN w w := ⟨fun _ _ => rfl, fun _ _ => rfl, fun _ _ => rfl⟩
theorem EN.tr {w w1 w2 : List sx_C} (h : EN w w1) (h2 : EN w1 w2) : EN w w2 := ⟨fun a ha => (h2.1 a ha).trans (h.1 a ha), fun k hk => (h2.2.1 k hk).trans (h.2.1 k hk), fun g hg => (h2.2.2 g hg).trans (h.2.2 g hg)⟩
theorem fi_same {w w2 : List sx_C} {a : Nat} (k : Nat) (h : w2[a]? = w[a]?) : fi w2 a k = fi w a k := by
  unfold fi fs_
  rw [h]
theorem EQ.en {w w2 : List sx_C} (h : EQ w w2) : EN w w2 := ⟨fun a ha => h a (by unfold nc at ha; unfold qc; omega), fun k _ => fi_same k (h 1 (Or.inl (by decide))), fun g hg => fi_same 0 (h _ (Or.inl (by omega)))⟩
theorem EN.st {w0 w w2 : List sx_C} {a : Nat} (h : EN w0 w) (hs : Same a w w2) (ha : a = 2 ∨ (29 ≤ a ∧ a ≤ 95) ∨ (99 ≤ a ∧ a ≤ 110)) : EN w0 w2 := h.tr ⟨fun b hb => hs b (by unfold nc at hb; omega), fun k _ => fi_same k (hs 1 (by omega)), fun g hg => fi_same 0 (hs _ (by omega))⟩
theorem EN.fr {w0 w : List sx_C} (h : EN w0 w) {a : Nat} {c c2 : sx_C} (_ : w[a]? = some c) (hf : (44 ≤ a ∧ a ≤ 95) ∨ (99 ≤ a ∧ a ≤ 102)) : EN w0 (w.set a c2) := h.st Same.set (by omega)
theorem EN.stG {w0 w w2 : List sx_C} {a k : Nat} (h : EN w0 w) (hs : Same a w w2) (hr : ∀ j, j ≠ k → fi w2 a j = fi w a j) (ha : (5 ≤ a ∧ a < 15 ∧ k ≠ 0) ∨ (29 ≤ a ∧ a ≤ 95)) : EN w0 w2 := by
  rcases ha with ⟨h1, h2, h3⟩ | ha
  · refine h.tr ⟨fun b hb => hs b (by unfold nc at hb; omega), fun k _ => fi_same k (hs 1 (by omega)), fun g hg => ?_⟩
    by_cases e : 5 + g = a
    · rw [e]
      exact hr 0 (Ne.symm h3)
    · exact fi_same 0 (hs _ e)
  · exact h.st hs (Or.inr (Or.inl ha))
theorem EN.stC {w0 w w2 : List sx_C} {a : Nat} (h : EN w0 w) (hs : Same a w w2) (hr : ∀ j, nk j → fi w2 a j = fi w a j) (ha : a = 1 ∨ (29 ≤ a ∧ a ≤ 95)) : EN w0 w2 := by
  rcases ha with rfl | ha
  · exact h.tr ⟨fun b hb => hs b (by unfold nc at hb; omega), hr, fun g hg => fi_same 0 (hs _ (by omega))⟩
  · exact h.st hs (Or.inr (Or.inl ha))
section SXQ
variable {xs : Option (List Int32)} {d mi pc pc2 a idx p : Nat} {ls : sx_L} {r : List Value} {w w0 : List sx_C} {P : Option Value → List sx_C → Prop}
theorem Same.cc {w w2 : List sx_C} (ha : gAd a) (hs : Same a w w2) : ∀ B q, isA B → fi w2 B q = fi w B q := fun B q hB => fi_same q (hs B (by unfold gAd at ha; unfold isA at hB; omega))
theorem sx_RP.pgQ {k : Nat} {v : Int32} (hI : WI w) (hE : EQ w0 w) (hz : 29 ≤ a) (ha : gAd a) (hi : sx_ins mi pc = some (.putfield idx, 3)) (hq : sx_lk (sx_fl (sx_own mi)) idx = some (2, k, p)) (hk : k < 6) (hf : sx_fin mi 2 k = true) (hv : gR k v) (hp : pc + 3 = pc2) (kk : ∀ w2, WI w2 → EQ w0 w2 → (∀ B q, isA B → fi w2 B q = fi w B q) → sx_RP xs d mi pc2 ls r w2 P) : sx_RP xs d mi pc ls (.int v :: .ref a :: r) w P :=
  sx_RP.xG hI ha hi hq hk hf hv hp (fun w2 h1 h2 _ _ => kk w2 h1 (hE.st h2 (by unfold gAd at ha; omega)) (h2.cc ha))
theorem sx_RP.pgN {k : Nat} {v : Int32} (hI : WI w) (hE : EN w0 w) (hz : (5 ≤ a ∧ a < 15 ∧ k ≠ 0) ∨ (29 ≤ a ∧ a ≤ 95)) (ha : gAd a) (hi : sx_ins mi pc = some (.putfield idx, 3)) (hq : sx_lk (sx_fl (sx_own mi)) idx = some (2, k, p)) (hk : k < 6) (hf : sx_fin mi 2 k = true) (hv : gR k v) (hp : pc + 3 = pc2) (kk : ∀ w2, WI w2 → EN w0 w2 → (∀ B q, isA B → fi w2 B q = fi w B q) → sx_RP xs d mi pc2 ls r w2 P) : sx_RP xs d mi pc ls (.int v :: .ref a :: r) w P :=
  sx_RP.xG hI ha hi hq hk hf hv hp (fun w2 h1 h2 _ h4 => kk w2 h1 (hE.stG h2 h4 hz) (h2.cc ha))
theorem sx_RP.putcQ {k : Nat} {v : Int32} (hI : WI w) (hE : EQ w0 w) (hz : 29 ≤ a) (ha : isA a) (hi : sx_ins mi pc = some (.putfield idx, 3)) (hq : sx_lk (sx_fl (sx_own mi)) idx = some (1, k, p)) (hk : k = 3 ∨ (5 ≤ k ∧ k < 11)) (hf : sx_fin mi 1 k = true) (hv : cR k v) (hp : pc + 3 = pc2) (kk : ∀ w2, WI w2 → EQ w0 w2 → sx_RP xs d mi pc2 ls r w2 P) : sx_RP xs d mi pc ls (.int v :: .ref a :: r) w P :=
  sx_RP.xC hI ha hi hq hk hf hv hp (fun w2 h1 h2 _ _ _ => kk w2 h1 (hE.st h2 (by unfold isA at ha; omega)))
theorem sx_RP.putcN {k : Nat} {v : Int32} (hI : WI w) (hE : EN w0 w) (hz : (a = 1 ∧ (k = 6 ∨ k = 7)) ∨ 29 ≤ a) (ha : isA a) (hi : sx_ins mi pc = some (.putfield idx, 3)) (hq : sx_lk (sx_fl (sx_own mi)) idx = some (1, k, p)) (hk : k = 3 ∨ (5 ≤ k ∧ k < 11)) (hf : sx_fin mi 1 k = true) (hv : cR k v) (hp : pc + 3 = pc2) (kk : ∀ w2, WI w2 → EN w0 w2 → sx_RP xs d mi pc2 ls r w2 P) : sx_RP xs d mi pc ls (.int v :: .ref a :: r) w P :=
  sx_RP.xC hI ha hi hq hk hf hv hp (fun w2 h1 h2 _ h4 _ => kk w2 h1 (by
    rcases hz with ⟨rfl, h⟩ | h
    · exact hE.stC h2 (fun j hj => h4 j (by unfold nk at hj; omega)) (Or.inl rfl)
    · exact hE.st h2 (by unfold isA at ha; omega)))
theorem sx_RP.pwQ {v : Int64} (hI : WI w) (hE : EQ w0 w) (hz : 29 ≤ a) (ha : isA a) (hi : sx_ins mi pc = some (.putfield idx, 3)) (hq : sx_lk (sx_fl (sx_own mi)) idx = some (1, 1, p)) (hf : sx_fin mi 1 1 = true) (hp : pc + 3 = pc2) (kk : ∀ w2, WI w2 → EQ w0 w2 → sx_RP xs d mi pc2 ls r w2 P) : sx_RP xs d mi pc ls (.long v :: .ref a :: r) w P :=
  sx_RP.xW hI ha hi hq hf hp (fun w2 h1 h2 _ _ => kk w2 h1 (hE.st h2 (by unfold isA at ha; omega)))
theorem sx_RP.pwN {v : Int64} (hI : WI w) (hE : EN w0 w) (hz : a = 1 ∨ 29 ≤ a) (ha : isA a) (hi : sx_ins mi pc = some (.putfield idx, 3)) (hq : sx_lk (sx_fl (sx_own mi)) idx = some (1, 1, p)) (hf : sx_fin mi 1 1 = true) (hp : pc + 3 = pc2) (kk : ∀ w2, WI w2 → EN w0 w2 → sx_RP xs d mi pc2 ls r w2 P) : sx_RP xs d mi pc ls (.long v :: .ref a :: r) w P :=
  sx_RP.xW hI ha hi hq hf hp (fun w2 h1 h2 _ h4 => kk w2 h1 (hE.stC h2 (fun j _ => h4 j) (by unfold isA at ha; omega)))
theorem sx_RP.stFQ {i x : Int32} {n : Nat} (hI : WI w) (hE : EQ w0 w) (hz : (44 ≤ a ∧ a ≤ 95) ∨ (99 ≤ a ∧ a ≤ 102)) (hi : sx_ins mi pc = some (.iastore, 1)) (hw : w[a]? = some (.inl (0, ia w a)) ∧ (ia w a).length = n) (hn : sx_in i n = true) (hf : (44 ≤ a ∧ a ≤ 95) ∨ (97 ≤ a ∧ a ≤ 102)) (hp : pc + 1 = pc2) (kk : ∀ w2, WI w2 → EQ w0 w2 → sx_RP xs d mi pc2 ls r w2 P) : sx_RP xs d mi pc ls (.int x :: .int i :: .ref a :: r) w P :=
  sx_RP.ist hi hw.1 hw.2 hn rfl rfl hp (kk _ (hI.set hw.1 sh_set (cOK.free (by omega))) (hE.st Same.set (by omega)))
theorem sx_RP.stSN {i x : Int32} (hI : WI w) (hE : EN w0 w) {A : Nat} (hz : A = 1 ∨ 29 ≤ A) (hA : isA A) (hi : sx_ins mi pc = some (.iastore, 1)) (hn : sx_in i 48 = true) (hv : inR x 3) (hp : pc + 1 = pc2) (kk : ∀ w2, WI w2 → EN w0 w2 → sx_RP xs d mi pc2 ls r w2 P) : sx_RP xs d mi pc ls (.int x :: .int i :: .ref (A + 1) :: r) w P := by
  have hw := hI.1.aS hA
  exact sx_RP.ist hi hw.1 hw.2 hn rfl rfl hp (kk _ (hI.set hw.1 sh_set (cOK.st hA (inR.set (fun k hk => hI.st hA hk) hv))) (hE.st Same.set (by unfold isA at hA; omega)))
theorem sx_RP.acSQ {A B : Nat} (hI : WI w) (hE : EQ w0 w) (hz : 29 ≤ A) (hA : isA A) (hB : isA B) (hi : sx_ins mi pc = some (.invokestatic idx, 3)) (hq : sx_lk (sx_ac (sx_own mi)) idx = some p) (hr : Nat.ble (r.map (fun v => v.category)).sum 8 = true) (hp : pc + 3 = pc2) (kk : ∀ w2, WI w2 → EQ w0 w2 → sx_RP xs d mi pc2 ls r w2 P) : sx_RP xs d mi pc ls (.int 48 :: .int 0 :: .ref (A + 1) :: .int 0 :: .ref (B + 1) :: r) w P := by
  have h1 := hI.1.aS hA
  have h2 := hI.1.aS hB
  refine sx_RP.acI (n := 48) hi hq hr rfl (by decide) h2.1 h1.1 h2.2 h1.2 hp (kk _ (hI.set h1.1 ?_ (cOK.st hA (fun k hk => hI.st hB hk))) (hE.st Same.set (by unfold isA at hA; omega)))
  show (.inl (0, List.replicate (ia w (B + 1)).length 0) : sx_C) = .inl (0, List.replicate (ia w (A + 1)).length 0)
  rw [h1.2, h2.2]
theorem sx_RP.acDQ {A B : Nat} (hI : WI w) (hE : EQ w0 w) (hz : 29 ≤ A) (hA : isA A) (hB : isA B) (hi : sx_ins mi pc = some (.invokestatic idx, 3)) (hq : sx_lk (sx_ac (sx_own mi)) idx = some p) (hr : Nat.ble (r.map (fun v => v.category)).sum 8 = true) (hp : pc + 3 = pc2) (kk : ∀ w2, WI w2 → EQ w0 w2 → sx_RP xs d mi pc2 ls r w2 P) : sx_RP xs d mi pc ls (.int 9 :: .int 0 :: .ref (A + 3) :: .int 0 :: .ref (B + 3) :: r) w P := by
  have h1 := hI.1.aD hA
  have h2 := hI.1.aD hB
  refine sx_RP.acI (n := 9) hi hq hr rfl (by decide) h2.1 h1.1 h2.2 h1.2 hp (kk _ (hI.set h1.1 ?_ (cOK.di hA (fun k hk => hI.di hB hk))) (hE.st Same.set (by unfold isA at hA; omega)))
  show (.inl (0, List.replicate (ia w (B + 3)).length 0) : sx_C) = .inl (0, List.replicate (ia w (A + 3)).length 0)
  rw [h1.2, h2.2]
theorem sx_RP.stNN {i : Int32} {x : Int64} {n : Nat} (hI : WI w) (hE : EN w0 w) (hi : sx_ins mi pc = some (.lastore, 1)) (hw : w[a]? = some (.inr (.inl (3, ja w a))) ∧ (ja w a).length = n) (hn : sx_in i n = true) (hf : a = 104 ∨ a = 106 ∨ a = 108 ∨ a = 110) (hp : pc + 1 = pc2) (kk : ∀ w2, WI w2 → EN w0 w2 → sx_RP xs d mi pc2 ls r w2 P) : sx_RP xs d mi pc ls (.long x :: .int i :: .ref a :: r) w P := by
  have hl := hw.2
  subst hl
  exact sx_RP.last hi hw.1 hn rfl hp (kk _ (hI.set hw.1 shj_set (cOK.free (by omega))) (hE.st Same.set (by omega)))
theorem EX.same {b : Nat} {w w2 : List sx_C} (h : EX b w w2) : True := trivial
end SXQ
end
-- 79c.krules.lean.txt
section
def bk (k : Nat) : Prop := k = 1 ∨ k = 2 ∨ (4 ≤ k ∧ k < 7) ∨ (103 ≤ k ∧ k < 163 ∧ (k - 103) % 6 = 0) ∨ 163 ≤ k
def kc (a : Nat) : Prop := a ≤ 111 ∨ a = 113 ∨ a = 114 ∨ a = 121
def EK (w w2 : List sx_C) : Prop := (∀ a, kc a → w2[a]? = w[a]?) ∧ ∀ k, bk k → (ia w2 112).getD k 0 = (ia w 112).getD k 0
theorem EK.rf {w : List sx_C} : EK w w := ⟨fun _ _ => rfl, fun _ _ => rfl⟩
theorem EK.tr {w w1 w2 : List sx_C} (h : EK w w1) (h2 : EK w1 w2) : EK w w2 := ⟨fun a ha => (h2.1 a ha).trans (h.1 a ha), fun k hk => (h2.2 k hk).trans (h.2 k hk)⟩
theorem EK.st {w0 w w2 : List sx_C} {a : Nat} (h : EK w0 w) (hs : Same a w w2) (ha : a = 115 ∨ (116 ≤ a ∧ a ≤ 120) ∨ 122 ≤ a) : EK w0 w2 := h.tr ⟨fun b hb => hs b (by unfold kc at hb; omega), fun k _ => by rw [ia_of (hs 112 (by omega))]⟩
theorem EK.set {w0 w : List sx_C} {a : Nat} {c c2 : sx_C} (h : EK w0 w) (_ : w[a]? = some c) (ha : (116 ≤ a ∧ a ≤ 120) ∨ 122 ≤ a) (_ : True) : EK w0 (w.set a c2) := h.st Same.set (by omega)
theorem EK.stS {w0 w w2 : List sx_C} {k : Nat} {x : Int32} (h : EK w0 w) (hs : Same 112 w w2) (hi : ia w2 112 = (ia w 112).set k x) (hk : ¬ bk k) : EK w0 w2 := h.tr ⟨fun b hb => hs b (by unfold kc at hb; omega), fun j hj => by
  rw [hi, List.getD_eq_getElem?_getD, List.getElem?_set_ne (fun e : k = j => hk (by rw [e]; exact hj)), ← List.getD_eq_getElem?_getD]⟩
def EL (w w2 : List sx_C) : Prop := (∀ a, kc a → a ≠ 114 → w2[a]? = w[a]?) ∧ ∀ k, bk k → (ia w2 112).getD k 0 = (ia w 112).getD k 0
theorem EK.el {w w2 : List sx_C} (h : EK w w2) : EL w w2 := ⟨fun a ha _ => h.1 a ha, h.2⟩
theorem EL.rf {w : List sx_C} : EL w w := EK.rf.el
theorem EL.tr {w w1 w2 : List sx_C} (h : EL w w1) (h2 : EL w1 w2) : EL w w2 := ⟨fun a ha hn => (h2.1 a ha hn).trans (h.1 a ha hn), fun k hk => (h2.2 k hk).trans (h.2 k hk)⟩
def Lay (a b : Nat) (w w2 : List sx_C) : Prop := Same b w w2 ∧ ia w2 b = ia w a
def ER (w w2 : List sx_C) : Prop := (∀ a, kc a → a ≠ 114 → w2[a]? = w[a]?) ∧ ∀ k, bk k → (ia w2 112).getD k 0 = (ia w 114).getD k 0
theorem ER.of {w w1 w2 : List sx_C} (h : EK w w1) (h2 : Lay 114 112 w1 w2) : ER w w2 := ⟨fun a ha _ => (h2.1 a (by unfold kc at ha; omega)).trans (h.1 a ha), fun k _ => by rw [h2.2, ia_of (h.1 114 (by unfold kc; omega))]⟩
theorem ER.tr {w w1 w2 : List sx_C} (h : ER w w1) (h2 : EK w1 w2) : ER w w2 := ⟨fun a ha hn => (h2.1 a ha).trans (h.1 a ha hn), fun k hk => (h2.2 k hk).trans (h.2 k hk)⟩
theorem EL.of {w0 w w1 w2 : List sx_C} (h0 : EK w0 w) (h1 : Lay 112 114 w w1) (h : ER w1 w2) : EL w0 w2 := ⟨fun a ha hn => (h.1 a ha hn).trans ((h1.1 a hn).trans (h0.1 a ha)), fun k hk => by rw [h.2 k hk, h1.2]; exact h0.2 k hk⟩
section SXKR
variable {xs : Option (List Int32)} {d mi pc pc2 a idx p : Nat} {ls : sx_L} {r : List Value} {w w0 : List sx_C} {P : Option Value → List sx_C → Prop}
theorem sx_RP.mSK {i x : Int32} {k : Nat} (hI : WI w) (hE : EK w0 w) (hz : a = 112 ∧ k ≠ 1 ∧ k ≠ 2 ∧ (k < 4 ∨ 7 ≤ k) ∧ k < 163 ∧ (103 ≤ k → (k - 103) % 6 ≠ 0)) (ha : 112 ≤ a ∧ a ≤ 115) (hi : sx_ins mi pc = some (.iastore, 1)) (hx : i = nI k) (hk : k < 172) (hv : eOK k x) (hp : pc + 1 = pc2) (kk : ∀ w2, WI w2 → EK w0 w2 → (∀ j, j < 172 → j ≠ k → (ia w2 112).getD j 0 = (ia w 112).getD j 0) → sx_RP xs d mi pc2 ls r w2 P) : sx_RP xs d mi pc ls (.int x :: .int i :: .ref a :: r) w P := by
  obtain ⟨rfl, hz⟩ := hz
  subst hx
  refine sx_RP.xM hI ha hi hk hv hp (fun w2 h1 h2 h3 => kk w2 h1 (hE.stS h2 h3 (by unfold bk; omega)) (fun j _ hne => ?_))
  rw [h3, List.getD_eq_getElem?_getD, List.getElem?_set_ne (Ne.symm hne), ← List.getD_eq_getElem?_getD]
theorem sx_RP.mFK {i x : Int32} {n : Nat} (hI : WI w) (hE : EK w0 w) (hi : sx_ins mi pc = some (.iastore, 1)) (hw : w[a]? = some (.inl (0, ia w a)) ∧ (ia w a).length = n) (hn : sx_in i n = true) (hf : a = 116 ∨ a = 117 ∨ a = 119) (hp : pc + 1 = pc2) (kk : ∀ w2, WI w2 → EK w0 w2 → (∀ j, (ia w2 112).getD j 0 = (ia w 112).getD j 0) → sx_RP xs d mi pc2 ls r w2 P) : sx_RP xs d mi pc ls (.int x :: .int i :: .ref a :: r) w P :=
  sx_RP.ist hi hw.1 hw.2 hn rfl rfl hp (kk _ (hI.set hw.1 sh_set (cOK.free (by omega))) (hE.st Same.set (by omega)) (fun j => by rw [ia_ne (by omega)]))
theorem sx_RP.mBK {i x : Int32} {n : Nat} (hI : WI w) (hE : EK w0 w) (hi : sx_ins mi pc = some (.bastore, 1)) (hw : w[a]? = some (.inl (1, ia w a)) ∧ (ia w a).length = n) (hn : sx_in i n = true) (hf : a = 118 ∨ a = 120) (hp : pc + 1 = pc2) (kk : ∀ w2, WI w2 → EK w0 w2 → (∀ j, (ia w2 112).getD j 0 = (ia w 112).getD j 0) → sx_RP xs d mi pc2 ls r w2 P) : sx_RP xs d mi pc ls (.int x :: .int i :: .ref a :: r) w P :=
  sx_RP.bst1 hi hw.1 hw.2 hn rfl rfl hp (kk _ (hI.set hw.1 sh_set (cOK.free (by omega))) (hE.st Same.set (by omega)) (fun j => by rw [ia_ne (by omega)]))
theorem sx_RP.mNK {i : Int32} {x : Int64} {n : Nat} (hI : WI w) (hE : EK w0 w) (hi : sx_ins mi pc = some (.lastore, 1)) (hw : w[a]? = some (.inr (.inl (3, ja w a))) ∧ (ja w a).length = n) (hn : sx_in i n = true) (hf : a = 124 ∨ a = 125) (hp : pc + 1 = pc2) (kk : ∀ w2, WI w2 → EK w0 w2 → (∀ j, (ia w2 112).getD j 0 = (ia w 112).getD j 0) → sx_RP xs d mi pc2 ls r w2 P) : sx_RP xs d mi pc ls (.long x :: .int i :: .ref a :: r) w P := by
  have hl := hw.2
  subst hl
  exact sx_RP.last hi hw.1 hn rfl hp (kk _ (hI.set hw.1 shj_set (cOK.free (by omega))) (hE.st Same.set (by omega)) (fun j => by rw [ia_ne (by omega)]))
theorem sx_RP.mFFK {i x : Int32} {n : Nat} (hI : WI w) (hE : EK w0 w) (hi : sx_ins mi pc = some (.iastore, 1)) (hw : w[a]? = some (.inl (0, ia w a)) ∧ (ia w a).length = n) (hn : sx_in i n = true) (hf : a = 122) (hp : pc + 1 = pc2) (kk : ∀ w2, WI w2 → EK w0 w2 → (∀ j, (ia w2 112).getD j 0 = (ia w 112).getD j 0) → sx_RP xs d mi pc2 ls r w2 P) : sx_RP xs d mi pc ls (.int x :: .int i :: .ref a :: r) w P :=
  sx_RP.ist hi hw.1 hw.2 hn rfl rfl hp (kk _ (hI.set hw.1 sh_set (cOK.free (by omega))) (hE.st Same.set (by omega)) (fun j => by rw [ia_ne (by omega)]))
theorem sx_RP.mSzK {k : Nat} {x : Int32} (hI : WI w) (hE : EK w0 w) (hi : sx_ins mi pc = some (.iastore, 1)) (hk : k < 4) (hx : inR x 40) (hp : pc + 1 = pc2) (kk : ∀ w2, WI w2 → EK w0 w2 → sx_RP xs d mi pc2 ls r w2 P) : sx_RP xs d mi pc ls (.int x :: .int (nI k) :: .ref 123 :: r) w P := by
  have hw := hI.1.a123
  refine sx_RP.ist hi hw.1 hw.2 (sx_in_nI hk (by decide)) rfl rfl hp (kk _ (hI.set hw.1 sh_set (cOK.l (fun j hj => ?_))) (hE.st Same.set (by omega)))
  rw [nI_clamp (by omega)]
  show inR (((ia w 123).set k x).getD j 0) 40
  rw [gd_set (by rw [hw.2]; exact hk)]
  split
  · exact hx
  · exact hI.l hj
theorem sx_RP.mNFK {i : Int32} {x : Int64} {n : Nat} (hI : WI w) (hE : EK w0 w) (hi : sx_ins mi pc = some (.lastore, 1)) (hw : w[a]? = some (.inr (.inl (3, ja w a))) ∧ (ja w a).length = n) (hn : sx_in i n = true) (hf : a = 124 ∨ a = 125) (hp : pc + 1 = pc2) (kk : ∀ w2, WI w2 → EK w0 w2 → (∀ j, (ia w2 112).getD j 0 = (ia w 112).getD j 0) → sx_RP xs d mi pc2 ls r w2 P) : sx_RP xs d mi pc ls (.long x :: .int i :: .ref a :: r) w P := sx_RP.mNK hI hE hi hw hn hf hp kk
end SXKR
end
-- 79d.bstate.lean.txt
section
abbrev BB : Type := List Int32 × List Int32 × Int32 × Int32 × Int32
def mkB (n : Nat) (f : Nat → Int32) (m : Nat) (g : Nat → Int32) (b0 b1 b2 : Int32) : BB := ((List.range n).map f, (List.range m).map g, b0, b1, b2)
def iN (v : Int32) : Nat := v.toInt.toNat
theorem iN_n {n : Nat} (h : n < 2 ^ 31) : iN (nI n) = n := by
  unfold iN
  rw [nI_toInt h]
  exact Int.toNat_natCast n
theorem map_congr {n : Nat} {f g : Nat → Int32} (h : ∀ i, i < n → f i = g i) : (List.range n).map f = (List.range n).map g := List.map_congr_left (fun i hi => h i (List.mem_range.mp hi))
theorem mkB_congr {n n2 m m2 : Nat} {f f2 g g2 : Nat → Int32} {a b c a2 b2 c2 : Int32} (h1 : n = n2) (h2 : ∀ i, i < n → f i = f2 i) (h3 : m = m2) (h4 : ∀ i, i < m → g i = g2 i) (h5 : a = a2) (h6 : b = b2) (h7 : c = c2) : mkB n f m g a b c = mkB n2 f2 m2 g2 a2 b2 c2 := by
  subst h1
  subst h3
  subst h5
  subst h6
  subst h7
  unfold mkB
  rw [map_congr h2, map_congr h4]
def campB (w : List sx_C) (A : Nat) : BB := mkB (iN (fi w A 3)) (fun g => fi w (A + 4 + g) 0) (iN (fi w A 5)) (fun d => (ia w (A + 3)).getD d 0) (fi w A 8) (fi w A 9) (fi w A 10)
def rowB (l : List Int32) : BB := mkB (iN (l.getD 1 0)) (fun g => l.getD (103 + 6 * g) 0) (iN (l.getD 2 0)) (fun d => l.getD (163 + d) 0) (l.getD 4 0) (l.getD 5 0) (l.getD 6 0)
def nilB : BB := mkB 0 (fun _ => 0) 0 (fun _ => 0) 0 0 0
abbrev BT : Type := BB × Int32 × BB × List Int32
def tapC (w : List sx_C) : List Int32 := (List.range (iN (fi w 96 1))).map (fun i => (ia w 97).getD i 0 &&& 255)
def tapM (w : List sx_C) : List Int32 := (List.range (iN (fi w 111 11))).map (fun i => (ia w 121).getD i 0)
def FCb (w : List sx_C) : BT := (campB w 1, fi w 0 3, if fi w 0 3 = 1 then campB w 15 else nilB, tapC w)
def FMb (w : List sx_C) : BT := (rowB (ia w 112), fi w 111 4, if fi w 111 4 = 1 then rowB (ia w 113) else nilB, tapM w)
theorem campB_same {w w2 : List sx_C} {A : Nat} (h : ∀ a, A ≤ a → a < A + 14 → w2[a]? = w[a]?) (hn : iN (fi w A 3) ≤ 10) : campB w2 A = campB w A := by
  unfold campB
  rw [fi_same 3 (h A (by omega) (by omega)), fi_same 5 (h A (by omega) (by omega)), fi_same 8 (h A (by omega) (by omega)), fi_same 9 (h A (by omega) (by omega)), fi_same 10 (h A (by omega) (by omega)), ia_of (h (A + 3) (by omega) (by omega))]
  exact mkB_congr rfl (fun i hi => fi_same 0 (h _ (by omega) (by omega))) rfl (fun _ _ => rfl) rfl rfl rfl
theorem WI.many {w : List sx_C} (h : WI w) {A : Nat} (hA : isA A) : iN (fi w A 3) ≤ 10 := by
  obtain ⟨j, hj, e⟩ := (h.c hA).1
  rw [e, iN_n (by omega)]
  exact hj
theorem WI.manyM {w : List sx_C} (h : WI w) {a : Nat} (ha : 112 ≤ a ∧ a ≤ 115) : iN ((ia w a).getD 1 0) ≤ 10 := by
  obtain ⟨j, hj, e⟩ := (h.sA ha 1 (by decide)).1 rfl
  rw [e, iN_n (by omega)]
  exact hj
theorem WI.dishedM {w : List sx_C} (h : WI w) {a : Nat} (ha : 112 ≤ a ∧ a ≤ 115) : iN ((ia w a).getD 2 0) ≤ 9 := by
  obtain ⟨j, hj, e⟩ := (h.sA ha 2 (by decide)).2.1 rfl
  rw [e, iN_n (by omega)]
  exact hj
theorem tapC_same {w w2 : List sx_C} (h1 : w2[96]? = w[96]?) (h2 : w2[97]? = w[97]?) : tapC w2 = tapC w := by
  unfold tapC
  rw [fi_same 1 h1, ia_of h2]
theorem tapM_same {w w2 : List sx_C} (h1 : w2[111]? = w[111]?) (h2 : w2[121]? = w[121]?) : tapM w2 = tapM w := by
  unfold tapM
  rw [fi_same 11 h1, ia_of h2]
theorem FCb_en {w w2 : List sx_C} (hI : WI w) (h : EN w w2) : FCb w2 = FCb w := by
  have e0 : w2[0]? = w[0]? := h.1 0 (by unfold nc; omega)
  have e1 : campB w2 1 = campB w 1 := by
    unfold campB
    rw [h.2.1 3 (by unfold nk; omega), h.2.1 5 (by unfold nk; omega), h.2.1 8 (by unfold nk; omega), h.2.1 9 (by unfold nk; omega), h.2.1 10 (by unfold nk; omega), ia_of (h.1 (1 + 3) (by unfold nc; omega))]
    have hm := hI.many (A := 1) (Or.inl rfl)
    exact mkB_congr rfl (fun i hi => by rw [show 1 + 4 + i = 5 + i by omega]; exact h.2.2 i (by omega)) rfl (fun _ _ => rfl) rfl rfl rfl
  unfold FCb
  rw [e1, fi_same 3 e0, campB_same (A := 15) (fun a h1 h2 => h.1 a (by unfold nc; omega)) (hI.many (Or.inr (Or.inl rfl))), tapC_same (h.1 96 (by unfold nc; omega)) (h.1 97 (by unfold nc; omega))]
theorem rowB_bk {l l2 : List Int32} (h : ∀ k, bk k → l2.getD k 0 = l.getD k 0) (hn : iN (l.getD 1 0) ≤ 10) : rowB l2 = rowB l := by
  unfold rowB
  rw [h 1 (by unfold bk; omega), h 2 (by unfold bk; omega), h 4 (by unfold bk; omega), h 5 (by unfold bk; omega), h 6 (by unfold bk; omega)]
  exact mkB_congr rfl (fun i hi => h _ (by unfold bk; omega)) rfl (fun i _ => h _ (by unfold bk; omega)) rfl rfl rfl
theorem FMb_el {w w2 : List sx_C} (hI : WI w) (h : EL w w2) : FMb w2 = FMb w := by
  have e1 : w2[111]? = w[111]? := h.1 111 (by unfold kc; omega) (by decide)
  have e3 : w2[113]? = w[113]? := h.1 113 (by unfold kc; omega) (by decide)
  unfold FMb
  rw [rowB_bk h.2 (hI.manyM (by decide)), fi_same 4 e1, ia_of e3, tapM_same e1 (h.1 121 (by unfold kc; omega) (by decide))]
theorem FCb_eq {w w2 : List sx_C} (hI : WI w) (h : ∀ a, a < 111 → w2[a]? = w[a]?) : FCb w2 = FCb w := by
  unfold FCb
  rw [campB_same (A := 1) (fun a _ h2 => h a (by omega)) (hI.many (Or.inl rfl)), campB_same (A := 15) (fun a _ h2 => h a (by omega)) (hI.many (Or.inr (Or.inl rfl))), fi_same 3 (h 0 (by decide)), tapC_same (h 96 (by decide)) (h 97 (by decide))]
theorem FMb_eq {w w2 : List sx_C} (h : ∀ a, 111 ≤ a → w2[a]? = w[a]?) : FMb w2 = FMb w := by
  unfold FMb
  rw [ia_of (h 112 (by decide)), ia_of (h 113 (by decide)), fi_same 4 (h 111 (by decide)), tapM_same (h 111 (by decide)) (h 121 (by decide))]
def addK (k : Int32) (b : BB) : BB := (b.1 ++ [k], b.2)
def setK (g : Nat) (k : Int32) (b : BB) : BB := (b.1.set g k, b.2)
def addD (c : Int32) (b : BB) : BB := (b.1, b.2.1 ++ [c], b.2.2)
def setD (d : Nat) (c : Int32) (b : BB) : BB := (b.1, b.2.1.set d c, b.2.2)
def setO (v : Int32) (b : BB) : BB := (b.1, b.2.1, v, b.2.2.2)
def setM (v : Int32) (b : BB) : BB := (b.1, b.2.1, b.2.2.1, v, b.2.2.2.2)
def setR (v : Int32) (b : BB) : BB := (b.1, b.2.1, b.2.2.1, b.2.2.2.1, v)
section SXBS
variable {n m : Nat} {f f2 g g2 : Nat → Int32} {a b c : Int32}
theorem mkB_len1 : (mkB n f m g a b c).1.length = n := by unfold mkB; rw [List.length_map, List.length_range]
theorem mkB_len2 : (mkB n f m g a b c).2.1.length = m := by unfold mkB; rw [List.length_map, List.length_range]
theorem map_at {i : Nat} (h : i < n) : ((List.range n).map f).getD i 0 = f i := by
  rw [List.getD_eq_getElem?_getD, List.getElem?_map, List.getElem?_range h]
  rfl
theorem mkB_at1 {i : Nat} (h : i < n) : (mkB n f m g a b c).1.getD i 0 = f i := map_at h
theorem mkB_at2 {i : Nat} (h : i < m) : (mkB n f m g a b c).2.1.getD i 0 = g i := map_at h
theorem map_add {k : Int32} (h1 : ∀ i, i < n → f2 i = f i) (h2 : f2 n = k) : (List.range (n + 1)).map f2 = (List.range n).map f ++ [k] := by
  rw [List.range_succ, List.map_append, map_congr h1, List.map_singleton, h2]
theorem map_set {j : Nat} {k : Int32} (h1 : ∀ i, i < n → i ≠ j → f2 i = f i) (h2 : j < n → f2 j = k) : (List.range n).map f2 = ((List.range n).map f).set j k := by
  apply List.ext_getElem?
  intro i
  rw [List.getElem?_set]
  by_cases hi : i < n
  · rw [List.getElem?_map, List.getElem?_range hi]
    by_cases e : j = i
    · subst e
      rw [if_pos rfl, if_pos (by rw [List.length_map, List.length_range]; exact hi)]
      exact congrArg some (h2 hi)
    · rw [if_neg e, List.getElem?_map, List.getElem?_range hi]
      exact congrArg some (h1 i hi (Ne.symm e))
  · rw [List.getElem?_eq_none (by rw [List.length_map, List.length_range]; omega)]
    split
    · rename_i e
      rw [if_neg (by rw [List.length_map, List.length_range]; omega)]
    · rw [List.getElem?_eq_none (by rw [List.length_map, List.length_range]; omega)]
theorem mkB_addK {k : Int32} (h1 : ∀ i, i < n → f2 i = f i) (h2 : f2 n = k) (h3 : ∀ i, i < m → g2 i = g i) : mkB (n + 1) f2 m g2 a b c = addK k (mkB n f m g a b c) := by
  unfold mkB addK
  rw [map_add h1 h2, map_congr h3]
theorem mkB_setK {j : Nat} {k : Int32} (h1 : ∀ i, i < n → i ≠ j → f2 i = f i) (h2 : j < n → f2 j = k) (h3 : ∀ i, i < m → g2 i = g i) : mkB n f2 m g2 a b c = setK j k (mkB n f m g a b c) := by
  unfold mkB setK
  rw [map_set h1 h2, map_congr h3]
theorem mkB_addD {k : Int32} (h3 : ∀ i, i < n → f2 i = f i) (h1 : ∀ i, i < m → g2 i = g i) (h2 : g2 m = k) : mkB n f2 (m + 1) g2 a b c = addD k (mkB n f m g a b c) := by
  unfold mkB addD
  rw [map_add h1 h2, map_congr h3]
theorem mkB_setD {j : Nat} {k : Int32} (h3 : ∀ i, i < n → f2 i = f i) (h1 : ∀ i, i < m → i ≠ j → g2 i = g i) (h2 : j < m → g2 j = k) : mkB n f2 m g2 a b c = setD j k (mkB n f m g a b c) := by
  unfold mkB setD
  rw [map_set h1 h2, map_congr h3]
end SXBS
end
