-- sheet over a fresh object
theorem sx_l40 : ∀ j, j < 40 → sx_in (nI j) (List.replicate 40 (0 : Int64)).length = true ∧ (List.replicate 40 (0 : Int64)).set (nI j).toNatClampNeg 0 = List.replicate 40 (0 : Int64) := by decide +kernel
theorem sx_l160_0 : ∀ j, j < 40 → sx_in (0 + nI j) (List.replicate 160 (0 : Int64)).length = true ∧ (List.replicate 160 (0 : Int64)).set (0 + nI j).toNatClampNeg 0 = List.replicate 160 (0 : Int64) := by decide +kernel
noncomputable def sx_h0 (b n : Int32) : List sx_C := sx_w0.set 103 (.inr (.inr (.inr (5, [.ref 104, .int b, .int n]))))
noncomputable def sx_g0 (b n : Int32) : List sx_C := ((sx_h0 b n).set 122 (.inl (0, [b, 0, 0, 0]))).set 123 (.inl (0, [n, 0, 0, 0]))
theorem sx_l160_1 : ∀ j, j < 40 → sx_in (40 + nI j) (List.replicate 160 (0 : Int64)).length = true ∧ (List.replicate 160 (0 : Int64)).set (40 + nI j).toNatClampNeg 0 = List.replicate 160 (0 : Int64) := by decide +kernel
noncomputable def sx_h1 (b n : Int32) : List sx_C := sx_w0.set 105 (.inr (.inr (.inr (5, [.ref 106, .int b, .int n]))))
noncomputable def sx_g1 (b n : Int32) : List sx_C := ((sx_h1 b n).set 122 (.inl (0, [0, b, 0, 0]))).set 123 (.inl (0, [0, n, 0, 0]))
theorem sx_l160_2 : ∀ j, j < 40 → sx_in (80 + nI j) (List.replicate 160 (0 : Int64)).length = true ∧ (List.replicate 160 (0 : Int64)).set (80 + nI j).toNatClampNeg 0 = List.replicate 160 (0 : Int64) := by decide +kernel
noncomputable def sx_h2 (b n : Int32) : List sx_C := sx_w0.set 107 (.inr (.inr (.inr (5, [.ref 108, .int b, .int n]))))
noncomputable def sx_g2 (b n : Int32) : List sx_C := ((sx_h2 b n).set 122 (.inl (0, [0, 0, b, 0]))).set 123 (.inl (0, [0, 0, n, 0]))
theorem sx_l160_3 : ∀ j, j < 40 → sx_in (120 + nI j) (List.replicate 160 (0 : Int64)).length = true ∧ (List.replicate 160 (0 : Int64)).set (120 + nI j).toNatClampNeg 0 = List.replicate 160 (0 : Int64) := by decide +kernel
noncomputable def sx_h3 (b n : Int32) : List sx_C := sx_w0.set 109 (.inr (.inr (.inr (5, [.ref 110, .int b, .int n]))))
noncomputable def sx_g3 (b n : Int32) : List sx_C := ((sx_h3 b n).set 122 (.inl (0, [0, 0, 0, b]))).set 123 (.inl (0, [0, 0, 0, n]))
set_option maxRecDepth 20000 in
set_option maxHeartbeats 4000000 in
theorem cp_114L0 (ys : List Int32) (b n u : Int32) : ∀ k j : Nat, j + k = 40 → (sx_RP (some ys) 6 114 20 [(3, .int (nI j)), (0, .ref 103), (1, .int b), (2, .int u)] [] (sx_h0 b n) (fun r w => r = none ∧ w = sx_h0 b n))
  | 0, j, h => by
    rw [show j = 40 by omega]
    refine sx_RP.step (pc2 := 21) (ls2 := [(3, .int (nI 40)), (0, .ref 103), (1, .int b), (2, .int u)]) (st2 := [.int (nI 40)]) (w3 := (sx_h0 b n)) rfl rfl ?_
    refine sx_RP.step (pc2 := 23) (ls2 := [(3, .int (nI 40)), (0, .ref 103), (1, .int b), (2, .int u)]) (st2 := [.int 40, .int (nI 40)]) (w3 := (sx_h0 b n)) rfl rfl ?_
    refine sx_RP.step (pc2 := 39) (ls2 := [(3, .int (nI 40)), (0, .ref 103), (1, .int b), (2, .int u)]) (st2 := []) (w3 := (sx_h0 b n)) rfl rfl ?_
    refine sx_RP.ret rfl rfl ?_
    exact ⟨rfl, rfl⟩
  | k + 1, j, h => by
    have hlt : j < 40 := by omega
    have IH := cp_114L0 ys b n u k (j + 1) (by omega)
    refine sx_RP.step (pc2 := 21) (ls2 := [(3, .int (nI j)), (0, .ref 103), (1, .int b), (2, .int u)]) (st2 := [.int (nI j)]) (w3 := (sx_h0 b n)) rfl rfl ?_
    refine sx_RP.step (pc2 := 23) (ls2 := [(3, .int (nI j)), (0, .ref 103), (1, .int b), (2, .int u)]) (st2 := [.int 40, .int (nI j)]) (w3 := (sx_h0 b n)) rfl rfl ?_
    refine sx_RP.br (p2 := 26) (l2 := [(3, .int (nI j)), (0, .ref 103), (1, .int b), (2, .int u)]) (s2 := []) (v2 := (sx_h0 b n)) rfl rfl (fun q => absurd (of_decide_eq_true q) (nI_ge (b := 40) hlt (by omega))) (fun _ => ?_)
    refine sx_RP.step (pc2 := 27) (ls2 := [(3, .int (nI j)), (0, .ref 103), (1, .int b), (2, .int u)]) (st2 := [.ref 103]) (w3 := (sx_h0 b n)) rfl rfl ?_
    refine sx_RP.step (pc2 := 30) (ls2 := [(3, .int (nI j)), (0, .ref 103), (1, .int b), (2, .int u)]) (st2 := [.ref 104]) (w3 := (sx_h0 b n)) rfl rfl ?_
    refine sx_RP.step (pc2 := 31) (ls2 := [(3, .int (nI j)), (0, .ref 103), (1, .int b), (2, .int u)]) (st2 := [.int (nI j), .ref 104]) (w3 := (sx_h0 b n)) rfl rfl ?_
    refine sx_RP.step (pc2 := 32) (ls2 := [(3, .int (nI j)), (0, .ref 103), (1, .int b), (2, .int u)]) (st2 := [.long 0, .int (nI j), .ref 104]) (w3 := (sx_h0 b n)) rfl rfl ?_
    refine sx_RP.last (l := List.replicate 40 0) (w2 := (sx_h0 b n)) rfl rfl (sx_l40 j hlt).1 (by rw [(sx_l40 j hlt).2]; rfl) (pc2 := 33) rfl ?_
    refine sx_RP.step (pc2 := 36) (ls2 := [(3, .int ((nI j) + 1)), (0, .ref 103), (1, .int b), (2, .int u)]) (st2 := []) (w3 := (sx_h0 b n)) rfl rfl ?_
    refine sx_RP.step (pc2 := 20) (ls2 := [(3, .int ((nI j) + 1)), (0, .ref 103), (1, .int b), (2, .int u)]) (st2 := []) (w3 := (sx_h0 b n)) rfl rfl ?_
    rw [nI_1 j]
    exact IH
set_option maxRecDepth 20000 in
set_option maxHeartbeats 4000000 in
theorem cp_230L0 (ys : List Int32) (b n u : Int32) : ∀ k j : Nat, j + k = 40 → (sx_RP (some ys) 7 230 83 [(4, .int (nI j)), (0, .ref 111), (1, .int 0), (2, .int b), (3, .int u)] [] (sx_g0 b n) (fun r w => r = some (.int n)))
  | 0, j, h => by
    rw [show j = 40 by omega]
    refine sx_RP.step (pc2 := 85) (ls2 := [(4, .int (nI 40)), (0, .ref 111), (1, .int 0), (2, .int b), (3, .int u)]) (st2 := [.int (nI 40)]) (w3 := (sx_g0 b n)) rfl rfl ?_
    refine sx_RP.step (pc2 := 87) (ls2 := [(4, .int (nI 40)), (0, .ref 111), (1, .int 0), (2, .int b), (3, .int u)]) (st2 := [.int 40, .int (nI 40)]) (w3 := (sx_g0 b n)) rfl rfl ?_
    refine sx_RP.step (pc2 := 109) (ls2 := [(4, .int (nI 40)), (0, .ref 111), (1, .int 0), (2, .int b), (3, .int u)]) (st2 := []) (w3 := (sx_g0 b n)) rfl rfl ?_
    refine sx_RP.step (pc2 := 110) (ls2 := [(4, .int (nI 40)), (0, .ref 111), (1, .int 0), (2, .int b), (3, .int u)]) (st2 := [.ref 111]) (w3 := (sx_g0 b n)) rfl rfl ?_
    refine sx_RP.step (pc2 := 113) (ls2 := [(4, .int (nI 40)), (0, .ref 111), (1, .int 0), (2, .int b), (3, .int u)]) (st2 := [.ref 123]) (w3 := (sx_g0 b n)) rfl rfl ?_
    refine sx_RP.step (pc2 := 114) (ls2 := [(4, .int (nI 40)), (0, .ref 111), (1, .int 0), (2, .int b), (3, .int u)]) (st2 := [.int 0, .ref 123]) (w3 := (sx_g0 b n)) rfl rfl ?_
    refine sx_RP.step (pc2 := 115) (ls2 := [(4, .int (nI 40)), (0, .ref 111), (1, .int 0), (2, .int b), (3, .int u)]) (st2 := [.int n]) (w3 := (sx_g0 b n)) rfl rfl ?_
    refine sx_RP.ret rfl rfl ?_
    rfl
  | k + 1, j, h => by
    have hlt : j < 40 := by omega
    have IH := cp_230L0 ys b n u k (j + 1) (by omega)
    refine sx_RP.step (pc2 := 85) (ls2 := [(4, .int (nI j)), (0, .ref 111), (1, .int 0), (2, .int b), (3, .int u)]) (st2 := [.int (nI j)]) (w3 := (sx_g0 b n)) rfl rfl ?_
    refine sx_RP.step (pc2 := 87) (ls2 := [(4, .int (nI j)), (0, .ref 111), (1, .int 0), (2, .int b), (3, .int u)]) (st2 := [.int 40, .int (nI j)]) (w3 := (sx_g0 b n)) rfl rfl ?_
    refine sx_RP.br (p2 := 90) (l2 := [(4, .int (nI j)), (0, .ref 111), (1, .int 0), (2, .int b), (3, .int u)]) (s2 := []) (v2 := (sx_g0 b n)) rfl rfl (fun q => absurd (of_decide_eq_true q) (nI_ge (b := 40) hlt (by omega))) (fun _ => ?_)
    refine sx_RP.step (pc2 := 91) (ls2 := [(4, .int (nI j)), (0, .ref 111), (1, .int 0), (2, .int b), (3, .int u)]) (st2 := [.ref 111]) (w3 := (sx_g0 b n)) rfl rfl ?_
    refine sx_RP.step (pc2 := 94) (ls2 := [(4, .int (nI j)), (0, .ref 111), (1, .int 0), (2, .int b), (3, .int u)]) (st2 := [.ref 124]) (w3 := (sx_g0 b n)) rfl rfl ?_
    refine sx_RP.step (pc2 := 96) (ls2 := [(4, .int (nI j)), (0, .ref 111), (1, .int 0), (2, .int b), (3, .int u)]) (st2 := [.int 40, .ref 124]) (w3 := (sx_g0 b n)) rfl rfl ?_
    refine sx_RP.step (pc2 := 97) (ls2 := [(4, .int (nI j)), (0, .ref 111), (1, .int 0), (2, .int b), (3, .int u)]) (st2 := [.int 0, .int 40, .ref 124]) (w3 := (sx_g0 b n)) rfl rfl ?_
    refine sx_RP.step (pc2 := 98) (ls2 := [(4, .int (nI j)), (0, .ref 111), (1, .int 0), (2, .int b), (3, .int u)]) (st2 := [.int 0, .ref 124]) (w3 := (sx_g0 b n)) rfl rfl ?_
    refine sx_RP.step (pc2 := 100) (ls2 := [(4, .int (nI j)), (0, .ref 111), (1, .int 0), (2, .int b), (3, .int u)]) (st2 := [.int (nI j), .int 0, .ref 124]) (w3 := (sx_g0 b n)) rfl rfl ?_
    refine sx_RP.step (pc2 := 101) (ls2 := [(4, .int (nI j)), (0, .ref 111), (1, .int 0), (2, .int b), (3, .int u)]) (st2 := [.int (0 + (nI j)), .ref 124]) (w3 := (sx_g0 b n)) rfl rfl ?_
    refine sx_RP.step (pc2 := 102) (ls2 := [(4, .int (nI j)), (0, .ref 111), (1, .int 0), (2, .int b), (3, .int u)]) (st2 := [.long 0, .int (0 + (nI j)), .ref 124]) (w3 := (sx_g0 b n)) rfl rfl ?_
    refine sx_RP.last (l := List.replicate 160 0) (w2 := (sx_g0 b n)) rfl rfl (sx_l160_0 j hlt).1 (by rw [(sx_l160_0 j hlt).2]; rfl) (pc2 := 103) rfl ?_
    refine sx_RP.step (pc2 := 106) (ls2 := [(4, .int ((nI j) + 1)), (0, .ref 111), (1, .int 0), (2, .int b), (3, .int u)]) (st2 := []) (w3 := (sx_g0 b n)) rfl rfl ?_
    refine sx_RP.step (pc2 := 83) (ls2 := [(4, .int ((nI j) + 1)), (0, .ref 111), (1, .int 0), (2, .int b), (3, .int u)]) (st2 := []) (w3 := (sx_g0 b n)) rfl rfl ?_
    rw [nI_1 j]
    exact IH
set_option maxRecDepth 20000 in
set_option maxHeartbeats 4000000 in
theorem cp_114L1 (ys : List Int32) (b n u : Int32) : ∀ k j : Nat, j + k = 40 → (sx_RP (some ys) 6 114 20 [(3, .int (nI j)), (0, .ref 105), (1, .int b), (2, .int u)] [] (sx_h1 b n) (fun r w => r = none ∧ w = sx_h1 b n))
  | 0, j, h => by
    rw [show j = 40 by omega]
    refine sx_RP.step (pc2 := 21) (ls2 := [(3, .int (nI 40)), (0, .ref 105), (1, .int b), (2, .int u)]) (st2 := [.int (nI 40)]) (w3 := (sx_h1 b n)) rfl rfl ?_
    refine sx_RP.step (pc2 := 23) (ls2 := [(3, .int (nI 40)), (0, .ref 105), (1, .int b), (2, .int u)]) (st2 := [.int 40, .int (nI 40)]) (w3 := (sx_h1 b n)) rfl rfl ?_
    refine sx_RP.step (pc2 := 39) (ls2 := [(3, .int (nI 40)), (0, .ref 105), (1, .int b), (2, .int u)]) (st2 := []) (w3 := (sx_h1 b n)) rfl rfl ?_
    refine sx_RP.ret rfl rfl ?_
    exact ⟨rfl, rfl⟩
  | k + 1, j, h => by
    have hlt : j < 40 := by omega
    have IH := cp_114L1 ys b n u k (j + 1) (by omega)
    refine sx_RP.step (pc2 := 21) (ls2 := [(3, .int (nI j)), (0, .ref 105), (1, .int b), (2, .int u)]) (st2 := [.int (nI j)]) (w3 := (sx_h1 b n)) rfl rfl ?_
    refine sx_RP.step (pc2 := 23) (ls2 := [(3, .int (nI j)), (0, .ref 105), (1, .int b), (2, .int u)]) (st2 := [.int 40, .int (nI j)]) (w3 := (sx_h1 b n)) rfl rfl ?_
    refine sx_RP.br (p2 := 26) (l2 := [(3, .int (nI j)), (0, .ref 105), (1, .int b), (2, .int u)]) (s2 := []) (v2 := (sx_h1 b n)) rfl rfl (fun q => absurd (of_decide_eq_true q) (nI_ge (b := 40) hlt (by omega))) (fun _ => ?_)
    refine sx_RP.step (pc2 := 27) (ls2 := [(3, .int (nI j)), (0, .ref 105), (1, .int b), (2, .int u)]) (st2 := [.ref 105]) (w3 := (sx_h1 b n)) rfl rfl ?_
    refine sx_RP.step (pc2 := 30) (ls2 := [(3, .int (nI j)), (0, .ref 105), (1, .int b), (2, .int u)]) (st2 := [.ref 106]) (w3 := (sx_h1 b n)) rfl rfl ?_
    refine sx_RP.step (pc2 := 31) (ls2 := [(3, .int (nI j)), (0, .ref 105), (1, .int b), (2, .int u)]) (st2 := [.int (nI j), .ref 106]) (w3 := (sx_h1 b n)) rfl rfl ?_
    refine sx_RP.step (pc2 := 32) (ls2 := [(3, .int (nI j)), (0, .ref 105), (1, .int b), (2, .int u)]) (st2 := [.long 0, .int (nI j), .ref 106]) (w3 := (sx_h1 b n)) rfl rfl ?_
    refine sx_RP.last (l := List.replicate 40 0) (w2 := (sx_h1 b n)) rfl rfl (sx_l40 j hlt).1 (by rw [(sx_l40 j hlt).2]; rfl) (pc2 := 33) rfl ?_
    refine sx_RP.step (pc2 := 36) (ls2 := [(3, .int ((nI j) + 1)), (0, .ref 105), (1, .int b), (2, .int u)]) (st2 := []) (w3 := (sx_h1 b n)) rfl rfl ?_
    refine sx_RP.step (pc2 := 20) (ls2 := [(3, .int ((nI j) + 1)), (0, .ref 105), (1, .int b), (2, .int u)]) (st2 := []) (w3 := (sx_h1 b n)) rfl rfl ?_
    rw [nI_1 j]
    exact IH
set_option maxRecDepth 20000 in
set_option maxHeartbeats 4000000 in
theorem cp_230L1 (ys : List Int32) (b n u : Int32) : ∀ k j : Nat, j + k = 40 → (sx_RP (some ys) 7 230 83 [(4, .int (nI j)), (0, .ref 111), (1, .int 1), (2, .int b), (3, .int u)] [] (sx_g1 b n) (fun r w => r = some (.int n)))
  | 0, j, h => by
    rw [show j = 40 by omega]
    refine sx_RP.step (pc2 := 85) (ls2 := [(4, .int (nI 40)), (0, .ref 111), (1, .int 1), (2, .int b), (3, .int u)]) (st2 := [.int (nI 40)]) (w3 := (sx_g1 b n)) rfl rfl ?_
    refine sx_RP.step (pc2 := 87) (ls2 := [(4, .int (nI 40)), (0, .ref 111), (1, .int 1), (2, .int b), (3, .int u)]) (st2 := [.int 40, .int (nI 40)]) (w3 := (sx_g1 b n)) rfl rfl ?_
    refine sx_RP.step (pc2 := 109) (ls2 := [(4, .int (nI 40)), (0, .ref 111), (1, .int 1), (2, .int b), (3, .int u)]) (st2 := []) (w3 := (sx_g1 b n)) rfl rfl ?_
    refine sx_RP.step (pc2 := 110) (ls2 := [(4, .int (nI 40)), (0, .ref 111), (1, .int 1), (2, .int b), (3, .int u)]) (st2 := [.ref 111]) (w3 := (sx_g1 b n)) rfl rfl ?_
    refine sx_RP.step (pc2 := 113) (ls2 := [(4, .int (nI 40)), (0, .ref 111), (1, .int 1), (2, .int b), (3, .int u)]) (st2 := [.ref 123]) (w3 := (sx_g1 b n)) rfl rfl ?_
    refine sx_RP.step (pc2 := 114) (ls2 := [(4, .int (nI 40)), (0, .ref 111), (1, .int 1), (2, .int b), (3, .int u)]) (st2 := [.int 1, .ref 123]) (w3 := (sx_g1 b n)) rfl rfl ?_
    refine sx_RP.step (pc2 := 115) (ls2 := [(4, .int (nI 40)), (0, .ref 111), (1, .int 1), (2, .int b), (3, .int u)]) (st2 := [.int n]) (w3 := (sx_g1 b n)) rfl rfl ?_
    refine sx_RP.ret rfl rfl ?_
    rfl
  | k + 1, j, h => by
    have hlt : j < 40 := by omega
    have IH := cp_230L1 ys b n u k (j + 1) (by omega)
    refine sx_RP.step (pc2 := 85) (ls2 := [(4, .int (nI j)), (0, .ref 111), (1, .int 1), (2, .int b), (3, .int u)]) (st2 := [.int (nI j)]) (w3 := (sx_g1 b n)) rfl rfl ?_
    refine sx_RP.step (pc2 := 87) (ls2 := [(4, .int (nI j)), (0, .ref 111), (1, .int 1), (2, .int b), (3, .int u)]) (st2 := [.int 40, .int (nI j)]) (w3 := (sx_g1 b n)) rfl rfl ?_
    refine sx_RP.br (p2 := 90) (l2 := [(4, .int (nI j)), (0, .ref 111), (1, .int 1), (2, .int b), (3, .int u)]) (s2 := []) (v2 := (sx_g1 b n)) rfl rfl (fun q => absurd (of_decide_eq_true q) (nI_ge (b := 40) hlt (by omega))) (fun _ => ?_)
    refine sx_RP.step (pc2 := 91) (ls2 := [(4, .int (nI j)), (0, .ref 111), (1, .int 1), (2, .int b), (3, .int u)]) (st2 := [.ref 111]) (w3 := (sx_g1 b n)) rfl rfl ?_
    refine sx_RP.step (pc2 := 94) (ls2 := [(4, .int (nI j)), (0, .ref 111), (1, .int 1), (2, .int b), (3, .int u)]) (st2 := [.ref 124]) (w3 := (sx_g1 b n)) rfl rfl ?_
    refine sx_RP.step (pc2 := 96) (ls2 := [(4, .int (nI j)), (0, .ref 111), (1, .int 1), (2, .int b), (3, .int u)]) (st2 := [.int 40, .ref 124]) (w3 := (sx_g1 b n)) rfl rfl ?_
    refine sx_RP.step (pc2 := 97) (ls2 := [(4, .int (nI j)), (0, .ref 111), (1, .int 1), (2, .int b), (3, .int u)]) (st2 := [.int 1, .int 40, .ref 124]) (w3 := (sx_g1 b n)) rfl rfl ?_
    refine sx_RP.step (pc2 := 98) (ls2 := [(4, .int (nI j)), (0, .ref 111), (1, .int 1), (2, .int b), (3, .int u)]) (st2 := [.int 40, .ref 124]) (w3 := (sx_g1 b n)) rfl rfl ?_
    refine sx_RP.step (pc2 := 100) (ls2 := [(4, .int (nI j)), (0, .ref 111), (1, .int 1), (2, .int b), (3, .int u)]) (st2 := [.int (nI j), .int 40, .ref 124]) (w3 := (sx_g1 b n)) rfl rfl ?_
    refine sx_RP.step (pc2 := 101) (ls2 := [(4, .int (nI j)), (0, .ref 111), (1, .int 1), (2, .int b), (3, .int u)]) (st2 := [.int (40 + (nI j)), .ref 124]) (w3 := (sx_g1 b n)) rfl rfl ?_
    refine sx_RP.step (pc2 := 102) (ls2 := [(4, .int (nI j)), (0, .ref 111), (1, .int 1), (2, .int b), (3, .int u)]) (st2 := [.long 0, .int (40 + (nI j)), .ref 124]) (w3 := (sx_g1 b n)) rfl rfl ?_
    refine sx_RP.last (l := List.replicate 160 0) (w2 := (sx_g1 b n)) rfl rfl (sx_l160_1 j hlt).1 (by rw [(sx_l160_1 j hlt).2]; rfl) (pc2 := 103) rfl ?_
    refine sx_RP.step (pc2 := 106) (ls2 := [(4, .int ((nI j) + 1)), (0, .ref 111), (1, .int 1), (2, .int b), (3, .int u)]) (st2 := []) (w3 := (sx_g1 b n)) rfl rfl ?_
    refine sx_RP.step (pc2 := 83) (ls2 := [(4, .int ((nI j) + 1)), (0, .ref 111), (1, .int 1), (2, .int b), (3, .int u)]) (st2 := []) (w3 := (sx_g1 b n)) rfl rfl ?_
    rw [nI_1 j]
    exact IH
set_option maxRecDepth 20000 in
set_option maxHeartbeats 4000000 in
theorem cp_114L2 (ys : List Int32) (b n u : Int32) : ∀ k j : Nat, j + k = 40 → (sx_RP (some ys) 6 114 20 [(3, .int (nI j)), (0, .ref 107), (1, .int b), (2, .int u)] [] (sx_h2 b n) (fun r w => r = none ∧ w = sx_h2 b n))
  | 0, j, h => by
    rw [show j = 40 by omega]
    refine sx_RP.step (pc2 := 21) (ls2 := [(3, .int (nI 40)), (0, .ref 107), (1, .int b), (2, .int u)]) (st2 := [.int (nI 40)]) (w3 := (sx_h2 b n)) rfl rfl ?_
    refine sx_RP.step (pc2 := 23) (ls2 := [(3, .int (nI 40)), (0, .ref 107), (1, .int b), (2, .int u)]) (st2 := [.int 40, .int (nI 40)]) (w3 := (sx_h2 b n)) rfl rfl ?_
    refine sx_RP.step (pc2 := 39) (ls2 := [(3, .int (nI 40)), (0, .ref 107), (1, .int b), (2, .int u)]) (st2 := []) (w3 := (sx_h2 b n)) rfl rfl ?_
    refine sx_RP.ret rfl rfl ?_
    exact ⟨rfl, rfl⟩
  | k + 1, j, h => by
    have hlt : j < 40 := by omega
    have IH := cp_114L2 ys b n u k (j + 1) (by omega)
    refine sx_RP.step (pc2 := 21) (ls2 := [(3, .int (nI j)), (0, .ref 107), (1, .int b), (2, .int u)]) (st2 := [.int (nI j)]) (w3 := (sx_h2 b n)) rfl rfl ?_
    refine sx_RP.step (pc2 := 23) (ls2 := [(3, .int (nI j)), (0, .ref 107), (1, .int b), (2, .int u)]) (st2 := [.int 40, .int (nI j)]) (w3 := (sx_h2 b n)) rfl rfl ?_
    refine sx_RP.br (p2 := 26) (l2 := [(3, .int (nI j)), (0, .ref 107), (1, .int b), (2, .int u)]) (s2 := []) (v2 := (sx_h2 b n)) rfl rfl (fun q => absurd (of_decide_eq_true q) (nI_ge (b := 40) hlt (by omega))) (fun _ => ?_)
    refine sx_RP.step (pc2 := 27) (ls2 := [(3, .int (nI j)), (0, .ref 107), (1, .int b), (2, .int u)]) (st2 := [.ref 107]) (w3 := (sx_h2 b n)) rfl rfl ?_
    refine sx_RP.step (pc2 := 30) (ls2 := [(3, .int (nI j)), (0, .ref 107), (1, .int b), (2, .int u)]) (st2 := [.ref 108]) (w3 := (sx_h2 b n)) rfl rfl ?_
    refine sx_RP.step (pc2 := 31) (ls2 := [(3, .int (nI j)), (0, .ref 107), (1, .int b), (2, .int u)]) (st2 := [.int (nI j), .ref 108]) (w3 := (sx_h2 b n)) rfl rfl ?_
    refine sx_RP.step (pc2 := 32) (ls2 := [(3, .int (nI j)), (0, .ref 107), (1, .int b), (2, .int u)]) (st2 := [.long 0, .int (nI j), .ref 108]) (w3 := (sx_h2 b n)) rfl rfl ?_
    refine sx_RP.last (l := List.replicate 40 0) (w2 := (sx_h2 b n)) rfl rfl (sx_l40 j hlt).1 (by rw [(sx_l40 j hlt).2]; rfl) (pc2 := 33) rfl ?_
    refine sx_RP.step (pc2 := 36) (ls2 := [(3, .int ((nI j) + 1)), (0, .ref 107), (1, .int b), (2, .int u)]) (st2 := []) (w3 := (sx_h2 b n)) rfl rfl ?_
    refine sx_RP.step (pc2 := 20) (ls2 := [(3, .int ((nI j) + 1)), (0, .ref 107), (1, .int b), (2, .int u)]) (st2 := []) (w3 := (sx_h2 b n)) rfl rfl ?_
    rw [nI_1 j]
    exact IH
set_option maxRecDepth 20000 in
set_option maxHeartbeats 4000000 in
theorem cp_230L2 (ys : List Int32) (b n u : Int32) : ∀ k j : Nat, j + k = 40 → (sx_RP (some ys) 7 230 83 [(4, .int (nI j)), (0, .ref 111), (1, .int 2), (2, .int b), (3, .int u)] [] (sx_g2 b n) (fun r w => r = some (.int n)))
  | 0, j, h => by
    rw [show j = 40 by omega]
    refine sx_RP.step (pc2 := 85) (ls2 := [(4, .int (nI 40)), (0, .ref 111), (1, .int 2), (2, .int b), (3, .int u)]) (st2 := [.int (nI 40)]) (w3 := (sx_g2 b n)) rfl rfl ?_
    refine sx_RP.step (pc2 := 87) (ls2 := [(4, .int (nI 40)), (0, .ref 111), (1, .int 2), (2, .int b), (3, .int u)]) (st2 := [.int 40, .int (nI 40)]) (w3 := (sx_g2 b n)) rfl rfl ?_
    refine sx_RP.step (pc2 := 109) (ls2 := [(4, .int (nI 40)), (0, .ref 111), (1, .int 2), (2, .int b), (3, .int u)]) (st2 := []) (w3 := (sx_g2 b n)) rfl rfl ?_
    refine sx_RP.step (pc2 := 110) (ls2 := [(4, .int (nI 40)), (0, .ref 111), (1, .int 2), (2, .int b), (3, .int u)]) (st2 := [.ref 111]) (w3 := (sx_g2 b n)) rfl rfl ?_
    refine sx_RP.step (pc2 := 113) (ls2 := [(4, .int (nI 40)), (0, .ref 111), (1, .int 2), (2, .int b), (3, .int u)]) (st2 := [.ref 123]) (w3 := (sx_g2 b n)) rfl rfl ?_
    refine sx_RP.step (pc2 := 114) (ls2 := [(4, .int (nI 40)), (0, .ref 111), (1, .int 2), (2, .int b), (3, .int u)]) (st2 := [.int 2, .ref 123]) (w3 := (sx_g2 b n)) rfl rfl ?_
    refine sx_RP.step (pc2 := 115) (ls2 := [(4, .int (nI 40)), (0, .ref 111), (1, .int 2), (2, .int b), (3, .int u)]) (st2 := [.int n]) (w3 := (sx_g2 b n)) rfl rfl ?_
    refine sx_RP.ret rfl rfl ?_
    rfl
  | k + 1, j, h => by
    have hlt : j < 40 := by omega
    have IH := cp_230L2 ys b n u k (j + 1) (by omega)
    refine sx_RP.step (pc2 := 85) (ls2 := [(4, .int (nI j)), (0, .ref 111), (1, .int 2), (2, .int b), (3, .int u)]) (st2 := [.int (nI j)]) (w3 := (sx_g2 b n)) rfl rfl ?_
    refine sx_RP.step (pc2 := 87) (ls2 := [(4, .int (nI j)), (0, .ref 111), (1, .int 2), (2, .int b), (3, .int u)]) (st2 := [.int 40, .int (nI j)]) (w3 := (sx_g2 b n)) rfl rfl ?_
    refine sx_RP.br (p2 := 90) (l2 := [(4, .int (nI j)), (0, .ref 111), (1, .int 2), (2, .int b), (3, .int u)]) (s2 := []) (v2 := (sx_g2 b n)) rfl rfl (fun q => absurd (of_decide_eq_true q) (nI_ge (b := 40) hlt (by omega))) (fun _ => ?_)
    refine sx_RP.step (pc2 := 91) (ls2 := [(4, .int (nI j)), (0, .ref 111), (1, .int 2), (2, .int b), (3, .int u)]) (st2 := [.ref 111]) (w3 := (sx_g2 b n)) rfl rfl ?_
    refine sx_RP.step (pc2 := 94) (ls2 := [(4, .int (nI j)), (0, .ref 111), (1, .int 2), (2, .int b), (3, .int u)]) (st2 := [.ref 124]) (w3 := (sx_g2 b n)) rfl rfl ?_
    refine sx_RP.step (pc2 := 96) (ls2 := [(4, .int (nI j)), (0, .ref 111), (1, .int 2), (2, .int b), (3, .int u)]) (st2 := [.int 40, .ref 124]) (w3 := (sx_g2 b n)) rfl rfl ?_
    refine sx_RP.step (pc2 := 97) (ls2 := [(4, .int (nI j)), (0, .ref 111), (1, .int 2), (2, .int b), (3, .int u)]) (st2 := [.int 2, .int 40, .ref 124]) (w3 := (sx_g2 b n)) rfl rfl ?_
    refine sx_RP.step (pc2 := 98) (ls2 := [(4, .int (nI j)), (0, .ref 111), (1, .int 2), (2, .int b), (3, .int u)]) (st2 := [.int 80, .ref 124]) (w3 := (sx_g2 b n)) rfl rfl ?_
    refine sx_RP.step (pc2 := 100) (ls2 := [(4, .int (nI j)), (0, .ref 111), (1, .int 2), (2, .int b), (3, .int u)]) (st2 := [.int (nI j), .int 80, .ref 124]) (w3 := (sx_g2 b n)) rfl rfl ?_
    refine sx_RP.step (pc2 := 101) (ls2 := [(4, .int (nI j)), (0, .ref 111), (1, .int 2), (2, .int b), (3, .int u)]) (st2 := [.int (80 + (nI j)), .ref 124]) (w3 := (sx_g2 b n)) rfl rfl ?_
    refine sx_RP.step (pc2 := 102) (ls2 := [(4, .int (nI j)), (0, .ref 111), (1, .int 2), (2, .int b), (3, .int u)]) (st2 := [.long 0, .int (80 + (nI j)), .ref 124]) (w3 := (sx_g2 b n)) rfl rfl ?_
    refine sx_RP.last (l := List.replicate 160 0) (w2 := (sx_g2 b n)) rfl rfl (sx_l160_2 j hlt).1 (by rw [(sx_l160_2 j hlt).2]; rfl) (pc2 := 103) rfl ?_
    refine sx_RP.step (pc2 := 106) (ls2 := [(4, .int ((nI j) + 1)), (0, .ref 111), (1, .int 2), (2, .int b), (3, .int u)]) (st2 := []) (w3 := (sx_g2 b n)) rfl rfl ?_
    refine sx_RP.step (pc2 := 83) (ls2 := [(4, .int ((nI j) + 1)), (0, .ref 111), (1, .int 2), (2, .int b), (3, .int u)]) (st2 := []) (w3 := (sx_g2 b n)) rfl rfl ?_
    rw [nI_1 j]
    exact IH
set_option maxRecDepth 20000 in
set_option maxHeartbeats 4000000 in
theorem cp_114L3 (ys : List Int32) (b n u : Int32) : ∀ k j : Nat, j + k = 40 → (sx_RP (some ys) 6 114 20 [(3, .int (nI j)), (0, .ref 109), (1, .int b), (2, .int u)] [] (sx_h3 b n) (fun r w => r = none ∧ w = sx_h3 b n))
  | 0, j, h => by
    rw [show j = 40 by omega]
    refine sx_RP.step (pc2 := 21) (ls2 := [(3, .int (nI 40)), (0, .ref 109), (1, .int b), (2, .int u)]) (st2 := [.int (nI 40)]) (w3 := (sx_h3 b n)) rfl rfl ?_
    refine sx_RP.step (pc2 := 23) (ls2 := [(3, .int (nI 40)), (0, .ref 109), (1, .int b), (2, .int u)]) (st2 := [.int 40, .int (nI 40)]) (w3 := (sx_h3 b n)) rfl rfl ?_
    refine sx_RP.step (pc2 := 39) (ls2 := [(3, .int (nI 40)), (0, .ref 109), (1, .int b), (2, .int u)]) (st2 := []) (w3 := (sx_h3 b n)) rfl rfl ?_
    refine sx_RP.ret rfl rfl ?_
    exact ⟨rfl, rfl⟩
  | k + 1, j, h => by
    have hlt : j < 40 := by omega
    have IH := cp_114L3 ys b n u k (j + 1) (by omega)
    refine sx_RP.step (pc2 := 21) (ls2 := [(3, .int (nI j)), (0, .ref 109), (1, .int b), (2, .int u)]) (st2 := [.int (nI j)]) (w3 := (sx_h3 b n)) rfl rfl ?_
    refine sx_RP.step (pc2 := 23) (ls2 := [(3, .int (nI j)), (0, .ref 109), (1, .int b), (2, .int u)]) (st2 := [.int 40, .int (nI j)]) (w3 := (sx_h3 b n)) rfl rfl ?_
    refine sx_RP.br (p2 := 26) (l2 := [(3, .int (nI j)), (0, .ref 109), (1, .int b), (2, .int u)]) (s2 := []) (v2 := (sx_h3 b n)) rfl rfl (fun q => absurd (of_decide_eq_true q) (nI_ge (b := 40) hlt (by omega))) (fun _ => ?_)
    refine sx_RP.step (pc2 := 27) (ls2 := [(3, .int (nI j)), (0, .ref 109), (1, .int b), (2, .int u)]) (st2 := [.ref 109]) (w3 := (sx_h3 b n)) rfl rfl ?_
    refine sx_RP.step (pc2 := 30) (ls2 := [(3, .int (nI j)), (0, .ref 109), (1, .int b), (2, .int u)]) (st2 := [.ref 110]) (w3 := (sx_h3 b n)) rfl rfl ?_
    refine sx_RP.step (pc2 := 31) (ls2 := [(3, .int (nI j)), (0, .ref 109), (1, .int b), (2, .int u)]) (st2 := [.int (nI j), .ref 110]) (w3 := (sx_h3 b n)) rfl rfl ?_
    refine sx_RP.step (pc2 := 32) (ls2 := [(3, .int (nI j)), (0, .ref 109), (1, .int b), (2, .int u)]) (st2 := [.long 0, .int (nI j), .ref 110]) (w3 := (sx_h3 b n)) rfl rfl ?_
    refine sx_RP.last (l := List.replicate 40 0) (w2 := (sx_h3 b n)) rfl rfl (sx_l40 j hlt).1 (by rw [(sx_l40 j hlt).2]; rfl) (pc2 := 33) rfl ?_
    refine sx_RP.step (pc2 := 36) (ls2 := [(3, .int ((nI j) + 1)), (0, .ref 109), (1, .int b), (2, .int u)]) (st2 := []) (w3 := (sx_h3 b n)) rfl rfl ?_
    refine sx_RP.step (pc2 := 20) (ls2 := [(3, .int ((nI j) + 1)), (0, .ref 109), (1, .int b), (2, .int u)]) (st2 := []) (w3 := (sx_h3 b n)) rfl rfl ?_
    rw [nI_1 j]
    exact IH
set_option maxRecDepth 20000 in
set_option maxHeartbeats 4000000 in
theorem cp_230L3 (ys : List Int32) (b n u : Int32) : ∀ k j : Nat, j + k = 40 → (sx_RP (some ys) 7 230 83 [(4, .int (nI j)), (0, .ref 111), (1, .int 3), (2, .int b), (3, .int u)] [] (sx_g3 b n) (fun r w => r = some (.int n)))
  | 0, j, h => by
    rw [show j = 40 by omega]
    refine sx_RP.step (pc2 := 85) (ls2 := [(4, .int (nI 40)), (0, .ref 111), (1, .int 3), (2, .int b), (3, .int u)]) (st2 := [.int (nI 40)]) (w3 := (sx_g3 b n)) rfl rfl ?_
    refine sx_RP.step (pc2 := 87) (ls2 := [(4, .int (nI 40)), (0, .ref 111), (1, .int 3), (2, .int b), (3, .int u)]) (st2 := [.int 40, .int (nI 40)]) (w3 := (sx_g3 b n)) rfl rfl ?_
    refine sx_RP.step (pc2 := 109) (ls2 := [(4, .int (nI 40)), (0, .ref 111), (1, .int 3), (2, .int b), (3, .int u)]) (st2 := []) (w3 := (sx_g3 b n)) rfl rfl ?_
    refine sx_RP.step (pc2 := 110) (ls2 := [(4, .int (nI 40)), (0, .ref 111), (1, .int 3), (2, .int b), (3, .int u)]) (st2 := [.ref 111]) (w3 := (sx_g3 b n)) rfl rfl ?_
    refine sx_RP.step (pc2 := 113) (ls2 := [(4, .int (nI 40)), (0, .ref 111), (1, .int 3), (2, .int b), (3, .int u)]) (st2 := [.ref 123]) (w3 := (sx_g3 b n)) rfl rfl ?_
    refine sx_RP.step (pc2 := 114) (ls2 := [(4, .int (nI 40)), (0, .ref 111), (1, .int 3), (2, .int b), (3, .int u)]) (st2 := [.int 3, .ref 123]) (w3 := (sx_g3 b n)) rfl rfl ?_
    refine sx_RP.step (pc2 := 115) (ls2 := [(4, .int (nI 40)), (0, .ref 111), (1, .int 3), (2, .int b), (3, .int u)]) (st2 := [.int n]) (w3 := (sx_g3 b n)) rfl rfl ?_
    refine sx_RP.ret rfl rfl ?_
    rfl
  | k + 1, j, h => by
    have hlt : j < 40 := by omega
    have IH := cp_230L3 ys b n u k (j + 1) (by omega)
    refine sx_RP.step (pc2 := 85) (ls2 := [(4, .int (nI j)), (0, .ref 111), (1, .int 3), (2, .int b), (3, .int u)]) (st2 := [.int (nI j)]) (w3 := (sx_g3 b n)) rfl rfl ?_
    refine sx_RP.step (pc2 := 87) (ls2 := [(4, .int (nI j)), (0, .ref 111), (1, .int 3), (2, .int b), (3, .int u)]) (st2 := [.int 40, .int (nI j)]) (w3 := (sx_g3 b n)) rfl rfl ?_
    refine sx_RP.br (p2 := 90) (l2 := [(4, .int (nI j)), (0, .ref 111), (1, .int 3), (2, .int b), (3, .int u)]) (s2 := []) (v2 := (sx_g3 b n)) rfl rfl (fun q => absurd (of_decide_eq_true q) (nI_ge (b := 40) hlt (by omega))) (fun _ => ?_)
    refine sx_RP.step (pc2 := 91) (ls2 := [(4, .int (nI j)), (0, .ref 111), (1, .int 3), (2, .int b), (3, .int u)]) (st2 := [.ref 111]) (w3 := (sx_g3 b n)) rfl rfl ?_
    refine sx_RP.step (pc2 := 94) (ls2 := [(4, .int (nI j)), (0, .ref 111), (1, .int 3), (2, .int b), (3, .int u)]) (st2 := [.ref 124]) (w3 := (sx_g3 b n)) rfl rfl ?_
    refine sx_RP.step (pc2 := 96) (ls2 := [(4, .int (nI j)), (0, .ref 111), (1, .int 3), (2, .int b), (3, .int u)]) (st2 := [.int 40, .ref 124]) (w3 := (sx_g3 b n)) rfl rfl ?_
    refine sx_RP.step (pc2 := 97) (ls2 := [(4, .int (nI j)), (0, .ref 111), (1, .int 3), (2, .int b), (3, .int u)]) (st2 := [.int 3, .int 40, .ref 124]) (w3 := (sx_g3 b n)) rfl rfl ?_
    refine sx_RP.step (pc2 := 98) (ls2 := [(4, .int (nI j)), (0, .ref 111), (1, .int 3), (2, .int b), (3, .int u)]) (st2 := [.int 120, .ref 124]) (w3 := (sx_g3 b n)) rfl rfl ?_
    refine sx_RP.step (pc2 := 100) (ls2 := [(4, .int (nI j)), (0, .ref 111), (1, .int 3), (2, .int b), (3, .int u)]) (st2 := [.int (nI j), .int 120, .ref 124]) (w3 := (sx_g3 b n)) rfl rfl ?_
    refine sx_RP.step (pc2 := 101) (ls2 := [(4, .int (nI j)), (0, .ref 111), (1, .int 3), (2, .int b), (3, .int u)]) (st2 := [.int (120 + (nI j)), .ref 124]) (w3 := (sx_g3 b n)) rfl rfl ?_
    refine sx_RP.step (pc2 := 102) (ls2 := [(4, .int (nI j)), (0, .ref 111), (1, .int 3), (2, .int b), (3, .int u)]) (st2 := [.long 0, .int (120 + (nI j)), .ref 124]) (w3 := (sx_g3 b n)) rfl rfl ?_
    refine sx_RP.last (l := List.replicate 160 0) (w2 := (sx_g3 b n)) rfl rfl (sx_l160_3 j hlt).1 (by rw [(sx_l160_3 j hlt).2]; rfl) (pc2 := 103) rfl ?_
    refine sx_RP.step (pc2 := 106) (ls2 := [(4, .int ((nI j) + 1)), (0, .ref 111), (1, .int 3), (2, .int b), (3, .int u)]) (st2 := []) (w3 := (sx_g3 b n)) rfl rfl ?_
    refine sx_RP.step (pc2 := 83) (ls2 := [(4, .int ((nI j) + 1)), (0, .ref 111), (1, .int 3), (2, .int b), (3, .int u)]) (st2 := []) (w3 := (sx_g3 b n)) rfl rfl ?_
    rw [nI_1 j]
    exact IH
set_option maxRecDepth 20000 in
set_option maxHeartbeats 4000000 in
theorem cp_114_0_0 (ys : List Int32) (a3 : Int32) : sx_RU (some ys) 6 114 0 (lv_args 0 [.ref 103, .int 0, .int a3]) [] sx_w0 none (sx_h0 0 0) := by
  have h : sx_RP (some ys) 6 114 0 (lv_args 0 [.ref 103, .int 0, .int a3]) [] sx_w0 (fun r w2 => r = none ∧ w2 = sx_h0 0 0) := by
    refine sx_RP.step (pc2 := 1) (ls2 := [(0, .ref 103), (1, .int 0), (2, .int a3)]) (st2 := [.ref 103]) (w3 := sx_w0) rfl rfl ?_
    refine sx_RP.step (pc2 := 2) (ls2 := [(0, .ref 103), (1, .int 0), (2, .int a3)]) (st2 := [.int 0, .ref 103]) (w3 := sx_w0) rfl rfl ?_
    refine sx_RP.step (pc2 := 5) (ls2 := [(0, .ref 103), (1, .int 0), (2, .int a3)]) (st2 := []) (w3 := (sx_w0.set 103 (.inr (.inr (.inr (5, [.ref 104, .int 0, .int 0])))))) rfl rfl ?_
    refine sx_RP.step (pc2 := 6) (ls2 := [(0, .ref 103), (1, .int 0), (2, .int a3)]) (st2 := [.ref 103]) (w3 := (sx_w0.set 103 (.inr (.inr (.inr (5, [.ref 104, .int 0, .int 0])))))) rfl rfl ?_
    refine sx_RP.step (pc2 := 7) (ls2 := [(0, .ref 103), (1, .int 0), (2, .int a3)]) (st2 := [.int 0, .ref 103]) (w3 := (sx_w0.set 103 (.inr (.inr (.inr (5, [.ref 104, .int 0, .int 0])))))) rfl rfl ?_
    refine sx_RP.step (pc2 := 10) (ls2 := [(0, .ref 103), (1, .int 0), (2, .int a3)]) (st2 := [.ref 103]) (w3 := (sx_w0.set 103 (.inr (.inr (.inr (5, [.ref 104, .int 0, .int 0])))))) rfl rfl ?_
    refine sx_RP.step (pc2 := 11) (ls2 := [(0, .ref 103), (1, .int 0), (2, .int a3)]) (st2 := [.int 0, .ref 103]) (w3 := (sx_w0.set 103 (.inr (.inr (.inr (5, [.ref 104, .int 0, .int 0])))))) rfl rfl ?_
    refine sx_RP.step (pc2 := 15) (ls2 := [(0, .ref 103), (1, .int 0), (2, .int a3)]) (st2 := [.int 0, .ref 103]) (w3 := (sx_w0.set 103 (.inr (.inr (.inr (5, [.ref 104, .int 0, .int 0])))))) rfl rfl ?_
    refine sx_RP.step (pc2 := 18) (ls2 := [(0, .ref 103), (1, .int 0), (2, .int a3)]) (st2 := []) (w3 := (sx_w0.set 103 (.inr (.inr (.inr (5, [.ref 104, .int 0, .int 0])))))) rfl rfl ?_
    refine sx_RP.step (pc2 := 19) (ls2 := [(0, .ref 103), (1, .int 0), (2, .int a3)]) (st2 := [.int 0]) (w3 := (sx_w0.set 103 (.inr (.inr (.inr (5, [.ref 104, .int 0, .int 0])))))) rfl rfl ?_
    refine sx_RP.step (pc2 := 20) (ls2 := [(3, .int 0), (0, .ref 103), (1, .int 0), (2, .int a3)]) (st2 := []) (w3 := (sx_w0.set 103 (.inr (.inr (.inr (5, [.ref 104, .int 0, .int 0])))))) rfl rfl ?_
    refine sx_RP.wd (w2 := sx_h0 0 0) rfl ?_
    exact cp_114L0 ys 0 0 a3 40 0 (by omega)
  obtain ⟨r, w2, h1, rfl, rfl⟩ := h
  exact h1
set_option maxRecDepth 20000 in
set_option maxHeartbeats 4000000 in
theorem k_sheet_0_0 (ys : List Int32) (a3 : Int32) (p0 : 0 ≤ a3) (p1 : a3 ≤ 40) : sx_twoI ys 111 230 [.int 0, .int 0, .int a3] := by
  refine sx_twoI.of ?_
  refine sx_RP.step (pc2 := 1) (ls2 := [(0, .ref 0), (1, .int 0), (2, .int 0), (3, .int a3)]) (st2 := [.int 0]) (w3 := sx_w0) rfl rfl ?_
  refine sx_RP.cl (as2 := [.int 0]) (rest2 := []) rfl rfl rfl rfl rfl rfl ?_
  refine sx_RP.step (pc2 := 1) (ls2 := [(0, .int 0)]) (st2 := [.int 0]) (w3 := sx_w0) rfl rfl ?_
  refine sx_RP.step (pc2 := 2) (ls2 := [(0, .int 0)]) (st2 := [.int 0, .int 0]) (w3 := sx_w0) rfl rfl ?_
  refine sx_RP.step (pc2 := 3) (ls2 := [(0, .int 0)]) (st2 := [.int 3, .int 0, .int 0]) (w3 := sx_w0) rfl rfl ?_
  refine sx_RP.cl (as2 := [.int 0, .int 0, .int 3]) (rest2 := []) rfl rfl rfl rfl rfl rfl ?_
  refine sx_RP.step (pc2 := 1) (ls2 := [(0, .int 0), (1, .int 0), (2, .int 3)]) (st2 := [.int 0]) (w3 := sx_w0) rfl rfl ?_
  refine sx_RP.step (pc2 := 2) (ls2 := [(0, .int 0), (1, .int 0), (2, .int 3)]) (st2 := [.int 0, .int 0]) (w3 := sx_w0) rfl rfl ?_
  refine sx_RP.step (pc2 := 5) (ls2 := [(0, .int 0), (1, .int 0), (2, .int 3)]) (st2 := []) (w3 := sx_w0) rfl rfl ?_
  refine sx_RP.step (pc2 := 6) (ls2 := [(0, .int 0), (1, .int 0), (2, .int 3)]) (st2 := [.int 0]) (w3 := sx_w0) rfl rfl ?_
  refine sx_RP.step (pc2 := 7) (ls2 := [(0, .int 0), (1, .int 0), (2, .int 3)]) (st2 := [.int 3, .int 0]) (w3 := sx_w0) rfl rfl ?_
  refine sx_RP.step (pc2 := 10) (ls2 := [(0, .int 0), (1, .int 0), (2, .int 3)]) (st2 := []) (w3 := sx_w0) rfl rfl ?_
  refine sx_RP.step (pc2 := 11) (ls2 := [(0, .int 0), (1, .int 0), (2, .int 3)]) (st2 := [.int 1]) (w3 := sx_w0) rfl rfl ?_
  refine sx_RP.step (pc2 := 15) (ls2 := [(0, .int 0), (1, .int 0), (2, .int 3)]) (st2 := [.int 1]) (w3 := sx_w0) rfl rfl ?_
  refine sx_RP.retc (st3 := [.int 1]) rfl rfl rfl ?_
  refine sx_RP.retc (st3 := [.int 1]) rfl rfl rfl ?_
  refine sx_RP.step (pc2 := 7) (ls2 := [(0, .ref 0), (1, .int 0), (2, .int 0), (3, .int a3)]) (st2 := []) (w3 := sx_w0) rfl rfl ?_
  refine sx_RP.step (pc2 := 8) (ls2 := [(0, .ref 0), (1, .int 0), (2, .int 0), (3, .int a3)]) (st2 := [.int 0]) (w3 := sx_w0) rfl rfl ?_
  refine sx_RP.cl (as2 := [.int 0]) (rest2 := []) rfl rfl rfl rfl rfl rfl ?_
  refine sx_RP.step (pc2 := 1) (ls2 := [(0, .int 0)]) (st2 := [.int 0]) (w3 := sx_w0) rfl rfl ?_
  refine sx_RP.step (pc2 := 3) (ls2 := [(0, .int 0)]) (st2 := [.int 8, .int 0]) (w3 := sx_w0) rfl rfl ?_
  refine sx_RP.step (pc2 := 6) (ls2 := [(0, .int 0)]) (st2 := []) (w3 := sx_w0) rfl rfl ?_
  refine sx_RP.step (pc2 := 7) (ls2 := [(0, .int 0)]) (st2 := [.int 0]) (w3 := sx_w0) rfl rfl ?_
  refine sx_RP.step (pc2 := 9) (ls2 := [(0, .int 0)]) (st2 := [.int 16, .int 0]) (w3 := sx_w0) rfl rfl ?_
  refine sx_RP.step (pc2 := 12) (ls2 := [(0, .int 0)]) (st2 := []) (w3 := sx_w0) rfl rfl ?_
  refine sx_RP.step (pc2 := 13) (ls2 := [(0, .int 0)]) (st2 := [.int 0]) (w3 := sx_w0) rfl rfl ?_
  refine sx_RP.step (pc2 := 15) (ls2 := [(0, .int 0)]) (st2 := [.int 64, .int 0]) (w3 := sx_w0) rfl rfl ?_
  refine sx_RP.step (pc2 := 22) (ls2 := [(0, .int 0)]) (st2 := []) (w3 := sx_w0) rfl rfl ?_
  refine sx_RP.step (pc2 := 23) (ls2 := [(0, .int 0)]) (st2 := [.int 0]) (w3 := sx_w0) rfl rfl ?_
  refine sx_RP.retc (st3 := [.int 0]) rfl rfl rfl ?_
  refine sx_RP.step (pc2 := 14) (ls2 := [(0, .ref 0), (1, .int 0), (2, .int 0), (3, .int a3)]) (st2 := []) (w3 := sx_w0) rfl rfl ?_
  refine sx_RP.step (pc2 := 15) (ls2 := [(0, .ref 0), (1, .int 0), (2, .int 0), (3, .int a3)]) (st2 := [.int 0]) (w3 := sx_w0) rfl rfl ?_
  refine sx_RP.step (pc2 := 25) (ls2 := [(0, .ref 0), (1, .int 0), (2, .int 0), (3, .int a3)]) (st2 := []) (w3 := sx_w0) rfl rfl ?_
  refine sx_RP.step (pc2 := 26) (ls2 := [(0, .ref 0), (1, .int 0), (2, .int 0), (3, .int a3)]) (st2 := [.int a3]) (w3 := sx_w0) rfl rfl ?_
  refine sx_RP.br (p1 := 37) (l1 := [(0, .ref 0), (1, .int 0), (2, .int 0), (3, .int a3)]) (s1 := []) (v1 := sx_w0) rfl rfl (fun _ => ?_) (fun q => absurd p0 (of_decide_eq_false q))
  refine sx_RP.step (pc2 := 38) (ls2 := [(0, .ref 0), (1, .int 0), (2, .int 0), (3, .int a3)]) (st2 := [.int a3]) (w3 := sx_w0) rfl rfl ?_
  refine sx_RP.step (pc2 := 40) (ls2 := [(0, .ref 0), (1, .int 0), (2, .int 0), (3, .int a3)]) (st2 := [.int 40, .int a3]) (w3 := sx_w0) rfl rfl ?_
  refine sx_RP.br (p1 := 50) (l1 := [(0, .ref 0), (1, .int 0), (2, .int 0), (3, .int a3)]) (s1 := []) (v1 := sx_w0) rfl rfl (fun _ => ?_) (fun q => absurd p1 (of_decide_eq_false q))
  refine sx_RP.step (pc2 := 51) (ls2 := [(0, .ref 0), (1, .int 0), (2, .int 0), (3, .int a3)]) (st2 := [.ref 0]) (w3 := sx_w0) rfl rfl ?_
  refine sx_RP.step (pc2 := 54) (ls2 := [(0, .ref 0), (1, .int 0), (2, .int 0), (3, .int a3)]) (st2 := [.ref 98]) (w3 := sx_w0) rfl rfl ?_
  refine sx_RP.step (pc2 := 55) (ls2 := [(0, .ref 0), (1, .int 0), (2, .int 0), (3, .int a3)]) (st2 := [.int 0, .ref 98]) (w3 := sx_w0) rfl rfl ?_
  refine sx_RP.step (pc2 := 56) (ls2 := [(0, .ref 0), (1, .int 0), (2, .int 0), (3, .int a3)]) (st2 := [.ref 103]) (w3 := sx_w0) rfl rfl ?_
  refine sx_RP.step (pc2 := 57) (ls2 := [(0, .ref 0), (1, .int 0), (2, .int 0), (3, .int a3)]) (st2 := [.int 0, .ref 103]) (w3 := sx_w0) rfl rfl ?_
  refine sx_RP.step (pc2 := 58) (ls2 := [(0, .ref 0), (1, .int 0), (2, .int 0), (3, .int a3)]) (st2 := [.int a3, .int 0, .ref 103]) (w3 := sx_w0) rfl rfl ?_
  refine sx_RP.cu (as := [.ref 103, .int 0, .int a3]) (rest2 := []) (st3 := []) rfl rfl rfl rfl rfl (cp_114_0_0 ys a3) rfl ?_
  refine sx_RP.step (pc2 := 62) (ls2 := [(0, .ref 0), (1, .int 0), (2, .int 0), (3, .int a3)]) (st2 := [.ref 0]) (w3 := (sx_h0 0 0)) rfl rfl ?_
  refine sx_RP.step (pc2 := 65) (ls2 := [(0, .ref 0), (1, .int 0), (2, .int 0), (3, .int a3)]) (st2 := [.ref 98]) (w3 := (sx_h0 0 0)) rfl rfl ?_
  refine sx_RP.step (pc2 := 66) (ls2 := [(0, .ref 0), (1, .int 0), (2, .int 0), (3, .int a3)]) (st2 := [.int 0, .ref 98]) (w3 := (sx_h0 0 0)) rfl rfl ?_
  refine sx_RP.step (pc2 := 67) (ls2 := [(0, .ref 0), (1, .int 0), (2, .int 0), (3, .int a3)]) (st2 := [.ref 103]) (w3 := (sx_h0 0 0)) rfl rfl ?_
  refine sx_RP.step (pc2 := 70) (ls2 := [(0, .ref 0), (1, .int 0), (2, .int 0), (3, .int a3)]) (st2 := [.int 0]) (w3 := (sx_h0 0 0)) rfl rfl ?_
  refine sx_RP.ret rfl rfl ?_
  refine ⟨0, rfl, ⟨_, rfl⟩, ?_⟩
  refine sx_RP.step (pc2 := 1) (ls2 := [(0, .ref 111), (1, .int 0), (2, .int 0), (3, .int a3)]) (st2 := [.int 0]) (w3 := (sx_h0 0 0)) rfl rfl ?_
  refine sx_RP.cl (as2 := [.int 0]) (rest2 := []) rfl rfl rfl rfl rfl rfl ?_
  refine sx_RP.step (pc2 := 1) (ls2 := [(0, .int 0)]) (st2 := [.int 0]) (w3 := (sx_h0 0 0)) rfl rfl ?_
  refine sx_RP.step (pc2 := 2) (ls2 := [(0, .int 0)]) (st2 := [.int 0, .int 0]) (w3 := (sx_h0 0 0)) rfl rfl ?_
  refine sx_RP.step (pc2 := 3) (ls2 := [(0, .int 0)]) (st2 := [.int 3, .int 0, .int 0]) (w3 := (sx_h0 0 0)) rfl rfl ?_
  refine sx_RP.cl (as2 := [.int 0, .int 0, .int 3]) (rest2 := []) rfl rfl rfl rfl rfl rfl ?_
  refine sx_RP.step (pc2 := 1) (ls2 := [(0, .int 0), (1, .int 0), (2, .int 3)]) (st2 := [.int 0]) (w3 := (sx_h0 0 0)) rfl rfl ?_
  refine sx_RP.step (pc2 := 2) (ls2 := [(0, .int 0), (1, .int 0), (2, .int 3)]) (st2 := [.int 0, .int 0]) (w3 := (sx_h0 0 0)) rfl rfl ?_
  refine sx_RP.step (pc2 := 5) (ls2 := [(0, .int 0), (1, .int 0), (2, .int 3)]) (st2 := []) (w3 := (sx_h0 0 0)) rfl rfl ?_
  refine sx_RP.step (pc2 := 6) (ls2 := [(0, .int 0), (1, .int 0), (2, .int 3)]) (st2 := [.int 0]) (w3 := (sx_h0 0 0)) rfl rfl ?_
  refine sx_RP.step (pc2 := 7) (ls2 := [(0, .int 0), (1, .int 0), (2, .int 3)]) (st2 := [.int 3, .int 0]) (w3 := (sx_h0 0 0)) rfl rfl ?_
  refine sx_RP.step (pc2 := 10) (ls2 := [(0, .int 0), (1, .int 0), (2, .int 3)]) (st2 := []) (w3 := (sx_h0 0 0)) rfl rfl ?_
  refine sx_RP.step (pc2 := 11) (ls2 := [(0, .int 0), (1, .int 0), (2, .int 3)]) (st2 := [.int 1]) (w3 := (sx_h0 0 0)) rfl rfl ?_
  refine sx_RP.step (pc2 := 15) (ls2 := [(0, .int 0), (1, .int 0), (2, .int 3)]) (st2 := [.int 1]) (w3 := (sx_h0 0 0)) rfl rfl ?_
  refine sx_RP.retc (st3 := [.int 1]) rfl rfl rfl ?_
  refine sx_RP.retc (st3 := [.int 1]) rfl rfl rfl ?_
  refine sx_RP.step (pc2 := 7) (ls2 := [(0, .ref 111), (1, .int 0), (2, .int 0), (3, .int a3)]) (st2 := []) (w3 := (sx_h0 0 0)) rfl rfl ?_
  refine sx_RP.step (pc2 := 8) (ls2 := [(0, .ref 111), (1, .int 0), (2, .int 0), (3, .int a3)]) (st2 := [.int 0]) (w3 := (sx_h0 0 0)) rfl rfl ?_
  refine sx_RP.step (pc2 := 35) (ls2 := [(0, .ref 111), (1, .int 0), (2, .int 0), (3, .int a3)]) (st2 := []) (w3 := (sx_h0 0 0)) rfl rfl ?_
  refine sx_RP.step (pc2 := 36) (ls2 := [(0, .ref 111), (1, .int 0), (2, .int 0), (3, .int a3)]) (st2 := [.int a3]) (w3 := (sx_h0 0 0)) rfl rfl ?_
  refine sx_RP.br (p1 := 46) (l1 := [(0, .ref 111), (1, .int 0), (2, .int 0), (3, .int a3)]) (s1 := []) (v1 := (sx_h0 0 0)) rfl rfl (fun _ => ?_) (fun q => absurd p0 (of_decide_eq_false q))
  refine sx_RP.step (pc2 := 47) (ls2 := [(0, .ref 111), (1, .int 0), (2, .int 0), (3, .int a3)]) (st2 := [.int a3]) (w3 := (sx_h0 0 0)) rfl rfl ?_
  refine sx_RP.step (pc2 := 49) (ls2 := [(0, .ref 111), (1, .int 0), (2, .int 0), (3, .int a3)]) (st2 := [.int 40, .int a3]) (w3 := (sx_h0 0 0)) rfl rfl ?_
  refine sx_RP.br (p1 := 58) (l1 := [(0, .ref 111), (1, .int 0), (2, .int 0), (3, .int a3)]) (s1 := []) (v1 := (sx_h0 0 0)) rfl rfl (fun _ => ?_) (fun q => absurd p1 (of_decide_eq_false q))
  refine sx_RP.step (pc2 := 59) (ls2 := [(0, .ref 111), (1, .int 0), (2, .int 0), (3, .int a3)]) (st2 := [.ref 111]) (w3 := (sx_h0 0 0)) rfl rfl ?_
  refine sx_RP.step (pc2 := 62) (ls2 := [(0, .ref 111), (1, .int 0), (2, .int 0), (3, .int a3)]) (st2 := [.ref 122]) (w3 := (sx_h0 0 0)) rfl rfl ?_
  refine sx_RP.step (pc2 := 63) (ls2 := [(0, .ref 111), (1, .int 0), (2, .int 0), (3, .int a3)]) (st2 := [.int 0, .ref 122]) (w3 := (sx_h0 0 0)) rfl rfl ?_
  refine sx_RP.step (pc2 := 64) (ls2 := [(0, .ref 111), (1, .int 0), (2, .int 0), (3, .int a3)]) (st2 := [.int 0, .int 0, .ref 122]) (w3 := (sx_h0 0 0)) rfl rfl ?_
  refine sx_RP.step (pc2 := 65) (ls2 := [(0, .ref 111), (1, .int 0), (2, .int 0), (3, .int a3)]) (st2 := []) (w3 := ((sx_h0 0 0).set 122 (.inl (0, [0, 0, 0, 0])))) rfl rfl ?_
  refine sx_RP.step (pc2 := 66) (ls2 := [(0, .ref 111), (1, .int 0), (2, .int 0), (3, .int a3)]) (st2 := [.ref 111]) (w3 := ((sx_h0 0 0).set 122 (.inl (0, [0, 0, 0, 0])))) rfl rfl ?_
  refine sx_RP.step (pc2 := 69) (ls2 := [(0, .ref 111), (1, .int 0), (2, .int 0), (3, .int a3)]) (st2 := [.ref 123]) (w3 := ((sx_h0 0 0).set 122 (.inl (0, [0, 0, 0, 0])))) rfl rfl ?_
  refine sx_RP.step (pc2 := 70) (ls2 := [(0, .ref 111), (1, .int 0), (2, .int 0), (3, .int a3)]) (st2 := [.int 0, .ref 123]) (w3 := ((sx_h0 0 0).set 122 (.inl (0, [0, 0, 0, 0])))) rfl rfl ?_
  refine sx_RP.step (pc2 := 71) (ls2 := [(0, .ref 111), (1, .int 0), (2, .int 0), (3, .int a3)]) (st2 := [.int 0, .int 0, .ref 123]) (w3 := ((sx_h0 0 0).set 122 (.inl (0, [0, 0, 0, 0])))) rfl rfl ?_
  refine sx_RP.step (pc2 := 74) (ls2 := [(0, .ref 111), (1, .int 0), (2, .int 0), (3, .int a3)]) (st2 := [.int 0, .ref 123]) (w3 := ((sx_h0 0 0).set 122 (.inl (0, [0, 0, 0, 0])))) rfl rfl ?_
  refine sx_RP.step (pc2 := 75) (ls2 := [(0, .ref 111), (1, .int 0), (2, .int 0), (3, .int a3)]) (st2 := [.int 0, .int 0, .ref 123]) (w3 := ((sx_h0 0 0).set 122 (.inl (0, [0, 0, 0, 0])))) rfl rfl ?_
  refine sx_RP.step (pc2 := 79) (ls2 := [(0, .ref 111), (1, .int 0), (2, .int 0), (3, .int a3)]) (st2 := [.int 0, .int 0, .ref 123]) (w3 := ((sx_h0 0 0).set 122 (.inl (0, [0, 0, 0, 0])))) rfl rfl ?_
  refine sx_RP.step (pc2 := 80) (ls2 := [(0, .ref 111), (1, .int 0), (2, .int 0), (3, .int a3)]) (st2 := []) (w3 := (((sx_h0 0 0).set 122 (.inl (0, [0, 0, 0, 0]))).set 123 (.inl (0, [0, 0, 0, 0])))) rfl rfl ?_
  refine sx_RP.step (pc2 := 81) (ls2 := [(0, .ref 111), (1, .int 0), (2, .int 0), (3, .int a3)]) (st2 := [.int 0]) (w3 := (((sx_h0 0 0).set 122 (.inl (0, [0, 0, 0, 0]))).set 123 (.inl (0, [0, 0, 0, 0])))) rfl rfl ?_
  refine sx_RP.step (pc2 := 83) (ls2 := [(4, .int 0), (0, .ref 111), (1, .int 0), (2, .int 0), (3, .int a3)]) (st2 := []) (w3 := (((sx_h0 0 0).set 122 (.inl (0, [0, 0, 0, 0]))).set 123 (.inl (0, [0, 0, 0, 0])))) rfl rfl ?_
  refine sx_RP.wd (w2 := sx_g0 0 0) rfl ?_
  exact cp_230L0 ys 0 0 a3 40 0 (by omega)
set_option maxRecDepth 20000 in
set_option maxHeartbeats 4000000 in
theorem cp_114_0_8 (ys : List Int32) (a3 : Int32) : sx_RU (some ys) 6 114 0 (lv_args 0 [.ref 103, .int 8, .int a3]) [] sx_w0 none (sx_h0 8 a3) := by
  have h : sx_RP (some ys) 6 114 0 (lv_args 0 [.ref 103, .int 8, .int a3]) [] sx_w0 (fun r w2 => r = none ∧ w2 = sx_h0 8 a3) := by
    refine sx_RP.step (pc2 := 1) (ls2 := [(0, .ref 103), (1, .int 8), (2, .int a3)]) (st2 := [.ref 103]) (w3 := sx_w0) rfl rfl ?_
    refine sx_RP.step (pc2 := 2) (ls2 := [(0, .ref 103), (1, .int 8), (2, .int a3)]) (st2 := [.int 8, .ref 103]) (w3 := sx_w0) rfl rfl ?_
    refine sx_RP.step (pc2 := 5) (ls2 := [(0, .ref 103), (1, .int 8), (2, .int a3)]) (st2 := []) (w3 := (sx_w0.set 103 (.inr (.inr (.inr (5, [.ref 104, .int 8, .int 0])))))) rfl rfl ?_
    refine sx_RP.step (pc2 := 6) (ls2 := [(0, .ref 103), (1, .int 8), (2, .int a3)]) (st2 := [.ref 103]) (w3 := (sx_w0.set 103 (.inr (.inr (.inr (5, [.ref 104, .int 8, .int 0])))))) rfl rfl ?_
    refine sx_RP.step (pc2 := 7) (ls2 := [(0, .ref 103), (1, .int 8), (2, .int a3)]) (st2 := [.int 8, .ref 103]) (w3 := (sx_w0.set 103 (.inr (.inr (.inr (5, [.ref 104, .int 8, .int 0])))))) rfl rfl ?_
    refine sx_RP.step (pc2 := 14) (ls2 := [(0, .ref 103), (1, .int 8), (2, .int a3)]) (st2 := [.ref 103]) (w3 := (sx_w0.set 103 (.inr (.inr (.inr (5, [.ref 104, .int 8, .int 0])))))) rfl rfl ?_
    refine sx_RP.step (pc2 := 15) (ls2 := [(0, .ref 103), (1, .int 8), (2, .int a3)]) (st2 := [.int a3, .ref 103]) (w3 := (sx_w0.set 103 (.inr (.inr (.inr (5, [.ref 104, .int 8, .int 0])))))) rfl rfl ?_
    refine sx_RP.step (pc2 := 18) (ls2 := [(0, .ref 103), (1, .int 8), (2, .int a3)]) (st2 := []) (w3 := (sx_w0.set 103 (.inr (.inr (.inr (5, [.ref 104, .int 8, .int a3])))))) rfl rfl ?_
    refine sx_RP.step (pc2 := 19) (ls2 := [(0, .ref 103), (1, .int 8), (2, .int a3)]) (st2 := [.int 0]) (w3 := (sx_w0.set 103 (.inr (.inr (.inr (5, [.ref 104, .int 8, .int a3])))))) rfl rfl ?_
    refine sx_RP.step (pc2 := 20) (ls2 := [(3, .int 0), (0, .ref 103), (1, .int 8), (2, .int a3)]) (st2 := []) (w3 := (sx_w0.set 103 (.inr (.inr (.inr (5, [.ref 104, .int 8, .int a3])))))) rfl rfl ?_
    refine sx_RP.wd (w2 := sx_h0 8 a3) rfl ?_
    exact cp_114L0 ys 8 a3 a3 40 0 (by omega)
  obtain ⟨r, w2, h1, rfl, rfl⟩ := h
  exact h1
set_option maxRecDepth 20000 in
set_option maxHeartbeats 4000000 in
theorem k_sheet_0_8 (ys : List Int32) (a3 : Int32) (p0 : 0 ≤ a3) (p1 : a3 ≤ 40) : sx_twoI ys 111 230 [.int 0, .int 8, .int a3] := by
  refine sx_twoI.of ?_
  refine sx_RP.step (pc2 := 1) (ls2 := [(0, .ref 0), (1, .int 0), (2, .int 8), (3, .int a3)]) (st2 := [.int 0]) (w3 := sx_w0) rfl rfl ?_
  refine sx_RP.cl (as2 := [.int 0]) (rest2 := []) rfl rfl rfl rfl rfl rfl ?_
  refine sx_RP.step (pc2 := 1) (ls2 := [(0, .int 0)]) (st2 := [.int 0]) (w3 := sx_w0) rfl rfl ?_
  refine sx_RP.step (pc2 := 2) (ls2 := [(0, .int 0)]) (st2 := [.int 0, .int 0]) (w3 := sx_w0) rfl rfl ?_
  refine sx_RP.step (pc2 := 3) (ls2 := [(0, .int 0)]) (st2 := [.int 3, .int 0, .int 0]) (w3 := sx_w0) rfl rfl ?_
  refine sx_RP.cl (as2 := [.int 0, .int 0, .int 3]) (rest2 := []) rfl rfl rfl rfl rfl rfl ?_
  refine sx_RP.step (pc2 := 1) (ls2 := [(0, .int 0), (1, .int 0), (2, .int 3)]) (st2 := [.int 0]) (w3 := sx_w0) rfl rfl ?_
  refine sx_RP.step (pc2 := 2) (ls2 := [(0, .int 0), (1, .int 0), (2, .int 3)]) (st2 := [.int 0, .int 0]) (w3 := sx_w0) rfl rfl ?_
  refine sx_RP.step (pc2 := 5) (ls2 := [(0, .int 0), (1, .int 0), (2, .int 3)]) (st2 := []) (w3 := sx_w0) rfl rfl ?_
  refine sx_RP.step (pc2 := 6) (ls2 := [(0, .int 0), (1, .int 0), (2, .int 3)]) (st2 := [.int 0]) (w3 := sx_w0) rfl rfl ?_
  refine sx_RP.step (pc2 := 7) (ls2 := [(0, .int 0), (1, .int 0), (2, .int 3)]) (st2 := [.int 3, .int 0]) (w3 := sx_w0) rfl rfl ?_
  refine sx_RP.step (pc2 := 10) (ls2 := [(0, .int 0), (1, .int 0), (2, .int 3)]) (st2 := []) (w3 := sx_w0) rfl rfl ?_
  refine sx_RP.step (pc2 := 11) (ls2 := [(0, .int 0), (1, .int 0), (2, .int 3)]) (st2 := [.int 1]) (w3 := sx_w0) rfl rfl ?_
  refine sx_RP.step (pc2 := 15) (ls2 := [(0, .int 0), (1, .int 0), (2, .int 3)]) (st2 := [.int 1]) (w3 := sx_w0) rfl rfl ?_
  refine sx_RP.retc (st3 := [.int 1]) rfl rfl rfl ?_
  refine sx_RP.retc (st3 := [.int 1]) rfl rfl rfl ?_
  refine sx_RP.step (pc2 := 7) (ls2 := [(0, .ref 0), (1, .int 0), (2, .int 8), (3, .int a3)]) (st2 := []) (w3 := sx_w0) rfl rfl ?_
  refine sx_RP.step (pc2 := 8) (ls2 := [(0, .ref 0), (1, .int 0), (2, .int 8), (3, .int a3)]) (st2 := [.int 8]) (w3 := sx_w0) rfl rfl ?_
  refine sx_RP.cl (as2 := [.int 8]) (rest2 := []) rfl rfl rfl rfl rfl rfl ?_
  refine sx_RP.step (pc2 := 1) (ls2 := [(0, .int 8)]) (st2 := [.int 8]) (w3 := sx_w0) rfl rfl ?_
  refine sx_RP.step (pc2 := 3) (ls2 := [(0, .int 8)]) (st2 := [.int 8, .int 8]) (w3 := sx_w0) rfl rfl ?_
  refine sx_RP.step (pc2 := 18) (ls2 := [(0, .int 8)]) (st2 := []) (w3 := sx_w0) rfl rfl ?_
  refine sx_RP.step (pc2 := 19) (ls2 := [(0, .int 8)]) (st2 := [.int 1]) (w3 := sx_w0) rfl rfl ?_
  refine sx_RP.step (pc2 := 23) (ls2 := [(0, .int 8)]) (st2 := [.int 1]) (w3 := sx_w0) rfl rfl ?_
  refine sx_RP.retc (st3 := [.int 1]) rfl rfl rfl ?_
  refine sx_RP.step (pc2 := 25) (ls2 := [(0, .ref 0), (1, .int 0), (2, .int 8), (3, .int a3)]) (st2 := []) (w3 := sx_w0) rfl rfl ?_
  refine sx_RP.step (pc2 := 26) (ls2 := [(0, .ref 0), (1, .int 0), (2, .int 8), (3, .int a3)]) (st2 := [.int a3]) (w3 := sx_w0) rfl rfl ?_
  refine sx_RP.br (p1 := 37) (l1 := [(0, .ref 0), (1, .int 0), (2, .int 8), (3, .int a3)]) (s1 := []) (v1 := sx_w0) rfl rfl (fun _ => ?_) (fun q => absurd p0 (of_decide_eq_false q))
  refine sx_RP.step (pc2 := 38) (ls2 := [(0, .ref 0), (1, .int 0), (2, .int 8), (3, .int a3)]) (st2 := [.int a3]) (w3 := sx_w0) rfl rfl ?_
  refine sx_RP.step (pc2 := 40) (ls2 := [(0, .ref 0), (1, .int 0), (2, .int 8), (3, .int a3)]) (st2 := [.int 40, .int a3]) (w3 := sx_w0) rfl rfl ?_
  refine sx_RP.br (p1 := 50) (l1 := [(0, .ref 0), (1, .int 0), (2, .int 8), (3, .int a3)]) (s1 := []) (v1 := sx_w0) rfl rfl (fun _ => ?_) (fun q => absurd p1 (of_decide_eq_false q))
  refine sx_RP.step (pc2 := 51) (ls2 := [(0, .ref 0), (1, .int 0), (2, .int 8), (3, .int a3)]) (st2 := [.ref 0]) (w3 := sx_w0) rfl rfl ?_
  refine sx_RP.step (pc2 := 54) (ls2 := [(0, .ref 0), (1, .int 0), (2, .int 8), (3, .int a3)]) (st2 := [.ref 98]) (w3 := sx_w0) rfl rfl ?_
  refine sx_RP.step (pc2 := 55) (ls2 := [(0, .ref 0), (1, .int 0), (2, .int 8), (3, .int a3)]) (st2 := [.int 0, .ref 98]) (w3 := sx_w0) rfl rfl ?_
  refine sx_RP.step (pc2 := 56) (ls2 := [(0, .ref 0), (1, .int 0), (2, .int 8), (3, .int a3)]) (st2 := [.ref 103]) (w3 := sx_w0) rfl rfl ?_
  refine sx_RP.step (pc2 := 57) (ls2 := [(0, .ref 0), (1, .int 0), (2, .int 8), (3, .int a3)]) (st2 := [.int 8, .ref 103]) (w3 := sx_w0) rfl rfl ?_
  refine sx_RP.step (pc2 := 58) (ls2 := [(0, .ref 0), (1, .int 0), (2, .int 8), (3, .int a3)]) (st2 := [.int a3, .int 8, .ref 103]) (w3 := sx_w0) rfl rfl ?_
  refine sx_RP.cu (as := [.ref 103, .int 8, .int a3]) (rest2 := []) (st3 := []) rfl rfl rfl rfl rfl (cp_114_0_8 ys a3) rfl ?_
  refine sx_RP.step (pc2 := 62) (ls2 := [(0, .ref 0), (1, .int 0), (2, .int 8), (3, .int a3)]) (st2 := [.ref 0]) (w3 := (sx_h0 8 a3)) rfl rfl ?_
  refine sx_RP.step (pc2 := 65) (ls2 := [(0, .ref 0), (1, .int 0), (2, .int 8), (3, .int a3)]) (st2 := [.ref 98]) (w3 := (sx_h0 8 a3)) rfl rfl ?_
  refine sx_RP.step (pc2 := 66) (ls2 := [(0, .ref 0), (1, .int 0), (2, .int 8), (3, .int a3)]) (st2 := [.int 0, .ref 98]) (w3 := (sx_h0 8 a3)) rfl rfl ?_
  refine sx_RP.step (pc2 := 67) (ls2 := [(0, .ref 0), (1, .int 0), (2, .int 8), (3, .int a3)]) (st2 := [.ref 103]) (w3 := (sx_h0 8 a3)) rfl rfl ?_
  refine sx_RP.step (pc2 := 70) (ls2 := [(0, .ref 0), (1, .int 0), (2, .int 8), (3, .int a3)]) (st2 := [.int a3]) (w3 := (sx_h0 8 a3)) rfl rfl ?_
  refine sx_RP.ret rfl rfl ?_
  refine ⟨a3, rfl, ⟨_, rfl⟩, ?_⟩
  refine sx_RP.step (pc2 := 1) (ls2 := [(0, .ref 111), (1, .int 0), (2, .int 8), (3, .int a3)]) (st2 := [.int 0]) (w3 := (sx_h0 8 a3)) rfl rfl ?_
  refine sx_RP.cl (as2 := [.int 0]) (rest2 := []) rfl rfl rfl rfl rfl rfl ?_
  refine sx_RP.step (pc2 := 1) (ls2 := [(0, .int 0)]) (st2 := [.int 0]) (w3 := (sx_h0 8 a3)) rfl rfl ?_
  refine sx_RP.step (pc2 := 2) (ls2 := [(0, .int 0)]) (st2 := [.int 0, .int 0]) (w3 := (sx_h0 8 a3)) rfl rfl ?_
  refine sx_RP.step (pc2 := 3) (ls2 := [(0, .int 0)]) (st2 := [.int 3, .int 0, .int 0]) (w3 := (sx_h0 8 a3)) rfl rfl ?_
  refine sx_RP.cl (as2 := [.int 0, .int 0, .int 3]) (rest2 := []) rfl rfl rfl rfl rfl rfl ?_
  refine sx_RP.step (pc2 := 1) (ls2 := [(0, .int 0), (1, .int 0), (2, .int 3)]) (st2 := [.int 0]) (w3 := (sx_h0 8 a3)) rfl rfl ?_
  refine sx_RP.step (pc2 := 2) (ls2 := [(0, .int 0), (1, .int 0), (2, .int 3)]) (st2 := [.int 0, .int 0]) (w3 := (sx_h0 8 a3)) rfl rfl ?_
  refine sx_RP.step (pc2 := 5) (ls2 := [(0, .int 0), (1, .int 0), (2, .int 3)]) (st2 := []) (w3 := (sx_h0 8 a3)) rfl rfl ?_
  refine sx_RP.step (pc2 := 6) (ls2 := [(0, .int 0), (1, .int 0), (2, .int 3)]) (st2 := [.int 0]) (w3 := (sx_h0 8 a3)) rfl rfl ?_
  refine sx_RP.step (pc2 := 7) (ls2 := [(0, .int 0), (1, .int 0), (2, .int 3)]) (st2 := [.int 3, .int 0]) (w3 := (sx_h0 8 a3)) rfl rfl ?_
  refine sx_RP.step (pc2 := 10) (ls2 := [(0, .int 0), (1, .int 0), (2, .int 3)]) (st2 := []) (w3 := (sx_h0 8 a3)) rfl rfl ?_
  refine sx_RP.step (pc2 := 11) (ls2 := [(0, .int 0), (1, .int 0), (2, .int 3)]) (st2 := [.int 1]) (w3 := (sx_h0 8 a3)) rfl rfl ?_
  refine sx_RP.step (pc2 := 15) (ls2 := [(0, .int 0), (1, .int 0), (2, .int 3)]) (st2 := [.int 1]) (w3 := (sx_h0 8 a3)) rfl rfl ?_
  refine sx_RP.retc (st3 := [.int 1]) rfl rfl rfl ?_
  refine sx_RP.retc (st3 := [.int 1]) rfl rfl rfl ?_
  refine sx_RP.step (pc2 := 7) (ls2 := [(0, .ref 111), (1, .int 0), (2, .int 8), (3, .int a3)]) (st2 := []) (w3 := (sx_h0 8 a3)) rfl rfl ?_
  refine sx_RP.step (pc2 := 8) (ls2 := [(0, .ref 111), (1, .int 0), (2, .int 8), (3, .int a3)]) (st2 := [.int 8]) (w3 := (sx_h0 8 a3)) rfl rfl ?_
  refine sx_RP.step (pc2 := 11) (ls2 := [(0, .ref 111), (1, .int 0), (2, .int 8), (3, .int a3)]) (st2 := []) (w3 := (sx_h0 8 a3)) rfl rfl ?_
  refine sx_RP.step (pc2 := 12) (ls2 := [(0, .ref 111), (1, .int 0), (2, .int 8), (3, .int a3)]) (st2 := [.int 8]) (w3 := (sx_h0 8 a3)) rfl rfl ?_
  refine sx_RP.step (pc2 := 14) (ls2 := [(0, .ref 111), (1, .int 0), (2, .int 8), (3, .int a3)]) (st2 := [.int 8, .int 8]) (w3 := (sx_h0 8 a3)) rfl rfl ?_
  refine sx_RP.step (pc2 := 35) (ls2 := [(0, .ref 111), (1, .int 0), (2, .int 8), (3, .int a3)]) (st2 := []) (w3 := (sx_h0 8 a3)) rfl rfl ?_
  refine sx_RP.step (pc2 := 36) (ls2 := [(0, .ref 111), (1, .int 0), (2, .int 8), (3, .int a3)]) (st2 := [.int a3]) (w3 := (sx_h0 8 a3)) rfl rfl ?_
  refine sx_RP.br (p1 := 46) (l1 := [(0, .ref 111), (1, .int 0), (2, .int 8), (3, .int a3)]) (s1 := []) (v1 := (sx_h0 8 a3)) rfl rfl (fun _ => ?_) (fun q => absurd p0 (of_decide_eq_false q))
  refine sx_RP.step (pc2 := 47) (ls2 := [(0, .ref 111), (1, .int 0), (2, .int 8), (3, .int a3)]) (st2 := [.int a3]) (w3 := (sx_h0 8 a3)) rfl rfl ?_
  refine sx_RP.step (pc2 := 49) (ls2 := [(0, .ref 111), (1, .int 0), (2, .int 8), (3, .int a3)]) (st2 := [.int 40, .int a3]) (w3 := (sx_h0 8 a3)) rfl rfl ?_
  refine sx_RP.br (p1 := 58) (l1 := [(0, .ref 111), (1, .int 0), (2, .int 8), (3, .int a3)]) (s1 := []) (v1 := (sx_h0 8 a3)) rfl rfl (fun _ => ?_) (fun q => absurd p1 (of_decide_eq_false q))
  refine sx_RP.step (pc2 := 59) (ls2 := [(0, .ref 111), (1, .int 0), (2, .int 8), (3, .int a3)]) (st2 := [.ref 111]) (w3 := (sx_h0 8 a3)) rfl rfl ?_
  refine sx_RP.step (pc2 := 62) (ls2 := [(0, .ref 111), (1, .int 0), (2, .int 8), (3, .int a3)]) (st2 := [.ref 122]) (w3 := (sx_h0 8 a3)) rfl rfl ?_
  refine sx_RP.step (pc2 := 63) (ls2 := [(0, .ref 111), (1, .int 0), (2, .int 8), (3, .int a3)]) (st2 := [.int 0, .ref 122]) (w3 := (sx_h0 8 a3)) rfl rfl ?_
  refine sx_RP.step (pc2 := 64) (ls2 := [(0, .ref 111), (1, .int 0), (2, .int 8), (3, .int a3)]) (st2 := [.int 8, .int 0, .ref 122]) (w3 := (sx_h0 8 a3)) rfl rfl ?_
  refine sx_RP.step (pc2 := 65) (ls2 := [(0, .ref 111), (1, .int 0), (2, .int 8), (3, .int a3)]) (st2 := []) (w3 := ((sx_h0 8 a3).set 122 (.inl (0, [8, 0, 0, 0])))) rfl rfl ?_
  refine sx_RP.step (pc2 := 66) (ls2 := [(0, .ref 111), (1, .int 0), (2, .int 8), (3, .int a3)]) (st2 := [.ref 111]) (w3 := ((sx_h0 8 a3).set 122 (.inl (0, [8, 0, 0, 0])))) rfl rfl ?_
  refine sx_RP.step (pc2 := 69) (ls2 := [(0, .ref 111), (1, .int 0), (2, .int 8), (3, .int a3)]) (st2 := [.ref 123]) (w3 := ((sx_h0 8 a3).set 122 (.inl (0, [8, 0, 0, 0])))) rfl rfl ?_
  refine sx_RP.step (pc2 := 70) (ls2 := [(0, .ref 111), (1, .int 0), (2, .int 8), (3, .int a3)]) (st2 := [.int 0, .ref 123]) (w3 := ((sx_h0 8 a3).set 122 (.inl (0, [8, 0, 0, 0])))) rfl rfl ?_
  refine sx_RP.step (pc2 := 71) (ls2 := [(0, .ref 111), (1, .int 0), (2, .int 8), (3, .int a3)]) (st2 := [.int 8, .int 0, .ref 123]) (w3 := ((sx_h0 8 a3).set 122 (.inl (0, [8, 0, 0, 0])))) rfl rfl ?_
  refine sx_RP.step (pc2 := 78) (ls2 := [(0, .ref 111), (1, .int 0), (2, .int 8), (3, .int a3)]) (st2 := [.int 0, .ref 123]) (w3 := ((sx_h0 8 a3).set 122 (.inl (0, [8, 0, 0, 0])))) rfl rfl ?_
  refine sx_RP.step (pc2 := 79) (ls2 := [(0, .ref 111), (1, .int 0), (2, .int 8), (3, .int a3)]) (st2 := [.int a3, .int 0, .ref 123]) (w3 := ((sx_h0 8 a3).set 122 (.inl (0, [8, 0, 0, 0])))) rfl rfl ?_
  refine sx_RP.step (pc2 := 80) (ls2 := [(0, .ref 111), (1, .int 0), (2, .int 8), (3, .int a3)]) (st2 := []) (w3 := (((sx_h0 8 a3).set 122 (.inl (0, [8, 0, 0, 0]))).set 123 (.inl (0, [a3, 0, 0, 0])))) rfl rfl ?_
  refine sx_RP.step (pc2 := 81) (ls2 := [(0, .ref 111), (1, .int 0), (2, .int 8), (3, .int a3)]) (st2 := [.int 0]) (w3 := (((sx_h0 8 a3).set 122 (.inl (0, [8, 0, 0, 0]))).set 123 (.inl (0, [a3, 0, 0, 0])))) rfl rfl ?_
  refine sx_RP.step (pc2 := 83) (ls2 := [(4, .int 0), (0, .ref 111), (1, .int 0), (2, .int 8), (3, .int a3)]) (st2 := []) (w3 := (((sx_h0 8 a3).set 122 (.inl (0, [8, 0, 0, 0]))).set 123 (.inl (0, [a3, 0, 0, 0])))) rfl rfl ?_
  refine sx_RP.wd (w2 := sx_g0 8 a3) rfl ?_
  exact cp_230L0 ys 8 a3 a3 40 0 (by omega)
set_option maxRecDepth 20000 in
set_option maxHeartbeats 4000000 in
theorem cp_114_0_16 (ys : List Int32) (a3 : Int32) : sx_RU (some ys) 6 114 0 (lv_args 0 [.ref 103, .int 16, .int a3]) [] sx_w0 none (sx_h0 16 a3) := by
  have h : sx_RP (some ys) 6 114 0 (lv_args 0 [.ref 103, .int 16, .int a3]) [] sx_w0 (fun r w2 => r = none ∧ w2 = sx_h0 16 a3) := by
    refine sx_RP.step (pc2 := 1) (ls2 := [(0, .ref 103), (1, .int 16), (2, .int a3)]) (st2 := [.ref 103]) (w3 := sx_w0) rfl rfl ?_
    refine sx_RP.step (pc2 := 2) (ls2 := [(0, .ref 103), (1, .int 16), (2, .int a3)]) (st2 := [.int 16, .ref 103]) (w3 := sx_w0) rfl rfl ?_
    refine sx_RP.step (pc2 := 5) (ls2 := [(0, .ref 103), (1, .int 16), (2, .int a3)]) (st2 := []) (w3 := (sx_w0.set 103 (.inr (.inr (.inr (5, [.ref 104, .int 16, .int 0])))))) rfl rfl ?_
    refine sx_RP.step (pc2 := 6) (ls2 := [(0, .ref 103), (1, .int 16), (2, .int a3)]) (st2 := [.ref 103]) (w3 := (sx_w0.set 103 (.inr (.inr (.inr (5, [.ref 104, .int 16, .int 0])))))) rfl rfl ?_
    refine sx_RP.step (pc2 := 7) (ls2 := [(0, .ref 103), (1, .int 16), (2, .int a3)]) (st2 := [.int 16, .ref 103]) (w3 := (sx_w0.set 103 (.inr (.inr (.inr (5, [.ref 104, .int 16, .int 0])))))) rfl rfl ?_
    refine sx_RP.step (pc2 := 14) (ls2 := [(0, .ref 103), (1, .int 16), (2, .int a3)]) (st2 := [.ref 103]) (w3 := (sx_w0.set 103 (.inr (.inr (.inr (5, [.ref 104, .int 16, .int 0])))))) rfl rfl ?_
    refine sx_RP.step (pc2 := 15) (ls2 := [(0, .ref 103), (1, .int 16), (2, .int a3)]) (st2 := [.int a3, .ref 103]) (w3 := (sx_w0.set 103 (.inr (.inr (.inr (5, [.ref 104, .int 16, .int 0])))))) rfl rfl ?_
    refine sx_RP.step (pc2 := 18) (ls2 := [(0, .ref 103), (1, .int 16), (2, .int a3)]) (st2 := []) (w3 := (sx_w0.set 103 (.inr (.inr (.inr (5, [.ref 104, .int 16, .int a3])))))) rfl rfl ?_
    refine sx_RP.step (pc2 := 19) (ls2 := [(0, .ref 103), (1, .int 16), (2, .int a3)]) (st2 := [.int 0]) (w3 := (sx_w0.set 103 (.inr (.inr (.inr (5, [.ref 104, .int 16, .int a3])))))) rfl rfl ?_
    refine sx_RP.step (pc2 := 20) (ls2 := [(3, .int 0), (0, .ref 103), (1, .int 16), (2, .int a3)]) (st2 := []) (w3 := (sx_w0.set 103 (.inr (.inr (.inr (5, [.ref 104, .int 16, .int a3])))))) rfl rfl ?_
    refine sx_RP.wd (w2 := sx_h0 16 a3) rfl ?_
    exact cp_114L0 ys 16 a3 a3 40 0 (by omega)
  obtain ⟨r, w2, h1, rfl, rfl⟩ := h
  exact h1
set_option maxRecDepth 20000 in
set_option maxHeartbeats 4000000 in
theorem k_sheet_0_16 (ys : List Int32) (a3 : Int32) (p0 : 0 ≤ a3) (p1 : a3 ≤ 40) : sx_twoI ys 111 230 [.int 0, .int 16, .int a3] := by
  refine sx_twoI.of ?_
  refine sx_RP.step (pc2 := 1) (ls2 := [(0, .ref 0), (1, .int 0), (2, .int 16), (3, .int a3)]) (st2 := [.int 0]) (w3 := sx_w0) rfl rfl ?_
  refine sx_RP.cl (as2 := [.int 0]) (rest2 := []) rfl rfl rfl rfl rfl rfl ?_
  refine sx_RP.step (pc2 := 1) (ls2 := [(0, .int 0)]) (st2 := [.int 0]) (w3 := sx_w0) rfl rfl ?_
  refine sx_RP.step (pc2 := 2) (ls2 := [(0, .int 0)]) (st2 := [.int 0, .int 0]) (w3 := sx_w0) rfl rfl ?_
  refine sx_RP.step (pc2 := 3) (ls2 := [(0, .int 0)]) (st2 := [.int 3, .int 0, .int 0]) (w3 := sx_w0) rfl rfl ?_
  refine sx_RP.cl (as2 := [.int 0, .int 0, .int 3]) (rest2 := []) rfl rfl rfl rfl rfl rfl ?_
  refine sx_RP.step (pc2 := 1) (ls2 := [(0, .int 0), (1, .int 0), (2, .int 3)]) (st2 := [.int 0]) (w3 := sx_w0) rfl rfl ?_
  refine sx_RP.step (pc2 := 2) (ls2 := [(0, .int 0), (1, .int 0), (2, .int 3)]) (st2 := [.int 0, .int 0]) (w3 := sx_w0) rfl rfl ?_
  refine sx_RP.step (pc2 := 5) (ls2 := [(0, .int 0), (1, .int 0), (2, .int 3)]) (st2 := []) (w3 := sx_w0) rfl rfl ?_
  refine sx_RP.step (pc2 := 6) (ls2 := [(0, .int 0), (1, .int 0), (2, .int 3)]) (st2 := [.int 0]) (w3 := sx_w0) rfl rfl ?_
  refine sx_RP.step (pc2 := 7) (ls2 := [(0, .int 0), (1, .int 0), (2, .int 3)]) (st2 := [.int 3, .int 0]) (w3 := sx_w0) rfl rfl ?_
  refine sx_RP.step (pc2 := 10) (ls2 := [(0, .int 0), (1, .int 0), (2, .int 3)]) (st2 := []) (w3 := sx_w0) rfl rfl ?_
  refine sx_RP.step (pc2 := 11) (ls2 := [(0, .int 0), (1, .int 0), (2, .int 3)]) (st2 := [.int 1]) (w3 := sx_w0) rfl rfl ?_
  refine sx_RP.step (pc2 := 15) (ls2 := [(0, .int 0), (1, .int 0), (2, .int 3)]) (st2 := [.int 1]) (w3 := sx_w0) rfl rfl ?_
  refine sx_RP.retc (st3 := [.int 1]) rfl rfl rfl ?_
  refine sx_RP.retc (st3 := [.int 1]) rfl rfl rfl ?_
  refine sx_RP.step (pc2 := 7) (ls2 := [(0, .ref 0), (1, .int 0), (2, .int 16), (3, .int a3)]) (st2 := []) (w3 := sx_w0) rfl rfl ?_
  refine sx_RP.step (pc2 := 8) (ls2 := [(0, .ref 0), (1, .int 0), (2, .int 16), (3, .int a3)]) (st2 := [.int 16]) (w3 := sx_w0) rfl rfl ?_
  refine sx_RP.cl (as2 := [.int 16]) (rest2 := []) rfl rfl rfl rfl rfl rfl ?_
  refine sx_RP.step (pc2 := 1) (ls2 := [(0, .int 16)]) (st2 := [.int 16]) (w3 := sx_w0) rfl rfl ?_
  refine sx_RP.step (pc2 := 3) (ls2 := [(0, .int 16)]) (st2 := [.int 8, .int 16]) (w3 := sx_w0) rfl rfl ?_
  refine sx_RP.step (pc2 := 6) (ls2 := [(0, .int 16)]) (st2 := []) (w3 := sx_w0) rfl rfl ?_
  refine sx_RP.step (pc2 := 7) (ls2 := [(0, .int 16)]) (st2 := [.int 16]) (w3 := sx_w0) rfl rfl ?_
  refine sx_RP.step (pc2 := 9) (ls2 := [(0, .int 16)]) (st2 := [.int 16, .int 16]) (w3 := sx_w0) rfl rfl ?_
  refine sx_RP.step (pc2 := 18) (ls2 := [(0, .int 16)]) (st2 := []) (w3 := sx_w0) rfl rfl ?_
  refine sx_RP.step (pc2 := 19) (ls2 := [(0, .int 16)]) (st2 := [.int 1]) (w3 := sx_w0) rfl rfl ?_
  refine sx_RP.step (pc2 := 23) (ls2 := [(0, .int 16)]) (st2 := [.int 1]) (w3 := sx_w0) rfl rfl ?_
  refine sx_RP.retc (st3 := [.int 1]) rfl rfl rfl ?_
  refine sx_RP.step (pc2 := 25) (ls2 := [(0, .ref 0), (1, .int 0), (2, .int 16), (3, .int a3)]) (st2 := []) (w3 := sx_w0) rfl rfl ?_
  refine sx_RP.step (pc2 := 26) (ls2 := [(0, .ref 0), (1, .int 0), (2, .int 16), (3, .int a3)]) (st2 := [.int a3]) (w3 := sx_w0) rfl rfl ?_
  refine sx_RP.br (p1 := 37) (l1 := [(0, .ref 0), (1, .int 0), (2, .int 16), (3, .int a3)]) (s1 := []) (v1 := sx_w0) rfl rfl (fun _ => ?_) (fun q => absurd p0 (of_decide_eq_false q))
  refine sx_RP.step (pc2 := 38) (ls2 := [(0, .ref 0), (1, .int 0), (2, .int 16), (3, .int a3)]) (st2 := [.int a3]) (w3 := sx_w0) rfl rfl ?_
  refine sx_RP.step (pc2 := 40) (ls2 := [(0, .ref 0), (1, .int 0), (2, .int 16), (3, .int a3)]) (st2 := [.int 40, .int a3]) (w3 := sx_w0) rfl rfl ?_
  refine sx_RP.br (p1 := 50) (l1 := [(0, .ref 0), (1, .int 0), (2, .int 16), (3, .int a3)]) (s1 := []) (v1 := sx_w0) rfl rfl (fun _ => ?_) (fun q => absurd p1 (of_decide_eq_false q))
  refine sx_RP.step (pc2 := 51) (ls2 := [(0, .ref 0), (1, .int 0), (2, .int 16), (3, .int a3)]) (st2 := [.ref 0]) (w3 := sx_w0) rfl rfl ?_
  refine sx_RP.step (pc2 := 54) (ls2 := [(0, .ref 0), (1, .int 0), (2, .int 16), (3, .int a3)]) (st2 := [.ref 98]) (w3 := sx_w0) rfl rfl ?_
  refine sx_RP.step (pc2 := 55) (ls2 := [(0, .ref 0), (1, .int 0), (2, .int 16), (3, .int a3)]) (st2 := [.int 0, .ref 98]) (w3 := sx_w0) rfl rfl ?_
  refine sx_RP.step (pc2 := 56) (ls2 := [(0, .ref 0), (1, .int 0), (2, .int 16), (3, .int a3)]) (st2 := [.ref 103]) (w3 := sx_w0) rfl rfl ?_
  refine sx_RP.step (pc2 := 57) (ls2 := [(0, .ref 0), (1, .int 0), (2, .int 16), (3, .int a3)]) (st2 := [.int 16, .ref 103]) (w3 := sx_w0) rfl rfl ?_
  refine sx_RP.step (pc2 := 58) (ls2 := [(0, .ref 0), (1, .int 0), (2, .int 16), (3, .int a3)]) (st2 := [.int a3, .int 16, .ref 103]) (w3 := sx_w0) rfl rfl ?_
  refine sx_RP.cu (as := [.ref 103, .int 16, .int a3]) (rest2 := []) (st3 := []) rfl rfl rfl rfl rfl (cp_114_0_16 ys a3) rfl ?_
  refine sx_RP.step (pc2 := 62) (ls2 := [(0, .ref 0), (1, .int 0), (2, .int 16), (3, .int a3)]) (st2 := [.ref 0]) (w3 := (sx_h0 16 a3)) rfl rfl ?_
  refine sx_RP.step (pc2 := 65) (ls2 := [(0, .ref 0), (1, .int 0), (2, .int 16), (3, .int a3)]) (st2 := [.ref 98]) (w3 := (sx_h0 16 a3)) rfl rfl ?_
  refine sx_RP.step (pc2 := 66) (ls2 := [(0, .ref 0), (1, .int 0), (2, .int 16), (3, .int a3)]) (st2 := [.int 0, .ref 98]) (w3 := (sx_h0 16 a3)) rfl rfl ?_
  refine sx_RP.step (pc2 := 67) (ls2 := [(0, .ref 0), (1, .int 0), (2, .int 16), (3, .int a3)]) (st2 := [.ref 103]) (w3 := (sx_h0 16 a3)) rfl rfl ?_
  refine sx_RP.step (pc2 := 70) (ls2 := [(0, .ref 0), (1, .int 0), (2, .int 16), (3, .int a3)]) (st2 := [.int a3]) (w3 := (sx_h0 16 a3)) rfl rfl ?_
  refine sx_RP.ret rfl rfl ?_
  refine ⟨a3, rfl, ⟨_, rfl⟩, ?_⟩
  refine sx_RP.step (pc2 := 1) (ls2 := [(0, .ref 111), (1, .int 0), (2, .int 16), (3, .int a3)]) (st2 := [.int 0]) (w3 := (sx_h0 16 a3)) rfl rfl ?_
  refine sx_RP.cl (as2 := [.int 0]) (rest2 := []) rfl rfl rfl rfl rfl rfl ?_
  refine sx_RP.step (pc2 := 1) (ls2 := [(0, .int 0)]) (st2 := [.int 0]) (w3 := (sx_h0 16 a3)) rfl rfl ?_
  refine sx_RP.step (pc2 := 2) (ls2 := [(0, .int 0)]) (st2 := [.int 0, .int 0]) (w3 := (sx_h0 16 a3)) rfl rfl ?_
  refine sx_RP.step (pc2 := 3) (ls2 := [(0, .int 0)]) (st2 := [.int 3, .int 0, .int 0]) (w3 := (sx_h0 16 a3)) rfl rfl ?_
  refine sx_RP.cl (as2 := [.int 0, .int 0, .int 3]) (rest2 := []) rfl rfl rfl rfl rfl rfl ?_
  refine sx_RP.step (pc2 := 1) (ls2 := [(0, .int 0), (1, .int 0), (2, .int 3)]) (st2 := [.int 0]) (w3 := (sx_h0 16 a3)) rfl rfl ?_
  refine sx_RP.step (pc2 := 2) (ls2 := [(0, .int 0), (1, .int 0), (2, .int 3)]) (st2 := [.int 0, .int 0]) (w3 := (sx_h0 16 a3)) rfl rfl ?_
  refine sx_RP.step (pc2 := 5) (ls2 := [(0, .int 0), (1, .int 0), (2, .int 3)]) (st2 := []) (w3 := (sx_h0 16 a3)) rfl rfl ?_
  refine sx_RP.step (pc2 := 6) (ls2 := [(0, .int 0), (1, .int 0), (2, .int 3)]) (st2 := [.int 0]) (w3 := (sx_h0 16 a3)) rfl rfl ?_
  refine sx_RP.step (pc2 := 7) (ls2 := [(0, .int 0), (1, .int 0), (2, .int 3)]) (st2 := [.int 3, .int 0]) (w3 := (sx_h0 16 a3)) rfl rfl ?_
  refine sx_RP.step (pc2 := 10) (ls2 := [(0, .int 0), (1, .int 0), (2, .int 3)]) (st2 := []) (w3 := (sx_h0 16 a3)) rfl rfl ?_
  refine sx_RP.step (pc2 := 11) (ls2 := [(0, .int 0), (1, .int 0), (2, .int 3)]) (st2 := [.int 1]) (w3 := (sx_h0 16 a3)) rfl rfl ?_
  refine sx_RP.step (pc2 := 15) (ls2 := [(0, .int 0), (1, .int 0), (2, .int 3)]) (st2 := [.int 1]) (w3 := (sx_h0 16 a3)) rfl rfl ?_
  refine sx_RP.retc (st3 := [.int 1]) rfl rfl rfl ?_
  refine sx_RP.retc (st3 := [.int 1]) rfl rfl rfl ?_
  refine sx_RP.step (pc2 := 7) (ls2 := [(0, .ref 111), (1, .int 0), (2, .int 16), (3, .int a3)]) (st2 := []) (w3 := (sx_h0 16 a3)) rfl rfl ?_
  refine sx_RP.step (pc2 := 8) (ls2 := [(0, .ref 111), (1, .int 0), (2, .int 16), (3, .int a3)]) (st2 := [.int 16]) (w3 := (sx_h0 16 a3)) rfl rfl ?_
  refine sx_RP.step (pc2 := 11) (ls2 := [(0, .ref 111), (1, .int 0), (2, .int 16), (3, .int a3)]) (st2 := []) (w3 := (sx_h0 16 a3)) rfl rfl ?_
  refine sx_RP.step (pc2 := 12) (ls2 := [(0, .ref 111), (1, .int 0), (2, .int 16), (3, .int a3)]) (st2 := [.int 16]) (w3 := (sx_h0 16 a3)) rfl rfl ?_
  refine sx_RP.step (pc2 := 14) (ls2 := [(0, .ref 111), (1, .int 0), (2, .int 16), (3, .int a3)]) (st2 := [.int 8, .int 16]) (w3 := (sx_h0 16 a3)) rfl rfl ?_
  refine sx_RP.step (pc2 := 17) (ls2 := [(0, .ref 111), (1, .int 0), (2, .int 16), (3, .int a3)]) (st2 := []) (w3 := (sx_h0 16 a3)) rfl rfl ?_
  refine sx_RP.step (pc2 := 18) (ls2 := [(0, .ref 111), (1, .int 0), (2, .int 16), (3, .int a3)]) (st2 := [.int 16]) (w3 := (sx_h0 16 a3)) rfl rfl ?_
  refine sx_RP.step (pc2 := 20) (ls2 := [(0, .ref 111), (1, .int 0), (2, .int 16), (3, .int a3)]) (st2 := [.int 16, .int 16]) (w3 := (sx_h0 16 a3)) rfl rfl ?_
  refine sx_RP.step (pc2 := 35) (ls2 := [(0, .ref 111), (1, .int 0), (2, .int 16), (3, .int a3)]) (st2 := []) (w3 := (sx_h0 16 a3)) rfl rfl ?_
  refine sx_RP.step (pc2 := 36) (ls2 := [(0, .ref 111), (1, .int 0), (2, .int 16), (3, .int a3)]) (st2 := [.int a3]) (w3 := (sx_h0 16 a3)) rfl rfl ?_
  refine sx_RP.br (p1 := 46) (l1 := [(0, .ref 111), (1, .int 0), (2, .int 16), (3, .int a3)]) (s1 := []) (v1 := (sx_h0 16 a3)) rfl rfl (fun _ => ?_) (fun q => absurd p0 (of_decide_eq_false q))
  refine sx_RP.step (pc2 := 47) (ls2 := [(0, .ref 111), (1, .int 0), (2, .int 16), (3, .int a3)]) (st2 := [.int a3]) (w3 := (sx_h0 16 a3)) rfl rfl ?_
  refine sx_RP.step (pc2 := 49) (ls2 := [(0, .ref 111), (1, .int 0), (2, .int 16), (3, .int a3)]) (st2 := [.int 40, .int a3]) (w3 := (sx_h0 16 a3)) rfl rfl ?_
  refine sx_RP.br (p1 := 58) (l1 := [(0, .ref 111), (1, .int 0), (2, .int 16), (3, .int a3)]) (s1 := []) (v1 := (sx_h0 16 a3)) rfl rfl (fun _ => ?_) (fun q => absurd p1 (of_decide_eq_false q))
  refine sx_RP.step (pc2 := 59) (ls2 := [(0, .ref 111), (1, .int 0), (2, .int 16), (3, .int a3)]) (st2 := [.ref 111]) (w3 := (sx_h0 16 a3)) rfl rfl ?_
  refine sx_RP.step (pc2 := 62) (ls2 := [(0, .ref 111), (1, .int 0), (2, .int 16), (3, .int a3)]) (st2 := [.ref 122]) (w3 := (sx_h0 16 a3)) rfl rfl ?_
  refine sx_RP.step (pc2 := 63) (ls2 := [(0, .ref 111), (1, .int 0), (2, .int 16), (3, .int a3)]) (st2 := [.int 0, .ref 122]) (w3 := (sx_h0 16 a3)) rfl rfl ?_
  refine sx_RP.step (pc2 := 64) (ls2 := [(0, .ref 111), (1, .int 0), (2, .int 16), (3, .int a3)]) (st2 := [.int 16, .int 0, .ref 122]) (w3 := (sx_h0 16 a3)) rfl rfl ?_
  refine sx_RP.step (pc2 := 65) (ls2 := [(0, .ref 111), (1, .int 0), (2, .int 16), (3, .int a3)]) (st2 := []) (w3 := ((sx_h0 16 a3).set 122 (.inl (0, [16, 0, 0, 0])))) rfl rfl ?_
  refine sx_RP.step (pc2 := 66) (ls2 := [(0, .ref 111), (1, .int 0), (2, .int 16), (3, .int a3)]) (st2 := [.ref 111]) (w3 := ((sx_h0 16 a3).set 122 (.inl (0, [16, 0, 0, 0])))) rfl rfl ?_
  refine sx_RP.step (pc2 := 69) (ls2 := [(0, .ref 111), (1, .int 0), (2, .int 16), (3, .int a3)]) (st2 := [.ref 123]) (w3 := ((sx_h0 16 a3).set 122 (.inl (0, [16, 0, 0, 0])))) rfl rfl ?_
  refine sx_RP.step (pc2 := 70) (ls2 := [(0, .ref 111), (1, .int 0), (2, .int 16), (3, .int a3)]) (st2 := [.int 0, .ref 123]) (w3 := ((sx_h0 16 a3).set 122 (.inl (0, [16, 0, 0, 0])))) rfl rfl ?_
  refine sx_RP.step (pc2 := 71) (ls2 := [(0, .ref 111), (1, .int 0), (2, .int 16), (3, .int a3)]) (st2 := [.int 16, .int 0, .ref 123]) (w3 := ((sx_h0 16 a3).set 122 (.inl (0, [16, 0, 0, 0])))) rfl rfl ?_
  refine sx_RP.step (pc2 := 78) (ls2 := [(0, .ref 111), (1, .int 0), (2, .int 16), (3, .int a3)]) (st2 := [.int 0, .ref 123]) (w3 := ((sx_h0 16 a3).set 122 (.inl (0, [16, 0, 0, 0])))) rfl rfl ?_
  refine sx_RP.step (pc2 := 79) (ls2 := [(0, .ref 111), (1, .int 0), (2, .int 16), (3, .int a3)]) (st2 := [.int a3, .int 0, .ref 123]) (w3 := ((sx_h0 16 a3).set 122 (.inl (0, [16, 0, 0, 0])))) rfl rfl ?_
  refine sx_RP.step (pc2 := 80) (ls2 := [(0, .ref 111), (1, .int 0), (2, .int 16), (3, .int a3)]) (st2 := []) (w3 := (((sx_h0 16 a3).set 122 (.inl (0, [16, 0, 0, 0]))).set 123 (.inl (0, [a3, 0, 0, 0])))) rfl rfl ?_
  refine sx_RP.step (pc2 := 81) (ls2 := [(0, .ref 111), (1, .int 0), (2, .int 16), (3, .int a3)]) (st2 := [.int 0]) (w3 := (((sx_h0 16 a3).set 122 (.inl (0, [16, 0, 0, 0]))).set 123 (.inl (0, [a3, 0, 0, 0])))) rfl rfl ?_
  refine sx_RP.step (pc2 := 83) (ls2 := [(4, .int 0), (0, .ref 111), (1, .int 0), (2, .int 16), (3, .int a3)]) (st2 := []) (w3 := (((sx_h0 16 a3).set 122 (.inl (0, [16, 0, 0, 0]))).set 123 (.inl (0, [a3, 0, 0, 0])))) rfl rfl ?_
  refine sx_RP.wd (w2 := sx_g0 16 a3) rfl ?_
  exact cp_230L0 ys 16 a3 a3 40 0 (by omega)
set_option maxRecDepth 20000 in
set_option maxHeartbeats 4000000 in
theorem cp_114_0_64 (ys : List Int32) (a3 : Int32) : sx_RU (some ys) 6 114 0 (lv_args 0 [.ref 103, .int 64, .int a3]) [] sx_w0 none (sx_h0 64 a3) := by
  have h : sx_RP (some ys) 6 114 0 (lv_args 0 [.ref 103, .int 64, .int a3]) [] sx_w0 (fun r w2 => r = none ∧ w2 = sx_h0 64 a3) := by
    refine sx_RP.step (pc2 := 1) (ls2 := [(0, .ref 103), (1, .int 64), (2, .int a3)]) (st2 := [.ref 103]) (w3 := sx_w0) rfl rfl ?_
    refine sx_RP.step (pc2 := 2) (ls2 := [(0, .ref 103), (1, .int 64), (2, .int a3)]) (st2 := [.int 64, .ref 103]) (w3 := sx_w0) rfl rfl ?_
    refine sx_RP.step (pc2 := 5) (ls2 := [(0, .ref 103), (1, .int 64), (2, .int a3)]) (st2 := []) (w3 := (sx_w0.set 103 (.inr (.inr (.inr (5, [.ref 104, .int 64, .int 0])))))) rfl rfl ?_
    refine sx_RP.step (pc2 := 6) (ls2 := [(0, .ref 103), (1, .int 64), (2, .int a3)]) (st2 := [.ref 103]) (w3 := (sx_w0.set 103 (.inr (.inr (.inr (5, [.ref 104, .int 64, .int 0])))))) rfl rfl ?_
    refine sx_RP.step (pc2 := 7) (ls2 := [(0, .ref 103), (1, .int 64), (2, .int a3)]) (st2 := [.int 64, .ref 103]) (w3 := (sx_w0.set 103 (.inr (.inr (.inr (5, [.ref 104, .int 64, .int 0])))))) rfl rfl ?_
    refine sx_RP.step (pc2 := 14) (ls2 := [(0, .ref 103), (1, .int 64), (2, .int a3)]) (st2 := [.ref 103]) (w3 := (sx_w0.set 103 (.inr (.inr (.inr (5, [.ref 104, .int 64, .int 0])))))) rfl rfl ?_
    refine sx_RP.step (pc2 := 15) (ls2 := [(0, .ref 103), (1, .int 64), (2, .int a3)]) (st2 := [.int a3, .ref 103]) (w3 := (sx_w0.set 103 (.inr (.inr (.inr (5, [.ref 104, .int 64, .int 0])))))) rfl rfl ?_
    refine sx_RP.step (pc2 := 18) (ls2 := [(0, .ref 103), (1, .int 64), (2, .int a3)]) (st2 := []) (w3 := (sx_w0.set 103 (.inr (.inr (.inr (5, [.ref 104, .int 64, .int a3])))))) rfl rfl ?_
    refine sx_RP.step (pc2 := 19) (ls2 := [(0, .ref 103), (1, .int 64), (2, .int a3)]) (st2 := [.int 0]) (w3 := (sx_w0.set 103 (.inr (.inr (.inr (5, [.ref 104, .int 64, .int a3])))))) rfl rfl ?_
    refine sx_RP.step (pc2 := 20) (ls2 := [(3, .int 0), (0, .ref 103), (1, .int 64), (2, .int a3)]) (st2 := []) (w3 := (sx_w0.set 103 (.inr (.inr (.inr (5, [.ref 104, .int 64, .int a3])))))) rfl rfl ?_
    refine sx_RP.wd (w2 := sx_h0 64 a3) rfl ?_
    exact cp_114L0 ys 64 a3 a3 40 0 (by omega)
  obtain ⟨r, w2, h1, rfl, rfl⟩ := h
  exact h1
set_option maxRecDepth 20000 in
set_option maxHeartbeats 4000000 in
theorem k_sheet_0_64 (ys : List Int32) (a3 : Int32) (p0 : 0 ≤ a3) (p1 : a3 ≤ 40) : sx_twoI ys 111 230 [.int 0, .int 64, .int a3] := by
  refine sx_twoI.of ?_
  refine sx_RP.step (pc2 := 1) (ls2 := [(0, .ref 0), (1, .int 0), (2, .int 64), (3, .int a3)]) (st2 := [.int 0]) (w3 := sx_w0) rfl rfl ?_
  refine sx_RP.cl (as2 := [.int 0]) (rest2 := []) rfl rfl rfl rfl rfl rfl ?_
  refine sx_RP.step (pc2 := 1) (ls2 := [(0, .int 0)]) (st2 := [.int 0]) (w3 := sx_w0) rfl rfl ?_
  refine sx_RP.step (pc2 := 2) (ls2 := [(0, .int 0)]) (st2 := [.int 0, .int 0]) (w3 := sx_w0) rfl rfl ?_
  refine sx_RP.step (pc2 := 3) (ls2 := [(0, .int 0)]) (st2 := [.int 3, .int 0, .int 0]) (w3 := sx_w0) rfl rfl ?_
  refine sx_RP.cl (as2 := [.int 0, .int 0, .int 3]) (rest2 := []) rfl rfl rfl rfl rfl rfl ?_
  refine sx_RP.step (pc2 := 1) (ls2 := [(0, .int 0), (1, .int 0), (2, .int 3)]) (st2 := [.int 0]) (w3 := sx_w0) rfl rfl ?_
  refine sx_RP.step (pc2 := 2) (ls2 := [(0, .int 0), (1, .int 0), (2, .int 3)]) (st2 := [.int 0, .int 0]) (w3 := sx_w0) rfl rfl ?_
  refine sx_RP.step (pc2 := 5) (ls2 := [(0, .int 0), (1, .int 0), (2, .int 3)]) (st2 := []) (w3 := sx_w0) rfl rfl ?_
  refine sx_RP.step (pc2 := 6) (ls2 := [(0, .int 0), (1, .int 0), (2, .int 3)]) (st2 := [.int 0]) (w3 := sx_w0) rfl rfl ?_
  refine sx_RP.step (pc2 := 7) (ls2 := [(0, .int 0), (1, .int 0), (2, .int 3)]) (st2 := [.int 3, .int 0]) (w3 := sx_w0) rfl rfl ?_
  refine sx_RP.step (pc2 := 10) (ls2 := [(0, .int 0), (1, .int 0), (2, .int 3)]) (st2 := []) (w3 := sx_w0) rfl rfl ?_
  refine sx_RP.step (pc2 := 11) (ls2 := [(0, .int 0), (1, .int 0), (2, .int 3)]) (st2 := [.int 1]) (w3 := sx_w0) rfl rfl ?_
  refine sx_RP.step (pc2 := 15) (ls2 := [(0, .int 0), (1, .int 0), (2, .int 3)]) (st2 := [.int 1]) (w3 := sx_w0) rfl rfl ?_
  refine sx_RP.retc (st3 := [.int 1]) rfl rfl rfl ?_
  refine sx_RP.retc (st3 := [.int 1]) rfl rfl rfl ?_
  refine sx_RP.step (pc2 := 7) (ls2 := [(0, .ref 0), (1, .int 0), (2, .int 64), (3, .int a3)]) (st2 := []) (w3 := sx_w0) rfl rfl ?_
  refine sx_RP.step (pc2 := 8) (ls2 := [(0, .ref 0), (1, .int 0), (2, .int 64), (3, .int a3)]) (st2 := [.int 64]) (w3 := sx_w0) rfl rfl ?_
  refine sx_RP.cl (as2 := [.int 64]) (rest2 := []) rfl rfl rfl rfl rfl rfl ?_
  refine sx_RP.step (pc2 := 1) (ls2 := [(0, .int 64)]) (st2 := [.int 64]) (w3 := sx_w0) rfl rfl ?_
  refine sx_RP.step (pc2 := 3) (ls2 := [(0, .int 64)]) (st2 := [.int 8, .int 64]) (w3 := sx_w0) rfl rfl ?_
  refine sx_RP.step (pc2 := 6) (ls2 := [(0, .int 64)]) (st2 := []) (w3 := sx_w0) rfl rfl ?_
  refine sx_RP.step (pc2 := 7) (ls2 := [(0, .int 64)]) (st2 := [.int 64]) (w3 := sx_w0) rfl rfl ?_
  refine sx_RP.step (pc2 := 9) (ls2 := [(0, .int 64)]) (st2 := [.int 16, .int 64]) (w3 := sx_w0) rfl rfl ?_
  refine sx_RP.step (pc2 := 12) (ls2 := [(0, .int 64)]) (st2 := []) (w3 := sx_w0) rfl rfl ?_
  refine sx_RP.step (pc2 := 13) (ls2 := [(0, .int 64)]) (st2 := [.int 64]) (w3 := sx_w0) rfl rfl ?_
  refine sx_RP.step (pc2 := 15) (ls2 := [(0, .int 64)]) (st2 := [.int 64, .int 64]) (w3 := sx_w0) rfl rfl ?_
  refine sx_RP.step (pc2 := 18) (ls2 := [(0, .int 64)]) (st2 := []) (w3 := sx_w0) rfl rfl ?_
  refine sx_RP.step (pc2 := 19) (ls2 := [(0, .int 64)]) (st2 := [.int 1]) (w3 := sx_w0) rfl rfl ?_
  refine sx_RP.step (pc2 := 23) (ls2 := [(0, .int 64)]) (st2 := [.int 1]) (w3 := sx_w0) rfl rfl ?_
  refine sx_RP.retc (st3 := [.int 1]) rfl rfl rfl ?_
  refine sx_RP.step (pc2 := 25) (ls2 := [(0, .ref 0), (1, .int 0), (2, .int 64), (3, .int a3)]) (st2 := []) (w3 := sx_w0) rfl rfl ?_
  refine sx_RP.step (pc2 := 26) (ls2 := [(0, .ref 0), (1, .int 0), (2, .int 64), (3, .int a3)]) (st2 := [.int a3]) (w3 := sx_w0) rfl rfl ?_
  refine sx_RP.br (p1 := 37) (l1 := [(0, .ref 0), (1, .int 0), (2, .int 64), (3, .int a3)]) (s1 := []) (v1 := sx_w0) rfl rfl (fun _ => ?_) (fun q => absurd p0 (of_decide_eq_false q))
  refine sx_RP.step (pc2 := 38) (ls2 := [(0, .ref 0), (1, .int 0), (2, .int 64), (3, .int a3)]) (st2 := [.int a3]) (w3 := sx_w0) rfl rfl ?_
  refine sx_RP.step (pc2 := 40) (ls2 := [(0, .ref 0), (1, .int 0), (2, .int 64), (3, .int a3)]) (st2 := [.int 40, .int a3]) (w3 := sx_w0) rfl rfl ?_
  refine sx_RP.br (p1 := 50) (l1 := [(0, .ref 0), (1, .int 0), (2, .int 64), (3, .int a3)]) (s1 := []) (v1 := sx_w0) rfl rfl (fun _ => ?_) (fun q => absurd p1 (of_decide_eq_false q))
  refine sx_RP.step (pc2 := 51) (ls2 := [(0, .ref 0), (1, .int 0), (2, .int 64), (3, .int a3)]) (st2 := [.ref 0]) (w3 := sx_w0) rfl rfl ?_
  refine sx_RP.step (pc2 := 54) (ls2 := [(0, .ref 0), (1, .int 0), (2, .int 64), (3, .int a3)]) (st2 := [.ref 98]) (w3 := sx_w0) rfl rfl ?_
  refine sx_RP.step (pc2 := 55) (ls2 := [(0, .ref 0), (1, .int 0), (2, .int 64), (3, .int a3)]) (st2 := [.int 0, .ref 98]) (w3 := sx_w0) rfl rfl ?_
  refine sx_RP.step (pc2 := 56) (ls2 := [(0, .ref 0), (1, .int 0), (2, .int 64), (3, .int a3)]) (st2 := [.ref 103]) (w3 := sx_w0) rfl rfl ?_
  refine sx_RP.step (pc2 := 57) (ls2 := [(0, .ref 0), (1, .int 0), (2, .int 64), (3, .int a3)]) (st2 := [.int 64, .ref 103]) (w3 := sx_w0) rfl rfl ?_
  refine sx_RP.step (pc2 := 58) (ls2 := [(0, .ref 0), (1, .int 0), (2, .int 64), (3, .int a3)]) (st2 := [.int a3, .int 64, .ref 103]) (w3 := sx_w0) rfl rfl ?_
  refine sx_RP.cu (as := [.ref 103, .int 64, .int a3]) (rest2 := []) (st3 := []) rfl rfl rfl rfl rfl (cp_114_0_64 ys a3) rfl ?_
  refine sx_RP.step (pc2 := 62) (ls2 := [(0, .ref 0), (1, .int 0), (2, .int 64), (3, .int a3)]) (st2 := [.ref 0]) (w3 := (sx_h0 64 a3)) rfl rfl ?_
  refine sx_RP.step (pc2 := 65) (ls2 := [(0, .ref 0), (1, .int 0), (2, .int 64), (3, .int a3)]) (st2 := [.ref 98]) (w3 := (sx_h0 64 a3)) rfl rfl ?_
  refine sx_RP.step (pc2 := 66) (ls2 := [(0, .ref 0), (1, .int 0), (2, .int 64), (3, .int a3)]) (st2 := [.int 0, .ref 98]) (w3 := (sx_h0 64 a3)) rfl rfl ?_
  refine sx_RP.step (pc2 := 67) (ls2 := [(0, .ref 0), (1, .int 0), (2, .int 64), (3, .int a3)]) (st2 := [.ref 103]) (w3 := (sx_h0 64 a3)) rfl rfl ?_
  refine sx_RP.step (pc2 := 70) (ls2 := [(0, .ref 0), (1, .int 0), (2, .int 64), (3, .int a3)]) (st2 := [.int a3]) (w3 := (sx_h0 64 a3)) rfl rfl ?_
  refine sx_RP.ret rfl rfl ?_
  refine ⟨a3, rfl, ⟨_, rfl⟩, ?_⟩
  refine sx_RP.step (pc2 := 1) (ls2 := [(0, .ref 111), (1, .int 0), (2, .int 64), (3, .int a3)]) (st2 := [.int 0]) (w3 := (sx_h0 64 a3)) rfl rfl ?_
  refine sx_RP.cl (as2 := [.int 0]) (rest2 := []) rfl rfl rfl rfl rfl rfl ?_
  refine sx_RP.step (pc2 := 1) (ls2 := [(0, .int 0)]) (st2 := [.int 0]) (w3 := (sx_h0 64 a3)) rfl rfl ?_
  refine sx_RP.step (pc2 := 2) (ls2 := [(0, .int 0)]) (st2 := [.int 0, .int 0]) (w3 := (sx_h0 64 a3)) rfl rfl ?_
  refine sx_RP.step (pc2 := 3) (ls2 := [(0, .int 0)]) (st2 := [.int 3, .int 0, .int 0]) (w3 := (sx_h0 64 a3)) rfl rfl ?_
  refine sx_RP.cl (as2 := [.int 0, .int 0, .int 3]) (rest2 := []) rfl rfl rfl rfl rfl rfl ?_
  refine sx_RP.step (pc2 := 1) (ls2 := [(0, .int 0), (1, .int 0), (2, .int 3)]) (st2 := [.int 0]) (w3 := (sx_h0 64 a3)) rfl rfl ?_
  refine sx_RP.step (pc2 := 2) (ls2 := [(0, .int 0), (1, .int 0), (2, .int 3)]) (st2 := [.int 0, .int 0]) (w3 := (sx_h0 64 a3)) rfl rfl ?_
  refine sx_RP.step (pc2 := 5) (ls2 := [(0, .int 0), (1, .int 0), (2, .int 3)]) (st2 := []) (w3 := (sx_h0 64 a3)) rfl rfl ?_
  refine sx_RP.step (pc2 := 6) (ls2 := [(0, .int 0), (1, .int 0), (2, .int 3)]) (st2 := [.int 0]) (w3 := (sx_h0 64 a3)) rfl rfl ?_
  refine sx_RP.step (pc2 := 7) (ls2 := [(0, .int 0), (1, .int 0), (2, .int 3)]) (st2 := [.int 3, .int 0]) (w3 := (sx_h0 64 a3)) rfl rfl ?_
  refine sx_RP.step (pc2 := 10) (ls2 := [(0, .int 0), (1, .int 0), (2, .int 3)]) (st2 := []) (w3 := (sx_h0 64 a3)) rfl rfl ?_
  refine sx_RP.step (pc2 := 11) (ls2 := [(0, .int 0), (1, .int 0), (2, .int 3)]) (st2 := [.int 1]) (w3 := (sx_h0 64 a3)) rfl rfl ?_
  refine sx_RP.step (pc2 := 15) (ls2 := [(0, .int 0), (1, .int 0), (2, .int 3)]) (st2 := [.int 1]) (w3 := (sx_h0 64 a3)) rfl rfl ?_
  refine sx_RP.retc (st3 := [.int 1]) rfl rfl rfl ?_
  refine sx_RP.retc (st3 := [.int 1]) rfl rfl rfl ?_
  refine sx_RP.step (pc2 := 7) (ls2 := [(0, .ref 111), (1, .int 0), (2, .int 64), (3, .int a3)]) (st2 := []) (w3 := (sx_h0 64 a3)) rfl rfl ?_
  refine sx_RP.step (pc2 := 8) (ls2 := [(0, .ref 111), (1, .int 0), (2, .int 64), (3, .int a3)]) (st2 := [.int 64]) (w3 := (sx_h0 64 a3)) rfl rfl ?_
  refine sx_RP.step (pc2 := 11) (ls2 := [(0, .ref 111), (1, .int 0), (2, .int 64), (3, .int a3)]) (st2 := []) (w3 := (sx_h0 64 a3)) rfl rfl ?_
  refine sx_RP.step (pc2 := 12) (ls2 := [(0, .ref 111), (1, .int 0), (2, .int 64), (3, .int a3)]) (st2 := [.int 64]) (w3 := (sx_h0 64 a3)) rfl rfl ?_
  refine sx_RP.step (pc2 := 14) (ls2 := [(0, .ref 111), (1, .int 0), (2, .int 64), (3, .int a3)]) (st2 := [.int 8, .int 64]) (w3 := (sx_h0 64 a3)) rfl rfl ?_
  refine sx_RP.step (pc2 := 17) (ls2 := [(0, .ref 111), (1, .int 0), (2, .int 64), (3, .int a3)]) (st2 := []) (w3 := (sx_h0 64 a3)) rfl rfl ?_
  refine sx_RP.step (pc2 := 18) (ls2 := [(0, .ref 111), (1, .int 0), (2, .int 64), (3, .int a3)]) (st2 := [.int 64]) (w3 := (sx_h0 64 a3)) rfl rfl ?_
  refine sx_RP.step (pc2 := 20) (ls2 := [(0, .ref 111), (1, .int 0), (2, .int 64), (3, .int a3)]) (st2 := [.int 16, .int 64]) (w3 := (sx_h0 64 a3)) rfl rfl ?_
  refine sx_RP.step (pc2 := 23) (ls2 := [(0, .ref 111), (1, .int 0), (2, .int 64), (3, .int a3)]) (st2 := []) (w3 := (sx_h0 64 a3)) rfl rfl ?_
  refine sx_RP.step (pc2 := 24) (ls2 := [(0, .ref 111), (1, .int 0), (2, .int 64), (3, .int a3)]) (st2 := [.int 64]) (w3 := (sx_h0 64 a3)) rfl rfl ?_
  refine sx_RP.step (pc2 := 26) (ls2 := [(0, .ref 111), (1, .int 0), (2, .int 64), (3, .int a3)]) (st2 := [.int 64, .int 64]) (w3 := (sx_h0 64 a3)) rfl rfl ?_
  refine sx_RP.step (pc2 := 35) (ls2 := [(0, .ref 111), (1, .int 0), (2, .int 64), (3, .int a3)]) (st2 := []) (w3 := (sx_h0 64 a3)) rfl rfl ?_
  refine sx_RP.step (pc2 := 36) (ls2 := [(0, .ref 111), (1, .int 0), (2, .int 64), (3, .int a3)]) (st2 := [.int a3]) (w3 := (sx_h0 64 a3)) rfl rfl ?_
  refine sx_RP.br (p1 := 46) (l1 := [(0, .ref 111), (1, .int 0), (2, .int 64), (3, .int a3)]) (s1 := []) (v1 := (sx_h0 64 a3)) rfl rfl (fun _ => ?_) (fun q => absurd p0 (of_decide_eq_false q))
  refine sx_RP.step (pc2 := 47) (ls2 := [(0, .ref 111), (1, .int 0), (2, .int 64), (3, .int a3)]) (st2 := [.int a3]) (w3 := (sx_h0 64 a3)) rfl rfl ?_
  refine sx_RP.step (pc2 := 49) (ls2 := [(0, .ref 111), (1, .int 0), (2, .int 64), (3, .int a3)]) (st2 := [.int 40, .int a3]) (w3 := (sx_h0 64 a3)) rfl rfl ?_
  refine sx_RP.br (p1 := 58) (l1 := [(0, .ref 111), (1, .int 0), (2, .int 64), (3, .int a3)]) (s1 := []) (v1 := (sx_h0 64 a3)) rfl rfl (fun _ => ?_) (fun q => absurd p1 (of_decide_eq_false q))
  refine sx_RP.step (pc2 := 59) (ls2 := [(0, .ref 111), (1, .int 0), (2, .int 64), (3, .int a3)]) (st2 := [.ref 111]) (w3 := (sx_h0 64 a3)) rfl rfl ?_
  refine sx_RP.step (pc2 := 62) (ls2 := [(0, .ref 111), (1, .int 0), (2, .int 64), (3, .int a3)]) (st2 := [.ref 122]) (w3 := (sx_h0 64 a3)) rfl rfl ?_
  refine sx_RP.step (pc2 := 63) (ls2 := [(0, .ref 111), (1, .int 0), (2, .int 64), (3, .int a3)]) (st2 := [.int 0, .ref 122]) (w3 := (sx_h0 64 a3)) rfl rfl ?_
  refine sx_RP.step (pc2 := 64) (ls2 := [(0, .ref 111), (1, .int 0), (2, .int 64), (3, .int a3)]) (st2 := [.int 64, .int 0, .ref 122]) (w3 := (sx_h0 64 a3)) rfl rfl ?_
  refine sx_RP.step (pc2 := 65) (ls2 := [(0, .ref 111), (1, .int 0), (2, .int 64), (3, .int a3)]) (st2 := []) (w3 := ((sx_h0 64 a3).set 122 (.inl (0, [64, 0, 0, 0])))) rfl rfl ?_
  refine sx_RP.step (pc2 := 66) (ls2 := [(0, .ref 111), (1, .int 0), (2, .int 64), (3, .int a3)]) (st2 := [.ref 111]) (w3 := ((sx_h0 64 a3).set 122 (.inl (0, [64, 0, 0, 0])))) rfl rfl ?_
  refine sx_RP.step (pc2 := 69) (ls2 := [(0, .ref 111), (1, .int 0), (2, .int 64), (3, .int a3)]) (st2 := [.ref 123]) (w3 := ((sx_h0 64 a3).set 122 (.inl (0, [64, 0, 0, 0])))) rfl rfl ?_
  refine sx_RP.step (pc2 := 70) (ls2 := [(0, .ref 111), (1, .int 0), (2, .int 64), (3, .int a3)]) (st2 := [.int 0, .ref 123]) (w3 := ((sx_h0 64 a3).set 122 (.inl (0, [64, 0, 0, 0])))) rfl rfl ?_
  refine sx_RP.step (pc2 := 71) (ls2 := [(0, .ref 111), (1, .int 0), (2, .int 64), (3, .int a3)]) (st2 := [.int 64, .int 0, .ref 123]) (w3 := ((sx_h0 64 a3).set 122 (.inl (0, [64, 0, 0, 0])))) rfl rfl ?_
  refine sx_RP.step (pc2 := 78) (ls2 := [(0, .ref 111), (1, .int 0), (2, .int 64), (3, .int a3)]) (st2 := [.int 0, .ref 123]) (w3 := ((sx_h0 64 a3).set 122 (.inl (0, [64, 0, 0, 0])))) rfl rfl ?_
  refine sx_RP.step (pc2 := 79) (ls2 := [(0, .ref 111), (1, .int 0), (2, .int 64), (3, .int a3)]) (st2 := [.int a3, .int 0, .ref 123]) (w3 := ((sx_h0 64 a3).set 122 (.inl (0, [64, 0, 0, 0])))) rfl rfl ?_
  refine sx_RP.step (pc2 := 80) (ls2 := [(0, .ref 111), (1, .int 0), (2, .int 64), (3, .int a3)]) (st2 := []) (w3 := (((sx_h0 64 a3).set 122 (.inl (0, [64, 0, 0, 0]))).set 123 (.inl (0, [a3, 0, 0, 0])))) rfl rfl ?_
  refine sx_RP.step (pc2 := 81) (ls2 := [(0, .ref 111), (1, .int 0), (2, .int 64), (3, .int a3)]) (st2 := [.int 0]) (w3 := (((sx_h0 64 a3).set 122 (.inl (0, [64, 0, 0, 0]))).set 123 (.inl (0, [a3, 0, 0, 0])))) rfl rfl ?_
  refine sx_RP.step (pc2 := 83) (ls2 := [(4, .int 0), (0, .ref 111), (1, .int 0), (2, .int 64), (3, .int a3)]) (st2 := []) (w3 := (((sx_h0 64 a3).set 122 (.inl (0, [64, 0, 0, 0]))).set 123 (.inl (0, [a3, 0, 0, 0])))) rfl rfl ?_
  refine sx_RP.wd (w2 := sx_g0 64 a3) rfl ?_
  exact cp_230L0 ys 64 a3 a3 40 0 (by omega)
set_option maxRecDepth 20000 in
set_option maxHeartbeats 4000000 in
theorem cp_114_1_0 (ys : List Int32) (a3 : Int32) : sx_RU (some ys) 6 114 0 (lv_args 0 [.ref 105, .int 0, .int a3]) [] sx_w0 none (sx_h1 0 0) := by
  have h : sx_RP (some ys) 6 114 0 (lv_args 0 [.ref 105, .int 0, .int a3]) [] sx_w0 (fun r w2 => r = none ∧ w2 = sx_h1 0 0) := by
    refine sx_RP.step (pc2 := 1) (ls2 := [(0, .ref 105), (1, .int 0), (2, .int a3)]) (st2 := [.ref 105]) (w3 := sx_w0) rfl rfl ?_
    refine sx_RP.step (pc2 := 2) (ls2 := [(0, .ref 105), (1, .int 0), (2, .int a3)]) (st2 := [.int 0, .ref 105]) (w3 := sx_w0) rfl rfl ?_
    refine sx_RP.step (pc2 := 5) (ls2 := [(0, .ref 105), (1, .int 0), (2, .int a3)]) (st2 := []) (w3 := (sx_w0.set 105 (.inr (.inr (.inr (5, [.ref 106, .int 0, .int 0])))))) rfl rfl ?_
    refine sx_RP.step (pc2 := 6) (ls2 := [(0, .ref 105), (1, .int 0), (2, .int a3)]) (st2 := [.ref 105]) (w3 := (sx_w0.set 105 (.inr (.inr (.inr (5, [.ref 106, .int 0, .int 0])))))) rfl rfl ?_
    refine sx_RP.step (pc2 := 7) (ls2 := [(0, .ref 105), (1, .int 0), (2, .int a3)]) (st2 := [.int 0, .ref 105]) (w3 := (sx_w0.set 105 (.inr (.inr (.inr (5, [.ref 106, .int 0, .int 0])))))) rfl rfl ?_
    refine sx_RP.step (pc2 := 10) (ls2 := [(0, .ref 105), (1, .int 0), (2, .int a3)]) (st2 := [.ref 105]) (w3 := (sx_w0.set 105 (.inr (.inr (.inr (5, [.ref 106, .int 0, .int 0])))))) rfl rfl ?_
    refine sx_RP.step (pc2 := 11) (ls2 := [(0, .ref 105), (1, .int 0), (2, .int a3)]) (st2 := [.int 0, .ref 105]) (w3 := (sx_w0.set 105 (.inr (.inr (.inr (5, [.ref 106, .int 0, .int 0])))))) rfl rfl ?_
    refine sx_RP.step (pc2 := 15) (ls2 := [(0, .ref 105), (1, .int 0), (2, .int a3)]) (st2 := [.int 0, .ref 105]) (w3 := (sx_w0.set 105 (.inr (.inr (.inr (5, [.ref 106, .int 0, .int 0])))))) rfl rfl ?_
    refine sx_RP.step (pc2 := 18) (ls2 := [(0, .ref 105), (1, .int 0), (2, .int a3)]) (st2 := []) (w3 := (sx_w0.set 105 (.inr (.inr (.inr (5, [.ref 106, .int 0, .int 0])))))) rfl rfl ?_
    refine sx_RP.step (pc2 := 19) (ls2 := [(0, .ref 105), (1, .int 0), (2, .int a3)]) (st2 := [.int 0]) (w3 := (sx_w0.set 105 (.inr (.inr (.inr (5, [.ref 106, .int 0, .int 0])))))) rfl rfl ?_
    refine sx_RP.step (pc2 := 20) (ls2 := [(3, .int 0), (0, .ref 105), (1, .int 0), (2, .int a3)]) (st2 := []) (w3 := (sx_w0.set 105 (.inr (.inr (.inr (5, [.ref 106, .int 0, .int 0])))))) rfl rfl ?_
    refine sx_RP.wd (w2 := sx_h1 0 0) rfl ?_
    exact cp_114L1 ys 0 0 a3 40 0 (by omega)
  obtain ⟨r, w2, h1, rfl, rfl⟩ := h
  exact h1
set_option maxRecDepth 20000 in
set_option maxHeartbeats 4000000 in
theorem k_sheet_1_0 (ys : List Int32) (a3 : Int32) (p0 : 0 ≤ a3) (p1 : a3 ≤ 40) : sx_twoI ys 111 230 [.int 1, .int 0, .int a3] := by
  refine sx_twoI.of ?_
  refine sx_RP.step (pc2 := 1) (ls2 := [(0, .ref 0), (1, .int 1), (2, .int 0), (3, .int a3)]) (st2 := [.int 1]) (w3 := sx_w0) rfl rfl ?_
  refine sx_RP.cl (as2 := [.int 1]) (rest2 := []) rfl rfl rfl rfl rfl rfl ?_
  refine sx_RP.step (pc2 := 1) (ls2 := [(0, .int 1)]) (st2 := [.int 1]) (w3 := sx_w0) rfl rfl ?_
  refine sx_RP.step (pc2 := 2) (ls2 := [(0, .int 1)]) (st2 := [.int 0, .int 1]) (w3 := sx_w0) rfl rfl ?_
  refine sx_RP.step (pc2 := 3) (ls2 := [(0, .int 1)]) (st2 := [.int 3, .int 0, .int 1]) (w3 := sx_w0) rfl rfl ?_
  refine sx_RP.cl (as2 := [.int 1, .int 0, .int 3]) (rest2 := []) rfl rfl rfl rfl rfl rfl ?_
  refine sx_RP.step (pc2 := 1) (ls2 := [(0, .int 1), (1, .int 0), (2, .int 3)]) (st2 := [.int 1]) (w3 := sx_w0) rfl rfl ?_
  refine sx_RP.step (pc2 := 2) (ls2 := [(0, .int 1), (1, .int 0), (2, .int 3)]) (st2 := [.int 0, .int 1]) (w3 := sx_w0) rfl rfl ?_
  refine sx_RP.step (pc2 := 5) (ls2 := [(0, .int 1), (1, .int 0), (2, .int 3)]) (st2 := []) (w3 := sx_w0) rfl rfl ?_
  refine sx_RP.step (pc2 := 6) (ls2 := [(0, .int 1), (1, .int 0), (2, .int 3)]) (st2 := [.int 1]) (w3 := sx_w0) rfl rfl ?_
  refine sx_RP.step (pc2 := 7) (ls2 := [(0, .int 1), (1, .int 0), (2, .int 3)]) (st2 := [.int 3, .int 1]) (w3 := sx_w0) rfl rfl ?_
  refine sx_RP.step (pc2 := 10) (ls2 := [(0, .int 1), (1, .int 0), (2, .int 3)]) (st2 := []) (w3 := sx_w0) rfl rfl ?_
  refine sx_RP.step (pc2 := 11) (ls2 := [(0, .int 1), (1, .int 0), (2, .int 3)]) (st2 := [.int 1]) (w3 := sx_w0) rfl rfl ?_
  refine sx_RP.step (pc2 := 15) (ls2 := [(0, .int 1), (1, .int 0), (2, .int 3)]) (st2 := [.int 1]) (w3 := sx_w0) rfl rfl ?_
  refine sx_RP.retc (st3 := [.int 1]) rfl rfl rfl ?_
  refine sx_RP.retc (st3 := [.int 1]) rfl rfl rfl ?_
  refine sx_RP.step (pc2 := 7) (ls2 := [(0, .ref 0), (1, .int 1), (2, .int 0), (3, .int a3)]) (st2 := []) (w3 := sx_w0) rfl rfl ?_
  refine sx_RP.step (pc2 := 8) (ls2 := [(0, .ref 0), (1, .int 1), (2, .int 0), (3, .int a3)]) (st2 := [.int 0]) (w3 := sx_w0) rfl rfl ?_
  refine sx_RP.cl (as2 := [.int 0]) (rest2 := []) rfl rfl rfl rfl rfl rfl ?_
  refine sx_RP.step (pc2 := 1) (ls2 := [(0, .int 0)]) (st2 := [.int 0]) (w3 := sx_w0) rfl rfl ?_
  refine sx_RP.step (pc2 := 3) (ls2 := [(0, .int 0)]) (st2 := [.int 8, .int 0]) (w3 := sx_w0) rfl rfl ?_
  refine sx_RP.step (pc2 := 6) (ls2 := [(0, .int 0)]) (st2 := []) (w3 := sx_w0) rfl rfl ?_
  refine sx_RP.step (pc2 := 7) (ls2 := [(0, .int 0)]) (st2 := [.int 0]) (w3 := sx_w0) rfl rfl ?_
  refine sx_RP.step (pc2 := 9) (ls2 := [(0, .int 0)]) (st2 := [.int 16, .int 0]) (w3 := sx_w0) rfl rfl ?_
  refine sx_RP.step (pc2 := 12) (ls2 := [(0, .int 0)]) (st2 := []) (w3 := sx_w0) rfl rfl ?_
  refine sx_RP.step (pc2 := 13) (ls2 := [(0, .int 0)]) (st2 := [.int 0]) (w3 := sx_w0) rfl rfl ?_
  refine sx_RP.step (pc2 := 15) (ls2 := [(0, .int 0)]) (st2 := [.int 64, .int 0]) (w3 := sx_w0) rfl rfl ?_
  refine sx_RP.step (pc2 := 22) (ls2 := [(0, .int 0)]) (st2 := []) (w3 := sx_w0) rfl rfl ?_
  refine sx_RP.step (pc2 := 23) (ls2 := [(0, .int 0)]) (st2 := [.int 0]) (w3 := sx_w0) rfl rfl ?_
  refine sx_RP.retc (st3 := [.int 0]) rfl rfl rfl ?_
  refine sx_RP.step (pc2 := 14) (ls2 := [(0, .ref 0), (1, .int 1), (2, .int 0), (3, .int a3)]) (st2 := []) (w3 := sx_w0) rfl rfl ?_
  refine sx_RP.step (pc2 := 15) (ls2 := [(0, .ref 0), (1, .int 1), (2, .int 0), (3, .int a3)]) (st2 := [.int 0]) (w3 := sx_w0) rfl rfl ?_
  refine sx_RP.step (pc2 := 25) (ls2 := [(0, .ref 0), (1, .int 1), (2, .int 0), (3, .int a3)]) (st2 := []) (w3 := sx_w0) rfl rfl ?_
  refine sx_RP.step (pc2 := 26) (ls2 := [(0, .ref 0), (1, .int 1), (2, .int 0), (3, .int a3)]) (st2 := [.int a3]) (w3 := sx_w0) rfl rfl ?_
  refine sx_RP.br (p1 := 37) (l1 := [(0, .ref 0), (1, .int 1), (2, .int 0), (3, .int a3)]) (s1 := []) (v1 := sx_w0) rfl rfl (fun _ => ?_) (fun q => absurd p0 (of_decide_eq_false q))
  refine sx_RP.step (pc2 := 38) (ls2 := [(0, .ref 0), (1, .int 1), (2, .int 0), (3, .int a3)]) (st2 := [.int a3]) (w3 := sx_w0) rfl rfl ?_
  refine sx_RP.step (pc2 := 40) (ls2 := [(0, .ref 0), (1, .int 1), (2, .int 0), (3, .int a3)]) (st2 := [.int 40, .int a3]) (w3 := sx_w0) rfl rfl ?_
  refine sx_RP.br (p1 := 50) (l1 := [(0, .ref 0), (1, .int 1), (2, .int 0), (3, .int a3)]) (s1 := []) (v1 := sx_w0) rfl rfl (fun _ => ?_) (fun q => absurd p1 (of_decide_eq_false q))
  refine sx_RP.step (pc2 := 51) (ls2 := [(0, .ref 0), (1, .int 1), (2, .int 0), (3, .int a3)]) (st2 := [.ref 0]) (w3 := sx_w0) rfl rfl ?_
  refine sx_RP.step (pc2 := 54) (ls2 := [(0, .ref 0), (1, .int 1), (2, .int 0), (3, .int a3)]) (st2 := [.ref 98]) (w3 := sx_w0) rfl rfl ?_
  refine sx_RP.step (pc2 := 55) (ls2 := [(0, .ref 0), (1, .int 1), (2, .int 0), (3, .int a3)]) (st2 := [.int 1, .ref 98]) (w3 := sx_w0) rfl rfl ?_
  refine sx_RP.step (pc2 := 56) (ls2 := [(0, .ref 0), (1, .int 1), (2, .int 0), (3, .int a3)]) (st2 := [.ref 105]) (w3 := sx_w0) rfl rfl ?_
  refine sx_RP.step (pc2 := 57) (ls2 := [(0, .ref 0), (1, .int 1), (2, .int 0), (3, .int a3)]) (st2 := [.int 0, .ref 105]) (w3 := sx_w0) rfl rfl ?_
  refine sx_RP.step (pc2 := 58) (ls2 := [(0, .ref 0), (1, .int 1), (2, .int 0), (3, .int a3)]) (st2 := [.int a3, .int 0, .ref 105]) (w3 := sx_w0) rfl rfl ?_
  refine sx_RP.cu (as := [.ref 105, .int 0, .int a3]) (rest2 := []) (st3 := []) rfl rfl rfl rfl rfl (cp_114_1_0 ys a3) rfl ?_
  refine sx_RP.step (pc2 := 62) (ls2 := [(0, .ref 0), (1, .int 1), (2, .int 0), (3, .int a3)]) (st2 := [.ref 0]) (w3 := (sx_h1 0 0)) rfl rfl ?_
  refine sx_RP.step (pc2 := 65) (ls2 := [(0, .ref 0), (1, .int 1), (2, .int 0), (3, .int a3)]) (st2 := [.ref 98]) (w3 := (sx_h1 0 0)) rfl rfl ?_
  refine sx_RP.step (pc2 := 66) (ls2 := [(0, .ref 0), (1, .int 1), (2, .int 0), (3, .int a3)]) (st2 := [.int 1, .ref 98]) (w3 := (sx_h1 0 0)) rfl rfl ?_
  refine sx_RP.step (pc2 := 67) (ls2 := [(0, .ref 0), (1, .int 1), (2, .int 0), (3, .int a3)]) (st2 := [.ref 105]) (w3 := (sx_h1 0 0)) rfl rfl ?_
  refine sx_RP.step (pc2 := 70) (ls2 := [(0, .ref 0), (1, .int 1), (2, .int 0), (3, .int a3)]) (st2 := [.int 0]) (w3 := (sx_h1 0 0)) rfl rfl ?_
  refine sx_RP.ret rfl rfl ?_
  refine ⟨0, rfl, ⟨_, rfl⟩, ?_⟩
  refine sx_RP.step (pc2 := 1) (ls2 := [(0, .ref 111), (1, .int 1), (2, .int 0), (3, .int a3)]) (st2 := [.int 1]) (w3 := (sx_h1 0 0)) rfl rfl ?_
  refine sx_RP.cl (as2 := [.int 1]) (rest2 := []) rfl rfl rfl rfl rfl rfl ?_
  refine sx_RP.step (pc2 := 1) (ls2 := [(0, .int 1)]) (st2 := [.int 1]) (w3 := (sx_h1 0 0)) rfl rfl ?_
  refine sx_RP.step (pc2 := 2) (ls2 := [(0, .int 1)]) (st2 := [.int 0, .int 1]) (w3 := (sx_h1 0 0)) rfl rfl ?_
  refine sx_RP.step (pc2 := 3) (ls2 := [(0, .int 1)]) (st2 := [.int 3, .int 0, .int 1]) (w3 := (sx_h1 0 0)) rfl rfl ?_
  refine sx_RP.cl (as2 := [.int 1, .int 0, .int 3]) (rest2 := []) rfl rfl rfl rfl rfl rfl ?_
  refine sx_RP.step (pc2 := 1) (ls2 := [(0, .int 1), (1, .int 0), (2, .int 3)]) (st2 := [.int 1]) (w3 := (sx_h1 0 0)) rfl rfl ?_
  refine sx_RP.step (pc2 := 2) (ls2 := [(0, .int 1), (1, .int 0), (2, .int 3)]) (st2 := [.int 0, .int 1]) (w3 := (sx_h1 0 0)) rfl rfl ?_
  refine sx_RP.step (pc2 := 5) (ls2 := [(0, .int 1), (1, .int 0), (2, .int 3)]) (st2 := []) (w3 := (sx_h1 0 0)) rfl rfl ?_
  refine sx_RP.step (pc2 := 6) (ls2 := [(0, .int 1), (1, .int 0), (2, .int 3)]) (st2 := [.int 1]) (w3 := (sx_h1 0 0)) rfl rfl ?_
  refine sx_RP.step (pc2 := 7) (ls2 := [(0, .int 1), (1, .int 0), (2, .int 3)]) (st2 := [.int 3, .int 1]) (w3 := (sx_h1 0 0)) rfl rfl ?_
  refine sx_RP.step (pc2 := 10) (ls2 := [(0, .int 1), (1, .int 0), (2, .int 3)]) (st2 := []) (w3 := (sx_h1 0 0)) rfl rfl ?_
  refine sx_RP.step (pc2 := 11) (ls2 := [(0, .int 1), (1, .int 0), (2, .int 3)]) (st2 := [.int 1]) (w3 := (sx_h1 0 0)) rfl rfl ?_
  refine sx_RP.step (pc2 := 15) (ls2 := [(0, .int 1), (1, .int 0), (2, .int 3)]) (st2 := [.int 1]) (w3 := (sx_h1 0 0)) rfl rfl ?_
  refine sx_RP.retc (st3 := [.int 1]) rfl rfl rfl ?_
  refine sx_RP.retc (st3 := [.int 1]) rfl rfl rfl ?_
  refine sx_RP.step (pc2 := 7) (ls2 := [(0, .ref 111), (1, .int 1), (2, .int 0), (3, .int a3)]) (st2 := []) (w3 := (sx_h1 0 0)) rfl rfl ?_
  refine sx_RP.step (pc2 := 8) (ls2 := [(0, .ref 111), (1, .int 1), (2, .int 0), (3, .int a3)]) (st2 := [.int 0]) (w3 := (sx_h1 0 0)) rfl rfl ?_
  refine sx_RP.step (pc2 := 35) (ls2 := [(0, .ref 111), (1, .int 1), (2, .int 0), (3, .int a3)]) (st2 := []) (w3 := (sx_h1 0 0)) rfl rfl ?_
  refine sx_RP.step (pc2 := 36) (ls2 := [(0, .ref 111), (1, .int 1), (2, .int 0), (3, .int a3)]) (st2 := [.int a3]) (w3 := (sx_h1 0 0)) rfl rfl ?_
  refine sx_RP.br (p1 := 46) (l1 := [(0, .ref 111), (1, .int 1), (2, .int 0), (3, .int a3)]) (s1 := []) (v1 := (sx_h1 0 0)) rfl rfl (fun _ => ?_) (fun q => absurd p0 (of_decide_eq_false q))
  refine sx_RP.step (pc2 := 47) (ls2 := [(0, .ref 111), (1, .int 1), (2, .int 0), (3, .int a3)]) (st2 := [.int a3]) (w3 := (sx_h1 0 0)) rfl rfl ?_
  refine sx_RP.step (pc2 := 49) (ls2 := [(0, .ref 111), (1, .int 1), (2, .int 0), (3, .int a3)]) (st2 := [.int 40, .int a3]) (w3 := (sx_h1 0 0)) rfl rfl ?_
  refine sx_RP.br (p1 := 58) (l1 := [(0, .ref 111), (1, .int 1), (2, .int 0), (3, .int a3)]) (s1 := []) (v1 := (sx_h1 0 0)) rfl rfl (fun _ => ?_) (fun q => absurd p1 (of_decide_eq_false q))
  refine sx_RP.step (pc2 := 59) (ls2 := [(0, .ref 111), (1, .int 1), (2, .int 0), (3, .int a3)]) (st2 := [.ref 111]) (w3 := (sx_h1 0 0)) rfl rfl ?_
  refine sx_RP.step (pc2 := 62) (ls2 := [(0, .ref 111), (1, .int 1), (2, .int 0), (3, .int a3)]) (st2 := [.ref 122]) (w3 := (sx_h1 0 0)) rfl rfl ?_
  refine sx_RP.step (pc2 := 63) (ls2 := [(0, .ref 111), (1, .int 1), (2, .int 0), (3, .int a3)]) (st2 := [.int 1, .ref 122]) (w3 := (sx_h1 0 0)) rfl rfl ?_
  refine sx_RP.step (pc2 := 64) (ls2 := [(0, .ref 111), (1, .int 1), (2, .int 0), (3, .int a3)]) (st2 := [.int 0, .int 1, .ref 122]) (w3 := (sx_h1 0 0)) rfl rfl ?_
  refine sx_RP.step (pc2 := 65) (ls2 := [(0, .ref 111), (1, .int 1), (2, .int 0), (3, .int a3)]) (st2 := []) (w3 := ((sx_h1 0 0).set 122 (.inl (0, [0, 0, 0, 0])))) rfl rfl ?_
  refine sx_RP.step (pc2 := 66) (ls2 := [(0, .ref 111), (1, .int 1), (2, .int 0), (3, .int a3)]) (st2 := [.ref 111]) (w3 := ((sx_h1 0 0).set 122 (.inl (0, [0, 0, 0, 0])))) rfl rfl ?_
  refine sx_RP.step (pc2 := 69) (ls2 := [(0, .ref 111), (1, .int 1), (2, .int 0), (3, .int a3)]) (st2 := [.ref 123]) (w3 := ((sx_h1 0 0).set 122 (.inl (0, [0, 0, 0, 0])))) rfl rfl ?_
  refine sx_RP.step (pc2 := 70) (ls2 := [(0, .ref 111), (1, .int 1), (2, .int 0), (3, .int a3)]) (st2 := [.int 1, .ref 123]) (w3 := ((sx_h1 0 0).set 122 (.inl (0, [0, 0, 0, 0])))) rfl rfl ?_
  refine sx_RP.step (pc2 := 71) (ls2 := [(0, .ref 111), (1, .int 1), (2, .int 0), (3, .int a3)]) (st2 := [.int 0, .int 1, .ref 123]) (w3 := ((sx_h1 0 0).set 122 (.inl (0, [0, 0, 0, 0])))) rfl rfl ?_
  refine sx_RP.step (pc2 := 74) (ls2 := [(0, .ref 111), (1, .int 1), (2, .int 0), (3, .int a3)]) (st2 := [.int 1, .ref 123]) (w3 := ((sx_h1 0 0).set 122 (.inl (0, [0, 0, 0, 0])))) rfl rfl ?_
  refine sx_RP.step (pc2 := 75) (ls2 := [(0, .ref 111), (1, .int 1), (2, .int 0), (3, .int a3)]) (st2 := [.int 0, .int 1, .ref 123]) (w3 := ((sx_h1 0 0).set 122 (.inl (0, [0, 0, 0, 0])))) rfl rfl ?_
  refine sx_RP.step (pc2 := 79) (ls2 := [(0, .ref 111), (1, .int 1), (2, .int 0), (3, .int a3)]) (st2 := [.int 0, .int 1, .ref 123]) (w3 := ((sx_h1 0 0).set 122 (.inl (0, [0, 0, 0, 0])))) rfl rfl ?_
  refine sx_RP.step (pc2 := 80) (ls2 := [(0, .ref 111), (1, .int 1), (2, .int 0), (3, .int a3)]) (st2 := []) (w3 := (((sx_h1 0 0).set 122 (.inl (0, [0, 0, 0, 0]))).set 123 (.inl (0, [0, 0, 0, 0])))) rfl rfl ?_
  refine sx_RP.step (pc2 := 81) (ls2 := [(0, .ref 111), (1, .int 1), (2, .int 0), (3, .int a3)]) (st2 := [.int 0]) (w3 := (((sx_h1 0 0).set 122 (.inl (0, [0, 0, 0, 0]))).set 123 (.inl (0, [0, 0, 0, 0])))) rfl rfl ?_
  refine sx_RP.step (pc2 := 83) (ls2 := [(4, .int 0), (0, .ref 111), (1, .int 1), (2, .int 0), (3, .int a3)]) (st2 := []) (w3 := (((sx_h1 0 0).set 122 (.inl (0, [0, 0, 0, 0]))).set 123 (.inl (0, [0, 0, 0, 0])))) rfl rfl ?_
  refine sx_RP.wd (w2 := sx_g1 0 0) rfl ?_
  exact cp_230L1 ys 0 0 a3 40 0 (by omega)
set_option maxRecDepth 20000 in
set_option maxHeartbeats 4000000 in
theorem cp_114_1_8 (ys : List Int32) (a3 : Int32) : sx_RU (some ys) 6 114 0 (lv_args 0 [.ref 105, .int 8, .int a3]) [] sx_w0 none (sx_h1 8 a3) := by
  have h : sx_RP (some ys) 6 114 0 (lv_args 0 [.ref 105, .int 8, .int a3]) [] sx_w0 (fun r w2 => r = none ∧ w2 = sx_h1 8 a3) := by
    refine sx_RP.step (pc2 := 1) (ls2 := [(0, .ref 105), (1, .int 8), (2, .int a3)]) (st2 := [.ref 105]) (w3 := sx_w0) rfl rfl ?_
    refine sx_RP.step (pc2 := 2) (ls2 := [(0, .ref 105), (1, .int 8), (2, .int a3)]) (st2 := [.int 8, .ref 105]) (w3 := sx_w0) rfl rfl ?_
    refine sx_RP.step (pc2 := 5) (ls2 := [(0, .ref 105), (1, .int 8), (2, .int a3)]) (st2 := []) (w3 := (sx_w0.set 105 (.inr (.inr (.inr (5, [.ref 106, .int 8, .int 0])))))) rfl rfl ?_
    refine sx_RP.step (pc2 := 6) (ls2 := [(0, .ref 105), (1, .int 8), (2, .int a3)]) (st2 := [.ref 105]) (w3 := (sx_w0.set 105 (.inr (.inr (.inr (5, [.ref 106, .int 8, .int 0])))))) rfl rfl ?_
    refine sx_RP.step (pc2 := 7) (ls2 := [(0, .ref 105), (1, .int 8), (2, .int a3)]) (st2 := [.int 8, .ref 105]) (w3 := (sx_w0.set 105 (.inr (.inr (.inr (5, [.ref 106, .int 8, .int 0])))))) rfl rfl ?_
    refine sx_RP.step (pc2 := 14) (ls2 := [(0, .ref 105), (1, .int 8), (2, .int a3)]) (st2 := [.ref 105]) (w3 := (sx_w0.set 105 (.inr (.inr (.inr (5, [.ref 106, .int 8, .int 0])))))) rfl rfl ?_
    refine sx_RP.step (pc2 := 15) (ls2 := [(0, .ref 105), (1, .int 8), (2, .int a3)]) (st2 := [.int a3, .ref 105]) (w3 := (sx_w0.set 105 (.inr (.inr (.inr (5, [.ref 106, .int 8, .int 0])))))) rfl rfl ?_
    refine sx_RP.step (pc2 := 18) (ls2 := [(0, .ref 105), (1, .int 8), (2, .int a3)]) (st2 := []) (w3 := (sx_w0.set 105 (.inr (.inr (.inr (5, [.ref 106, .int 8, .int a3])))))) rfl rfl ?_
    refine sx_RP.step (pc2 := 19) (ls2 := [(0, .ref 105), (1, .int 8), (2, .int a3)]) (st2 := [.int 0]) (w3 := (sx_w0.set 105 (.inr (.inr (.inr (5, [.ref 106, .int 8, .int a3])))))) rfl rfl ?_
    refine sx_RP.step (pc2 := 20) (ls2 := [(3, .int 0), (0, .ref 105), (1, .int 8), (2, .int a3)]) (st2 := []) (w3 := (sx_w0.set 105 (.inr (.inr (.inr (5, [.ref 106, .int 8, .int a3])))))) rfl rfl ?_
    refine sx_RP.wd (w2 := sx_h1 8 a3) rfl ?_
    exact cp_114L1 ys 8 a3 a3 40 0 (by omega)
  obtain ⟨r, w2, h1, rfl, rfl⟩ := h
  exact h1
set_option maxRecDepth 20000 in
set_option maxHeartbeats 4000000 in
theorem k_sheet_1_8 (ys : List Int32) (a3 : Int32) (p0 : 0 ≤ a3) (p1 : a3 ≤ 40) : sx_twoI ys 111 230 [.int 1, .int 8, .int a3] := by
  refine sx_twoI.of ?_
  refine sx_RP.step (pc2 := 1) (ls2 := [(0, .ref 0), (1, .int 1), (2, .int 8), (3, .int a3)]) (st2 := [.int 1]) (w3 := sx_w0) rfl rfl ?_
  refine sx_RP.cl (as2 := [.int 1]) (rest2 := []) rfl rfl rfl rfl rfl rfl ?_
  refine sx_RP.step (pc2 := 1) (ls2 := [(0, .int 1)]) (st2 := [.int 1]) (w3 := sx_w0) rfl rfl ?_
  refine sx_RP.step (pc2 := 2) (ls2 := [(0, .int 1)]) (st2 := [.int 0, .int 1]) (w3 := sx_w0) rfl rfl ?_
  refine sx_RP.step (pc2 := 3) (ls2 := [(0, .int 1)]) (st2 := [.int 3, .int 0, .int 1]) (w3 := sx_w0) rfl rfl ?_
  refine sx_RP.cl (as2 := [.int 1, .int 0, .int 3]) (rest2 := []) rfl rfl rfl rfl rfl rfl ?_
  refine sx_RP.step (pc2 := 1) (ls2 := [(0, .int 1), (1, .int 0), (2, .int 3)]) (st2 := [.int 1]) (w3 := sx_w0) rfl rfl ?_
  refine sx_RP.step (pc2 := 2) (ls2 := [(0, .int 1), (1, .int 0), (2, .int 3)]) (st2 := [.int 0, .int 1]) (w3 := sx_w0) rfl rfl ?_
  refine sx_RP.step (pc2 := 5) (ls2 := [(0, .int 1), (1, .int 0), (2, .int 3)]) (st2 := []) (w3 := sx_w0) rfl rfl ?_
  refine sx_RP.step (pc2 := 6) (ls2 := [(0, .int 1), (1, .int 0), (2, .int 3)]) (st2 := [.int 1]) (w3 := sx_w0) rfl rfl ?_
  refine sx_RP.step (pc2 := 7) (ls2 := [(0, .int 1), (1, .int 0), (2, .int 3)]) (st2 := [.int 3, .int 1]) (w3 := sx_w0) rfl rfl ?_
  refine sx_RP.step (pc2 := 10) (ls2 := [(0, .int 1), (1, .int 0), (2, .int 3)]) (st2 := []) (w3 := sx_w0) rfl rfl ?_
  refine sx_RP.step (pc2 := 11) (ls2 := [(0, .int 1), (1, .int 0), (2, .int 3)]) (st2 := [.int 1]) (w3 := sx_w0) rfl rfl ?_
  refine sx_RP.step (pc2 := 15) (ls2 := [(0, .int 1), (1, .int 0), (2, .int 3)]) (st2 := [.int 1]) (w3 := sx_w0) rfl rfl ?_
  refine sx_RP.retc (st3 := [.int 1]) rfl rfl rfl ?_
  refine sx_RP.retc (st3 := [.int 1]) rfl rfl rfl ?_
  refine sx_RP.step (pc2 := 7) (ls2 := [(0, .ref 0), (1, .int 1), (2, .int 8), (3, .int a3)]) (st2 := []) (w3 := sx_w0) rfl rfl ?_
  refine sx_RP.step (pc2 := 8) (ls2 := [(0, .ref 0), (1, .int 1), (2, .int 8), (3, .int a3)]) (st2 := [.int 8]) (w3 := sx_w0) rfl rfl ?_
  refine sx_RP.cl (as2 := [.int 8]) (rest2 := []) rfl rfl rfl rfl rfl rfl ?_
  refine sx_RP.step (pc2 := 1) (ls2 := [(0, .int 8)]) (st2 := [.int 8]) (w3 := sx_w0) rfl rfl ?_
  refine sx_RP.step (pc2 := 3) (ls2 := [(0, .int 8)]) (st2 := [.int 8, .int 8]) (w3 := sx_w0) rfl rfl ?_
  refine sx_RP.step (pc2 := 18) (ls2 := [(0, .int 8)]) (st2 := []) (w3 := sx_w0) rfl rfl ?_
  refine sx_RP.step (pc2 := 19) (ls2 := [(0, .int 8)]) (st2 := [.int 1]) (w3 := sx_w0) rfl rfl ?_
  refine sx_RP.step (pc2 := 23) (ls2 := [(0, .int 8)]) (st2 := [.int 1]) (w3 := sx_w0) rfl rfl ?_
  refine sx_RP.retc (st3 := [.int 1]) rfl rfl rfl ?_
  refine sx_RP.step (pc2 := 25) (ls2 := [(0, .ref 0), (1, .int 1), (2, .int 8), (3, .int a3)]) (st2 := []) (w3 := sx_w0) rfl rfl ?_
  refine sx_RP.step (pc2 := 26) (ls2 := [(0, .ref 0), (1, .int 1), (2, .int 8), (3, .int a3)]) (st2 := [.int a3]) (w3 := sx_w0) rfl rfl ?_
  refine sx_RP.br (p1 := 37) (l1 := [(0, .ref 0), (1, .int 1), (2, .int 8), (3, .int a3)]) (s1 := []) (v1 := sx_w0) rfl rfl (fun _ => ?_) (fun q => absurd p0 (of_decide_eq_false q))
  refine sx_RP.step (pc2 := 38) (ls2 := [(0, .ref 0), (1, .int 1), (2, .int 8), (3, .int a3)]) (st2 := [.int a3]) (w3 := sx_w0) rfl rfl ?_
  refine sx_RP.step (pc2 := 40) (ls2 := [(0, .ref 0), (1, .int 1), (2, .int 8), (3, .int a3)]) (st2 := [.int 40, .int a3]) (w3 := sx_w0) rfl rfl ?_
  refine sx_RP.br (p1 := 50) (l1 := [(0, .ref 0), (1, .int 1), (2, .int 8), (3, .int a3)]) (s1 := []) (v1 := sx_w0) rfl rfl (fun _ => ?_) (fun q => absurd p1 (of_decide_eq_false q))
  refine sx_RP.step (pc2 := 51) (ls2 := [(0, .ref 0), (1, .int 1), (2, .int 8), (3, .int a3)]) (st2 := [.ref 0]) (w3 := sx_w0) rfl rfl ?_
  refine sx_RP.step (pc2 := 54) (ls2 := [(0, .ref 0), (1, .int 1), (2, .int 8), (3, .int a3)]) (st2 := [.ref 98]) (w3 := sx_w0) rfl rfl ?_
  refine sx_RP.step (pc2 := 55) (ls2 := [(0, .ref 0), (1, .int 1), (2, .int 8), (3, .int a3)]) (st2 := [.int 1, .ref 98]) (w3 := sx_w0) rfl rfl ?_
  refine sx_RP.step (pc2 := 56) (ls2 := [(0, .ref 0), (1, .int 1), (2, .int 8), (3, .int a3)]) (st2 := [.ref 105]) (w3 := sx_w0) rfl rfl ?_
  refine sx_RP.step (pc2 := 57) (ls2 := [(0, .ref 0), (1, .int 1), (2, .int 8), (3, .int a3)]) (st2 := [.int 8, .ref 105]) (w3 := sx_w0) rfl rfl ?_
  refine sx_RP.step (pc2 := 58) (ls2 := [(0, .ref 0), (1, .int 1), (2, .int 8), (3, .int a3)]) (st2 := [.int a3, .int 8, .ref 105]) (w3 := sx_w0) rfl rfl ?_
  refine sx_RP.cu (as := [.ref 105, .int 8, .int a3]) (rest2 := []) (st3 := []) rfl rfl rfl rfl rfl (cp_114_1_8 ys a3) rfl ?_
  refine sx_RP.step (pc2 := 62) (ls2 := [(0, .ref 0), (1, .int 1), (2, .int 8), (3, .int a3)]) (st2 := [.ref 0]) (w3 := (sx_h1 8 a3)) rfl rfl ?_
  refine sx_RP.step (pc2 := 65) (ls2 := [(0, .ref 0), (1, .int 1), (2, .int 8), (3, .int a3)]) (st2 := [.ref 98]) (w3 := (sx_h1 8 a3)) rfl rfl ?_
  refine sx_RP.step (pc2 := 66) (ls2 := [(0, .ref 0), (1, .int 1), (2, .int 8), (3, .int a3)]) (st2 := [.int 1, .ref 98]) (w3 := (sx_h1 8 a3)) rfl rfl ?_
  refine sx_RP.step (pc2 := 67) (ls2 := [(0, .ref 0), (1, .int 1), (2, .int 8), (3, .int a3)]) (st2 := [.ref 105]) (w3 := (sx_h1 8 a3)) rfl rfl ?_
  refine sx_RP.step (pc2 := 70) (ls2 := [(0, .ref 0), (1, .int 1), (2, .int 8), (3, .int a3)]) (st2 := [.int a3]) (w3 := (sx_h1 8 a3)) rfl rfl ?_
  refine sx_RP.ret rfl rfl ?_
  refine ⟨a3, rfl, ⟨_, rfl⟩, ?_⟩
  refine sx_RP.step (pc2 := 1) (ls2 := [(0, .ref 111), (1, .int 1), (2, .int 8), (3, .int a3)]) (st2 := [.int 1]) (w3 := (sx_h1 8 a3)) rfl rfl ?_
  refine sx_RP.cl (as2 := [.int 1]) (rest2 := []) rfl rfl rfl rfl rfl rfl ?_
  refine sx_RP.step (pc2 := 1) (ls2 := [(0, .int 1)]) (st2 := [.int 1]) (w3 := (sx_h1 8 a3)) rfl rfl ?_
  refine sx_RP.step (pc2 := 2) (ls2 := [(0, .int 1)]) (st2 := [.int 0, .int 1]) (w3 := (sx_h1 8 a3)) rfl rfl ?_
  refine sx_RP.step (pc2 := 3) (ls2 := [(0, .int 1)]) (st2 := [.int 3, .int 0, .int 1]) (w3 := (sx_h1 8 a3)) rfl rfl ?_
  refine sx_RP.cl (as2 := [.int 1, .int 0, .int 3]) (rest2 := []) rfl rfl rfl rfl rfl rfl ?_
  refine sx_RP.step (pc2 := 1) (ls2 := [(0, .int 1), (1, .int 0), (2, .int 3)]) (st2 := [.int 1]) (w3 := (sx_h1 8 a3)) rfl rfl ?_
  refine sx_RP.step (pc2 := 2) (ls2 := [(0, .int 1), (1, .int 0), (2, .int 3)]) (st2 := [.int 0, .int 1]) (w3 := (sx_h1 8 a3)) rfl rfl ?_
  refine sx_RP.step (pc2 := 5) (ls2 := [(0, .int 1), (1, .int 0), (2, .int 3)]) (st2 := []) (w3 := (sx_h1 8 a3)) rfl rfl ?_
  refine sx_RP.step (pc2 := 6) (ls2 := [(0, .int 1), (1, .int 0), (2, .int 3)]) (st2 := [.int 1]) (w3 := (sx_h1 8 a3)) rfl rfl ?_
  refine sx_RP.step (pc2 := 7) (ls2 := [(0, .int 1), (1, .int 0), (2, .int 3)]) (st2 := [.int 3, .int 1]) (w3 := (sx_h1 8 a3)) rfl rfl ?_
  refine sx_RP.step (pc2 := 10) (ls2 := [(0, .int 1), (1, .int 0), (2, .int 3)]) (st2 := []) (w3 := (sx_h1 8 a3)) rfl rfl ?_
  refine sx_RP.step (pc2 := 11) (ls2 := [(0, .int 1), (1, .int 0), (2, .int 3)]) (st2 := [.int 1]) (w3 := (sx_h1 8 a3)) rfl rfl ?_
  refine sx_RP.step (pc2 := 15) (ls2 := [(0, .int 1), (1, .int 0), (2, .int 3)]) (st2 := [.int 1]) (w3 := (sx_h1 8 a3)) rfl rfl ?_
  refine sx_RP.retc (st3 := [.int 1]) rfl rfl rfl ?_
  refine sx_RP.retc (st3 := [.int 1]) rfl rfl rfl ?_
  refine sx_RP.step (pc2 := 7) (ls2 := [(0, .ref 111), (1, .int 1), (2, .int 8), (3, .int a3)]) (st2 := []) (w3 := (sx_h1 8 a3)) rfl rfl ?_
  refine sx_RP.step (pc2 := 8) (ls2 := [(0, .ref 111), (1, .int 1), (2, .int 8), (3, .int a3)]) (st2 := [.int 8]) (w3 := (sx_h1 8 a3)) rfl rfl ?_
  refine sx_RP.step (pc2 := 11) (ls2 := [(0, .ref 111), (1, .int 1), (2, .int 8), (3, .int a3)]) (st2 := []) (w3 := (sx_h1 8 a3)) rfl rfl ?_
  refine sx_RP.step (pc2 := 12) (ls2 := [(0, .ref 111), (1, .int 1), (2, .int 8), (3, .int a3)]) (st2 := [.int 8]) (w3 := (sx_h1 8 a3)) rfl rfl ?_
  refine sx_RP.step (pc2 := 14) (ls2 := [(0, .ref 111), (1, .int 1), (2, .int 8), (3, .int a3)]) (st2 := [.int 8, .int 8]) (w3 := (sx_h1 8 a3)) rfl rfl ?_
  refine sx_RP.step (pc2 := 35) (ls2 := [(0, .ref 111), (1, .int 1), (2, .int 8), (3, .int a3)]) (st2 := []) (w3 := (sx_h1 8 a3)) rfl rfl ?_
  refine sx_RP.step (pc2 := 36) (ls2 := [(0, .ref 111), (1, .int 1), (2, .int 8), (3, .int a3)]) (st2 := [.int a3]) (w3 := (sx_h1 8 a3)) rfl rfl ?_
  refine sx_RP.br (p1 := 46) (l1 := [(0, .ref 111), (1, .int 1), (2, .int 8), (3, .int a3)]) (s1 := []) (v1 := (sx_h1 8 a3)) rfl rfl (fun _ => ?_) (fun q => absurd p0 (of_decide_eq_false q))
  refine sx_RP.step (pc2 := 47) (ls2 := [(0, .ref 111), (1, .int 1), (2, .int 8), (3, .int a3)]) (st2 := [.int a3]) (w3 := (sx_h1 8 a3)) rfl rfl ?_
  refine sx_RP.step (pc2 := 49) (ls2 := [(0, .ref 111), (1, .int 1), (2, .int 8), (3, .int a3)]) (st2 := [.int 40, .int a3]) (w3 := (sx_h1 8 a3)) rfl rfl ?_
  refine sx_RP.br (p1 := 58) (l1 := [(0, .ref 111), (1, .int 1), (2, .int 8), (3, .int a3)]) (s1 := []) (v1 := (sx_h1 8 a3)) rfl rfl (fun _ => ?_) (fun q => absurd p1 (of_decide_eq_false q))
  refine sx_RP.step (pc2 := 59) (ls2 := [(0, .ref 111), (1, .int 1), (2, .int 8), (3, .int a3)]) (st2 := [.ref 111]) (w3 := (sx_h1 8 a3)) rfl rfl ?_
  refine sx_RP.step (pc2 := 62) (ls2 := [(0, .ref 111), (1, .int 1), (2, .int 8), (3, .int a3)]) (st2 := [.ref 122]) (w3 := (sx_h1 8 a3)) rfl rfl ?_
  refine sx_RP.step (pc2 := 63) (ls2 := [(0, .ref 111), (1, .int 1), (2, .int 8), (3, .int a3)]) (st2 := [.int 1, .ref 122]) (w3 := (sx_h1 8 a3)) rfl rfl ?_
  refine sx_RP.step (pc2 := 64) (ls2 := [(0, .ref 111), (1, .int 1), (2, .int 8), (3, .int a3)]) (st2 := [.int 8, .int 1, .ref 122]) (w3 := (sx_h1 8 a3)) rfl rfl ?_
  refine sx_RP.step (pc2 := 65) (ls2 := [(0, .ref 111), (1, .int 1), (2, .int 8), (3, .int a3)]) (st2 := []) (w3 := ((sx_h1 8 a3).set 122 (.inl (0, [0, 8, 0, 0])))) rfl rfl ?_
  refine sx_RP.step (pc2 := 66) (ls2 := [(0, .ref 111), (1, .int 1), (2, .int 8), (3, .int a3)]) (st2 := [.ref 111]) (w3 := ((sx_h1 8 a3).set 122 (.inl (0, [0, 8, 0, 0])))) rfl rfl ?_
  refine sx_RP.step (pc2 := 69) (ls2 := [(0, .ref 111), (1, .int 1), (2, .int 8), (3, .int a3)]) (st2 := [.ref 123]) (w3 := ((sx_h1 8 a3).set 122 (.inl (0, [0, 8, 0, 0])))) rfl rfl ?_
  refine sx_RP.step (pc2 := 70) (ls2 := [(0, .ref 111), (1, .int 1), (2, .int 8), (3, .int a3)]) (st2 := [.int 1, .ref 123]) (w3 := ((sx_h1 8 a3).set 122 (.inl (0, [0, 8, 0, 0])))) rfl rfl ?_
  refine sx_RP.step (pc2 := 71) (ls2 := [(0, .ref 111), (1, .int 1), (2, .int 8), (3, .int a3)]) (st2 := [.int 8, .int 1, .ref 123]) (w3 := ((sx_h1 8 a3).set 122 (.inl (0, [0, 8, 0, 0])))) rfl rfl ?_
  refine sx_RP.step (pc2 := 78) (ls2 := [(0, .ref 111), (1, .int 1), (2, .int 8), (3, .int a3)]) (st2 := [.int 1, .ref 123]) (w3 := ((sx_h1 8 a3).set 122 (.inl (0, [0, 8, 0, 0])))) rfl rfl ?_
  refine sx_RP.step (pc2 := 79) (ls2 := [(0, .ref 111), (1, .int 1), (2, .int 8), (3, .int a3)]) (st2 := [.int a3, .int 1, .ref 123]) (w3 := ((sx_h1 8 a3).set 122 (.inl (0, [0, 8, 0, 0])))) rfl rfl ?_
  refine sx_RP.step (pc2 := 80) (ls2 := [(0, .ref 111), (1, .int 1), (2, .int 8), (3, .int a3)]) (st2 := []) (w3 := (((sx_h1 8 a3).set 122 (.inl (0, [0, 8, 0, 0]))).set 123 (.inl (0, [0, a3, 0, 0])))) rfl rfl ?_
  refine sx_RP.step (pc2 := 81) (ls2 := [(0, .ref 111), (1, .int 1), (2, .int 8), (3, .int a3)]) (st2 := [.int 0]) (w3 := (((sx_h1 8 a3).set 122 (.inl (0, [0, 8, 0, 0]))).set 123 (.inl (0, [0, a3, 0, 0])))) rfl rfl ?_
  refine sx_RP.step (pc2 := 83) (ls2 := [(4, .int 0), (0, .ref 111), (1, .int 1), (2, .int 8), (3, .int a3)]) (st2 := []) (w3 := (((sx_h1 8 a3).set 122 (.inl (0, [0, 8, 0, 0]))).set 123 (.inl (0, [0, a3, 0, 0])))) rfl rfl ?_
  refine sx_RP.wd (w2 := sx_g1 8 a3) rfl ?_
  exact cp_230L1 ys 8 a3 a3 40 0 (by omega)
set_option maxRecDepth 20000 in
set_option maxHeartbeats 4000000 in
theorem cp_114_1_16 (ys : List Int32) (a3 : Int32) : sx_RU (some ys) 6 114 0 (lv_args 0 [.ref 105, .int 16, .int a3]) [] sx_w0 none (sx_h1 16 a3) := by
  have h : sx_RP (some ys) 6 114 0 (lv_args 0 [.ref 105, .int 16, .int a3]) [] sx_w0 (fun r w2 => r = none ∧ w2 = sx_h1 16 a3) := by
    refine sx_RP.step (pc2 := 1) (ls2 := [(0, .ref 105), (1, .int 16), (2, .int a3)]) (st2 := [.ref 105]) (w3 := sx_w0) rfl rfl ?_
    refine sx_RP.step (pc2 := 2) (ls2 := [(0, .ref 105), (1, .int 16), (2, .int a3)]) (st2 := [.int 16, .ref 105]) (w3 := sx_w0) rfl rfl ?_
    refine sx_RP.step (pc2 := 5) (ls2 := [(0, .ref 105), (1, .int 16), (2, .int a3)]) (st2 := []) (w3 := (sx_w0.set 105 (.inr (.inr (.inr (5, [.ref 106, .int 16, .int 0])))))) rfl rfl ?_
    refine sx_RP.step (pc2 := 6) (ls2 := [(0, .ref 105), (1, .int 16), (2, .int a3)]) (st2 := [.ref 105]) (w3 := (sx_w0.set 105 (.inr (.inr (.inr (5, [.ref 106, .int 16, .int 0])))))) rfl rfl ?_
    refine sx_RP.step (pc2 := 7) (ls2 := [(0, .ref 105), (1, .int 16), (2, .int a3)]) (st2 := [.int 16, .ref 105]) (w3 := (sx_w0.set 105 (.inr (.inr (.inr (5, [.ref 106, .int 16, .int 0])))))) rfl rfl ?_
    refine sx_RP.step (pc2 := 14) (ls2 := [(0, .ref 105), (1, .int 16), (2, .int a3)]) (st2 := [.ref 105]) (w3 := (sx_w0.set 105 (.inr (.inr (.inr (5, [.ref 106, .int 16, .int 0])))))) rfl rfl ?_
    refine sx_RP.step (pc2 := 15) (ls2 := [(0, .ref 105), (1, .int 16), (2, .int a3)]) (st2 := [.int a3, .ref 105]) (w3 := (sx_w0.set 105 (.inr (.inr (.inr (5, [.ref 106, .int 16, .int 0])))))) rfl rfl ?_
    refine sx_RP.step (pc2 := 18) (ls2 := [(0, .ref 105), (1, .int 16), (2, .int a3)]) (st2 := []) (w3 := (sx_w0.set 105 (.inr (.inr (.inr (5, [.ref 106, .int 16, .int a3])))))) rfl rfl ?_
    refine sx_RP.step (pc2 := 19) (ls2 := [(0, .ref 105), (1, .int 16), (2, .int a3)]) (st2 := [.int 0]) (w3 := (sx_w0.set 105 (.inr (.inr (.inr (5, [.ref 106, .int 16, .int a3])))))) rfl rfl ?_
    refine sx_RP.step (pc2 := 20) (ls2 := [(3, .int 0), (0, .ref 105), (1, .int 16), (2, .int a3)]) (st2 := []) (w3 := (sx_w0.set 105 (.inr (.inr (.inr (5, [.ref 106, .int 16, .int a3])))))) rfl rfl ?_
    refine sx_RP.wd (w2 := sx_h1 16 a3) rfl ?_
    exact cp_114L1 ys 16 a3 a3 40 0 (by omega)
  obtain ⟨r, w2, h1, rfl, rfl⟩ := h
  exact h1
set_option maxRecDepth 20000 in
set_option maxHeartbeats 4000000 in
theorem k_sheet_1_16 (ys : List Int32) (a3 : Int32) (p0 : 0 ≤ a3) (p1 : a3 ≤ 40) : sx_twoI ys 111 230 [.int 1, .int 16, .int a3] := by
  refine sx_twoI.of ?_
  refine sx_RP.step (pc2 := 1) (ls2 := [(0, .ref 0), (1, .int 1), (2, .int 16), (3, .int a3)]) (st2 := [.int 1]) (w3 := sx_w0) rfl rfl ?_
  refine sx_RP.cl (as2 := [.int 1]) (rest2 := []) rfl rfl rfl rfl rfl rfl ?_
  refine sx_RP.step (pc2 := 1) (ls2 := [(0, .int 1)]) (st2 := [.int 1]) (w3 := sx_w0) rfl rfl ?_
  refine sx_RP.step (pc2 := 2) (ls2 := [(0, .int 1)]) (st2 := [.int 0, .int 1]) (w3 := sx_w0) rfl rfl ?_
  refine sx_RP.step (pc2 := 3) (ls2 := [(0, .int 1)]) (st2 := [.int 3, .int 0, .int 1]) (w3 := sx_w0) rfl rfl ?_
  refine sx_RP.cl (as2 := [.int 1, .int 0, .int 3]) (rest2 := []) rfl rfl rfl rfl rfl rfl ?_
  refine sx_RP.step (pc2 := 1) (ls2 := [(0, .int 1), (1, .int 0), (2, .int 3)]) (st2 := [.int 1]) (w3 := sx_w0) rfl rfl ?_
  refine sx_RP.step (pc2 := 2) (ls2 := [(0, .int 1), (1, .int 0), (2, .int 3)]) (st2 := [.int 0, .int 1]) (w3 := sx_w0) rfl rfl ?_
  refine sx_RP.step (pc2 := 5) (ls2 := [(0, .int 1), (1, .int 0), (2, .int 3)]) (st2 := []) (w3 := sx_w0) rfl rfl ?_
  refine sx_RP.step (pc2 := 6) (ls2 := [(0, .int 1), (1, .int 0), (2, .int 3)]) (st2 := [.int 1]) (w3 := sx_w0) rfl rfl ?_
  refine sx_RP.step (pc2 := 7) (ls2 := [(0, .int 1), (1, .int 0), (2, .int 3)]) (st2 := [.int 3, .int 1]) (w3 := sx_w0) rfl rfl ?_
  refine sx_RP.step (pc2 := 10) (ls2 := [(0, .int 1), (1, .int 0), (2, .int 3)]) (st2 := []) (w3 := sx_w0) rfl rfl ?_
  refine sx_RP.step (pc2 := 11) (ls2 := [(0, .int 1), (1, .int 0), (2, .int 3)]) (st2 := [.int 1]) (w3 := sx_w0) rfl rfl ?_
  refine sx_RP.step (pc2 := 15) (ls2 := [(0, .int 1), (1, .int 0), (2, .int 3)]) (st2 := [.int 1]) (w3 := sx_w0) rfl rfl ?_
  refine sx_RP.retc (st3 := [.int 1]) rfl rfl rfl ?_
  refine sx_RP.retc (st3 := [.int 1]) rfl rfl rfl ?_
  refine sx_RP.step (pc2 := 7) (ls2 := [(0, .ref 0), (1, .int 1), (2, .int 16), (3, .int a3)]) (st2 := []) (w3 := sx_w0) rfl rfl ?_
  refine sx_RP.step (pc2 := 8) (ls2 := [(0, .ref 0), (1, .int 1), (2, .int 16), (3, .int a3)]) (st2 := [.int 16]) (w3 := sx_w0) rfl rfl ?_
  refine sx_RP.cl (as2 := [.int 16]) (rest2 := []) rfl rfl rfl rfl rfl rfl ?_
  refine sx_RP.step (pc2 := 1) (ls2 := [(0, .int 16)]) (st2 := [.int 16]) (w3 := sx_w0) rfl rfl ?_
  refine sx_RP.step (pc2 := 3) (ls2 := [(0, .int 16)]) (st2 := [.int 8, .int 16]) (w3 := sx_w0) rfl rfl ?_
  refine sx_RP.step (pc2 := 6) (ls2 := [(0, .int 16)]) (st2 := []) (w3 := sx_w0) rfl rfl ?_
  refine sx_RP.step (pc2 := 7) (ls2 := [(0, .int 16)]) (st2 := [.int 16]) (w3 := sx_w0) rfl rfl ?_
  refine sx_RP.step (pc2 := 9) (ls2 := [(0, .int 16)]) (st2 := [.int 16, .int 16]) (w3 := sx_w0) rfl rfl ?_
  refine sx_RP.step (pc2 := 18) (ls2 := [(0, .int 16)]) (st2 := []) (w3 := sx_w0) rfl rfl ?_
  refine sx_RP.step (pc2 := 19) (ls2 := [(0, .int 16)]) (st2 := [.int 1]) (w3 := sx_w0) rfl rfl ?_
  refine sx_RP.step (pc2 := 23) (ls2 := [(0, .int 16)]) (st2 := [.int 1]) (w3 := sx_w0) rfl rfl ?_
  refine sx_RP.retc (st3 := [.int 1]) rfl rfl rfl ?_
  refine sx_RP.step (pc2 := 25) (ls2 := [(0, .ref 0), (1, .int 1), (2, .int 16), (3, .int a3)]) (st2 := []) (w3 := sx_w0) rfl rfl ?_
  refine sx_RP.step (pc2 := 26) (ls2 := [(0, .ref 0), (1, .int 1), (2, .int 16), (3, .int a3)]) (st2 := [.int a3]) (w3 := sx_w0) rfl rfl ?_
  refine sx_RP.br (p1 := 37) (l1 := [(0, .ref 0), (1, .int 1), (2, .int 16), (3, .int a3)]) (s1 := []) (v1 := sx_w0) rfl rfl (fun _ => ?_) (fun q => absurd p0 (of_decide_eq_false q))
  refine sx_RP.step (pc2 := 38) (ls2 := [(0, .ref 0), (1, .int 1), (2, .int 16), (3, .int a3)]) (st2 := [.int a3]) (w3 := sx_w0) rfl rfl ?_
  refine sx_RP.step (pc2 := 40) (ls2 := [(0, .ref 0), (1, .int 1), (2, .int 16), (3, .int a3)]) (st2 := [.int 40, .int a3]) (w3 := sx_w0) rfl rfl ?_
  refine sx_RP.br (p1 := 50) (l1 := [(0, .ref 0), (1, .int 1), (2, .int 16), (3, .int a3)]) (s1 := []) (v1 := sx_w0) rfl rfl (fun _ => ?_) (fun q => absurd p1 (of_decide_eq_false q))
  refine sx_RP.step (pc2 := 51) (ls2 := [(0, .ref 0), (1, .int 1), (2, .int 16), (3, .int a3)]) (st2 := [.ref 0]) (w3 := sx_w0) rfl rfl ?_
  refine sx_RP.step (pc2 := 54) (ls2 := [(0, .ref 0), (1, .int 1), (2, .int 16), (3, .int a3)]) (st2 := [.ref 98]) (w3 := sx_w0) rfl rfl ?_
  refine sx_RP.step (pc2 := 55) (ls2 := [(0, .ref 0), (1, .int 1), (2, .int 16), (3, .int a3)]) (st2 := [.int 1, .ref 98]) (w3 := sx_w0) rfl rfl ?_
  refine sx_RP.step (pc2 := 56) (ls2 := [(0, .ref 0), (1, .int 1), (2, .int 16), (3, .int a3)]) (st2 := [.ref 105]) (w3 := sx_w0) rfl rfl ?_
  refine sx_RP.step (pc2 := 57) (ls2 := [(0, .ref 0), (1, .int 1), (2, .int 16), (3, .int a3)]) (st2 := [.int 16, .ref 105]) (w3 := sx_w0) rfl rfl ?_
  refine sx_RP.step (pc2 := 58) (ls2 := [(0, .ref 0), (1, .int 1), (2, .int 16), (3, .int a3)]) (st2 := [.int a3, .int 16, .ref 105]) (w3 := sx_w0) rfl rfl ?_
  refine sx_RP.cu (as := [.ref 105, .int 16, .int a3]) (rest2 := []) (st3 := []) rfl rfl rfl rfl rfl (cp_114_1_16 ys a3) rfl ?_
  refine sx_RP.step (pc2 := 62) (ls2 := [(0, .ref 0), (1, .int 1), (2, .int 16), (3, .int a3)]) (st2 := [.ref 0]) (w3 := (sx_h1 16 a3)) rfl rfl ?_
  refine sx_RP.step (pc2 := 65) (ls2 := [(0, .ref 0), (1, .int 1), (2, .int 16), (3, .int a3)]) (st2 := [.ref 98]) (w3 := (sx_h1 16 a3)) rfl rfl ?_
  refine sx_RP.step (pc2 := 66) (ls2 := [(0, .ref 0), (1, .int 1), (2, .int 16), (3, .int a3)]) (st2 := [.int 1, .ref 98]) (w3 := (sx_h1 16 a3)) rfl rfl ?_
  refine sx_RP.step (pc2 := 67) (ls2 := [(0, .ref 0), (1, .int 1), (2, .int 16), (3, .int a3)]) (st2 := [.ref 105]) (w3 := (sx_h1 16 a3)) rfl rfl ?_
  refine sx_RP.step (pc2 := 70) (ls2 := [(0, .ref 0), (1, .int 1), (2, .int 16), (3, .int a3)]) (st2 := [.int a3]) (w3 := (sx_h1 16 a3)) rfl rfl ?_
  refine sx_RP.ret rfl rfl ?_
  refine ⟨a3, rfl, ⟨_, rfl⟩, ?_⟩
  refine sx_RP.step (pc2 := 1) (ls2 := [(0, .ref 111), (1, .int 1), (2, .int 16), (3, .int a3)]) (st2 := [.int 1]) (w3 := (sx_h1 16 a3)) rfl rfl ?_
  refine sx_RP.cl (as2 := [.int 1]) (rest2 := []) rfl rfl rfl rfl rfl rfl ?_
  refine sx_RP.step (pc2 := 1) (ls2 := [(0, .int 1)]) (st2 := [.int 1]) (w3 := (sx_h1 16 a3)) rfl rfl ?_
  refine sx_RP.step (pc2 := 2) (ls2 := [(0, .int 1)]) (st2 := [.int 0, .int 1]) (w3 := (sx_h1 16 a3)) rfl rfl ?_
  refine sx_RP.step (pc2 := 3) (ls2 := [(0, .int 1)]) (st2 := [.int 3, .int 0, .int 1]) (w3 := (sx_h1 16 a3)) rfl rfl ?_
  refine sx_RP.cl (as2 := [.int 1, .int 0, .int 3]) (rest2 := []) rfl rfl rfl rfl rfl rfl ?_
  refine sx_RP.step (pc2 := 1) (ls2 := [(0, .int 1), (1, .int 0), (2, .int 3)]) (st2 := [.int 1]) (w3 := (sx_h1 16 a3)) rfl rfl ?_
  refine sx_RP.step (pc2 := 2) (ls2 := [(0, .int 1), (1, .int 0), (2, .int 3)]) (st2 := [.int 0, .int 1]) (w3 := (sx_h1 16 a3)) rfl rfl ?_
  refine sx_RP.step (pc2 := 5) (ls2 := [(0, .int 1), (1, .int 0), (2, .int 3)]) (st2 := []) (w3 := (sx_h1 16 a3)) rfl rfl ?_
  refine sx_RP.step (pc2 := 6) (ls2 := [(0, .int 1), (1, .int 0), (2, .int 3)]) (st2 := [.int 1]) (w3 := (sx_h1 16 a3)) rfl rfl ?_
  refine sx_RP.step (pc2 := 7) (ls2 := [(0, .int 1), (1, .int 0), (2, .int 3)]) (st2 := [.int 3, .int 1]) (w3 := (sx_h1 16 a3)) rfl rfl ?_
  refine sx_RP.step (pc2 := 10) (ls2 := [(0, .int 1), (1, .int 0), (2, .int 3)]) (st2 := []) (w3 := (sx_h1 16 a3)) rfl rfl ?_
  refine sx_RP.step (pc2 := 11) (ls2 := [(0, .int 1), (1, .int 0), (2, .int 3)]) (st2 := [.int 1]) (w3 := (sx_h1 16 a3)) rfl rfl ?_
  refine sx_RP.step (pc2 := 15) (ls2 := [(0, .int 1), (1, .int 0), (2, .int 3)]) (st2 := [.int 1]) (w3 := (sx_h1 16 a3)) rfl rfl ?_
  refine sx_RP.retc (st3 := [.int 1]) rfl rfl rfl ?_
  refine sx_RP.retc (st3 := [.int 1]) rfl rfl rfl ?_
  refine sx_RP.step (pc2 := 7) (ls2 := [(0, .ref 111), (1, .int 1), (2, .int 16), (3, .int a3)]) (st2 := []) (w3 := (sx_h1 16 a3)) rfl rfl ?_
  refine sx_RP.step (pc2 := 8) (ls2 := [(0, .ref 111), (1, .int 1), (2, .int 16), (3, .int a3)]) (st2 := [.int 16]) (w3 := (sx_h1 16 a3)) rfl rfl ?_
  refine sx_RP.step (pc2 := 11) (ls2 := [(0, .ref 111), (1, .int 1), (2, .int 16), (3, .int a3)]) (st2 := []) (w3 := (sx_h1 16 a3)) rfl rfl ?_
  refine sx_RP.step (pc2 := 12) (ls2 := [(0, .ref 111), (1, .int 1), (2, .int 16), (3, .int a3)]) (st2 := [.int 16]) (w3 := (sx_h1 16 a3)) rfl rfl ?_
  refine sx_RP.step (pc2 := 14) (ls2 := [(0, .ref 111), (1, .int 1), (2, .int 16), (3, .int a3)]) (st2 := [.int 8, .int 16]) (w3 := (sx_h1 16 a3)) rfl rfl ?_
  refine sx_RP.step (pc2 := 17) (ls2 := [(0, .ref 111), (1, .int 1), (2, .int 16), (3, .int a3)]) (st2 := []) (w3 := (sx_h1 16 a3)) rfl rfl ?_
  refine sx_RP.step (pc2 := 18) (ls2 := [(0, .ref 111), (1, .int 1), (2, .int 16), (3, .int a3)]) (st2 := [.int 16]) (w3 := (sx_h1 16 a3)) rfl rfl ?_
  refine sx_RP.step (pc2 := 20) (ls2 := [(0, .ref 111), (1, .int 1), (2, .int 16), (3, .int a3)]) (st2 := [.int 16, .int 16]) (w3 := (sx_h1 16 a3)) rfl rfl ?_
  refine sx_RP.step (pc2 := 35) (ls2 := [(0, .ref 111), (1, .int 1), (2, .int 16), (3, .int a3)]) (st2 := []) (w3 := (sx_h1 16 a3)) rfl rfl ?_
  refine sx_RP.step (pc2 := 36) (ls2 := [(0, .ref 111), (1, .int 1), (2, .int 16), (3, .int a3)]) (st2 := [.int a3]) (w3 := (sx_h1 16 a3)) rfl rfl ?_
  refine sx_RP.br (p1 := 46) (l1 := [(0, .ref 111), (1, .int 1), (2, .int 16), (3, .int a3)]) (s1 := []) (v1 := (sx_h1 16 a3)) rfl rfl (fun _ => ?_) (fun q => absurd p0 (of_decide_eq_false q))
  refine sx_RP.step (pc2 := 47) (ls2 := [(0, .ref 111), (1, .int 1), (2, .int 16), (3, .int a3)]) (st2 := [.int a3]) (w3 := (sx_h1 16 a3)) rfl rfl ?_
  refine sx_RP.step (pc2 := 49) (ls2 := [(0, .ref 111), (1, .int 1), (2, .int 16), (3, .int a3)]) (st2 := [.int 40, .int a3]) (w3 := (sx_h1 16 a3)) rfl rfl ?_
  refine sx_RP.br (p1 := 58) (l1 := [(0, .ref 111), (1, .int 1), (2, .int 16), (3, .int a3)]) (s1 := []) (v1 := (sx_h1 16 a3)) rfl rfl (fun _ => ?_) (fun q => absurd p1 (of_decide_eq_false q))
  refine sx_RP.step (pc2 := 59) (ls2 := [(0, .ref 111), (1, .int 1), (2, .int 16), (3, .int a3)]) (st2 := [.ref 111]) (w3 := (sx_h1 16 a3)) rfl rfl ?_
  refine sx_RP.step (pc2 := 62) (ls2 := [(0, .ref 111), (1, .int 1), (2, .int 16), (3, .int a3)]) (st2 := [.ref 122]) (w3 := (sx_h1 16 a3)) rfl rfl ?_
  refine sx_RP.step (pc2 := 63) (ls2 := [(0, .ref 111), (1, .int 1), (2, .int 16), (3, .int a3)]) (st2 := [.int 1, .ref 122]) (w3 := (sx_h1 16 a3)) rfl rfl ?_
  refine sx_RP.step (pc2 := 64) (ls2 := [(0, .ref 111), (1, .int 1), (2, .int 16), (3, .int a3)]) (st2 := [.int 16, .int 1, .ref 122]) (w3 := (sx_h1 16 a3)) rfl rfl ?_
  refine sx_RP.step (pc2 := 65) (ls2 := [(0, .ref 111), (1, .int 1), (2, .int 16), (3, .int a3)]) (st2 := []) (w3 := ((sx_h1 16 a3).set 122 (.inl (0, [0, 16, 0, 0])))) rfl rfl ?_
  refine sx_RP.step (pc2 := 66) (ls2 := [(0, .ref 111), (1, .int 1), (2, .int 16), (3, .int a3)]) (st2 := [.ref 111]) (w3 := ((sx_h1 16 a3).set 122 (.inl (0, [0, 16, 0, 0])))) rfl rfl ?_
  refine sx_RP.step (pc2 := 69) (ls2 := [(0, .ref 111), (1, .int 1), (2, .int 16), (3, .int a3)]) (st2 := [.ref 123]) (w3 := ((sx_h1 16 a3).set 122 (.inl (0, [0, 16, 0, 0])))) rfl rfl ?_
  refine sx_RP.step (pc2 := 70) (ls2 := [(0, .ref 111), (1, .int 1), (2, .int 16), (3, .int a3)]) (st2 := [.int 1, .ref 123]) (w3 := ((sx_h1 16 a3).set 122 (.inl (0, [0, 16, 0, 0])))) rfl rfl ?_
  refine sx_RP.step (pc2 := 71) (ls2 := [(0, .ref 111), (1, .int 1), (2, .int 16), (3, .int a3)]) (st2 := [.int 16, .int 1, .ref 123]) (w3 := ((sx_h1 16 a3).set 122 (.inl (0, [0, 16, 0, 0])))) rfl rfl ?_
  refine sx_RP.step (pc2 := 78) (ls2 := [(0, .ref 111), (1, .int 1), (2, .int 16), (3, .int a3)]) (st2 := [.int 1, .ref 123]) (w3 := ((sx_h1 16 a3).set 122 (.inl (0, [0, 16, 0, 0])))) rfl rfl ?_
  refine sx_RP.step (pc2 := 79) (ls2 := [(0, .ref 111), (1, .int 1), (2, .int 16), (3, .int a3)]) (st2 := [.int a3, .int 1, .ref 123]) (w3 := ((sx_h1 16 a3).set 122 (.inl (0, [0, 16, 0, 0])))) rfl rfl ?_
  refine sx_RP.step (pc2 := 80) (ls2 := [(0, .ref 111), (1, .int 1), (2, .int 16), (3, .int a3)]) (st2 := []) (w3 := (((sx_h1 16 a3).set 122 (.inl (0, [0, 16, 0, 0]))).set 123 (.inl (0, [0, a3, 0, 0])))) rfl rfl ?_
  refine sx_RP.step (pc2 := 81) (ls2 := [(0, .ref 111), (1, .int 1), (2, .int 16), (3, .int a3)]) (st2 := [.int 0]) (w3 := (((sx_h1 16 a3).set 122 (.inl (0, [0, 16, 0, 0]))).set 123 (.inl (0, [0, a3, 0, 0])))) rfl rfl ?_
  refine sx_RP.step (pc2 := 83) (ls2 := [(4, .int 0), (0, .ref 111), (1, .int 1), (2, .int 16), (3, .int a3)]) (st2 := []) (w3 := (((sx_h1 16 a3).set 122 (.inl (0, [0, 16, 0, 0]))).set 123 (.inl (0, [0, a3, 0, 0])))) rfl rfl ?_
  refine sx_RP.wd (w2 := sx_g1 16 a3) rfl ?_
  exact cp_230L1 ys 16 a3 a3 40 0 (by omega)
set_option maxRecDepth 20000 in
set_option maxHeartbeats 4000000 in
theorem cp_114_1_64 (ys : List Int32) (a3 : Int32) : sx_RU (some ys) 6 114 0 (lv_args 0 [.ref 105, .int 64, .int a3]) [] sx_w0 none (sx_h1 64 a3) := by
  have h : sx_RP (some ys) 6 114 0 (lv_args 0 [.ref 105, .int 64, .int a3]) [] sx_w0 (fun r w2 => r = none ∧ w2 = sx_h1 64 a3) := by
    refine sx_RP.step (pc2 := 1) (ls2 := [(0, .ref 105), (1, .int 64), (2, .int a3)]) (st2 := [.ref 105]) (w3 := sx_w0) rfl rfl ?_
    refine sx_RP.step (pc2 := 2) (ls2 := [(0, .ref 105), (1, .int 64), (2, .int a3)]) (st2 := [.int 64, .ref 105]) (w3 := sx_w0) rfl rfl ?_
    refine sx_RP.step (pc2 := 5) (ls2 := [(0, .ref 105), (1, .int 64), (2, .int a3)]) (st2 := []) (w3 := (sx_w0.set 105 (.inr (.inr (.inr (5, [.ref 106, .int 64, .int 0])))))) rfl rfl ?_
    refine sx_RP.step (pc2 := 6) (ls2 := [(0, .ref 105), (1, .int 64), (2, .int a3)]) (st2 := [.ref 105]) (w3 := (sx_w0.set 105 (.inr (.inr (.inr (5, [.ref 106, .int 64, .int 0])))))) rfl rfl ?_
    refine sx_RP.step (pc2 := 7) (ls2 := [(0, .ref 105), (1, .int 64), (2, .int a3)]) (st2 := [.int 64, .ref 105]) (w3 := (sx_w0.set 105 (.inr (.inr (.inr (5, [.ref 106, .int 64, .int 0])))))) rfl rfl ?_
    refine sx_RP.step (pc2 := 14) (ls2 := [(0, .ref 105), (1, .int 64), (2, .int a3)]) (st2 := [.ref 105]) (w3 := (sx_w0.set 105 (.inr (.inr (.inr (5, [.ref 106, .int 64, .int 0])))))) rfl rfl ?_
    refine sx_RP.step (pc2 := 15) (ls2 := [(0, .ref 105), (1, .int 64), (2, .int a3)]) (st2 := [.int a3, .ref 105]) (w3 := (sx_w0.set 105 (.inr (.inr (.inr (5, [.ref 106, .int 64, .int 0])))))) rfl rfl ?_
    refine sx_RP.step (pc2 := 18) (ls2 := [(0, .ref 105), (1, .int 64), (2, .int a3)]) (st2 := []) (w3 := (sx_w0.set 105 (.inr (.inr (.inr (5, [.ref 106, .int 64, .int a3])))))) rfl rfl ?_
    refine sx_RP.step (pc2 := 19) (ls2 := [(0, .ref 105), (1, .int 64), (2, .int a3)]) (st2 := [.int 0]) (w3 := (sx_w0.set 105 (.inr (.inr (.inr (5, [.ref 106, .int 64, .int a3])))))) rfl rfl ?_
    refine sx_RP.step (pc2 := 20) (ls2 := [(3, .int 0), (0, .ref 105), (1, .int 64), (2, .int a3)]) (st2 := []) (w3 := (sx_w0.set 105 (.inr (.inr (.inr (5, [.ref 106, .int 64, .int a3])))))) rfl rfl ?_
    refine sx_RP.wd (w2 := sx_h1 64 a3) rfl ?_
    exact cp_114L1 ys 64 a3 a3 40 0 (by omega)
  obtain ⟨r, w2, h1, rfl, rfl⟩ := h
  exact h1
set_option maxRecDepth 20000 in
set_option maxHeartbeats 4000000 in
theorem k_sheet_1_64 (ys : List Int32) (a3 : Int32) (p0 : 0 ≤ a3) (p1 : a3 ≤ 40) : sx_twoI ys 111 230 [.int 1, .int 64, .int a3] := by
  refine sx_twoI.of ?_
  refine sx_RP.step (pc2 := 1) (ls2 := [(0, .ref 0), (1, .int 1), (2, .int 64), (3, .int a3)]) (st2 := [.int 1]) (w3 := sx_w0) rfl rfl ?_
  refine sx_RP.cl (as2 := [.int 1]) (rest2 := []) rfl rfl rfl rfl rfl rfl ?_
  refine sx_RP.step (pc2 := 1) (ls2 := [(0, .int 1)]) (st2 := [.int 1]) (w3 := sx_w0) rfl rfl ?_
  refine sx_RP.step (pc2 := 2) (ls2 := [(0, .int 1)]) (st2 := [.int 0, .int 1]) (w3 := sx_w0) rfl rfl ?_
  refine sx_RP.step (pc2 := 3) (ls2 := [(0, .int 1)]) (st2 := [.int 3, .int 0, .int 1]) (w3 := sx_w0) rfl rfl ?_
  refine sx_RP.cl (as2 := [.int 1, .int 0, .int 3]) (rest2 := []) rfl rfl rfl rfl rfl rfl ?_
  refine sx_RP.step (pc2 := 1) (ls2 := [(0, .int 1), (1, .int 0), (2, .int 3)]) (st2 := [.int 1]) (w3 := sx_w0) rfl rfl ?_
  refine sx_RP.step (pc2 := 2) (ls2 := [(0, .int 1), (1, .int 0), (2, .int 3)]) (st2 := [.int 0, .int 1]) (w3 := sx_w0) rfl rfl ?_
  refine sx_RP.step (pc2 := 5) (ls2 := [(0, .int 1), (1, .int 0), (2, .int 3)]) (st2 := []) (w3 := sx_w0) rfl rfl ?_
  refine sx_RP.step (pc2 := 6) (ls2 := [(0, .int 1), (1, .int 0), (2, .int 3)]) (st2 := [.int 1]) (w3 := sx_w0) rfl rfl ?_
  refine sx_RP.step (pc2 := 7) (ls2 := [(0, .int 1), (1, .int 0), (2, .int 3)]) (st2 := [.int 3, .int 1]) (w3 := sx_w0) rfl rfl ?_
  refine sx_RP.step (pc2 := 10) (ls2 := [(0, .int 1), (1, .int 0), (2, .int 3)]) (st2 := []) (w3 := sx_w0) rfl rfl ?_
  refine sx_RP.step (pc2 := 11) (ls2 := [(0, .int 1), (1, .int 0), (2, .int 3)]) (st2 := [.int 1]) (w3 := sx_w0) rfl rfl ?_
  refine sx_RP.step (pc2 := 15) (ls2 := [(0, .int 1), (1, .int 0), (2, .int 3)]) (st2 := [.int 1]) (w3 := sx_w0) rfl rfl ?_
  refine sx_RP.retc (st3 := [.int 1]) rfl rfl rfl ?_
  refine sx_RP.retc (st3 := [.int 1]) rfl rfl rfl ?_
  refine sx_RP.step (pc2 := 7) (ls2 := [(0, .ref 0), (1, .int 1), (2, .int 64), (3, .int a3)]) (st2 := []) (w3 := sx_w0) rfl rfl ?_
  refine sx_RP.step (pc2 := 8) (ls2 := [(0, .ref 0), (1, .int 1), (2, .int 64), (3, .int a3)]) (st2 := [.int 64]) (w3 := sx_w0) rfl rfl ?_
  refine sx_RP.cl (as2 := [.int 64]) (rest2 := []) rfl rfl rfl rfl rfl rfl ?_
  refine sx_RP.step (pc2 := 1) (ls2 := [(0, .int 64)]) (st2 := [.int 64]) (w3 := sx_w0) rfl rfl ?_
  refine sx_RP.step (pc2 := 3) (ls2 := [(0, .int 64)]) (st2 := [.int 8, .int 64]) (w3 := sx_w0) rfl rfl ?_
  refine sx_RP.step (pc2 := 6) (ls2 := [(0, .int 64)]) (st2 := []) (w3 := sx_w0) rfl rfl ?_
  refine sx_RP.step (pc2 := 7) (ls2 := [(0, .int 64)]) (st2 := [.int 64]) (w3 := sx_w0) rfl rfl ?_
  refine sx_RP.step (pc2 := 9) (ls2 := [(0, .int 64)]) (st2 := [.int 16, .int 64]) (w3 := sx_w0) rfl rfl ?_
  refine sx_RP.step (pc2 := 12) (ls2 := [(0, .int 64)]) (st2 := []) (w3 := sx_w0) rfl rfl ?_
  refine sx_RP.step (pc2 := 13) (ls2 := [(0, .int 64)]) (st2 := [.int 64]) (w3 := sx_w0) rfl rfl ?_
  refine sx_RP.step (pc2 := 15) (ls2 := [(0, .int 64)]) (st2 := [.int 64, .int 64]) (w3 := sx_w0) rfl rfl ?_
  refine sx_RP.step (pc2 := 18) (ls2 := [(0, .int 64)]) (st2 := []) (w3 := sx_w0) rfl rfl ?_
  refine sx_RP.step (pc2 := 19) (ls2 := [(0, .int 64)]) (st2 := [.int 1]) (w3 := sx_w0) rfl rfl ?_
  refine sx_RP.step (pc2 := 23) (ls2 := [(0, .int 64)]) (st2 := [.int 1]) (w3 := sx_w0) rfl rfl ?_
  refine sx_RP.retc (st3 := [.int 1]) rfl rfl rfl ?_
  refine sx_RP.step (pc2 := 25) (ls2 := [(0, .ref 0), (1, .int 1), (2, .int 64), (3, .int a3)]) (st2 := []) (w3 := sx_w0) rfl rfl ?_
  refine sx_RP.step (pc2 := 26) (ls2 := [(0, .ref 0), (1, .int 1), (2, .int 64), (3, .int a3)]) (st2 := [.int a3]) (w3 := sx_w0) rfl rfl ?_
  refine sx_RP.br (p1 := 37) (l1 := [(0, .ref 0), (1, .int 1), (2, .int 64), (3, .int a3)]) (s1 := []) (v1 := sx_w0) rfl rfl (fun _ => ?_) (fun q => absurd p0 (of_decide_eq_false q))
  refine sx_RP.step (pc2 := 38) (ls2 := [(0, .ref 0), (1, .int 1), (2, .int 64), (3, .int a3)]) (st2 := [.int a3]) (w3 := sx_w0) rfl rfl ?_
  refine sx_RP.step (pc2 := 40) (ls2 := [(0, .ref 0), (1, .int 1), (2, .int 64), (3, .int a3)]) (st2 := [.int 40, .int a3]) (w3 := sx_w0) rfl rfl ?_
  refine sx_RP.br (p1 := 50) (l1 := [(0, .ref 0), (1, .int 1), (2, .int 64), (3, .int a3)]) (s1 := []) (v1 := sx_w0) rfl rfl (fun _ => ?_) (fun q => absurd p1 (of_decide_eq_false q))
  refine sx_RP.step (pc2 := 51) (ls2 := [(0, .ref 0), (1, .int 1), (2, .int 64), (3, .int a3)]) (st2 := [.ref 0]) (w3 := sx_w0) rfl rfl ?_
  refine sx_RP.step (pc2 := 54) (ls2 := [(0, .ref 0), (1, .int 1), (2, .int 64), (3, .int a3)]) (st2 := [.ref 98]) (w3 := sx_w0) rfl rfl ?_
  refine sx_RP.step (pc2 := 55) (ls2 := [(0, .ref 0), (1, .int 1), (2, .int 64), (3, .int a3)]) (st2 := [.int 1, .ref 98]) (w3 := sx_w0) rfl rfl ?_
  refine sx_RP.step (pc2 := 56) (ls2 := [(0, .ref 0), (1, .int 1), (2, .int 64), (3, .int a3)]) (st2 := [.ref 105]) (w3 := sx_w0) rfl rfl ?_
  refine sx_RP.step (pc2 := 57) (ls2 := [(0, .ref 0), (1, .int 1), (2, .int 64), (3, .int a3)]) (st2 := [.int 64, .ref 105]) (w3 := sx_w0) rfl rfl ?_
  refine sx_RP.step (pc2 := 58) (ls2 := [(0, .ref 0), (1, .int 1), (2, .int 64), (3, .int a3)]) (st2 := [.int a3, .int 64, .ref 105]) (w3 := sx_w0) rfl rfl ?_
  refine sx_RP.cu (as := [.ref 105, .int 64, .int a3]) (rest2 := []) (st3 := []) rfl rfl rfl rfl rfl (cp_114_1_64 ys a3) rfl ?_
  refine sx_RP.step (pc2 := 62) (ls2 := [(0, .ref 0), (1, .int 1), (2, .int 64), (3, .int a3)]) (st2 := [.ref 0]) (w3 := (sx_h1 64 a3)) rfl rfl ?_
  refine sx_RP.step (pc2 := 65) (ls2 := [(0, .ref 0), (1, .int 1), (2, .int 64), (3, .int a3)]) (st2 := [.ref 98]) (w3 := (sx_h1 64 a3)) rfl rfl ?_
  refine sx_RP.step (pc2 := 66) (ls2 := [(0, .ref 0), (1, .int 1), (2, .int 64), (3, .int a3)]) (st2 := [.int 1, .ref 98]) (w3 := (sx_h1 64 a3)) rfl rfl ?_
  refine sx_RP.step (pc2 := 67) (ls2 := [(0, .ref 0), (1, .int 1), (2, .int 64), (3, .int a3)]) (st2 := [.ref 105]) (w3 := (sx_h1 64 a3)) rfl rfl ?_
  refine sx_RP.step (pc2 := 70) (ls2 := [(0, .ref 0), (1, .int 1), (2, .int 64), (3, .int a3)]) (st2 := [.int a3]) (w3 := (sx_h1 64 a3)) rfl rfl ?_
  refine sx_RP.ret rfl rfl ?_
  refine ⟨a3, rfl, ⟨_, rfl⟩, ?_⟩
  refine sx_RP.step (pc2 := 1) (ls2 := [(0, .ref 111), (1, .int 1), (2, .int 64), (3, .int a3)]) (st2 := [.int 1]) (w3 := (sx_h1 64 a3)) rfl rfl ?_
  refine sx_RP.cl (as2 := [.int 1]) (rest2 := []) rfl rfl rfl rfl rfl rfl ?_
  refine sx_RP.step (pc2 := 1) (ls2 := [(0, .int 1)]) (st2 := [.int 1]) (w3 := (sx_h1 64 a3)) rfl rfl ?_
  refine sx_RP.step (pc2 := 2) (ls2 := [(0, .int 1)]) (st2 := [.int 0, .int 1]) (w3 := (sx_h1 64 a3)) rfl rfl ?_
  refine sx_RP.step (pc2 := 3) (ls2 := [(0, .int 1)]) (st2 := [.int 3, .int 0, .int 1]) (w3 := (sx_h1 64 a3)) rfl rfl ?_
  refine sx_RP.cl (as2 := [.int 1, .int 0, .int 3]) (rest2 := []) rfl rfl rfl rfl rfl rfl ?_
  refine sx_RP.step (pc2 := 1) (ls2 := [(0, .int 1), (1, .int 0), (2, .int 3)]) (st2 := [.int 1]) (w3 := (sx_h1 64 a3)) rfl rfl ?_
  refine sx_RP.step (pc2 := 2) (ls2 := [(0, .int 1), (1, .int 0), (2, .int 3)]) (st2 := [.int 0, .int 1]) (w3 := (sx_h1 64 a3)) rfl rfl ?_
  refine sx_RP.step (pc2 := 5) (ls2 := [(0, .int 1), (1, .int 0), (2, .int 3)]) (st2 := []) (w3 := (sx_h1 64 a3)) rfl rfl ?_
  refine sx_RP.step (pc2 := 6) (ls2 := [(0, .int 1), (1, .int 0), (2, .int 3)]) (st2 := [.int 1]) (w3 := (sx_h1 64 a3)) rfl rfl ?_
  refine sx_RP.step (pc2 := 7) (ls2 := [(0, .int 1), (1, .int 0), (2, .int 3)]) (st2 := [.int 3, .int 1]) (w3 := (sx_h1 64 a3)) rfl rfl ?_
  refine sx_RP.step (pc2 := 10) (ls2 := [(0, .int 1), (1, .int 0), (2, .int 3)]) (st2 := []) (w3 := (sx_h1 64 a3)) rfl rfl ?_
  refine sx_RP.step (pc2 := 11) (ls2 := [(0, .int 1), (1, .int 0), (2, .int 3)]) (st2 := [.int 1]) (w3 := (sx_h1 64 a3)) rfl rfl ?_
  refine sx_RP.step (pc2 := 15) (ls2 := [(0, .int 1), (1, .int 0), (2, .int 3)]) (st2 := [.int 1]) (w3 := (sx_h1 64 a3)) rfl rfl ?_
  refine sx_RP.retc (st3 := [.int 1]) rfl rfl rfl ?_
  refine sx_RP.retc (st3 := [.int 1]) rfl rfl rfl ?_
  refine sx_RP.step (pc2 := 7) (ls2 := [(0, .ref 111), (1, .int 1), (2, .int 64), (3, .int a3)]) (st2 := []) (w3 := (sx_h1 64 a3)) rfl rfl ?_
  refine sx_RP.step (pc2 := 8) (ls2 := [(0, .ref 111), (1, .int 1), (2, .int 64), (3, .int a3)]) (st2 := [.int 64]) (w3 := (sx_h1 64 a3)) rfl rfl ?_
  refine sx_RP.step (pc2 := 11) (ls2 := [(0, .ref 111), (1, .int 1), (2, .int 64), (3, .int a3)]) (st2 := []) (w3 := (sx_h1 64 a3)) rfl rfl ?_
  refine sx_RP.step (pc2 := 12) (ls2 := [(0, .ref 111), (1, .int 1), (2, .int 64), (3, .int a3)]) (st2 := [.int 64]) (w3 := (sx_h1 64 a3)) rfl rfl ?_
  refine sx_RP.step (pc2 := 14) (ls2 := [(0, .ref 111), (1, .int 1), (2, .int 64), (3, .int a3)]) (st2 := [.int 8, .int 64]) (w3 := (sx_h1 64 a3)) rfl rfl ?_
  refine sx_RP.step (pc2 := 17) (ls2 := [(0, .ref 111), (1, .int 1), (2, .int 64), (3, .int a3)]) (st2 := []) (w3 := (sx_h1 64 a3)) rfl rfl ?_
  refine sx_RP.step (pc2 := 18) (ls2 := [(0, .ref 111), (1, .int 1), (2, .int 64), (3, .int a3)]) (st2 := [.int 64]) (w3 := (sx_h1 64 a3)) rfl rfl ?_
  refine sx_RP.step (pc2 := 20) (ls2 := [(0, .ref 111), (1, .int 1), (2, .int 64), (3, .int a3)]) (st2 := [.int 16, .int 64]) (w3 := (sx_h1 64 a3)) rfl rfl ?_
  refine sx_RP.step (pc2 := 23) (ls2 := [(0, .ref 111), (1, .int 1), (2, .int 64), (3, .int a3)]) (st2 := []) (w3 := (sx_h1 64 a3)) rfl rfl ?_
  refine sx_RP.step (pc2 := 24) (ls2 := [(0, .ref 111), (1, .int 1), (2, .int 64), (3, .int a3)]) (st2 := [.int 64]) (w3 := (sx_h1 64 a3)) rfl rfl ?_
  refine sx_RP.step (pc2 := 26) (ls2 := [(0, .ref 111), (1, .int 1), (2, .int 64), (3, .int a3)]) (st2 := [.int 64, .int 64]) (w3 := (sx_h1 64 a3)) rfl rfl ?_
  refine sx_RP.step (pc2 := 35) (ls2 := [(0, .ref 111), (1, .int 1), (2, .int 64), (3, .int a3)]) (st2 := []) (w3 := (sx_h1 64 a3)) rfl rfl ?_
  refine sx_RP.step (pc2 := 36) (ls2 := [(0, .ref 111), (1, .int 1), (2, .int 64), (3, .int a3)]) (st2 := [.int a3]) (w3 := (sx_h1 64 a3)) rfl rfl ?_
  refine sx_RP.br (p1 := 46) (l1 := [(0, .ref 111), (1, .int 1), (2, .int 64), (3, .int a3)]) (s1 := []) (v1 := (sx_h1 64 a3)) rfl rfl (fun _ => ?_) (fun q => absurd p0 (of_decide_eq_false q))
  refine sx_RP.step (pc2 := 47) (ls2 := [(0, .ref 111), (1, .int 1), (2, .int 64), (3, .int a3)]) (st2 := [.int a3]) (w3 := (sx_h1 64 a3)) rfl rfl ?_
  refine sx_RP.step (pc2 := 49) (ls2 := [(0, .ref 111), (1, .int 1), (2, .int 64), (3, .int a3)]) (st2 := [.int 40, .int a3]) (w3 := (sx_h1 64 a3)) rfl rfl ?_
  refine sx_RP.br (p1 := 58) (l1 := [(0, .ref 111), (1, .int 1), (2, .int 64), (3, .int a3)]) (s1 := []) (v1 := (sx_h1 64 a3)) rfl rfl (fun _ => ?_) (fun q => absurd p1 (of_decide_eq_false q))
  refine sx_RP.step (pc2 := 59) (ls2 := [(0, .ref 111), (1, .int 1), (2, .int 64), (3, .int a3)]) (st2 := [.ref 111]) (w3 := (sx_h1 64 a3)) rfl rfl ?_
  refine sx_RP.step (pc2 := 62) (ls2 := [(0, .ref 111), (1, .int 1), (2, .int 64), (3, .int a3)]) (st2 := [.ref 122]) (w3 := (sx_h1 64 a3)) rfl rfl ?_
  refine sx_RP.step (pc2 := 63) (ls2 := [(0, .ref 111), (1, .int 1), (2, .int 64), (3, .int a3)]) (st2 := [.int 1, .ref 122]) (w3 := (sx_h1 64 a3)) rfl rfl ?_
  refine sx_RP.step (pc2 := 64) (ls2 := [(0, .ref 111), (1, .int 1), (2, .int 64), (3, .int a3)]) (st2 := [.int 64, .int 1, .ref 122]) (w3 := (sx_h1 64 a3)) rfl rfl ?_
  refine sx_RP.step (pc2 := 65) (ls2 := [(0, .ref 111), (1, .int 1), (2, .int 64), (3, .int a3)]) (st2 := []) (w3 := ((sx_h1 64 a3).set 122 (.inl (0, [0, 64, 0, 0])))) rfl rfl ?_
  refine sx_RP.step (pc2 := 66) (ls2 := [(0, .ref 111), (1, .int 1), (2, .int 64), (3, .int a3)]) (st2 := [.ref 111]) (w3 := ((sx_h1 64 a3).set 122 (.inl (0, [0, 64, 0, 0])))) rfl rfl ?_
  refine sx_RP.step (pc2 := 69) (ls2 := [(0, .ref 111), (1, .int 1), (2, .int 64), (3, .int a3)]) (st2 := [.ref 123]) (w3 := ((sx_h1 64 a3).set 122 (.inl (0, [0, 64, 0, 0])))) rfl rfl ?_
  refine sx_RP.step (pc2 := 70) (ls2 := [(0, .ref 111), (1, .int 1), (2, .int 64), (3, .int a3)]) (st2 := [.int 1, .ref 123]) (w3 := ((sx_h1 64 a3).set 122 (.inl (0, [0, 64, 0, 0])))) rfl rfl ?_
  refine sx_RP.step (pc2 := 71) (ls2 := [(0, .ref 111), (1, .int 1), (2, .int 64), (3, .int a3)]) (st2 := [.int 64, .int 1, .ref 123]) (w3 := ((sx_h1 64 a3).set 122 (.inl (0, [0, 64, 0, 0])))) rfl rfl ?_
  refine sx_RP.step (pc2 := 78) (ls2 := [(0, .ref 111), (1, .int 1), (2, .int 64), (3, .int a3)]) (st2 := [.int 1, .ref 123]) (w3 := ((sx_h1 64 a3).set 122 (.inl (0, [0, 64, 0, 0])))) rfl rfl ?_
  refine sx_RP.step (pc2 := 79) (ls2 := [(0, .ref 111), (1, .int 1), (2, .int 64), (3, .int a3)]) (st2 := [.int a3, .int 1, .ref 123]) (w3 := ((sx_h1 64 a3).set 122 (.inl (0, [0, 64, 0, 0])))) rfl rfl ?_
  refine sx_RP.step (pc2 := 80) (ls2 := [(0, .ref 111), (1, .int 1), (2, .int 64), (3, .int a3)]) (st2 := []) (w3 := (((sx_h1 64 a3).set 122 (.inl (0, [0, 64, 0, 0]))).set 123 (.inl (0, [0, a3, 0, 0])))) rfl rfl ?_
  refine sx_RP.step (pc2 := 81) (ls2 := [(0, .ref 111), (1, .int 1), (2, .int 64), (3, .int a3)]) (st2 := [.int 0]) (w3 := (((sx_h1 64 a3).set 122 (.inl (0, [0, 64, 0, 0]))).set 123 (.inl (0, [0, a3, 0, 0])))) rfl rfl ?_
  refine sx_RP.step (pc2 := 83) (ls2 := [(4, .int 0), (0, .ref 111), (1, .int 1), (2, .int 64), (3, .int a3)]) (st2 := []) (w3 := (((sx_h1 64 a3).set 122 (.inl (0, [0, 64, 0, 0]))).set 123 (.inl (0, [0, a3, 0, 0])))) rfl rfl ?_
  refine sx_RP.wd (w2 := sx_g1 64 a3) rfl ?_
  exact cp_230L1 ys 64 a3 a3 40 0 (by omega)
set_option maxRecDepth 20000 in
set_option maxHeartbeats 4000000 in
theorem cp_114_2_0 (ys : List Int32) (a3 : Int32) : sx_RU (some ys) 6 114 0 (lv_args 0 [.ref 107, .int 0, .int a3]) [] sx_w0 none (sx_h2 0 0) := by
  have h : sx_RP (some ys) 6 114 0 (lv_args 0 [.ref 107, .int 0, .int a3]) [] sx_w0 (fun r w2 => r = none ∧ w2 = sx_h2 0 0) := by
    refine sx_RP.step (pc2 := 1) (ls2 := [(0, .ref 107), (1, .int 0), (2, .int a3)]) (st2 := [.ref 107]) (w3 := sx_w0) rfl rfl ?_
    refine sx_RP.step (pc2 := 2) (ls2 := [(0, .ref 107), (1, .int 0), (2, .int a3)]) (st2 := [.int 0, .ref 107]) (w3 := sx_w0) rfl rfl ?_
    refine sx_RP.step (pc2 := 5) (ls2 := [(0, .ref 107), (1, .int 0), (2, .int a3)]) (st2 := []) (w3 := (sx_w0.set 107 (.inr (.inr (.inr (5, [.ref 108, .int 0, .int 0])))))) rfl rfl ?_
    refine sx_RP.step (pc2 := 6) (ls2 := [(0, .ref 107), (1, .int 0), (2, .int a3)]) (st2 := [.ref 107]) (w3 := (sx_w0.set 107 (.inr (.inr (.inr (5, [.ref 108, .int 0, .int 0])))))) rfl rfl ?_
    refine sx_RP.step (pc2 := 7) (ls2 := [(0, .ref 107), (1, .int 0), (2, .int a3)]) (st2 := [.int 0, .ref 107]) (w3 := (sx_w0.set 107 (.inr (.inr (.inr (5, [.ref 108, .int 0, .int 0])))))) rfl rfl ?_
    refine sx_RP.step (pc2 := 10) (ls2 := [(0, .ref 107), (1, .int 0), (2, .int a3)]) (st2 := [.ref 107]) (w3 := (sx_w0.set 107 (.inr (.inr (.inr (5, [.ref 108, .int 0, .int 0])))))) rfl rfl ?_
    refine sx_RP.step (pc2 := 11) (ls2 := [(0, .ref 107), (1, .int 0), (2, .int a3)]) (st2 := [.int 0, .ref 107]) (w3 := (sx_w0.set 107 (.inr (.inr (.inr (5, [.ref 108, .int 0, .int 0])))))) rfl rfl ?_
    refine sx_RP.step (pc2 := 15) (ls2 := [(0, .ref 107), (1, .int 0), (2, .int a3)]) (st2 := [.int 0, .ref 107]) (w3 := (sx_w0.set 107 (.inr (.inr (.inr (5, [.ref 108, .int 0, .int 0])))))) rfl rfl ?_
    refine sx_RP.step (pc2 := 18) (ls2 := [(0, .ref 107), (1, .int 0), (2, .int a3)]) (st2 := []) (w3 := (sx_w0.set 107 (.inr (.inr (.inr (5, [.ref 108, .int 0, .int 0])))))) rfl rfl ?_
    refine sx_RP.step (pc2 := 19) (ls2 := [(0, .ref 107), (1, .int 0), (2, .int a3)]) (st2 := [.int 0]) (w3 := (sx_w0.set 107 (.inr (.inr (.inr (5, [.ref 108, .int 0, .int 0])))))) rfl rfl ?_
    refine sx_RP.step (pc2 := 20) (ls2 := [(3, .int 0), (0, .ref 107), (1, .int 0), (2, .int a3)]) (st2 := []) (w3 := (sx_w0.set 107 (.inr (.inr (.inr (5, [.ref 108, .int 0, .int 0])))))) rfl rfl ?_
    refine sx_RP.wd (w2 := sx_h2 0 0) rfl ?_
    exact cp_114L2 ys 0 0 a3 40 0 (by omega)
  obtain ⟨r, w2, h1, rfl, rfl⟩ := h
  exact h1
set_option maxRecDepth 20000 in
set_option maxHeartbeats 4000000 in
theorem k_sheet_2_0 (ys : List Int32) (a3 : Int32) (p0 : 0 ≤ a3) (p1 : a3 ≤ 40) : sx_twoI ys 111 230 [.int 2, .int 0, .int a3] := by
  refine sx_twoI.of ?_
  refine sx_RP.step (pc2 := 1) (ls2 := [(0, .ref 0), (1, .int 2), (2, .int 0), (3, .int a3)]) (st2 := [.int 2]) (w3 := sx_w0) rfl rfl ?_
  refine sx_RP.cl (as2 := [.int 2]) (rest2 := []) rfl rfl rfl rfl rfl rfl ?_
  refine sx_RP.step (pc2 := 1) (ls2 := [(0, .int 2)]) (st2 := [.int 2]) (w3 := sx_w0) rfl rfl ?_
  refine sx_RP.step (pc2 := 2) (ls2 := [(0, .int 2)]) (st2 := [.int 0, .int 2]) (w3 := sx_w0) rfl rfl ?_
  refine sx_RP.step (pc2 := 3) (ls2 := [(0, .int 2)]) (st2 := [.int 3, .int 0, .int 2]) (w3 := sx_w0) rfl rfl ?_
  refine sx_RP.cl (as2 := [.int 2, .int 0, .int 3]) (rest2 := []) rfl rfl rfl rfl rfl rfl ?_
  refine sx_RP.step (pc2 := 1) (ls2 := [(0, .int 2), (1, .int 0), (2, .int 3)]) (st2 := [.int 2]) (w3 := sx_w0) rfl rfl ?_
  refine sx_RP.step (pc2 := 2) (ls2 := [(0, .int 2), (1, .int 0), (2, .int 3)]) (st2 := [.int 0, .int 2]) (w3 := sx_w0) rfl rfl ?_
  refine sx_RP.step (pc2 := 5) (ls2 := [(0, .int 2), (1, .int 0), (2, .int 3)]) (st2 := []) (w3 := sx_w0) rfl rfl ?_
  refine sx_RP.step (pc2 := 6) (ls2 := [(0, .int 2), (1, .int 0), (2, .int 3)]) (st2 := [.int 2]) (w3 := sx_w0) rfl rfl ?_
  refine sx_RP.step (pc2 := 7) (ls2 := [(0, .int 2), (1, .int 0), (2, .int 3)]) (st2 := [.int 3, .int 2]) (w3 := sx_w0) rfl rfl ?_
  refine sx_RP.step (pc2 := 10) (ls2 := [(0, .int 2), (1, .int 0), (2, .int 3)]) (st2 := []) (w3 := sx_w0) rfl rfl ?_
  refine sx_RP.step (pc2 := 11) (ls2 := [(0, .int 2), (1, .int 0), (2, .int 3)]) (st2 := [.int 1]) (w3 := sx_w0) rfl rfl ?_
  refine sx_RP.step (pc2 := 15) (ls2 := [(0, .int 2), (1, .int 0), (2, .int 3)]) (st2 := [.int 1]) (w3 := sx_w0) rfl rfl ?_
  refine sx_RP.retc (st3 := [.int 1]) rfl rfl rfl ?_
  refine sx_RP.retc (st3 := [.int 1]) rfl rfl rfl ?_
  refine sx_RP.step (pc2 := 7) (ls2 := [(0, .ref 0), (1, .int 2), (2, .int 0), (3, .int a3)]) (st2 := []) (w3 := sx_w0) rfl rfl ?_
  refine sx_RP.step (pc2 := 8) (ls2 := [(0, .ref 0), (1, .int 2), (2, .int 0), (3, .int a3)]) (st2 := [.int 0]) (w3 := sx_w0) rfl rfl ?_
  refine sx_RP.cl (as2 := [.int 0]) (rest2 := []) rfl rfl rfl rfl rfl rfl ?_
  refine sx_RP.step (pc2 := 1) (ls2 := [(0, .int 0)]) (st2 := [.int 0]) (w3 := sx_w0) rfl rfl ?_
  refine sx_RP.step (pc2 := 3) (ls2 := [(0, .int 0)]) (st2 := [.int 8, .int 0]) (w3 := sx_w0) rfl rfl ?_
  refine sx_RP.step (pc2 := 6) (ls2 := [(0, .int 0)]) (st2 := []) (w3 := sx_w0) rfl rfl ?_
  refine sx_RP.step (pc2 := 7) (ls2 := [(0, .int 0)]) (st2 := [.int 0]) (w3 := sx_w0) rfl rfl ?_
  refine sx_RP.step (pc2 := 9) (ls2 := [(0, .int 0)]) (st2 := [.int 16, .int 0]) (w3 := sx_w0) rfl rfl ?_
  refine sx_RP.step (pc2 := 12) (ls2 := [(0, .int 0)]) (st2 := []) (w3 := sx_w0) rfl rfl ?_
  refine sx_RP.step (pc2 := 13) (ls2 := [(0, .int 0)]) (st2 := [.int 0]) (w3 := sx_w0) rfl rfl ?_
  refine sx_RP.step (pc2 := 15) (ls2 := [(0, .int 0)]) (st2 := [.int 64, .int 0]) (w3 := sx_w0) rfl rfl ?_
  refine sx_RP.step (pc2 := 22) (ls2 := [(0, .int 0)]) (st2 := []) (w3 := sx_w0) rfl rfl ?_
  refine sx_RP.step (pc2 := 23) (ls2 := [(0, .int 0)]) (st2 := [.int 0]) (w3 := sx_w0) rfl rfl ?_
  refine sx_RP.retc (st3 := [.int 0]) rfl rfl rfl ?_
  refine sx_RP.step (pc2 := 14) (ls2 := [(0, .ref 0), (1, .int 2), (2, .int 0), (3, .int a3)]) (st2 := []) (w3 := sx_w0) rfl rfl ?_
  refine sx_RP.step (pc2 := 15) (ls2 := [(0, .ref 0), (1, .int 2), (2, .int 0), (3, .int a3)]) (st2 := [.int 0]) (w3 := sx_w0) rfl rfl ?_
  refine sx_RP.step (pc2 := 25) (ls2 := [(0, .ref 0), (1, .int 2), (2, .int 0), (3, .int a3)]) (st2 := []) (w3 := sx_w0) rfl rfl ?_
  refine sx_RP.step (pc2 := 26) (ls2 := [(0, .ref 0), (1, .int 2), (2, .int 0), (3, .int a3)]) (st2 := [.int a3]) (w3 := sx_w0) rfl rfl ?_
  refine sx_RP.br (p1 := 37) (l1 := [(0, .ref 0), (1, .int 2), (2, .int 0), (3, .int a3)]) (s1 := []) (v1 := sx_w0) rfl rfl (fun _ => ?_) (fun q => absurd p0 (of_decide_eq_false q))
  refine sx_RP.step (pc2 := 38) (ls2 := [(0, .ref 0), (1, .int 2), (2, .int 0), (3, .int a3)]) (st2 := [.int a3]) (w3 := sx_w0) rfl rfl ?_
  refine sx_RP.step (pc2 := 40) (ls2 := [(0, .ref 0), (1, .int 2), (2, .int 0), (3, .int a3)]) (st2 := [.int 40, .int a3]) (w3 := sx_w0) rfl rfl ?_
  refine sx_RP.br (p1 := 50) (l1 := [(0, .ref 0), (1, .int 2), (2, .int 0), (3, .int a3)]) (s1 := []) (v1 := sx_w0) rfl rfl (fun _ => ?_) (fun q => absurd p1 (of_decide_eq_false q))
  refine sx_RP.step (pc2 := 51) (ls2 := [(0, .ref 0), (1, .int 2), (2, .int 0), (3, .int a3)]) (st2 := [.ref 0]) (w3 := sx_w0) rfl rfl ?_
  refine sx_RP.step (pc2 := 54) (ls2 := [(0, .ref 0), (1, .int 2), (2, .int 0), (3, .int a3)]) (st2 := [.ref 98]) (w3 := sx_w0) rfl rfl ?_
  refine sx_RP.step (pc2 := 55) (ls2 := [(0, .ref 0), (1, .int 2), (2, .int 0), (3, .int a3)]) (st2 := [.int 2, .ref 98]) (w3 := sx_w0) rfl rfl ?_
  refine sx_RP.step (pc2 := 56) (ls2 := [(0, .ref 0), (1, .int 2), (2, .int 0), (3, .int a3)]) (st2 := [.ref 107]) (w3 := sx_w0) rfl rfl ?_
  refine sx_RP.step (pc2 := 57) (ls2 := [(0, .ref 0), (1, .int 2), (2, .int 0), (3, .int a3)]) (st2 := [.int 0, .ref 107]) (w3 := sx_w0) rfl rfl ?_
  refine sx_RP.step (pc2 := 58) (ls2 := [(0, .ref 0), (1, .int 2), (2, .int 0), (3, .int a3)]) (st2 := [.int a3, .int 0, .ref 107]) (w3 := sx_w0) rfl rfl ?_
  refine sx_RP.cu (as := [.ref 107, .int 0, .int a3]) (rest2 := []) (st3 := []) rfl rfl rfl rfl rfl (cp_114_2_0 ys a3) rfl ?_
  refine sx_RP.step (pc2 := 62) (ls2 := [(0, .ref 0), (1, .int 2), (2, .int 0), (3, .int a3)]) (st2 := [.ref 0]) (w3 := (sx_h2 0 0)) rfl rfl ?_
  refine sx_RP.step (pc2 := 65) (ls2 := [(0, .ref 0), (1, .int 2), (2, .int 0), (3, .int a3)]) (st2 := [.ref 98]) (w3 := (sx_h2 0 0)) rfl rfl ?_
  refine sx_RP.step (pc2 := 66) (ls2 := [(0, .ref 0), (1, .int 2), (2, .int 0), (3, .int a3)]) (st2 := [.int 2, .ref 98]) (w3 := (sx_h2 0 0)) rfl rfl ?_
  refine sx_RP.step (pc2 := 67) (ls2 := [(0, .ref 0), (1, .int 2), (2, .int 0), (3, .int a3)]) (st2 := [.ref 107]) (w3 := (sx_h2 0 0)) rfl rfl ?_
  refine sx_RP.step (pc2 := 70) (ls2 := [(0, .ref 0), (1, .int 2), (2, .int 0), (3, .int a3)]) (st2 := [.int 0]) (w3 := (sx_h2 0 0)) rfl rfl ?_
  refine sx_RP.ret rfl rfl ?_
  refine ⟨0, rfl, ⟨_, rfl⟩, ?_⟩
  refine sx_RP.step (pc2 := 1) (ls2 := [(0, .ref 111), (1, .int 2), (2, .int 0), (3, .int a3)]) (st2 := [.int 2]) (w3 := (sx_h2 0 0)) rfl rfl ?_
  refine sx_RP.cl (as2 := [.int 2]) (rest2 := []) rfl rfl rfl rfl rfl rfl ?_
  refine sx_RP.step (pc2 := 1) (ls2 := [(0, .int 2)]) (st2 := [.int 2]) (w3 := (sx_h2 0 0)) rfl rfl ?_
  refine sx_RP.step (pc2 := 2) (ls2 := [(0, .int 2)]) (st2 := [.int 0, .int 2]) (w3 := (sx_h2 0 0)) rfl rfl ?_
  refine sx_RP.step (pc2 := 3) (ls2 := [(0, .int 2)]) (st2 := [.int 3, .int 0, .int 2]) (w3 := (sx_h2 0 0)) rfl rfl ?_
  refine sx_RP.cl (as2 := [.int 2, .int 0, .int 3]) (rest2 := []) rfl rfl rfl rfl rfl rfl ?_
  refine sx_RP.step (pc2 := 1) (ls2 := [(0, .int 2), (1, .int 0), (2, .int 3)]) (st2 := [.int 2]) (w3 := (sx_h2 0 0)) rfl rfl ?_
  refine sx_RP.step (pc2 := 2) (ls2 := [(0, .int 2), (1, .int 0), (2, .int 3)]) (st2 := [.int 0, .int 2]) (w3 := (sx_h2 0 0)) rfl rfl ?_
  refine sx_RP.step (pc2 := 5) (ls2 := [(0, .int 2), (1, .int 0), (2, .int 3)]) (st2 := []) (w3 := (sx_h2 0 0)) rfl rfl ?_
  refine sx_RP.step (pc2 := 6) (ls2 := [(0, .int 2), (1, .int 0), (2, .int 3)]) (st2 := [.int 2]) (w3 := (sx_h2 0 0)) rfl rfl ?_
  refine sx_RP.step (pc2 := 7) (ls2 := [(0, .int 2), (1, .int 0), (2, .int 3)]) (st2 := [.int 3, .int 2]) (w3 := (sx_h2 0 0)) rfl rfl ?_
  refine sx_RP.step (pc2 := 10) (ls2 := [(0, .int 2), (1, .int 0), (2, .int 3)]) (st2 := []) (w3 := (sx_h2 0 0)) rfl rfl ?_
  refine sx_RP.step (pc2 := 11) (ls2 := [(0, .int 2), (1, .int 0), (2, .int 3)]) (st2 := [.int 1]) (w3 := (sx_h2 0 0)) rfl rfl ?_
  refine sx_RP.step (pc2 := 15) (ls2 := [(0, .int 2), (1, .int 0), (2, .int 3)]) (st2 := [.int 1]) (w3 := (sx_h2 0 0)) rfl rfl ?_
  refine sx_RP.retc (st3 := [.int 1]) rfl rfl rfl ?_
  refine sx_RP.retc (st3 := [.int 1]) rfl rfl rfl ?_
  refine sx_RP.step (pc2 := 7) (ls2 := [(0, .ref 111), (1, .int 2), (2, .int 0), (3, .int a3)]) (st2 := []) (w3 := (sx_h2 0 0)) rfl rfl ?_
  refine sx_RP.step (pc2 := 8) (ls2 := [(0, .ref 111), (1, .int 2), (2, .int 0), (3, .int a3)]) (st2 := [.int 0]) (w3 := (sx_h2 0 0)) rfl rfl ?_
  refine sx_RP.step (pc2 := 35) (ls2 := [(0, .ref 111), (1, .int 2), (2, .int 0), (3, .int a3)]) (st2 := []) (w3 := (sx_h2 0 0)) rfl rfl ?_
  refine sx_RP.step (pc2 := 36) (ls2 := [(0, .ref 111), (1, .int 2), (2, .int 0), (3, .int a3)]) (st2 := [.int a3]) (w3 := (sx_h2 0 0)) rfl rfl ?_
  refine sx_RP.br (p1 := 46) (l1 := [(0, .ref 111), (1, .int 2), (2, .int 0), (3, .int a3)]) (s1 := []) (v1 := (sx_h2 0 0)) rfl rfl (fun _ => ?_) (fun q => absurd p0 (of_decide_eq_false q))
  refine sx_RP.step (pc2 := 47) (ls2 := [(0, .ref 111), (1, .int 2), (2, .int 0), (3, .int a3)]) (st2 := [.int a3]) (w3 := (sx_h2 0 0)) rfl rfl ?_
  refine sx_RP.step (pc2 := 49) (ls2 := [(0, .ref 111), (1, .int 2), (2, .int 0), (3, .int a3)]) (st2 := [.int 40, .int a3]) (w3 := (sx_h2 0 0)) rfl rfl ?_
  refine sx_RP.br (p1 := 58) (l1 := [(0, .ref 111), (1, .int 2), (2, .int 0), (3, .int a3)]) (s1 := []) (v1 := (sx_h2 0 0)) rfl rfl (fun _ => ?_) (fun q => absurd p1 (of_decide_eq_false q))
  refine sx_RP.step (pc2 := 59) (ls2 := [(0, .ref 111), (1, .int 2), (2, .int 0), (3, .int a3)]) (st2 := [.ref 111]) (w3 := (sx_h2 0 0)) rfl rfl ?_
  refine sx_RP.step (pc2 := 62) (ls2 := [(0, .ref 111), (1, .int 2), (2, .int 0), (3, .int a3)]) (st2 := [.ref 122]) (w3 := (sx_h2 0 0)) rfl rfl ?_
  refine sx_RP.step (pc2 := 63) (ls2 := [(0, .ref 111), (1, .int 2), (2, .int 0), (3, .int a3)]) (st2 := [.int 2, .ref 122]) (w3 := (sx_h2 0 0)) rfl rfl ?_
  refine sx_RP.step (pc2 := 64) (ls2 := [(0, .ref 111), (1, .int 2), (2, .int 0), (3, .int a3)]) (st2 := [.int 0, .int 2, .ref 122]) (w3 := (sx_h2 0 0)) rfl rfl ?_
  refine sx_RP.step (pc2 := 65) (ls2 := [(0, .ref 111), (1, .int 2), (2, .int 0), (3, .int a3)]) (st2 := []) (w3 := ((sx_h2 0 0).set 122 (.inl (0, [0, 0, 0, 0])))) rfl rfl ?_
  refine sx_RP.step (pc2 := 66) (ls2 := [(0, .ref 111), (1, .int 2), (2, .int 0), (3, .int a3)]) (st2 := [.ref 111]) (w3 := ((sx_h2 0 0).set 122 (.inl (0, [0, 0, 0, 0])))) rfl rfl ?_
  refine sx_RP.step (pc2 := 69) (ls2 := [(0, .ref 111), (1, .int 2), (2, .int 0), (3, .int a3)]) (st2 := [.ref 123]) (w3 := ((sx_h2 0 0).set 122 (.inl (0, [0, 0, 0, 0])))) rfl rfl ?_
  refine sx_RP.step (pc2 := 70) (ls2 := [(0, .ref 111), (1, .int 2), (2, .int 0), (3, .int a3)]) (st2 := [.int 2, .ref 123]) (w3 := ((sx_h2 0 0).set 122 (.inl (0, [0, 0, 0, 0])))) rfl rfl ?_
  refine sx_RP.step (pc2 := 71) (ls2 := [(0, .ref 111), (1, .int 2), (2, .int 0), (3, .int a3)]) (st2 := [.int 0, .int 2, .ref 123]) (w3 := ((sx_h2 0 0).set 122 (.inl (0, [0, 0, 0, 0])))) rfl rfl ?_
  refine sx_RP.step (pc2 := 74) (ls2 := [(0, .ref 111), (1, .int 2), (2, .int 0), (3, .int a3)]) (st2 := [.int 2, .ref 123]) (w3 := ((sx_h2 0 0).set 122 (.inl (0, [0, 0, 0, 0])))) rfl rfl ?_
  refine sx_RP.step (pc2 := 75) (ls2 := [(0, .ref 111), (1, .int 2), (2, .int 0), (3, .int a3)]) (st2 := [.int 0, .int 2, .ref 123]) (w3 := ((sx_h2 0 0).set 122 (.inl (0, [0, 0, 0, 0])))) rfl rfl ?_
  refine sx_RP.step (pc2 := 79) (ls2 := [(0, .ref 111), (1, .int 2), (2, .int 0), (3, .int a3)]) (st2 := [.int 0, .int 2, .ref 123]) (w3 := ((sx_h2 0 0).set 122 (.inl (0, [0, 0, 0, 0])))) rfl rfl ?_
  refine sx_RP.step (pc2 := 80) (ls2 := [(0, .ref 111), (1, .int 2), (2, .int 0), (3, .int a3)]) (st2 := []) (w3 := (((sx_h2 0 0).set 122 (.inl (0, [0, 0, 0, 0]))).set 123 (.inl (0, [0, 0, 0, 0])))) rfl rfl ?_
  refine sx_RP.step (pc2 := 81) (ls2 := [(0, .ref 111), (1, .int 2), (2, .int 0), (3, .int a3)]) (st2 := [.int 0]) (w3 := (((sx_h2 0 0).set 122 (.inl (0, [0, 0, 0, 0]))).set 123 (.inl (0, [0, 0, 0, 0])))) rfl rfl ?_
  refine sx_RP.step (pc2 := 83) (ls2 := [(4, .int 0), (0, .ref 111), (1, .int 2), (2, .int 0), (3, .int a3)]) (st2 := []) (w3 := (((sx_h2 0 0).set 122 (.inl (0, [0, 0, 0, 0]))).set 123 (.inl (0, [0, 0, 0, 0])))) rfl rfl ?_
  refine sx_RP.wd (w2 := sx_g2 0 0) rfl ?_
  exact cp_230L2 ys 0 0 a3 40 0 (by omega)
set_option maxRecDepth 20000 in
set_option maxHeartbeats 4000000 in
theorem cp_114_2_8 (ys : List Int32) (a3 : Int32) : sx_RU (some ys) 6 114 0 (lv_args 0 [.ref 107, .int 8, .int a3]) [] sx_w0 none (sx_h2 8 a3) := by
  have h : sx_RP (some ys) 6 114 0 (lv_args 0 [.ref 107, .int 8, .int a3]) [] sx_w0 (fun r w2 => r = none ∧ w2 = sx_h2 8 a3) := by
    refine sx_RP.step (pc2 := 1) (ls2 := [(0, .ref 107), (1, .int 8), (2, .int a3)]) (st2 := [.ref 107]) (w3 := sx_w0) rfl rfl ?_
    refine sx_RP.step (pc2 := 2) (ls2 := [(0, .ref 107), (1, .int 8), (2, .int a3)]) (st2 := [.int 8, .ref 107]) (w3 := sx_w0) rfl rfl ?_
    refine sx_RP.step (pc2 := 5) (ls2 := [(0, .ref 107), (1, .int 8), (2, .int a3)]) (st2 := []) (w3 := (sx_w0.set 107 (.inr (.inr (.inr (5, [.ref 108, .int 8, .int 0])))))) rfl rfl ?_
    refine sx_RP.step (pc2 := 6) (ls2 := [(0, .ref 107), (1, .int 8), (2, .int a3)]) (st2 := [.ref 107]) (w3 := (sx_w0.set 107 (.inr (.inr (.inr (5, [.ref 108, .int 8, .int 0])))))) rfl rfl ?_
    refine sx_RP.step (pc2 := 7) (ls2 := [(0, .ref 107), (1, .int 8), (2, .int a3)]) (st2 := [.int 8, .ref 107]) (w3 := (sx_w0.set 107 (.inr (.inr (.inr (5, [.ref 108, .int 8, .int 0])))))) rfl rfl ?_
    refine sx_RP.step (pc2 := 14) (ls2 := [(0, .ref 107), (1, .int 8), (2, .int a3)]) (st2 := [.ref 107]) (w3 := (sx_w0.set 107 (.inr (.inr (.inr (5, [.ref 108, .int 8, .int 0])))))) rfl rfl ?_
    refine sx_RP.step (pc2 := 15) (ls2 := [(0, .ref 107), (1, .int 8), (2, .int a3)]) (st2 := [.int a3, .ref 107]) (w3 := (sx_w0.set 107 (.inr (.inr (.inr (5, [.ref 108, .int 8, .int 0])))))) rfl rfl ?_
    refine sx_RP.step (pc2 := 18) (ls2 := [(0, .ref 107), (1, .int 8), (2, .int a3)]) (st2 := []) (w3 := (sx_w0.set 107 (.inr (.inr (.inr (5, [.ref 108, .int 8, .int a3])))))) rfl rfl ?_
    refine sx_RP.step (pc2 := 19) (ls2 := [(0, .ref 107), (1, .int 8), (2, .int a3)]) (st2 := [.int 0]) (w3 := (sx_w0.set 107 (.inr (.inr (.inr (5, [.ref 108, .int 8, .int a3])))))) rfl rfl ?_
    refine sx_RP.step (pc2 := 20) (ls2 := [(3, .int 0), (0, .ref 107), (1, .int 8), (2, .int a3)]) (st2 := []) (w3 := (sx_w0.set 107 (.inr (.inr (.inr (5, [.ref 108, .int 8, .int a3])))))) rfl rfl ?_
    refine sx_RP.wd (w2 := sx_h2 8 a3) rfl ?_
    exact cp_114L2 ys 8 a3 a3 40 0 (by omega)
  obtain ⟨r, w2, h1, rfl, rfl⟩ := h
  exact h1
set_option maxRecDepth 20000 in
set_option maxHeartbeats 4000000 in
theorem k_sheet_2_8 (ys : List Int32) (a3 : Int32) (p0 : 0 ≤ a3) (p1 : a3 ≤ 40) : sx_twoI ys 111 230 [.int 2, .int 8, .int a3] := by
  refine sx_twoI.of ?_
  refine sx_RP.step (pc2 := 1) (ls2 := [(0, .ref 0), (1, .int 2), (2, .int 8), (3, .int a3)]) (st2 := [.int 2]) (w3 := sx_w0) rfl rfl ?_
  refine sx_RP.cl (as2 := [.int 2]) (rest2 := []) rfl rfl rfl rfl rfl rfl ?_
  refine sx_RP.step (pc2 := 1) (ls2 := [(0, .int 2)]) (st2 := [.int 2]) (w3 := sx_w0) rfl rfl ?_
  refine sx_RP.step (pc2 := 2) (ls2 := [(0, .int 2)]) (st2 := [.int 0, .int 2]) (w3 := sx_w0) rfl rfl ?_
  refine sx_RP.step (pc2 := 3) (ls2 := [(0, .int 2)]) (st2 := [.int 3, .int 0, .int 2]) (w3 := sx_w0) rfl rfl ?_
  refine sx_RP.cl (as2 := [.int 2, .int 0, .int 3]) (rest2 := []) rfl rfl rfl rfl rfl rfl ?_
  refine sx_RP.step (pc2 := 1) (ls2 := [(0, .int 2), (1, .int 0), (2, .int 3)]) (st2 := [.int 2]) (w3 := sx_w0) rfl rfl ?_
  refine sx_RP.step (pc2 := 2) (ls2 := [(0, .int 2), (1, .int 0), (2, .int 3)]) (st2 := [.int 0, .int 2]) (w3 := sx_w0) rfl rfl ?_
  refine sx_RP.step (pc2 := 5) (ls2 := [(0, .int 2), (1, .int 0), (2, .int 3)]) (st2 := []) (w3 := sx_w0) rfl rfl ?_
  refine sx_RP.step (pc2 := 6) (ls2 := [(0, .int 2), (1, .int 0), (2, .int 3)]) (st2 := [.int 2]) (w3 := sx_w0) rfl rfl ?_
  refine sx_RP.step (pc2 := 7) (ls2 := [(0, .int 2), (1, .int 0), (2, .int 3)]) (st2 := [.int 3, .int 2]) (w3 := sx_w0) rfl rfl ?_
  refine sx_RP.step (pc2 := 10) (ls2 := [(0, .int 2), (1, .int 0), (2, .int 3)]) (st2 := []) (w3 := sx_w0) rfl rfl ?_
  refine sx_RP.step (pc2 := 11) (ls2 := [(0, .int 2), (1, .int 0), (2, .int 3)]) (st2 := [.int 1]) (w3 := sx_w0) rfl rfl ?_
  refine sx_RP.step (pc2 := 15) (ls2 := [(0, .int 2), (1, .int 0), (2, .int 3)]) (st2 := [.int 1]) (w3 := sx_w0) rfl rfl ?_
  refine sx_RP.retc (st3 := [.int 1]) rfl rfl rfl ?_
  refine sx_RP.retc (st3 := [.int 1]) rfl rfl rfl ?_
  refine sx_RP.step (pc2 := 7) (ls2 := [(0, .ref 0), (1, .int 2), (2, .int 8), (3, .int a3)]) (st2 := []) (w3 := sx_w0) rfl rfl ?_
  refine sx_RP.step (pc2 := 8) (ls2 := [(0, .ref 0), (1, .int 2), (2, .int 8), (3, .int a3)]) (st2 := [.int 8]) (w3 := sx_w0) rfl rfl ?_
  refine sx_RP.cl (as2 := [.int 8]) (rest2 := []) rfl rfl rfl rfl rfl rfl ?_
  refine sx_RP.step (pc2 := 1) (ls2 := [(0, .int 8)]) (st2 := [.int 8]) (w3 := sx_w0) rfl rfl ?_
  refine sx_RP.step (pc2 := 3) (ls2 := [(0, .int 8)]) (st2 := [.int 8, .int 8]) (w3 := sx_w0) rfl rfl ?_
  refine sx_RP.step (pc2 := 18) (ls2 := [(0, .int 8)]) (st2 := []) (w3 := sx_w0) rfl rfl ?_
  refine sx_RP.step (pc2 := 19) (ls2 := [(0, .int 8)]) (st2 := [.int 1]) (w3 := sx_w0) rfl rfl ?_
  refine sx_RP.step (pc2 := 23) (ls2 := [(0, .int 8)]) (st2 := [.int 1]) (w3 := sx_w0) rfl rfl ?_
  refine sx_RP.retc (st3 := [.int 1]) rfl rfl rfl ?_
  refine sx_RP.step (pc2 := 25) (ls2 := [(0, .ref 0), (1, .int 2), (2, .int 8), (3, .int a3)]) (st2 := []) (w3 := sx_w0) rfl rfl ?_
  refine sx_RP.step (pc2 := 26) (ls2 := [(0, .ref 0), (1, .int 2), (2, .int 8), (3, .int a3)]) (st2 := [.int a3]) (w3 := sx_w0) rfl rfl ?_
  refine sx_RP.br (p1 := 37) (l1 := [(0, .ref 0), (1, .int 2), (2, .int 8), (3, .int a3)]) (s1 := []) (v1 := sx_w0) rfl rfl (fun _ => ?_) (fun q => absurd p0 (of_decide_eq_false q))
  refine sx_RP.step (pc2 := 38) (ls2 := [(0, .ref 0), (1, .int 2), (2, .int 8), (3, .int a3)]) (st2 := [.int a3]) (w3 := sx_w0) rfl rfl ?_
  refine sx_RP.step (pc2 := 40) (ls2 := [(0, .ref 0), (1, .int 2), (2, .int 8), (3, .int a3)]) (st2 := [.int 40, .int a3]) (w3 := sx_w0) rfl rfl ?_
  refine sx_RP.br (p1 := 50) (l1 := [(0, .ref 0), (1, .int 2), (2, .int 8), (3, .int a3)]) (s1 := []) (v1 := sx_w0) rfl rfl (fun _ => ?_) (fun q => absurd p1 (of_decide_eq_false q))
  refine sx_RP.step (pc2 := 51) (ls2 := [(0, .ref 0), (1, .int 2), (2, .int 8), (3, .int a3)]) (st2 := [.ref 0]) (w3 := sx_w0) rfl rfl ?_
  refine sx_RP.step (pc2 := 54) (ls2 := [(0, .ref 0), (1, .int 2), (2, .int 8), (3, .int a3)]) (st2 := [.ref 98]) (w3 := sx_w0) rfl rfl ?_
  refine sx_RP.step (pc2 := 55) (ls2 := [(0, .ref 0), (1, .int 2), (2, .int 8), (3, .int a3)]) (st2 := [.int 2, .ref 98]) (w3 := sx_w0) rfl rfl ?_
  refine sx_RP.step (pc2 := 56) (ls2 := [(0, .ref 0), (1, .int 2), (2, .int 8), (3, .int a3)]) (st2 := [.ref 107]) (w3 := sx_w0) rfl rfl ?_
  refine sx_RP.step (pc2 := 57) (ls2 := [(0, .ref 0), (1, .int 2), (2, .int 8), (3, .int a3)]) (st2 := [.int 8, .ref 107]) (w3 := sx_w0) rfl rfl ?_
  refine sx_RP.step (pc2 := 58) (ls2 := [(0, .ref 0), (1, .int 2), (2, .int 8), (3, .int a3)]) (st2 := [.int a3, .int 8, .ref 107]) (w3 := sx_w0) rfl rfl ?_
  refine sx_RP.cu (as := [.ref 107, .int 8, .int a3]) (rest2 := []) (st3 := []) rfl rfl rfl rfl rfl (cp_114_2_8 ys a3) rfl ?_
  refine sx_RP.step (pc2 := 62) (ls2 := [(0, .ref 0), (1, .int 2), (2, .int 8), (3, .int a3)]) (st2 := [.ref 0]) (w3 := (sx_h2 8 a3)) rfl rfl ?_
  refine sx_RP.step (pc2 := 65) (ls2 := [(0, .ref 0), (1, .int 2), (2, .int 8), (3, .int a3)]) (st2 := [.ref 98]) (w3 := (sx_h2 8 a3)) rfl rfl ?_
  refine sx_RP.step (pc2 := 66) (ls2 := [(0, .ref 0), (1, .int 2), (2, .int 8), (3, .int a3)]) (st2 := [.int 2, .ref 98]) (w3 := (sx_h2 8 a3)) rfl rfl ?_
  refine sx_RP.step (pc2 := 67) (ls2 := [(0, .ref 0), (1, .int 2), (2, .int 8), (3, .int a3)]) (st2 := [.ref 107]) (w3 := (sx_h2 8 a3)) rfl rfl ?_
  refine sx_RP.step (pc2 := 70) (ls2 := [(0, .ref 0), (1, .int 2), (2, .int 8), (3, .int a3)]) (st2 := [.int a3]) (w3 := (sx_h2 8 a3)) rfl rfl ?_
  refine sx_RP.ret rfl rfl ?_
  refine ⟨a3, rfl, ⟨_, rfl⟩, ?_⟩
  refine sx_RP.step (pc2 := 1) (ls2 := [(0, .ref 111), (1, .int 2), (2, .int 8), (3, .int a3)]) (st2 := [.int 2]) (w3 := (sx_h2 8 a3)) rfl rfl ?_
  refine sx_RP.cl (as2 := [.int 2]) (rest2 := []) rfl rfl rfl rfl rfl rfl ?_
  refine sx_RP.step (pc2 := 1) (ls2 := [(0, .int 2)]) (st2 := [.int 2]) (w3 := (sx_h2 8 a3)) rfl rfl ?_
  refine sx_RP.step (pc2 := 2) (ls2 := [(0, .int 2)]) (st2 := [.int 0, .int 2]) (w3 := (sx_h2 8 a3)) rfl rfl ?_
  refine sx_RP.step (pc2 := 3) (ls2 := [(0, .int 2)]) (st2 := [.int 3, .int 0, .int 2]) (w3 := (sx_h2 8 a3)) rfl rfl ?_
  refine sx_RP.cl (as2 := [.int 2, .int 0, .int 3]) (rest2 := []) rfl rfl rfl rfl rfl rfl ?_
  refine sx_RP.step (pc2 := 1) (ls2 := [(0, .int 2), (1, .int 0), (2, .int 3)]) (st2 := [.int 2]) (w3 := (sx_h2 8 a3)) rfl rfl ?_
  refine sx_RP.step (pc2 := 2) (ls2 := [(0, .int 2), (1, .int 0), (2, .int 3)]) (st2 := [.int 0, .int 2]) (w3 := (sx_h2 8 a3)) rfl rfl ?_
  refine sx_RP.step (pc2 := 5) (ls2 := [(0, .int 2), (1, .int 0), (2, .int 3)]) (st2 := []) (w3 := (sx_h2 8 a3)) rfl rfl ?_
  refine sx_RP.step (pc2 := 6) (ls2 := [(0, .int 2), (1, .int 0), (2, .int 3)]) (st2 := [.int 2]) (w3 := (sx_h2 8 a3)) rfl rfl ?_
  refine sx_RP.step (pc2 := 7) (ls2 := [(0, .int 2), (1, .int 0), (2, .int 3)]) (st2 := [.int 3, .int 2]) (w3 := (sx_h2 8 a3)) rfl rfl ?_
  refine sx_RP.step (pc2 := 10) (ls2 := [(0, .int 2), (1, .int 0), (2, .int 3)]) (st2 := []) (w3 := (sx_h2 8 a3)) rfl rfl ?_
  refine sx_RP.step (pc2 := 11) (ls2 := [(0, .int 2), (1, .int 0), (2, .int 3)]) (st2 := [.int 1]) (w3 := (sx_h2 8 a3)) rfl rfl ?_
  refine sx_RP.step (pc2 := 15) (ls2 := [(0, .int 2), (1, .int 0), (2, .int 3)]) (st2 := [.int 1]) (w3 := (sx_h2 8 a3)) rfl rfl ?_
  refine sx_RP.retc (st3 := [.int 1]) rfl rfl rfl ?_
  refine sx_RP.retc (st3 := [.int 1]) rfl rfl rfl ?_
  refine sx_RP.step (pc2 := 7) (ls2 := [(0, .ref 111), (1, .int 2), (2, .int 8), (3, .int a3)]) (st2 := []) (w3 := (sx_h2 8 a3)) rfl rfl ?_
  refine sx_RP.step (pc2 := 8) (ls2 := [(0, .ref 111), (1, .int 2), (2, .int 8), (3, .int a3)]) (st2 := [.int 8]) (w3 := (sx_h2 8 a3)) rfl rfl ?_
  refine sx_RP.step (pc2 := 11) (ls2 := [(0, .ref 111), (1, .int 2), (2, .int 8), (3, .int a3)]) (st2 := []) (w3 := (sx_h2 8 a3)) rfl rfl ?_
  refine sx_RP.step (pc2 := 12) (ls2 := [(0, .ref 111), (1, .int 2), (2, .int 8), (3, .int a3)]) (st2 := [.int 8]) (w3 := (sx_h2 8 a3)) rfl rfl ?_
  refine sx_RP.step (pc2 := 14) (ls2 := [(0, .ref 111), (1, .int 2), (2, .int 8), (3, .int a3)]) (st2 := [.int 8, .int 8]) (w3 := (sx_h2 8 a3)) rfl rfl ?_
  refine sx_RP.step (pc2 := 35) (ls2 := [(0, .ref 111), (1, .int 2), (2, .int 8), (3, .int a3)]) (st2 := []) (w3 := (sx_h2 8 a3)) rfl rfl ?_
  refine sx_RP.step (pc2 := 36) (ls2 := [(0, .ref 111), (1, .int 2), (2, .int 8), (3, .int a3)]) (st2 := [.int a3]) (w3 := (sx_h2 8 a3)) rfl rfl ?_
  refine sx_RP.br (p1 := 46) (l1 := [(0, .ref 111), (1, .int 2), (2, .int 8), (3, .int a3)]) (s1 := []) (v1 := (sx_h2 8 a3)) rfl rfl (fun _ => ?_) (fun q => absurd p0 (of_decide_eq_false q))
  refine sx_RP.step (pc2 := 47) (ls2 := [(0, .ref 111), (1, .int 2), (2, .int 8), (3, .int a3)]) (st2 := [.int a3]) (w3 := (sx_h2 8 a3)) rfl rfl ?_
  refine sx_RP.step (pc2 := 49) (ls2 := [(0, .ref 111), (1, .int 2), (2, .int 8), (3, .int a3)]) (st2 := [.int 40, .int a3]) (w3 := (sx_h2 8 a3)) rfl rfl ?_
  refine sx_RP.br (p1 := 58) (l1 := [(0, .ref 111), (1, .int 2), (2, .int 8), (3, .int a3)]) (s1 := []) (v1 := (sx_h2 8 a3)) rfl rfl (fun _ => ?_) (fun q => absurd p1 (of_decide_eq_false q))
  refine sx_RP.step (pc2 := 59) (ls2 := [(0, .ref 111), (1, .int 2), (2, .int 8), (3, .int a3)]) (st2 := [.ref 111]) (w3 := (sx_h2 8 a3)) rfl rfl ?_
  refine sx_RP.step (pc2 := 62) (ls2 := [(0, .ref 111), (1, .int 2), (2, .int 8), (3, .int a3)]) (st2 := [.ref 122]) (w3 := (sx_h2 8 a3)) rfl rfl ?_
  refine sx_RP.step (pc2 := 63) (ls2 := [(0, .ref 111), (1, .int 2), (2, .int 8), (3, .int a3)]) (st2 := [.int 2, .ref 122]) (w3 := (sx_h2 8 a3)) rfl rfl ?_
  refine sx_RP.step (pc2 := 64) (ls2 := [(0, .ref 111), (1, .int 2), (2, .int 8), (3, .int a3)]) (st2 := [.int 8, .int 2, .ref 122]) (w3 := (sx_h2 8 a3)) rfl rfl ?_
  refine sx_RP.step (pc2 := 65) (ls2 := [(0, .ref 111), (1, .int 2), (2, .int 8), (3, .int a3)]) (st2 := []) (w3 := ((sx_h2 8 a3).set 122 (.inl (0, [0, 0, 8, 0])))) rfl rfl ?_
  refine sx_RP.step (pc2 := 66) (ls2 := [(0, .ref 111), (1, .int 2), (2, .int 8), (3, .int a3)]) (st2 := [.ref 111]) (w3 := ((sx_h2 8 a3).set 122 (.inl (0, [0, 0, 8, 0])))) rfl rfl ?_
  refine sx_RP.step (pc2 := 69) (ls2 := [(0, .ref 111), (1, .int 2), (2, .int 8), (3, .int a3)]) (st2 := [.ref 123]) (w3 := ((sx_h2 8 a3).set 122 (.inl (0, [0, 0, 8, 0])))) rfl rfl ?_
  refine sx_RP.step (pc2 := 70) (ls2 := [(0, .ref 111), (1, .int 2), (2, .int 8), (3, .int a3)]) (st2 := [.int 2, .ref 123]) (w3 := ((sx_h2 8 a3).set 122 (.inl (0, [0, 0, 8, 0])))) rfl rfl ?_
  refine sx_RP.step (pc2 := 71) (ls2 := [(0, .ref 111), (1, .int 2), (2, .int 8), (3, .int a3)]) (st2 := [.int 8, .int 2, .ref 123]) (w3 := ((sx_h2 8 a3).set 122 (.inl (0, [0, 0, 8, 0])))) rfl rfl ?_
  refine sx_RP.step (pc2 := 78) (ls2 := [(0, .ref 111), (1, .int 2), (2, .int 8), (3, .int a3)]) (st2 := [.int 2, .ref 123]) (w3 := ((sx_h2 8 a3).set 122 (.inl (0, [0, 0, 8, 0])))) rfl rfl ?_
  refine sx_RP.step (pc2 := 79) (ls2 := [(0, .ref 111), (1, .int 2), (2, .int 8), (3, .int a3)]) (st2 := [.int a3, .int 2, .ref 123]) (w3 := ((sx_h2 8 a3).set 122 (.inl (0, [0, 0, 8, 0])))) rfl rfl ?_
  refine sx_RP.step (pc2 := 80) (ls2 := [(0, .ref 111), (1, .int 2), (2, .int 8), (3, .int a3)]) (st2 := []) (w3 := (((sx_h2 8 a3).set 122 (.inl (0, [0, 0, 8, 0]))).set 123 (.inl (0, [0, 0, a3, 0])))) rfl rfl ?_
  refine sx_RP.step (pc2 := 81) (ls2 := [(0, .ref 111), (1, .int 2), (2, .int 8), (3, .int a3)]) (st2 := [.int 0]) (w3 := (((sx_h2 8 a3).set 122 (.inl (0, [0, 0, 8, 0]))).set 123 (.inl (0, [0, 0, a3, 0])))) rfl rfl ?_
  refine sx_RP.step (pc2 := 83) (ls2 := [(4, .int 0), (0, .ref 111), (1, .int 2), (2, .int 8), (3, .int a3)]) (st2 := []) (w3 := (((sx_h2 8 a3).set 122 (.inl (0, [0, 0, 8, 0]))).set 123 (.inl (0, [0, 0, a3, 0])))) rfl rfl ?_
  refine sx_RP.wd (w2 := sx_g2 8 a3) rfl ?_
  exact cp_230L2 ys 8 a3 a3 40 0 (by omega)
set_option maxRecDepth 20000 in
set_option maxHeartbeats 4000000 in
theorem cp_114_2_16 (ys : List Int32) (a3 : Int32) : sx_RU (some ys) 6 114 0 (lv_args 0 [.ref 107, .int 16, .int a3]) [] sx_w0 none (sx_h2 16 a3) := by
  have h : sx_RP (some ys) 6 114 0 (lv_args 0 [.ref 107, .int 16, .int a3]) [] sx_w0 (fun r w2 => r = none ∧ w2 = sx_h2 16 a3) := by
    refine sx_RP.step (pc2 := 1) (ls2 := [(0, .ref 107), (1, .int 16), (2, .int a3)]) (st2 := [.ref 107]) (w3 := sx_w0) rfl rfl ?_
    refine sx_RP.step (pc2 := 2) (ls2 := [(0, .ref 107), (1, .int 16), (2, .int a3)]) (st2 := [.int 16, .ref 107]) (w3 := sx_w0) rfl rfl ?_
    refine sx_RP.step (pc2 := 5) (ls2 := [(0, .ref 107), (1, .int 16), (2, .int a3)]) (st2 := []) (w3 := (sx_w0.set 107 (.inr (.inr (.inr (5, [.ref 108, .int 16, .int 0])))))) rfl rfl ?_
    refine sx_RP.step (pc2 := 6) (ls2 := [(0, .ref 107), (1, .int 16), (2, .int a3)]) (st2 := [.ref 107]) (w3 := (sx_w0.set 107 (.inr (.inr (.inr (5, [.ref 108, .int 16, .int 0])))))) rfl rfl ?_
    refine sx_RP.step (pc2 := 7) (ls2 := [(0, .ref 107), (1, .int 16), (2, .int a3)]) (st2 := [.int 16, .ref 107]) (w3 := (sx_w0.set 107 (.inr (.inr (.inr (5, [.ref 108, .int 16, .int 0])))))) rfl rfl ?_
    refine sx_RP.step (pc2 := 14) (ls2 := [(0, .ref 107), (1, .int 16), (2, .int a3)]) (st2 := [.ref 107]) (w3 := (sx_w0.set 107 (.inr (.inr (.inr (5, [.ref 108, .int 16, .int 0])))))) rfl rfl ?_
    refine sx_RP.step (pc2 := 15) (ls2 := [(0, .ref 107), (1, .int 16), (2, .int a3)]) (st2 := [.int a3, .ref 107]) (w3 := (sx_w0.set 107 (.inr (.inr (.inr (5, [.ref 108, .int 16, .int 0])))))) rfl rfl ?_
    refine sx_RP.step (pc2 := 18) (ls2 := [(0, .ref 107), (1, .int 16), (2, .int a3)]) (st2 := []) (w3 := (sx_w0.set 107 (.inr (.inr (.inr (5, [.ref 108, .int 16, .int a3])))))) rfl rfl ?_
    refine sx_RP.step (pc2 := 19) (ls2 := [(0, .ref 107), (1, .int 16), (2, .int a3)]) (st2 := [.int 0]) (w3 := (sx_w0.set 107 (.inr (.inr (.inr (5, [.ref 108, .int 16, .int a3])))))) rfl rfl ?_
    refine sx_RP.step (pc2 := 20) (ls2 := [(3, .int 0), (0, .ref 107), (1, .int 16), (2, .int a3)]) (st2 := []) (w3 := (sx_w0.set 107 (.inr (.inr (.inr (5, [.ref 108, .int 16, .int a3])))))) rfl rfl ?_
    refine sx_RP.wd (w2 := sx_h2 16 a3) rfl ?_
    exact cp_114L2 ys 16 a3 a3 40 0 (by omega)
  obtain ⟨r, w2, h1, rfl, rfl⟩ := h
  exact h1
set_option maxRecDepth 20000 in
set_option maxHeartbeats 4000000 in
theorem k_sheet_2_16 (ys : List Int32) (a3 : Int32) (p0 : 0 ≤ a3) (p1 : a3 ≤ 40) : sx_twoI ys 111 230 [.int 2, .int 16, .int a3] := by
  refine sx_twoI.of ?_
  refine sx_RP.step (pc2 := 1) (ls2 := [(0, .ref 0), (1, .int 2), (2, .int 16), (3, .int a3)]) (st2 := [.int 2]) (w3 := sx_w0) rfl rfl ?_
  refine sx_RP.cl (as2 := [.int 2]) (rest2 := []) rfl rfl rfl rfl rfl rfl ?_
  refine sx_RP.step (pc2 := 1) (ls2 := [(0, .int 2)]) (st2 := [.int 2]) (w3 := sx_w0) rfl rfl ?_
  refine sx_RP.step (pc2 := 2) (ls2 := [(0, .int 2)]) (st2 := [.int 0, .int 2]) (w3 := sx_w0) rfl rfl ?_
  refine sx_RP.step (pc2 := 3) (ls2 := [(0, .int 2)]) (st2 := [.int 3, .int 0, .int 2]) (w3 := sx_w0) rfl rfl ?_
  refine sx_RP.cl (as2 := [.int 2, .int 0, .int 3]) (rest2 := []) rfl rfl rfl rfl rfl rfl ?_
  refine sx_RP.step (pc2 := 1) (ls2 := [(0, .int 2), (1, .int 0), (2, .int 3)]) (st2 := [.int 2]) (w3 := sx_w0) rfl rfl ?_
  refine sx_RP.step (pc2 := 2) (ls2 := [(0, .int 2), (1, .int 0), (2, .int 3)]) (st2 := [.int 0, .int 2]) (w3 := sx_w0) rfl rfl ?_
  refine sx_RP.step (pc2 := 5) (ls2 := [(0, .int 2), (1, .int 0), (2, .int 3)]) (st2 := []) (w3 := sx_w0) rfl rfl ?_
  refine sx_RP.step (pc2 := 6) (ls2 := [(0, .int 2), (1, .int 0), (2, .int 3)]) (st2 := [.int 2]) (w3 := sx_w0) rfl rfl ?_
  refine sx_RP.step (pc2 := 7) (ls2 := [(0, .int 2), (1, .int 0), (2, .int 3)]) (st2 := [.int 3, .int 2]) (w3 := sx_w0) rfl rfl ?_
  refine sx_RP.step (pc2 := 10) (ls2 := [(0, .int 2), (1, .int 0), (2, .int 3)]) (st2 := []) (w3 := sx_w0) rfl rfl ?_
  refine sx_RP.step (pc2 := 11) (ls2 := [(0, .int 2), (1, .int 0), (2, .int 3)]) (st2 := [.int 1]) (w3 := sx_w0) rfl rfl ?_
  refine sx_RP.step (pc2 := 15) (ls2 := [(0, .int 2), (1, .int 0), (2, .int 3)]) (st2 := [.int 1]) (w3 := sx_w0) rfl rfl ?_
  refine sx_RP.retc (st3 := [.int 1]) rfl rfl rfl ?_
  refine sx_RP.retc (st3 := [.int 1]) rfl rfl rfl ?_
  refine sx_RP.step (pc2 := 7) (ls2 := [(0, .ref 0), (1, .int 2), (2, .int 16), (3, .int a3)]) (st2 := []) (w3 := sx_w0) rfl rfl ?_
  refine sx_RP.step (pc2 := 8) (ls2 := [(0, .ref 0), (1, .int 2), (2, .int 16), (3, .int a3)]) (st2 := [.int 16]) (w3 := sx_w0) rfl rfl ?_
  refine sx_RP.cl (as2 := [.int 16]) (rest2 := []) rfl rfl rfl rfl rfl rfl ?_
  refine sx_RP.step (pc2 := 1) (ls2 := [(0, .int 16)]) (st2 := [.int 16]) (w3 := sx_w0) rfl rfl ?_
  refine sx_RP.step (pc2 := 3) (ls2 := [(0, .int 16)]) (st2 := [.int 8, .int 16]) (w3 := sx_w0) rfl rfl ?_
  refine sx_RP.step (pc2 := 6) (ls2 := [(0, .int 16)]) (st2 := []) (w3 := sx_w0) rfl rfl ?_
  refine sx_RP.step (pc2 := 7) (ls2 := [(0, .int 16)]) (st2 := [.int 16]) (w3 := sx_w0) rfl rfl ?_
  refine sx_RP.step (pc2 := 9) (ls2 := [(0, .int 16)]) (st2 := [.int 16, .int 16]) (w3 := sx_w0) rfl rfl ?_
  refine sx_RP.step (pc2 := 18) (ls2 := [(0, .int 16)]) (st2 := []) (w3 := sx_w0) rfl rfl ?_
  refine sx_RP.step (pc2 := 19) (ls2 := [(0, .int 16)]) (st2 := [.int 1]) (w3 := sx_w0) rfl rfl ?_
  refine sx_RP.step (pc2 := 23) (ls2 := [(0, .int 16)]) (st2 := [.int 1]) (w3 := sx_w0) rfl rfl ?_
  refine sx_RP.retc (st3 := [.int 1]) rfl rfl rfl ?_
  refine sx_RP.step (pc2 := 25) (ls2 := [(0, .ref 0), (1, .int 2), (2, .int 16), (3, .int a3)]) (st2 := []) (w3 := sx_w0) rfl rfl ?_
  refine sx_RP.step (pc2 := 26) (ls2 := [(0, .ref 0), (1, .int 2), (2, .int 16), (3, .int a3)]) (st2 := [.int a3]) (w3 := sx_w0) rfl rfl ?_
  refine sx_RP.br (p1 := 37) (l1 := [(0, .ref 0), (1, .int 2), (2, .int 16), (3, .int a3)]) (s1 := []) (v1 := sx_w0) rfl rfl (fun _ => ?_) (fun q => absurd p0 (of_decide_eq_false q))
  refine sx_RP.step (pc2 := 38) (ls2 := [(0, .ref 0), (1, .int 2), (2, .int 16), (3, .int a3)]) (st2 := [.int a3]) (w3 := sx_w0) rfl rfl ?_
  refine sx_RP.step (pc2 := 40) (ls2 := [(0, .ref 0), (1, .int 2), (2, .int 16), (3, .int a3)]) (st2 := [.int 40, .int a3]) (w3 := sx_w0) rfl rfl ?_
  refine sx_RP.br (p1 := 50) (l1 := [(0, .ref 0), (1, .int 2), (2, .int 16), (3, .int a3)]) (s1 := []) (v1 := sx_w0) rfl rfl (fun _ => ?_) (fun q => absurd p1 (of_decide_eq_false q))
  refine sx_RP.step (pc2 := 51) (ls2 := [(0, .ref 0), (1, .int 2), (2, .int 16), (3, .int a3)]) (st2 := [.ref 0]) (w3 := sx_w0) rfl rfl ?_
  refine sx_RP.step (pc2 := 54) (ls2 := [(0, .ref 0), (1, .int 2), (2, .int 16), (3, .int a3)]) (st2 := [.ref 98]) (w3 := sx_w0) rfl rfl ?_
  refine sx_RP.step (pc2 := 55) (ls2 := [(0, .ref 0), (1, .int 2), (2, .int 16), (3, .int a3)]) (st2 := [.int 2, .ref 98]) (w3 := sx_w0) rfl rfl ?_
  refine sx_RP.step (pc2 := 56) (ls2 := [(0, .ref 0), (1, .int 2), (2, .int 16), (3, .int a3)]) (st2 := [.ref 107]) (w3 := sx_w0) rfl rfl ?_
  refine sx_RP.step (pc2 := 57) (ls2 := [(0, .ref 0), (1, .int 2), (2, .int 16), (3, .int a3)]) (st2 := [.int 16, .ref 107]) (w3 := sx_w0) rfl rfl ?_
  refine sx_RP.step (pc2 := 58) (ls2 := [(0, .ref 0), (1, .int 2), (2, .int 16), (3, .int a3)]) (st2 := [.int a3, .int 16, .ref 107]) (w3 := sx_w0) rfl rfl ?_
  refine sx_RP.cu (as := [.ref 107, .int 16, .int a3]) (rest2 := []) (st3 := []) rfl rfl rfl rfl rfl (cp_114_2_16 ys a3) rfl ?_
  refine sx_RP.step (pc2 := 62) (ls2 := [(0, .ref 0), (1, .int 2), (2, .int 16), (3, .int a3)]) (st2 := [.ref 0]) (w3 := (sx_h2 16 a3)) rfl rfl ?_
  refine sx_RP.step (pc2 := 65) (ls2 := [(0, .ref 0), (1, .int 2), (2, .int 16), (3, .int a3)]) (st2 := [.ref 98]) (w3 := (sx_h2 16 a3)) rfl rfl ?_
  refine sx_RP.step (pc2 := 66) (ls2 := [(0, .ref 0), (1, .int 2), (2, .int 16), (3, .int a3)]) (st2 := [.int 2, .ref 98]) (w3 := (sx_h2 16 a3)) rfl rfl ?_
  refine sx_RP.step (pc2 := 67) (ls2 := [(0, .ref 0), (1, .int 2), (2, .int 16), (3, .int a3)]) (st2 := [.ref 107]) (w3 := (sx_h2 16 a3)) rfl rfl ?_
  refine sx_RP.step (pc2 := 70) (ls2 := [(0, .ref 0), (1, .int 2), (2, .int 16), (3, .int a3)]) (st2 := [.int a3]) (w3 := (sx_h2 16 a3)) rfl rfl ?_
  refine sx_RP.ret rfl rfl ?_
  refine ⟨a3, rfl, ⟨_, rfl⟩, ?_⟩
  refine sx_RP.step (pc2 := 1) (ls2 := [(0, .ref 111), (1, .int 2), (2, .int 16), (3, .int a3)]) (st2 := [.int 2]) (w3 := (sx_h2 16 a3)) rfl rfl ?_
  refine sx_RP.cl (as2 := [.int 2]) (rest2 := []) rfl rfl rfl rfl rfl rfl ?_
  refine sx_RP.step (pc2 := 1) (ls2 := [(0, .int 2)]) (st2 := [.int 2]) (w3 := (sx_h2 16 a3)) rfl rfl ?_
  refine sx_RP.step (pc2 := 2) (ls2 := [(0, .int 2)]) (st2 := [.int 0, .int 2]) (w3 := (sx_h2 16 a3)) rfl rfl ?_
  refine sx_RP.step (pc2 := 3) (ls2 := [(0, .int 2)]) (st2 := [.int 3, .int 0, .int 2]) (w3 := (sx_h2 16 a3)) rfl rfl ?_
  refine sx_RP.cl (as2 := [.int 2, .int 0, .int 3]) (rest2 := []) rfl rfl rfl rfl rfl rfl ?_
  refine sx_RP.step (pc2 := 1) (ls2 := [(0, .int 2), (1, .int 0), (2, .int 3)]) (st2 := [.int 2]) (w3 := (sx_h2 16 a3)) rfl rfl ?_
  refine sx_RP.step (pc2 := 2) (ls2 := [(0, .int 2), (1, .int 0), (2, .int 3)]) (st2 := [.int 0, .int 2]) (w3 := (sx_h2 16 a3)) rfl rfl ?_
  refine sx_RP.step (pc2 := 5) (ls2 := [(0, .int 2), (1, .int 0), (2, .int 3)]) (st2 := []) (w3 := (sx_h2 16 a3)) rfl rfl ?_
  refine sx_RP.step (pc2 := 6) (ls2 := [(0, .int 2), (1, .int 0), (2, .int 3)]) (st2 := [.int 2]) (w3 := (sx_h2 16 a3)) rfl rfl ?_
  refine sx_RP.step (pc2 := 7) (ls2 := [(0, .int 2), (1, .int 0), (2, .int 3)]) (st2 := [.int 3, .int 2]) (w3 := (sx_h2 16 a3)) rfl rfl ?_
  refine sx_RP.step (pc2 := 10) (ls2 := [(0, .int 2), (1, .int 0), (2, .int 3)]) (st2 := []) (w3 := (sx_h2 16 a3)) rfl rfl ?_
  refine sx_RP.step (pc2 := 11) (ls2 := [(0, .int 2), (1, .int 0), (2, .int 3)]) (st2 := [.int 1]) (w3 := (sx_h2 16 a3)) rfl rfl ?_
  refine sx_RP.step (pc2 := 15) (ls2 := [(0, .int 2), (1, .int 0), (2, .int 3)]) (st2 := [.int 1]) (w3 := (sx_h2 16 a3)) rfl rfl ?_
  refine sx_RP.retc (st3 := [.int 1]) rfl rfl rfl ?_
  refine sx_RP.retc (st3 := [.int 1]) rfl rfl rfl ?_
  refine sx_RP.step (pc2 := 7) (ls2 := [(0, .ref 111), (1, .int 2), (2, .int 16), (3, .int a3)]) (st2 := []) (w3 := (sx_h2 16 a3)) rfl rfl ?_
  refine sx_RP.step (pc2 := 8) (ls2 := [(0, .ref 111), (1, .int 2), (2, .int 16), (3, .int a3)]) (st2 := [.int 16]) (w3 := (sx_h2 16 a3)) rfl rfl ?_
  refine sx_RP.step (pc2 := 11) (ls2 := [(0, .ref 111), (1, .int 2), (2, .int 16), (3, .int a3)]) (st2 := []) (w3 := (sx_h2 16 a3)) rfl rfl ?_
  refine sx_RP.step (pc2 := 12) (ls2 := [(0, .ref 111), (1, .int 2), (2, .int 16), (3, .int a3)]) (st2 := [.int 16]) (w3 := (sx_h2 16 a3)) rfl rfl ?_
  refine sx_RP.step (pc2 := 14) (ls2 := [(0, .ref 111), (1, .int 2), (2, .int 16), (3, .int a3)]) (st2 := [.int 8, .int 16]) (w3 := (sx_h2 16 a3)) rfl rfl ?_
  refine sx_RP.step (pc2 := 17) (ls2 := [(0, .ref 111), (1, .int 2), (2, .int 16), (3, .int a3)]) (st2 := []) (w3 := (sx_h2 16 a3)) rfl rfl ?_
  refine sx_RP.step (pc2 := 18) (ls2 := [(0, .ref 111), (1, .int 2), (2, .int 16), (3, .int a3)]) (st2 := [.int 16]) (w3 := (sx_h2 16 a3)) rfl rfl ?_
  refine sx_RP.step (pc2 := 20) (ls2 := [(0, .ref 111), (1, .int 2), (2, .int 16), (3, .int a3)]) (st2 := [.int 16, .int 16]) (w3 := (sx_h2 16 a3)) rfl rfl ?_
  refine sx_RP.step (pc2 := 35) (ls2 := [(0, .ref 111), (1, .int 2), (2, .int 16), (3, .int a3)]) (st2 := []) (w3 := (sx_h2 16 a3)) rfl rfl ?_
  refine sx_RP.step (pc2 := 36) (ls2 := [(0, .ref 111), (1, .int 2), (2, .int 16), (3, .int a3)]) (st2 := [.int a3]) (w3 := (sx_h2 16 a3)) rfl rfl ?_
  refine sx_RP.br (p1 := 46) (l1 := [(0, .ref 111), (1, .int 2), (2, .int 16), (3, .int a3)]) (s1 := []) (v1 := (sx_h2 16 a3)) rfl rfl (fun _ => ?_) (fun q => absurd p0 (of_decide_eq_false q))
  refine sx_RP.step (pc2 := 47) (ls2 := [(0, .ref 111), (1, .int 2), (2, .int 16), (3, .int a3)]) (st2 := [.int a3]) (w3 := (sx_h2 16 a3)) rfl rfl ?_
  refine sx_RP.step (pc2 := 49) (ls2 := [(0, .ref 111), (1, .int 2), (2, .int 16), (3, .int a3)]) (st2 := [.int 40, .int a3]) (w3 := (sx_h2 16 a3)) rfl rfl ?_
  refine sx_RP.br (p1 := 58) (l1 := [(0, .ref 111), (1, .int 2), (2, .int 16), (3, .int a3)]) (s1 := []) (v1 := (sx_h2 16 a3)) rfl rfl (fun _ => ?_) (fun q => absurd p1 (of_decide_eq_false q))
  refine sx_RP.step (pc2 := 59) (ls2 := [(0, .ref 111), (1, .int 2), (2, .int 16), (3, .int a3)]) (st2 := [.ref 111]) (w3 := (sx_h2 16 a3)) rfl rfl ?_
  refine sx_RP.step (pc2 := 62) (ls2 := [(0, .ref 111), (1, .int 2), (2, .int 16), (3, .int a3)]) (st2 := [.ref 122]) (w3 := (sx_h2 16 a3)) rfl rfl ?_
  refine sx_RP.step (pc2 := 63) (ls2 := [(0, .ref 111), (1, .int 2), (2, .int 16), (3, .int a3)]) (st2 := [.int 2, .ref 122]) (w3 := (sx_h2 16 a3)) rfl rfl ?_
  refine sx_RP.step (pc2 := 64) (ls2 := [(0, .ref 111), (1, .int 2), (2, .int 16), (3, .int a3)]) (st2 := [.int 16, .int 2, .ref 122]) (w3 := (sx_h2 16 a3)) rfl rfl ?_
  refine sx_RP.step (pc2 := 65) (ls2 := [(0, .ref 111), (1, .int 2), (2, .int 16), (3, .int a3)]) (st2 := []) (w3 := ((sx_h2 16 a3).set 122 (.inl (0, [0, 0, 16, 0])))) rfl rfl ?_
  refine sx_RP.step (pc2 := 66) (ls2 := [(0, .ref 111), (1, .int 2), (2, .int 16), (3, .int a3)]) (st2 := [.ref 111]) (w3 := ((sx_h2 16 a3).set 122 (.inl (0, [0, 0, 16, 0])))) rfl rfl ?_
  refine sx_RP.step (pc2 := 69) (ls2 := [(0, .ref 111), (1, .int 2), (2, .int 16), (3, .int a3)]) (st2 := [.ref 123]) (w3 := ((sx_h2 16 a3).set 122 (.inl (0, [0, 0, 16, 0])))) rfl rfl ?_
  refine sx_RP.step (pc2 := 70) (ls2 := [(0, .ref 111), (1, .int 2), (2, .int 16), (3, .int a3)]) (st2 := [.int 2, .ref 123]) (w3 := ((sx_h2 16 a3).set 122 (.inl (0, [0, 0, 16, 0])))) rfl rfl ?_
  refine sx_RP.step (pc2 := 71) (ls2 := [(0, .ref 111), (1, .int 2), (2, .int 16), (3, .int a3)]) (st2 := [.int 16, .int 2, .ref 123]) (w3 := ((sx_h2 16 a3).set 122 (.inl (0, [0, 0, 16, 0])))) rfl rfl ?_
  refine sx_RP.step (pc2 := 78) (ls2 := [(0, .ref 111), (1, .int 2), (2, .int 16), (3, .int a3)]) (st2 := [.int 2, .ref 123]) (w3 := ((sx_h2 16 a3).set 122 (.inl (0, [0, 0, 16, 0])))) rfl rfl ?_
  refine sx_RP.step (pc2 := 79) (ls2 := [(0, .ref 111), (1, .int 2), (2, .int 16), (3, .int a3)]) (st2 := [.int a3, .int 2, .ref 123]) (w3 := ((sx_h2 16 a3).set 122 (.inl (0, [0, 0, 16, 0])))) rfl rfl ?_
  refine sx_RP.step (pc2 := 80) (ls2 := [(0, .ref 111), (1, .int 2), (2, .int 16), (3, .int a3)]) (st2 := []) (w3 := (((sx_h2 16 a3).set 122 (.inl (0, [0, 0, 16, 0]))).set 123 (.inl (0, [0, 0, a3, 0])))) rfl rfl ?_
  refine sx_RP.step (pc2 := 81) (ls2 := [(0, .ref 111), (1, .int 2), (2, .int 16), (3, .int a3)]) (st2 := [.int 0]) (w3 := (((sx_h2 16 a3).set 122 (.inl (0, [0, 0, 16, 0]))).set 123 (.inl (0, [0, 0, a3, 0])))) rfl rfl ?_
  refine sx_RP.step (pc2 := 83) (ls2 := [(4, .int 0), (0, .ref 111), (1, .int 2), (2, .int 16), (3, .int a3)]) (st2 := []) (w3 := (((sx_h2 16 a3).set 122 (.inl (0, [0, 0, 16, 0]))).set 123 (.inl (0, [0, 0, a3, 0])))) rfl rfl ?_
  refine sx_RP.wd (w2 := sx_g2 16 a3) rfl ?_
  exact cp_230L2 ys 16 a3 a3 40 0 (by omega)
set_option maxRecDepth 20000 in
set_option maxHeartbeats 4000000 in
theorem cp_114_2_64 (ys : List Int32) (a3 : Int32) : sx_RU (some ys) 6 114 0 (lv_args 0 [.ref 107, .int 64, .int a3]) [] sx_w0 none (sx_h2 64 a3) := by
  have h : sx_RP (some ys) 6 114 0 (lv_args 0 [.ref 107, .int 64, .int a3]) [] sx_w0 (fun r w2 => r = none ∧ w2 = sx_h2 64 a3) := by
    refine sx_RP.step (pc2 := 1) (ls2 := [(0, .ref 107), (1, .int 64), (2, .int a3)]) (st2 := [.ref 107]) (w3 := sx_w0) rfl rfl ?_
    refine sx_RP.step (pc2 := 2) (ls2 := [(0, .ref 107), (1, .int 64), (2, .int a3)]) (st2 := [.int 64, .ref 107]) (w3 := sx_w0) rfl rfl ?_
    refine sx_RP.step (pc2 := 5) (ls2 := [(0, .ref 107), (1, .int 64), (2, .int a3)]) (st2 := []) (w3 := (sx_w0.set 107 (.inr (.inr (.inr (5, [.ref 108, .int 64, .int 0])))))) rfl rfl ?_
    refine sx_RP.step (pc2 := 6) (ls2 := [(0, .ref 107), (1, .int 64), (2, .int a3)]) (st2 := [.ref 107]) (w3 := (sx_w0.set 107 (.inr (.inr (.inr (5, [.ref 108, .int 64, .int 0])))))) rfl rfl ?_
    refine sx_RP.step (pc2 := 7) (ls2 := [(0, .ref 107), (1, .int 64), (2, .int a3)]) (st2 := [.int 64, .ref 107]) (w3 := (sx_w0.set 107 (.inr (.inr (.inr (5, [.ref 108, .int 64, .int 0])))))) rfl rfl ?_
    refine sx_RP.step (pc2 := 14) (ls2 := [(0, .ref 107), (1, .int 64), (2, .int a3)]) (st2 := [.ref 107]) (w3 := (sx_w0.set 107 (.inr (.inr (.inr (5, [.ref 108, .int 64, .int 0])))))) rfl rfl ?_
    refine sx_RP.step (pc2 := 15) (ls2 := [(0, .ref 107), (1, .int 64), (2, .int a3)]) (st2 := [.int a3, .ref 107]) (w3 := (sx_w0.set 107 (.inr (.inr (.inr (5, [.ref 108, .int 64, .int 0])))))) rfl rfl ?_
    refine sx_RP.step (pc2 := 18) (ls2 := [(0, .ref 107), (1, .int 64), (2, .int a3)]) (st2 := []) (w3 := (sx_w0.set 107 (.inr (.inr (.inr (5, [.ref 108, .int 64, .int a3])))))) rfl rfl ?_
    refine sx_RP.step (pc2 := 19) (ls2 := [(0, .ref 107), (1, .int 64), (2, .int a3)]) (st2 := [.int 0]) (w3 := (sx_w0.set 107 (.inr (.inr (.inr (5, [.ref 108, .int 64, .int a3])))))) rfl rfl ?_
    refine sx_RP.step (pc2 := 20) (ls2 := [(3, .int 0), (0, .ref 107), (1, .int 64), (2, .int a3)]) (st2 := []) (w3 := (sx_w0.set 107 (.inr (.inr (.inr (5, [.ref 108, .int 64, .int a3])))))) rfl rfl ?_
    refine sx_RP.wd (w2 := sx_h2 64 a3) rfl ?_
    exact cp_114L2 ys 64 a3 a3 40 0 (by omega)
  obtain ⟨r, w2, h1, rfl, rfl⟩ := h
  exact h1
set_option maxRecDepth 20000 in
set_option maxHeartbeats 4000000 in
theorem k_sheet_2_64 (ys : List Int32) (a3 : Int32) (p0 : 0 ≤ a3) (p1 : a3 ≤ 40) : sx_twoI ys 111 230 [.int 2, .int 64, .int a3] := by
  refine sx_twoI.of ?_
  refine sx_RP.step (pc2 := 1) (ls2 := [(0, .ref 0), (1, .int 2), (2, .int 64), (3, .int a3)]) (st2 := [.int 2]) (w3 := sx_w0) rfl rfl ?_
  refine sx_RP.cl (as2 := [.int 2]) (rest2 := []) rfl rfl rfl rfl rfl rfl ?_
  refine sx_RP.step (pc2 := 1) (ls2 := [(0, .int 2)]) (st2 := [.int 2]) (w3 := sx_w0) rfl rfl ?_
  refine sx_RP.step (pc2 := 2) (ls2 := [(0, .int 2)]) (st2 := [.int 0, .int 2]) (w3 := sx_w0) rfl rfl ?_
  refine sx_RP.step (pc2 := 3) (ls2 := [(0, .int 2)]) (st2 := [.int 3, .int 0, .int 2]) (w3 := sx_w0) rfl rfl ?_
  refine sx_RP.cl (as2 := [.int 2, .int 0, .int 3]) (rest2 := []) rfl rfl rfl rfl rfl rfl ?_
  refine sx_RP.step (pc2 := 1) (ls2 := [(0, .int 2), (1, .int 0), (2, .int 3)]) (st2 := [.int 2]) (w3 := sx_w0) rfl rfl ?_
  refine sx_RP.step (pc2 := 2) (ls2 := [(0, .int 2), (1, .int 0), (2, .int 3)]) (st2 := [.int 0, .int 2]) (w3 := sx_w0) rfl rfl ?_
  refine sx_RP.step (pc2 := 5) (ls2 := [(0, .int 2), (1, .int 0), (2, .int 3)]) (st2 := []) (w3 := sx_w0) rfl rfl ?_
  refine sx_RP.step (pc2 := 6) (ls2 := [(0, .int 2), (1, .int 0), (2, .int 3)]) (st2 := [.int 2]) (w3 := sx_w0) rfl rfl ?_
  refine sx_RP.step (pc2 := 7) (ls2 := [(0, .int 2), (1, .int 0), (2, .int 3)]) (st2 := [.int 3, .int 2]) (w3 := sx_w0) rfl rfl ?_
  refine sx_RP.step (pc2 := 10) (ls2 := [(0, .int 2), (1, .int 0), (2, .int 3)]) (st2 := []) (w3 := sx_w0) rfl rfl ?_
  refine sx_RP.step (pc2 := 11) (ls2 := [(0, .int 2), (1, .int 0), (2, .int 3)]) (st2 := [.int 1]) (w3 := sx_w0) rfl rfl ?_
  refine sx_RP.step (pc2 := 15) (ls2 := [(0, .int 2), (1, .int 0), (2, .int 3)]) (st2 := [.int 1]) (w3 := sx_w0) rfl rfl ?_
  refine sx_RP.retc (st3 := [.int 1]) rfl rfl rfl ?_
  refine sx_RP.retc (st3 := [.int 1]) rfl rfl rfl ?_
  refine sx_RP.step (pc2 := 7) (ls2 := [(0, .ref 0), (1, .int 2), (2, .int 64), (3, .int a3)]) (st2 := []) (w3 := sx_w0) rfl rfl ?_
  refine sx_RP.step (pc2 := 8) (ls2 := [(0, .ref 0), (1, .int 2), (2, .int 64), (3, .int a3)]) (st2 := [.int 64]) (w3 := sx_w0) rfl rfl ?_
  refine sx_RP.cl (as2 := [.int 64]) (rest2 := []) rfl rfl rfl rfl rfl rfl ?_
  refine sx_RP.step (pc2 := 1) (ls2 := [(0, .int 64)]) (st2 := [.int 64]) (w3 := sx_w0) rfl rfl ?_
  refine sx_RP.step (pc2 := 3) (ls2 := [(0, .int 64)]) (st2 := [.int 8, .int 64]) (w3 := sx_w0) rfl rfl ?_
  refine sx_RP.step (pc2 := 6) (ls2 := [(0, .int 64)]) (st2 := []) (w3 := sx_w0) rfl rfl ?_
  refine sx_RP.step (pc2 := 7) (ls2 := [(0, .int 64)]) (st2 := [.int 64]) (w3 := sx_w0) rfl rfl ?_
  refine sx_RP.step (pc2 := 9) (ls2 := [(0, .int 64)]) (st2 := [.int 16, .int 64]) (w3 := sx_w0) rfl rfl ?_
  refine sx_RP.step (pc2 := 12) (ls2 := [(0, .int 64)]) (st2 := []) (w3 := sx_w0) rfl rfl ?_
  refine sx_RP.step (pc2 := 13) (ls2 := [(0, .int 64)]) (st2 := [.int 64]) (w3 := sx_w0) rfl rfl ?_
  refine sx_RP.step (pc2 := 15) (ls2 := [(0, .int 64)]) (st2 := [.int 64, .int 64]) (w3 := sx_w0) rfl rfl ?_
  refine sx_RP.step (pc2 := 18) (ls2 := [(0, .int 64)]) (st2 := []) (w3 := sx_w0) rfl rfl ?_
  refine sx_RP.step (pc2 := 19) (ls2 := [(0, .int 64)]) (st2 := [.int 1]) (w3 := sx_w0) rfl rfl ?_
  refine sx_RP.step (pc2 := 23) (ls2 := [(0, .int 64)]) (st2 := [.int 1]) (w3 := sx_w0) rfl rfl ?_
  refine sx_RP.retc (st3 := [.int 1]) rfl rfl rfl ?_
  refine sx_RP.step (pc2 := 25) (ls2 := [(0, .ref 0), (1, .int 2), (2, .int 64), (3, .int a3)]) (st2 := []) (w3 := sx_w0) rfl rfl ?_
  refine sx_RP.step (pc2 := 26) (ls2 := [(0, .ref 0), (1, .int 2), (2, .int 64), (3, .int a3)]) (st2 := [.int a3]) (w3 := sx_w0) rfl rfl ?_
  refine sx_RP.br (p1 := 37) (l1 := [(0, .ref 0), (1, .int 2), (2, .int 64), (3, .int a3)]) (s1 := []) (v1 := sx_w0) rfl rfl (fun _ => ?_) (fun q => absurd p0 (of_decide_eq_false q))
  refine sx_RP.step (pc2 := 38) (ls2 := [(0, .ref 0), (1, .int 2), (2, .int 64), (3, .int a3)]) (st2 := [.int a3]) (w3 := sx_w0) rfl rfl ?_
  refine sx_RP.step (pc2 := 40) (ls2 := [(0, .ref 0), (1, .int 2), (2, .int 64), (3, .int a3)]) (st2 := [.int 40, .int a3]) (w3 := sx_w0) rfl rfl ?_
  refine sx_RP.br (p1 := 50) (l1 := [(0, .ref 0), (1, .int 2), (2, .int 64), (3, .int a3)]) (s1 := []) (v1 := sx_w0) rfl rfl (fun _ => ?_) (fun q => absurd p1 (of_decide_eq_false q))
  refine sx_RP.step (pc2 := 51) (ls2 := [(0, .ref 0), (1, .int 2), (2, .int 64), (3, .int a3)]) (st2 := [.ref 0]) (w3 := sx_w0) rfl rfl ?_
  refine sx_RP.step (pc2 := 54) (ls2 := [(0, .ref 0), (1, .int 2), (2, .int 64), (3, .int a3)]) (st2 := [.ref 98]) (w3 := sx_w0) rfl rfl ?_
  refine sx_RP.step (pc2 := 55) (ls2 := [(0, .ref 0), (1, .int 2), (2, .int 64), (3, .int a3)]) (st2 := [.int 2, .ref 98]) (w3 := sx_w0) rfl rfl ?_
  refine sx_RP.step (pc2 := 56) (ls2 := [(0, .ref 0), (1, .int 2), (2, .int 64), (3, .int a3)]) (st2 := [.ref 107]) (w3 := sx_w0) rfl rfl ?_
  refine sx_RP.step (pc2 := 57) (ls2 := [(0, .ref 0), (1, .int 2), (2, .int 64), (3, .int a3)]) (st2 := [.int 64, .ref 107]) (w3 := sx_w0) rfl rfl ?_
  refine sx_RP.step (pc2 := 58) (ls2 := [(0, .ref 0), (1, .int 2), (2, .int 64), (3, .int a3)]) (st2 := [.int a3, .int 64, .ref 107]) (w3 := sx_w0) rfl rfl ?_
  refine sx_RP.cu (as := [.ref 107, .int 64, .int a3]) (rest2 := []) (st3 := []) rfl rfl rfl rfl rfl (cp_114_2_64 ys a3) rfl ?_
  refine sx_RP.step (pc2 := 62) (ls2 := [(0, .ref 0), (1, .int 2), (2, .int 64), (3, .int a3)]) (st2 := [.ref 0]) (w3 := (sx_h2 64 a3)) rfl rfl ?_
  refine sx_RP.step (pc2 := 65) (ls2 := [(0, .ref 0), (1, .int 2), (2, .int 64), (3, .int a3)]) (st2 := [.ref 98]) (w3 := (sx_h2 64 a3)) rfl rfl ?_
  refine sx_RP.step (pc2 := 66) (ls2 := [(0, .ref 0), (1, .int 2), (2, .int 64), (3, .int a3)]) (st2 := [.int 2, .ref 98]) (w3 := (sx_h2 64 a3)) rfl rfl ?_
  refine sx_RP.step (pc2 := 67) (ls2 := [(0, .ref 0), (1, .int 2), (2, .int 64), (3, .int a3)]) (st2 := [.ref 107]) (w3 := (sx_h2 64 a3)) rfl rfl ?_
  refine sx_RP.step (pc2 := 70) (ls2 := [(0, .ref 0), (1, .int 2), (2, .int 64), (3, .int a3)]) (st2 := [.int a3]) (w3 := (sx_h2 64 a3)) rfl rfl ?_
  refine sx_RP.ret rfl rfl ?_
  refine ⟨a3, rfl, ⟨_, rfl⟩, ?_⟩
  refine sx_RP.step (pc2 := 1) (ls2 := [(0, .ref 111), (1, .int 2), (2, .int 64), (3, .int a3)]) (st2 := [.int 2]) (w3 := (sx_h2 64 a3)) rfl rfl ?_
  refine sx_RP.cl (as2 := [.int 2]) (rest2 := []) rfl rfl rfl rfl rfl rfl ?_
  refine sx_RP.step (pc2 := 1) (ls2 := [(0, .int 2)]) (st2 := [.int 2]) (w3 := (sx_h2 64 a3)) rfl rfl ?_
  refine sx_RP.step (pc2 := 2) (ls2 := [(0, .int 2)]) (st2 := [.int 0, .int 2]) (w3 := (sx_h2 64 a3)) rfl rfl ?_
  refine sx_RP.step (pc2 := 3) (ls2 := [(0, .int 2)]) (st2 := [.int 3, .int 0, .int 2]) (w3 := (sx_h2 64 a3)) rfl rfl ?_
  refine sx_RP.cl (as2 := [.int 2, .int 0, .int 3]) (rest2 := []) rfl rfl rfl rfl rfl rfl ?_
  refine sx_RP.step (pc2 := 1) (ls2 := [(0, .int 2), (1, .int 0), (2, .int 3)]) (st2 := [.int 2]) (w3 := (sx_h2 64 a3)) rfl rfl ?_
  refine sx_RP.step (pc2 := 2) (ls2 := [(0, .int 2), (1, .int 0), (2, .int 3)]) (st2 := [.int 0, .int 2]) (w3 := (sx_h2 64 a3)) rfl rfl ?_
  refine sx_RP.step (pc2 := 5) (ls2 := [(0, .int 2), (1, .int 0), (2, .int 3)]) (st2 := []) (w3 := (sx_h2 64 a3)) rfl rfl ?_
  refine sx_RP.step (pc2 := 6) (ls2 := [(0, .int 2), (1, .int 0), (2, .int 3)]) (st2 := [.int 2]) (w3 := (sx_h2 64 a3)) rfl rfl ?_
  refine sx_RP.step (pc2 := 7) (ls2 := [(0, .int 2), (1, .int 0), (2, .int 3)]) (st2 := [.int 3, .int 2]) (w3 := (sx_h2 64 a3)) rfl rfl ?_
  refine sx_RP.step (pc2 := 10) (ls2 := [(0, .int 2), (1, .int 0), (2, .int 3)]) (st2 := []) (w3 := (sx_h2 64 a3)) rfl rfl ?_
  refine sx_RP.step (pc2 := 11) (ls2 := [(0, .int 2), (1, .int 0), (2, .int 3)]) (st2 := [.int 1]) (w3 := (sx_h2 64 a3)) rfl rfl ?_
  refine sx_RP.step (pc2 := 15) (ls2 := [(0, .int 2), (1, .int 0), (2, .int 3)]) (st2 := [.int 1]) (w3 := (sx_h2 64 a3)) rfl rfl ?_
  refine sx_RP.retc (st3 := [.int 1]) rfl rfl rfl ?_
  refine sx_RP.retc (st3 := [.int 1]) rfl rfl rfl ?_
  refine sx_RP.step (pc2 := 7) (ls2 := [(0, .ref 111), (1, .int 2), (2, .int 64), (3, .int a3)]) (st2 := []) (w3 := (sx_h2 64 a3)) rfl rfl ?_
  refine sx_RP.step (pc2 := 8) (ls2 := [(0, .ref 111), (1, .int 2), (2, .int 64), (3, .int a3)]) (st2 := [.int 64]) (w3 := (sx_h2 64 a3)) rfl rfl ?_
  refine sx_RP.step (pc2 := 11) (ls2 := [(0, .ref 111), (1, .int 2), (2, .int 64), (3, .int a3)]) (st2 := []) (w3 := (sx_h2 64 a3)) rfl rfl ?_
  refine sx_RP.step (pc2 := 12) (ls2 := [(0, .ref 111), (1, .int 2), (2, .int 64), (3, .int a3)]) (st2 := [.int 64]) (w3 := (sx_h2 64 a3)) rfl rfl ?_
  refine sx_RP.step (pc2 := 14) (ls2 := [(0, .ref 111), (1, .int 2), (2, .int 64), (3, .int a3)]) (st2 := [.int 8, .int 64]) (w3 := (sx_h2 64 a3)) rfl rfl ?_
  refine sx_RP.step (pc2 := 17) (ls2 := [(0, .ref 111), (1, .int 2), (2, .int 64), (3, .int a3)]) (st2 := []) (w3 := (sx_h2 64 a3)) rfl rfl ?_
  refine sx_RP.step (pc2 := 18) (ls2 := [(0, .ref 111), (1, .int 2), (2, .int 64), (3, .int a3)]) (st2 := [.int 64]) (w3 := (sx_h2 64 a3)) rfl rfl ?_
  refine sx_RP.step (pc2 := 20) (ls2 := [(0, .ref 111), (1, .int 2), (2, .int 64), (3, .int a3)]) (st2 := [.int 16, .int 64]) (w3 := (sx_h2 64 a3)) rfl rfl ?_
  refine sx_RP.step (pc2 := 23) (ls2 := [(0, .ref 111), (1, .int 2), (2, .int 64), (3, .int a3)]) (st2 := []) (w3 := (sx_h2 64 a3)) rfl rfl ?_
  refine sx_RP.step (pc2 := 24) (ls2 := [(0, .ref 111), (1, .int 2), (2, .int 64), (3, .int a3)]) (st2 := [.int 64]) (w3 := (sx_h2 64 a3)) rfl rfl ?_
  refine sx_RP.step (pc2 := 26) (ls2 := [(0, .ref 111), (1, .int 2), (2, .int 64), (3, .int a3)]) (st2 := [.int 64, .int 64]) (w3 := (sx_h2 64 a3)) rfl rfl ?_
  refine sx_RP.step (pc2 := 35) (ls2 := [(0, .ref 111), (1, .int 2), (2, .int 64), (3, .int a3)]) (st2 := []) (w3 := (sx_h2 64 a3)) rfl rfl ?_
  refine sx_RP.step (pc2 := 36) (ls2 := [(0, .ref 111), (1, .int 2), (2, .int 64), (3, .int a3)]) (st2 := [.int a3]) (w3 := (sx_h2 64 a3)) rfl rfl ?_
  refine sx_RP.br (p1 := 46) (l1 := [(0, .ref 111), (1, .int 2), (2, .int 64), (3, .int a3)]) (s1 := []) (v1 := (sx_h2 64 a3)) rfl rfl (fun _ => ?_) (fun q => absurd p0 (of_decide_eq_false q))
  refine sx_RP.step (pc2 := 47) (ls2 := [(0, .ref 111), (1, .int 2), (2, .int 64), (3, .int a3)]) (st2 := [.int a3]) (w3 := (sx_h2 64 a3)) rfl rfl ?_
  refine sx_RP.step (pc2 := 49) (ls2 := [(0, .ref 111), (1, .int 2), (2, .int 64), (3, .int a3)]) (st2 := [.int 40, .int a3]) (w3 := (sx_h2 64 a3)) rfl rfl ?_
  refine sx_RP.br (p1 := 58) (l1 := [(0, .ref 111), (1, .int 2), (2, .int 64), (3, .int a3)]) (s1 := []) (v1 := (sx_h2 64 a3)) rfl rfl (fun _ => ?_) (fun q => absurd p1 (of_decide_eq_false q))
  refine sx_RP.step (pc2 := 59) (ls2 := [(0, .ref 111), (1, .int 2), (2, .int 64), (3, .int a3)]) (st2 := [.ref 111]) (w3 := (sx_h2 64 a3)) rfl rfl ?_
  refine sx_RP.step (pc2 := 62) (ls2 := [(0, .ref 111), (1, .int 2), (2, .int 64), (3, .int a3)]) (st2 := [.ref 122]) (w3 := (sx_h2 64 a3)) rfl rfl ?_
  refine sx_RP.step (pc2 := 63) (ls2 := [(0, .ref 111), (1, .int 2), (2, .int 64), (3, .int a3)]) (st2 := [.int 2, .ref 122]) (w3 := (sx_h2 64 a3)) rfl rfl ?_
  refine sx_RP.step (pc2 := 64) (ls2 := [(0, .ref 111), (1, .int 2), (2, .int 64), (3, .int a3)]) (st2 := [.int 64, .int 2, .ref 122]) (w3 := (sx_h2 64 a3)) rfl rfl ?_
  refine sx_RP.step (pc2 := 65) (ls2 := [(0, .ref 111), (1, .int 2), (2, .int 64), (3, .int a3)]) (st2 := []) (w3 := ((sx_h2 64 a3).set 122 (.inl (0, [0, 0, 64, 0])))) rfl rfl ?_
  refine sx_RP.step (pc2 := 66) (ls2 := [(0, .ref 111), (1, .int 2), (2, .int 64), (3, .int a3)]) (st2 := [.ref 111]) (w3 := ((sx_h2 64 a3).set 122 (.inl (0, [0, 0, 64, 0])))) rfl rfl ?_
  refine sx_RP.step (pc2 := 69) (ls2 := [(0, .ref 111), (1, .int 2), (2, .int 64), (3, .int a3)]) (st2 := [.ref 123]) (w3 := ((sx_h2 64 a3).set 122 (.inl (0, [0, 0, 64, 0])))) rfl rfl ?_
  refine sx_RP.step (pc2 := 70) (ls2 := [(0, .ref 111), (1, .int 2), (2, .int 64), (3, .int a3)]) (st2 := [.int 2, .ref 123]) (w3 := ((sx_h2 64 a3).set 122 (.inl (0, [0, 0, 64, 0])))) rfl rfl ?_
  refine sx_RP.step (pc2 := 71) (ls2 := [(0, .ref 111), (1, .int 2), (2, .int 64), (3, .int a3)]) (st2 := [.int 64, .int 2, .ref 123]) (w3 := ((sx_h2 64 a3).set 122 (.inl (0, [0, 0, 64, 0])))) rfl rfl ?_
  refine sx_RP.step (pc2 := 78) (ls2 := [(0, .ref 111), (1, .int 2), (2, .int 64), (3, .int a3)]) (st2 := [.int 2, .ref 123]) (w3 := ((sx_h2 64 a3).set 122 (.inl (0, [0, 0, 64, 0])))) rfl rfl ?_
  refine sx_RP.step (pc2 := 79) (ls2 := [(0, .ref 111), (1, .int 2), (2, .int 64), (3, .int a3)]) (st2 := [.int a3, .int 2, .ref 123]) (w3 := ((sx_h2 64 a3).set 122 (.inl (0, [0, 0, 64, 0])))) rfl rfl ?_
  refine sx_RP.step (pc2 := 80) (ls2 := [(0, .ref 111), (1, .int 2), (2, .int 64), (3, .int a3)]) (st2 := []) (w3 := (((sx_h2 64 a3).set 122 (.inl (0, [0, 0, 64, 0]))).set 123 (.inl (0, [0, 0, a3, 0])))) rfl rfl ?_
  refine sx_RP.step (pc2 := 81) (ls2 := [(0, .ref 111), (1, .int 2), (2, .int 64), (3, .int a3)]) (st2 := [.int 0]) (w3 := (((sx_h2 64 a3).set 122 (.inl (0, [0, 0, 64, 0]))).set 123 (.inl (0, [0, 0, a3, 0])))) rfl rfl ?_
  refine sx_RP.step (pc2 := 83) (ls2 := [(4, .int 0), (0, .ref 111), (1, .int 2), (2, .int 64), (3, .int a3)]) (st2 := []) (w3 := (((sx_h2 64 a3).set 122 (.inl (0, [0, 0, 64, 0]))).set 123 (.inl (0, [0, 0, a3, 0])))) rfl rfl ?_
  refine sx_RP.wd (w2 := sx_g2 64 a3) rfl ?_
  exact cp_230L2 ys 64 a3 a3 40 0 (by omega)
set_option maxRecDepth 20000 in
set_option maxHeartbeats 4000000 in
theorem cp_114_3_0 (ys : List Int32) (a3 : Int32) : sx_RU (some ys) 6 114 0 (lv_args 0 [.ref 109, .int 0, .int a3]) [] sx_w0 none (sx_h3 0 0) := by
  have h : sx_RP (some ys) 6 114 0 (lv_args 0 [.ref 109, .int 0, .int a3]) [] sx_w0 (fun r w2 => r = none ∧ w2 = sx_h3 0 0) := by
    refine sx_RP.step (pc2 := 1) (ls2 := [(0, .ref 109), (1, .int 0), (2, .int a3)]) (st2 := [.ref 109]) (w3 := sx_w0) rfl rfl ?_
    refine sx_RP.step (pc2 := 2) (ls2 := [(0, .ref 109), (1, .int 0), (2, .int a3)]) (st2 := [.int 0, .ref 109]) (w3 := sx_w0) rfl rfl ?_
    refine sx_RP.step (pc2 := 5) (ls2 := [(0, .ref 109), (1, .int 0), (2, .int a3)]) (st2 := []) (w3 := (sx_w0.set 109 (.inr (.inr (.inr (5, [.ref 110, .int 0, .int 0])))))) rfl rfl ?_
    refine sx_RP.step (pc2 := 6) (ls2 := [(0, .ref 109), (1, .int 0), (2, .int a3)]) (st2 := [.ref 109]) (w3 := (sx_w0.set 109 (.inr (.inr (.inr (5, [.ref 110, .int 0, .int 0])))))) rfl rfl ?_
    refine sx_RP.step (pc2 := 7) (ls2 := [(0, .ref 109), (1, .int 0), (2, .int a3)]) (st2 := [.int 0, .ref 109]) (w3 := (sx_w0.set 109 (.inr (.inr (.inr (5, [.ref 110, .int 0, .int 0])))))) rfl rfl ?_
    refine sx_RP.step (pc2 := 10) (ls2 := [(0, .ref 109), (1, .int 0), (2, .int a3)]) (st2 := [.ref 109]) (w3 := (sx_w0.set 109 (.inr (.inr (.inr (5, [.ref 110, .int 0, .int 0])))))) rfl rfl ?_
    refine sx_RP.step (pc2 := 11) (ls2 := [(0, .ref 109), (1, .int 0), (2, .int a3)]) (st2 := [.int 0, .ref 109]) (w3 := (sx_w0.set 109 (.inr (.inr (.inr (5, [.ref 110, .int 0, .int 0])))))) rfl rfl ?_
    refine sx_RP.step (pc2 := 15) (ls2 := [(0, .ref 109), (1, .int 0), (2, .int a3)]) (st2 := [.int 0, .ref 109]) (w3 := (sx_w0.set 109 (.inr (.inr (.inr (5, [.ref 110, .int 0, .int 0])))))) rfl rfl ?_
    refine sx_RP.step (pc2 := 18) (ls2 := [(0, .ref 109), (1, .int 0), (2, .int a3)]) (st2 := []) (w3 := (sx_w0.set 109 (.inr (.inr (.inr (5, [.ref 110, .int 0, .int 0])))))) rfl rfl ?_
    refine sx_RP.step (pc2 := 19) (ls2 := [(0, .ref 109), (1, .int 0), (2, .int a3)]) (st2 := [.int 0]) (w3 := (sx_w0.set 109 (.inr (.inr (.inr (5, [.ref 110, .int 0, .int 0])))))) rfl rfl ?_
    refine sx_RP.step (pc2 := 20) (ls2 := [(3, .int 0), (0, .ref 109), (1, .int 0), (2, .int a3)]) (st2 := []) (w3 := (sx_w0.set 109 (.inr (.inr (.inr (5, [.ref 110, .int 0, .int 0])))))) rfl rfl ?_
    refine sx_RP.wd (w2 := sx_h3 0 0) rfl ?_
    exact cp_114L3 ys 0 0 a3 40 0 (by omega)
  obtain ⟨r, w2, h1, rfl, rfl⟩ := h
  exact h1
set_option maxRecDepth 20000 in
set_option maxHeartbeats 4000000 in
theorem k_sheet_3_0 (ys : List Int32) (a3 : Int32) (p0 : 0 ≤ a3) (p1 : a3 ≤ 40) : sx_twoI ys 111 230 [.int 3, .int 0, .int a3] := by
  refine sx_twoI.of ?_
  refine sx_RP.step (pc2 := 1) (ls2 := [(0, .ref 0), (1, .int 3), (2, .int 0), (3, .int a3)]) (st2 := [.int 3]) (w3 := sx_w0) rfl rfl ?_
  refine sx_RP.cl (as2 := [.int 3]) (rest2 := []) rfl rfl rfl rfl rfl rfl ?_
  refine sx_RP.step (pc2 := 1) (ls2 := [(0, .int 3)]) (st2 := [.int 3]) (w3 := sx_w0) rfl rfl ?_
  refine sx_RP.step (pc2 := 2) (ls2 := [(0, .int 3)]) (st2 := [.int 0, .int 3]) (w3 := sx_w0) rfl rfl ?_
  refine sx_RP.step (pc2 := 3) (ls2 := [(0, .int 3)]) (st2 := [.int 3, .int 0, .int 3]) (w3 := sx_w0) rfl rfl ?_
  refine sx_RP.cl (as2 := [.int 3, .int 0, .int 3]) (rest2 := []) rfl rfl rfl rfl rfl rfl ?_
  refine sx_RP.step (pc2 := 1) (ls2 := [(0, .int 3), (1, .int 0), (2, .int 3)]) (st2 := [.int 3]) (w3 := sx_w0) rfl rfl ?_
  refine sx_RP.step (pc2 := 2) (ls2 := [(0, .int 3), (1, .int 0), (2, .int 3)]) (st2 := [.int 0, .int 3]) (w3 := sx_w0) rfl rfl ?_
  refine sx_RP.step (pc2 := 5) (ls2 := [(0, .int 3), (1, .int 0), (2, .int 3)]) (st2 := []) (w3 := sx_w0) rfl rfl ?_
  refine sx_RP.step (pc2 := 6) (ls2 := [(0, .int 3), (1, .int 0), (2, .int 3)]) (st2 := [.int 3]) (w3 := sx_w0) rfl rfl ?_
  refine sx_RP.step (pc2 := 7) (ls2 := [(0, .int 3), (1, .int 0), (2, .int 3)]) (st2 := [.int 3, .int 3]) (w3 := sx_w0) rfl rfl ?_
  refine sx_RP.step (pc2 := 10) (ls2 := [(0, .int 3), (1, .int 0), (2, .int 3)]) (st2 := []) (w3 := sx_w0) rfl rfl ?_
  refine sx_RP.step (pc2 := 11) (ls2 := [(0, .int 3), (1, .int 0), (2, .int 3)]) (st2 := [.int 1]) (w3 := sx_w0) rfl rfl ?_
  refine sx_RP.step (pc2 := 15) (ls2 := [(0, .int 3), (1, .int 0), (2, .int 3)]) (st2 := [.int 1]) (w3 := sx_w0) rfl rfl ?_
  refine sx_RP.retc (st3 := [.int 1]) rfl rfl rfl ?_
  refine sx_RP.retc (st3 := [.int 1]) rfl rfl rfl ?_
  refine sx_RP.step (pc2 := 7) (ls2 := [(0, .ref 0), (1, .int 3), (2, .int 0), (3, .int a3)]) (st2 := []) (w3 := sx_w0) rfl rfl ?_
  refine sx_RP.step (pc2 := 8) (ls2 := [(0, .ref 0), (1, .int 3), (2, .int 0), (3, .int a3)]) (st2 := [.int 0]) (w3 := sx_w0) rfl rfl ?_
  refine sx_RP.cl (as2 := [.int 0]) (rest2 := []) rfl rfl rfl rfl rfl rfl ?_
  refine sx_RP.step (pc2 := 1) (ls2 := [(0, .int 0)]) (st2 := [.int 0]) (w3 := sx_w0) rfl rfl ?_
  refine sx_RP.step (pc2 := 3) (ls2 := [(0, .int 0)]) (st2 := [.int 8, .int 0]) (w3 := sx_w0) rfl rfl ?_
  refine sx_RP.step (pc2 := 6) (ls2 := [(0, .int 0)]) (st2 := []) (w3 := sx_w0) rfl rfl ?_
  refine sx_RP.step (pc2 := 7) (ls2 := [(0, .int 0)]) (st2 := [.int 0]) (w3 := sx_w0) rfl rfl ?_
  refine sx_RP.step (pc2 := 9) (ls2 := [(0, .int 0)]) (st2 := [.int 16, .int 0]) (w3 := sx_w0) rfl rfl ?_
  refine sx_RP.step (pc2 := 12) (ls2 := [(0, .int 0)]) (st2 := []) (w3 := sx_w0) rfl rfl ?_
  refine sx_RP.step (pc2 := 13) (ls2 := [(0, .int 0)]) (st2 := [.int 0]) (w3 := sx_w0) rfl rfl ?_
  refine sx_RP.step (pc2 := 15) (ls2 := [(0, .int 0)]) (st2 := [.int 64, .int 0]) (w3 := sx_w0) rfl rfl ?_
  refine sx_RP.step (pc2 := 22) (ls2 := [(0, .int 0)]) (st2 := []) (w3 := sx_w0) rfl rfl ?_
  refine sx_RP.step (pc2 := 23) (ls2 := [(0, .int 0)]) (st2 := [.int 0]) (w3 := sx_w0) rfl rfl ?_
  refine sx_RP.retc (st3 := [.int 0]) rfl rfl rfl ?_
  refine sx_RP.step (pc2 := 14) (ls2 := [(0, .ref 0), (1, .int 3), (2, .int 0), (3, .int a3)]) (st2 := []) (w3 := sx_w0) rfl rfl ?_
  refine sx_RP.step (pc2 := 15) (ls2 := [(0, .ref 0), (1, .int 3), (2, .int 0), (3, .int a3)]) (st2 := [.int 0]) (w3 := sx_w0) rfl rfl ?_
  refine sx_RP.step (pc2 := 25) (ls2 := [(0, .ref 0), (1, .int 3), (2, .int 0), (3, .int a3)]) (st2 := []) (w3 := sx_w0) rfl rfl ?_
  refine sx_RP.step (pc2 := 26) (ls2 := [(0, .ref 0), (1, .int 3), (2, .int 0), (3, .int a3)]) (st2 := [.int a3]) (w3 := sx_w0) rfl rfl ?_
  refine sx_RP.br (p1 := 37) (l1 := [(0, .ref 0), (1, .int 3), (2, .int 0), (3, .int a3)]) (s1 := []) (v1 := sx_w0) rfl rfl (fun _ => ?_) (fun q => absurd p0 (of_decide_eq_false q))
  refine sx_RP.step (pc2 := 38) (ls2 := [(0, .ref 0), (1, .int 3), (2, .int 0), (3, .int a3)]) (st2 := [.int a3]) (w3 := sx_w0) rfl rfl ?_
  refine sx_RP.step (pc2 := 40) (ls2 := [(0, .ref 0), (1, .int 3), (2, .int 0), (3, .int a3)]) (st2 := [.int 40, .int a3]) (w3 := sx_w0) rfl rfl ?_
  refine sx_RP.br (p1 := 50) (l1 := [(0, .ref 0), (1, .int 3), (2, .int 0), (3, .int a3)]) (s1 := []) (v1 := sx_w0) rfl rfl (fun _ => ?_) (fun q => absurd p1 (of_decide_eq_false q))
  refine sx_RP.step (pc2 := 51) (ls2 := [(0, .ref 0), (1, .int 3), (2, .int 0), (3, .int a3)]) (st2 := [.ref 0]) (w3 := sx_w0) rfl rfl ?_
  refine sx_RP.step (pc2 := 54) (ls2 := [(0, .ref 0), (1, .int 3), (2, .int 0), (3, .int a3)]) (st2 := [.ref 98]) (w3 := sx_w0) rfl rfl ?_
  refine sx_RP.step (pc2 := 55) (ls2 := [(0, .ref 0), (1, .int 3), (2, .int 0), (3, .int a3)]) (st2 := [.int 3, .ref 98]) (w3 := sx_w0) rfl rfl ?_
  refine sx_RP.step (pc2 := 56) (ls2 := [(0, .ref 0), (1, .int 3), (2, .int 0), (3, .int a3)]) (st2 := [.ref 109]) (w3 := sx_w0) rfl rfl ?_
  refine sx_RP.step (pc2 := 57) (ls2 := [(0, .ref 0), (1, .int 3), (2, .int 0), (3, .int a3)]) (st2 := [.int 0, .ref 109]) (w3 := sx_w0) rfl rfl ?_
  refine sx_RP.step (pc2 := 58) (ls2 := [(0, .ref 0), (1, .int 3), (2, .int 0), (3, .int a3)]) (st2 := [.int a3, .int 0, .ref 109]) (w3 := sx_w0) rfl rfl ?_
  refine sx_RP.cu (as := [.ref 109, .int 0, .int a3]) (rest2 := []) (st3 := []) rfl rfl rfl rfl rfl (cp_114_3_0 ys a3) rfl ?_
  refine sx_RP.step (pc2 := 62) (ls2 := [(0, .ref 0), (1, .int 3), (2, .int 0), (3, .int a3)]) (st2 := [.ref 0]) (w3 := (sx_h3 0 0)) rfl rfl ?_
  refine sx_RP.step (pc2 := 65) (ls2 := [(0, .ref 0), (1, .int 3), (2, .int 0), (3, .int a3)]) (st2 := [.ref 98]) (w3 := (sx_h3 0 0)) rfl rfl ?_
  refine sx_RP.step (pc2 := 66) (ls2 := [(0, .ref 0), (1, .int 3), (2, .int 0), (3, .int a3)]) (st2 := [.int 3, .ref 98]) (w3 := (sx_h3 0 0)) rfl rfl ?_
  refine sx_RP.step (pc2 := 67) (ls2 := [(0, .ref 0), (1, .int 3), (2, .int 0), (3, .int a3)]) (st2 := [.ref 109]) (w3 := (sx_h3 0 0)) rfl rfl ?_
  refine sx_RP.step (pc2 := 70) (ls2 := [(0, .ref 0), (1, .int 3), (2, .int 0), (3, .int a3)]) (st2 := [.int 0]) (w3 := (sx_h3 0 0)) rfl rfl ?_
  refine sx_RP.ret rfl rfl ?_
  refine ⟨0, rfl, ⟨_, rfl⟩, ?_⟩
  refine sx_RP.step (pc2 := 1) (ls2 := [(0, .ref 111), (1, .int 3), (2, .int 0), (3, .int a3)]) (st2 := [.int 3]) (w3 := (sx_h3 0 0)) rfl rfl ?_
  refine sx_RP.cl (as2 := [.int 3]) (rest2 := []) rfl rfl rfl rfl rfl rfl ?_
  refine sx_RP.step (pc2 := 1) (ls2 := [(0, .int 3)]) (st2 := [.int 3]) (w3 := (sx_h3 0 0)) rfl rfl ?_
  refine sx_RP.step (pc2 := 2) (ls2 := [(0, .int 3)]) (st2 := [.int 0, .int 3]) (w3 := (sx_h3 0 0)) rfl rfl ?_
  refine sx_RP.step (pc2 := 3) (ls2 := [(0, .int 3)]) (st2 := [.int 3, .int 0, .int 3]) (w3 := (sx_h3 0 0)) rfl rfl ?_
  refine sx_RP.cl (as2 := [.int 3, .int 0, .int 3]) (rest2 := []) rfl rfl rfl rfl rfl rfl ?_
  refine sx_RP.step (pc2 := 1) (ls2 := [(0, .int 3), (1, .int 0), (2, .int 3)]) (st2 := [.int 3]) (w3 := (sx_h3 0 0)) rfl rfl ?_
  refine sx_RP.step (pc2 := 2) (ls2 := [(0, .int 3), (1, .int 0), (2, .int 3)]) (st2 := [.int 0, .int 3]) (w3 := (sx_h3 0 0)) rfl rfl ?_
  refine sx_RP.step (pc2 := 5) (ls2 := [(0, .int 3), (1, .int 0), (2, .int 3)]) (st2 := []) (w3 := (sx_h3 0 0)) rfl rfl ?_
  refine sx_RP.step (pc2 := 6) (ls2 := [(0, .int 3), (1, .int 0), (2, .int 3)]) (st2 := [.int 3]) (w3 := (sx_h3 0 0)) rfl rfl ?_
  refine sx_RP.step (pc2 := 7) (ls2 := [(0, .int 3), (1, .int 0), (2, .int 3)]) (st2 := [.int 3, .int 3]) (w3 := (sx_h3 0 0)) rfl rfl ?_
  refine sx_RP.step (pc2 := 10) (ls2 := [(0, .int 3), (1, .int 0), (2, .int 3)]) (st2 := []) (w3 := (sx_h3 0 0)) rfl rfl ?_
  refine sx_RP.step (pc2 := 11) (ls2 := [(0, .int 3), (1, .int 0), (2, .int 3)]) (st2 := [.int 1]) (w3 := (sx_h3 0 0)) rfl rfl ?_
  refine sx_RP.step (pc2 := 15) (ls2 := [(0, .int 3), (1, .int 0), (2, .int 3)]) (st2 := [.int 1]) (w3 := (sx_h3 0 0)) rfl rfl ?_
  refine sx_RP.retc (st3 := [.int 1]) rfl rfl rfl ?_
  refine sx_RP.retc (st3 := [.int 1]) rfl rfl rfl ?_
  refine sx_RP.step (pc2 := 7) (ls2 := [(0, .ref 111), (1, .int 3), (2, .int 0), (3, .int a3)]) (st2 := []) (w3 := (sx_h3 0 0)) rfl rfl ?_
  refine sx_RP.step (pc2 := 8) (ls2 := [(0, .ref 111), (1, .int 3), (2, .int 0), (3, .int a3)]) (st2 := [.int 0]) (w3 := (sx_h3 0 0)) rfl rfl ?_
  refine sx_RP.step (pc2 := 35) (ls2 := [(0, .ref 111), (1, .int 3), (2, .int 0), (3, .int a3)]) (st2 := []) (w3 := (sx_h3 0 0)) rfl rfl ?_
  refine sx_RP.step (pc2 := 36) (ls2 := [(0, .ref 111), (1, .int 3), (2, .int 0), (3, .int a3)]) (st2 := [.int a3]) (w3 := (sx_h3 0 0)) rfl rfl ?_
  refine sx_RP.br (p1 := 46) (l1 := [(0, .ref 111), (1, .int 3), (2, .int 0), (3, .int a3)]) (s1 := []) (v1 := (sx_h3 0 0)) rfl rfl (fun _ => ?_) (fun q => absurd p0 (of_decide_eq_false q))
  refine sx_RP.step (pc2 := 47) (ls2 := [(0, .ref 111), (1, .int 3), (2, .int 0), (3, .int a3)]) (st2 := [.int a3]) (w3 := (sx_h3 0 0)) rfl rfl ?_
  refine sx_RP.step (pc2 := 49) (ls2 := [(0, .ref 111), (1, .int 3), (2, .int 0), (3, .int a3)]) (st2 := [.int 40, .int a3]) (w3 := (sx_h3 0 0)) rfl rfl ?_
  refine sx_RP.br (p1 := 58) (l1 := [(0, .ref 111), (1, .int 3), (2, .int 0), (3, .int a3)]) (s1 := []) (v1 := (sx_h3 0 0)) rfl rfl (fun _ => ?_) (fun q => absurd p1 (of_decide_eq_false q))
  refine sx_RP.step (pc2 := 59) (ls2 := [(0, .ref 111), (1, .int 3), (2, .int 0), (3, .int a3)]) (st2 := [.ref 111]) (w3 := (sx_h3 0 0)) rfl rfl ?_
  refine sx_RP.step (pc2 := 62) (ls2 := [(0, .ref 111), (1, .int 3), (2, .int 0), (3, .int a3)]) (st2 := [.ref 122]) (w3 := (sx_h3 0 0)) rfl rfl ?_
  refine sx_RP.step (pc2 := 63) (ls2 := [(0, .ref 111), (1, .int 3), (2, .int 0), (3, .int a3)]) (st2 := [.int 3, .ref 122]) (w3 := (sx_h3 0 0)) rfl rfl ?_
  refine sx_RP.step (pc2 := 64) (ls2 := [(0, .ref 111), (1, .int 3), (2, .int 0), (3, .int a3)]) (st2 := [.int 0, .int 3, .ref 122]) (w3 := (sx_h3 0 0)) rfl rfl ?_
  refine sx_RP.step (pc2 := 65) (ls2 := [(0, .ref 111), (1, .int 3), (2, .int 0), (3, .int a3)]) (st2 := []) (w3 := ((sx_h3 0 0).set 122 (.inl (0, [0, 0, 0, 0])))) rfl rfl ?_
  refine sx_RP.step (pc2 := 66) (ls2 := [(0, .ref 111), (1, .int 3), (2, .int 0), (3, .int a3)]) (st2 := [.ref 111]) (w3 := ((sx_h3 0 0).set 122 (.inl (0, [0, 0, 0, 0])))) rfl rfl ?_
  refine sx_RP.step (pc2 := 69) (ls2 := [(0, .ref 111), (1, .int 3), (2, .int 0), (3, .int a3)]) (st2 := [.ref 123]) (w3 := ((sx_h3 0 0).set 122 (.inl (0, [0, 0, 0, 0])))) rfl rfl ?_
  refine sx_RP.step (pc2 := 70) (ls2 := [(0, .ref 111), (1, .int 3), (2, .int 0), (3, .int a3)]) (st2 := [.int 3, .ref 123]) (w3 := ((sx_h3 0 0).set 122 (.inl (0, [0, 0, 0, 0])))) rfl rfl ?_
  refine sx_RP.step (pc2 := 71) (ls2 := [(0, .ref 111), (1, .int 3), (2, .int 0), (3, .int a3)]) (st2 := [.int 0, .int 3, .ref 123]) (w3 := ((sx_h3 0 0).set 122 (.inl (0, [0, 0, 0, 0])))) rfl rfl ?_
  refine sx_RP.step (pc2 := 74) (ls2 := [(0, .ref 111), (1, .int 3), (2, .int 0), (3, .int a3)]) (st2 := [.int 3, .ref 123]) (w3 := ((sx_h3 0 0).set 122 (.inl (0, [0, 0, 0, 0])))) rfl rfl ?_
  refine sx_RP.step (pc2 := 75) (ls2 := [(0, .ref 111), (1, .int 3), (2, .int 0), (3, .int a3)]) (st2 := [.int 0, .int 3, .ref 123]) (w3 := ((sx_h3 0 0).set 122 (.inl (0, [0, 0, 0, 0])))) rfl rfl ?_
  refine sx_RP.step (pc2 := 79) (ls2 := [(0, .ref 111), (1, .int 3), (2, .int 0), (3, .int a3)]) (st2 := [.int 0, .int 3, .ref 123]) (w3 := ((sx_h3 0 0).set 122 (.inl (0, [0, 0, 0, 0])))) rfl rfl ?_
  refine sx_RP.step (pc2 := 80) (ls2 := [(0, .ref 111), (1, .int 3), (2, .int 0), (3, .int a3)]) (st2 := []) (w3 := (((sx_h3 0 0).set 122 (.inl (0, [0, 0, 0, 0]))).set 123 (.inl (0, [0, 0, 0, 0])))) rfl rfl ?_
  refine sx_RP.step (pc2 := 81) (ls2 := [(0, .ref 111), (1, .int 3), (2, .int 0), (3, .int a3)]) (st2 := [.int 0]) (w3 := (((sx_h3 0 0).set 122 (.inl (0, [0, 0, 0, 0]))).set 123 (.inl (0, [0, 0, 0, 0])))) rfl rfl ?_
  refine sx_RP.step (pc2 := 83) (ls2 := [(4, .int 0), (0, .ref 111), (1, .int 3), (2, .int 0), (3, .int a3)]) (st2 := []) (w3 := (((sx_h3 0 0).set 122 (.inl (0, [0, 0, 0, 0]))).set 123 (.inl (0, [0, 0, 0, 0])))) rfl rfl ?_
  refine sx_RP.wd (w2 := sx_g3 0 0) rfl ?_
  exact cp_230L3 ys 0 0 a3 40 0 (by omega)
set_option maxRecDepth 20000 in
set_option maxHeartbeats 4000000 in
theorem cp_114_3_8 (ys : List Int32) (a3 : Int32) : sx_RU (some ys) 6 114 0 (lv_args 0 [.ref 109, .int 8, .int a3]) [] sx_w0 none (sx_h3 8 a3) := by
  have h : sx_RP (some ys) 6 114 0 (lv_args 0 [.ref 109, .int 8, .int a3]) [] sx_w0 (fun r w2 => r = none ∧ w2 = sx_h3 8 a3) := by
    refine sx_RP.step (pc2 := 1) (ls2 := [(0, .ref 109), (1, .int 8), (2, .int a3)]) (st2 := [.ref 109]) (w3 := sx_w0) rfl rfl ?_
    refine sx_RP.step (pc2 := 2) (ls2 := [(0, .ref 109), (1, .int 8), (2, .int a3)]) (st2 := [.int 8, .ref 109]) (w3 := sx_w0) rfl rfl ?_
    refine sx_RP.step (pc2 := 5) (ls2 := [(0, .ref 109), (1, .int 8), (2, .int a3)]) (st2 := []) (w3 := (sx_w0.set 109 (.inr (.inr (.inr (5, [.ref 110, .int 8, .int 0])))))) rfl rfl ?_
    refine sx_RP.step (pc2 := 6) (ls2 := [(0, .ref 109), (1, .int 8), (2, .int a3)]) (st2 := [.ref 109]) (w3 := (sx_w0.set 109 (.inr (.inr (.inr (5, [.ref 110, .int 8, .int 0])))))) rfl rfl ?_
    refine sx_RP.step (pc2 := 7) (ls2 := [(0, .ref 109), (1, .int 8), (2, .int a3)]) (st2 := [.int 8, .ref 109]) (w3 := (sx_w0.set 109 (.inr (.inr (.inr (5, [.ref 110, .int 8, .int 0])))))) rfl rfl ?_
    refine sx_RP.step (pc2 := 14) (ls2 := [(0, .ref 109), (1, .int 8), (2, .int a3)]) (st2 := [.ref 109]) (w3 := (sx_w0.set 109 (.inr (.inr (.inr (5, [.ref 110, .int 8, .int 0])))))) rfl rfl ?_
    refine sx_RP.step (pc2 := 15) (ls2 := [(0, .ref 109), (1, .int 8), (2, .int a3)]) (st2 := [.int a3, .ref 109]) (w3 := (sx_w0.set 109 (.inr (.inr (.inr (5, [.ref 110, .int 8, .int 0])))))) rfl rfl ?_
    refine sx_RP.step (pc2 := 18) (ls2 := [(0, .ref 109), (1, .int 8), (2, .int a3)]) (st2 := []) (w3 := (sx_w0.set 109 (.inr (.inr (.inr (5, [.ref 110, .int 8, .int a3])))))) rfl rfl ?_
    refine sx_RP.step (pc2 := 19) (ls2 := [(0, .ref 109), (1, .int 8), (2, .int a3)]) (st2 := [.int 0]) (w3 := (sx_w0.set 109 (.inr (.inr (.inr (5, [.ref 110, .int 8, .int a3])))))) rfl rfl ?_
    refine sx_RP.step (pc2 := 20) (ls2 := [(3, .int 0), (0, .ref 109), (1, .int 8), (2, .int a3)]) (st2 := []) (w3 := (sx_w0.set 109 (.inr (.inr (.inr (5, [.ref 110, .int 8, .int a3])))))) rfl rfl ?_
    refine sx_RP.wd (w2 := sx_h3 8 a3) rfl ?_
    exact cp_114L3 ys 8 a3 a3 40 0 (by omega)
  obtain ⟨r, w2, h1, rfl, rfl⟩ := h
  exact h1
set_option maxRecDepth 20000 in
set_option maxHeartbeats 4000000 in
theorem k_sheet_3_8 (ys : List Int32) (a3 : Int32) (p0 : 0 ≤ a3) (p1 : a3 ≤ 40) : sx_twoI ys 111 230 [.int 3, .int 8, .int a3] := by
  refine sx_twoI.of ?_
  refine sx_RP.step (pc2 := 1) (ls2 := [(0, .ref 0), (1, .int 3), (2, .int 8), (3, .int a3)]) (st2 := [.int 3]) (w3 := sx_w0) rfl rfl ?_
  refine sx_RP.cl (as2 := [.int 3]) (rest2 := []) rfl rfl rfl rfl rfl rfl ?_
  refine sx_RP.step (pc2 := 1) (ls2 := [(0, .int 3)]) (st2 := [.int 3]) (w3 := sx_w0) rfl rfl ?_
  refine sx_RP.step (pc2 := 2) (ls2 := [(0, .int 3)]) (st2 := [.int 0, .int 3]) (w3 := sx_w0) rfl rfl ?_
  refine sx_RP.step (pc2 := 3) (ls2 := [(0, .int 3)]) (st2 := [.int 3, .int 0, .int 3]) (w3 := sx_w0) rfl rfl ?_
  refine sx_RP.cl (as2 := [.int 3, .int 0, .int 3]) (rest2 := []) rfl rfl rfl rfl rfl rfl ?_
  refine sx_RP.step (pc2 := 1) (ls2 := [(0, .int 3), (1, .int 0), (2, .int 3)]) (st2 := [.int 3]) (w3 := sx_w0) rfl rfl ?_
  refine sx_RP.step (pc2 := 2) (ls2 := [(0, .int 3), (1, .int 0), (2, .int 3)]) (st2 := [.int 0, .int 3]) (w3 := sx_w0) rfl rfl ?_
  refine sx_RP.step (pc2 := 5) (ls2 := [(0, .int 3), (1, .int 0), (2, .int 3)]) (st2 := []) (w3 := sx_w0) rfl rfl ?_
  refine sx_RP.step (pc2 := 6) (ls2 := [(0, .int 3), (1, .int 0), (2, .int 3)]) (st2 := [.int 3]) (w3 := sx_w0) rfl rfl ?_
  refine sx_RP.step (pc2 := 7) (ls2 := [(0, .int 3), (1, .int 0), (2, .int 3)]) (st2 := [.int 3, .int 3]) (w3 := sx_w0) rfl rfl ?_
  refine sx_RP.step (pc2 := 10) (ls2 := [(0, .int 3), (1, .int 0), (2, .int 3)]) (st2 := []) (w3 := sx_w0) rfl rfl ?_
  refine sx_RP.step (pc2 := 11) (ls2 := [(0, .int 3), (1, .int 0), (2, .int 3)]) (st2 := [.int 1]) (w3 := sx_w0) rfl rfl ?_
  refine sx_RP.step (pc2 := 15) (ls2 := [(0, .int 3), (1, .int 0), (2, .int 3)]) (st2 := [.int 1]) (w3 := sx_w0) rfl rfl ?_
  refine sx_RP.retc (st3 := [.int 1]) rfl rfl rfl ?_
  refine sx_RP.retc (st3 := [.int 1]) rfl rfl rfl ?_
  refine sx_RP.step (pc2 := 7) (ls2 := [(0, .ref 0), (1, .int 3), (2, .int 8), (3, .int a3)]) (st2 := []) (w3 := sx_w0) rfl rfl ?_
  refine sx_RP.step (pc2 := 8) (ls2 := [(0, .ref 0), (1, .int 3), (2, .int 8), (3, .int a3)]) (st2 := [.int 8]) (w3 := sx_w0) rfl rfl ?_
  refine sx_RP.cl (as2 := [.int 8]) (rest2 := []) rfl rfl rfl rfl rfl rfl ?_
  refine sx_RP.step (pc2 := 1) (ls2 := [(0, .int 8)]) (st2 := [.int 8]) (w3 := sx_w0) rfl rfl ?_
  refine sx_RP.step (pc2 := 3) (ls2 := [(0, .int 8)]) (st2 := [.int 8, .int 8]) (w3 := sx_w0) rfl rfl ?_
  refine sx_RP.step (pc2 := 18) (ls2 := [(0, .int 8)]) (st2 := []) (w3 := sx_w0) rfl rfl ?_
  refine sx_RP.step (pc2 := 19) (ls2 := [(0, .int 8)]) (st2 := [.int 1]) (w3 := sx_w0) rfl rfl ?_
  refine sx_RP.step (pc2 := 23) (ls2 := [(0, .int 8)]) (st2 := [.int 1]) (w3 := sx_w0) rfl rfl ?_
  refine sx_RP.retc (st3 := [.int 1]) rfl rfl rfl ?_
  refine sx_RP.step (pc2 := 25) (ls2 := [(0, .ref 0), (1, .int 3), (2, .int 8), (3, .int a3)]) (st2 := []) (w3 := sx_w0) rfl rfl ?_
  refine sx_RP.step (pc2 := 26) (ls2 := [(0, .ref 0), (1, .int 3), (2, .int 8), (3, .int a3)]) (st2 := [.int a3]) (w3 := sx_w0) rfl rfl ?_
  refine sx_RP.br (p1 := 37) (l1 := [(0, .ref 0), (1, .int 3), (2, .int 8), (3, .int a3)]) (s1 := []) (v1 := sx_w0) rfl rfl (fun _ => ?_) (fun q => absurd p0 (of_decide_eq_false q))
  refine sx_RP.step (pc2 := 38) (ls2 := [(0, .ref 0), (1, .int 3), (2, .int 8), (3, .int a3)]) (st2 := [.int a3]) (w3 := sx_w0) rfl rfl ?_
  refine sx_RP.step (pc2 := 40) (ls2 := [(0, .ref 0), (1, .int 3), (2, .int 8), (3, .int a3)]) (st2 := [.int 40, .int a3]) (w3 := sx_w0) rfl rfl ?_
  refine sx_RP.br (p1 := 50) (l1 := [(0, .ref 0), (1, .int 3), (2, .int 8), (3, .int a3)]) (s1 := []) (v1 := sx_w0) rfl rfl (fun _ => ?_) (fun q => absurd p1 (of_decide_eq_false q))
  refine sx_RP.step (pc2 := 51) (ls2 := [(0, .ref 0), (1, .int 3), (2, .int 8), (3, .int a3)]) (st2 := [.ref 0]) (w3 := sx_w0) rfl rfl ?_
  refine sx_RP.step (pc2 := 54) (ls2 := [(0, .ref 0), (1, .int 3), (2, .int 8), (3, .int a3)]) (st2 := [.ref 98]) (w3 := sx_w0) rfl rfl ?_
  refine sx_RP.step (pc2 := 55) (ls2 := [(0, .ref 0), (1, .int 3), (2, .int 8), (3, .int a3)]) (st2 := [.int 3, .ref 98]) (w3 := sx_w0) rfl rfl ?_
  refine sx_RP.step (pc2 := 56) (ls2 := [(0, .ref 0), (1, .int 3), (2, .int 8), (3, .int a3)]) (st2 := [.ref 109]) (w3 := sx_w0) rfl rfl ?_
  refine sx_RP.step (pc2 := 57) (ls2 := [(0, .ref 0), (1, .int 3), (2, .int 8), (3, .int a3)]) (st2 := [.int 8, .ref 109]) (w3 := sx_w0) rfl rfl ?_
  refine sx_RP.step (pc2 := 58) (ls2 := [(0, .ref 0), (1, .int 3), (2, .int 8), (3, .int a3)]) (st2 := [.int a3, .int 8, .ref 109]) (w3 := sx_w0) rfl rfl ?_
  refine sx_RP.cu (as := [.ref 109, .int 8, .int a3]) (rest2 := []) (st3 := []) rfl rfl rfl rfl rfl (cp_114_3_8 ys a3) rfl ?_
  refine sx_RP.step (pc2 := 62) (ls2 := [(0, .ref 0), (1, .int 3), (2, .int 8), (3, .int a3)]) (st2 := [.ref 0]) (w3 := (sx_h3 8 a3)) rfl rfl ?_
  refine sx_RP.step (pc2 := 65) (ls2 := [(0, .ref 0), (1, .int 3), (2, .int 8), (3, .int a3)]) (st2 := [.ref 98]) (w3 := (sx_h3 8 a3)) rfl rfl ?_
  refine sx_RP.step (pc2 := 66) (ls2 := [(0, .ref 0), (1, .int 3), (2, .int 8), (3, .int a3)]) (st2 := [.int 3, .ref 98]) (w3 := (sx_h3 8 a3)) rfl rfl ?_
  refine sx_RP.step (pc2 := 67) (ls2 := [(0, .ref 0), (1, .int 3), (2, .int 8), (3, .int a3)]) (st2 := [.ref 109]) (w3 := (sx_h3 8 a3)) rfl rfl ?_
  refine sx_RP.step (pc2 := 70) (ls2 := [(0, .ref 0), (1, .int 3), (2, .int 8), (3, .int a3)]) (st2 := [.int a3]) (w3 := (sx_h3 8 a3)) rfl rfl ?_
  refine sx_RP.ret rfl rfl ?_
  refine ⟨a3, rfl, ⟨_, rfl⟩, ?_⟩
  refine sx_RP.step (pc2 := 1) (ls2 := [(0, .ref 111), (1, .int 3), (2, .int 8), (3, .int a3)]) (st2 := [.int 3]) (w3 := (sx_h3 8 a3)) rfl rfl ?_
  refine sx_RP.cl (as2 := [.int 3]) (rest2 := []) rfl rfl rfl rfl rfl rfl ?_
  refine sx_RP.step (pc2 := 1) (ls2 := [(0, .int 3)]) (st2 := [.int 3]) (w3 := (sx_h3 8 a3)) rfl rfl ?_
  refine sx_RP.step (pc2 := 2) (ls2 := [(0, .int 3)]) (st2 := [.int 0, .int 3]) (w3 := (sx_h3 8 a3)) rfl rfl ?_
  refine sx_RP.step (pc2 := 3) (ls2 := [(0, .int 3)]) (st2 := [.int 3, .int 0, .int 3]) (w3 := (sx_h3 8 a3)) rfl rfl ?_
  refine sx_RP.cl (as2 := [.int 3, .int 0, .int 3]) (rest2 := []) rfl rfl rfl rfl rfl rfl ?_
  refine sx_RP.step (pc2 := 1) (ls2 := [(0, .int 3), (1, .int 0), (2, .int 3)]) (st2 := [.int 3]) (w3 := (sx_h3 8 a3)) rfl rfl ?_
  refine sx_RP.step (pc2 := 2) (ls2 := [(0, .int 3), (1, .int 0), (2, .int 3)]) (st2 := [.int 0, .int 3]) (w3 := (sx_h3 8 a3)) rfl rfl ?_
  refine sx_RP.step (pc2 := 5) (ls2 := [(0, .int 3), (1, .int 0), (2, .int 3)]) (st2 := []) (w3 := (sx_h3 8 a3)) rfl rfl ?_
  refine sx_RP.step (pc2 := 6) (ls2 := [(0, .int 3), (1, .int 0), (2, .int 3)]) (st2 := [.int 3]) (w3 := (sx_h3 8 a3)) rfl rfl ?_
  refine sx_RP.step (pc2 := 7) (ls2 := [(0, .int 3), (1, .int 0), (2, .int 3)]) (st2 := [.int 3, .int 3]) (w3 := (sx_h3 8 a3)) rfl rfl ?_
  refine sx_RP.step (pc2 := 10) (ls2 := [(0, .int 3), (1, .int 0), (2, .int 3)]) (st2 := []) (w3 := (sx_h3 8 a3)) rfl rfl ?_
  refine sx_RP.step (pc2 := 11) (ls2 := [(0, .int 3), (1, .int 0), (2, .int 3)]) (st2 := [.int 1]) (w3 := (sx_h3 8 a3)) rfl rfl ?_
  refine sx_RP.step (pc2 := 15) (ls2 := [(0, .int 3), (1, .int 0), (2, .int 3)]) (st2 := [.int 1]) (w3 := (sx_h3 8 a3)) rfl rfl ?_
  refine sx_RP.retc (st3 := [.int 1]) rfl rfl rfl ?_
  refine sx_RP.retc (st3 := [.int 1]) rfl rfl rfl ?_
  refine sx_RP.step (pc2 := 7) (ls2 := [(0, .ref 111), (1, .int 3), (2, .int 8), (3, .int a3)]) (st2 := []) (w3 := (sx_h3 8 a3)) rfl rfl ?_
  refine sx_RP.step (pc2 := 8) (ls2 := [(0, .ref 111), (1, .int 3), (2, .int 8), (3, .int a3)]) (st2 := [.int 8]) (w3 := (sx_h3 8 a3)) rfl rfl ?_
  refine sx_RP.step (pc2 := 11) (ls2 := [(0, .ref 111), (1, .int 3), (2, .int 8), (3, .int a3)]) (st2 := []) (w3 := (sx_h3 8 a3)) rfl rfl ?_
  refine sx_RP.step (pc2 := 12) (ls2 := [(0, .ref 111), (1, .int 3), (2, .int 8), (3, .int a3)]) (st2 := [.int 8]) (w3 := (sx_h3 8 a3)) rfl rfl ?_
  refine sx_RP.step (pc2 := 14) (ls2 := [(0, .ref 111), (1, .int 3), (2, .int 8), (3, .int a3)]) (st2 := [.int 8, .int 8]) (w3 := (sx_h3 8 a3)) rfl rfl ?_
  refine sx_RP.step (pc2 := 35) (ls2 := [(0, .ref 111), (1, .int 3), (2, .int 8), (3, .int a3)]) (st2 := []) (w3 := (sx_h3 8 a3)) rfl rfl ?_
  refine sx_RP.step (pc2 := 36) (ls2 := [(0, .ref 111), (1, .int 3), (2, .int 8), (3, .int a3)]) (st2 := [.int a3]) (w3 := (sx_h3 8 a3)) rfl rfl ?_
  refine sx_RP.br (p1 := 46) (l1 := [(0, .ref 111), (1, .int 3), (2, .int 8), (3, .int a3)]) (s1 := []) (v1 := (sx_h3 8 a3)) rfl rfl (fun _ => ?_) (fun q => absurd p0 (of_decide_eq_false q))
  refine sx_RP.step (pc2 := 47) (ls2 := [(0, .ref 111), (1, .int 3), (2, .int 8), (3, .int a3)]) (st2 := [.int a3]) (w3 := (sx_h3 8 a3)) rfl rfl ?_
  refine sx_RP.step (pc2 := 49) (ls2 := [(0, .ref 111), (1, .int 3), (2, .int 8), (3, .int a3)]) (st2 := [.int 40, .int a3]) (w3 := (sx_h3 8 a3)) rfl rfl ?_
  refine sx_RP.br (p1 := 58) (l1 := [(0, .ref 111), (1, .int 3), (2, .int 8), (3, .int a3)]) (s1 := []) (v1 := (sx_h3 8 a3)) rfl rfl (fun _ => ?_) (fun q => absurd p1 (of_decide_eq_false q))
  refine sx_RP.step (pc2 := 59) (ls2 := [(0, .ref 111), (1, .int 3), (2, .int 8), (3, .int a3)]) (st2 := [.ref 111]) (w3 := (sx_h3 8 a3)) rfl rfl ?_
  refine sx_RP.step (pc2 := 62) (ls2 := [(0, .ref 111), (1, .int 3), (2, .int 8), (3, .int a3)]) (st2 := [.ref 122]) (w3 := (sx_h3 8 a3)) rfl rfl ?_
  refine sx_RP.step (pc2 := 63) (ls2 := [(0, .ref 111), (1, .int 3), (2, .int 8), (3, .int a3)]) (st2 := [.int 3, .ref 122]) (w3 := (sx_h3 8 a3)) rfl rfl ?_
  refine sx_RP.step (pc2 := 64) (ls2 := [(0, .ref 111), (1, .int 3), (2, .int 8), (3, .int a3)]) (st2 := [.int 8, .int 3, .ref 122]) (w3 := (sx_h3 8 a3)) rfl rfl ?_
  refine sx_RP.step (pc2 := 65) (ls2 := [(0, .ref 111), (1, .int 3), (2, .int 8), (3, .int a3)]) (st2 := []) (w3 := ((sx_h3 8 a3).set 122 (.inl (0, [0, 0, 0, 8])))) rfl rfl ?_
  refine sx_RP.step (pc2 := 66) (ls2 := [(0, .ref 111), (1, .int 3), (2, .int 8), (3, .int a3)]) (st2 := [.ref 111]) (w3 := ((sx_h3 8 a3).set 122 (.inl (0, [0, 0, 0, 8])))) rfl rfl ?_
  refine sx_RP.step (pc2 := 69) (ls2 := [(0, .ref 111), (1, .int 3), (2, .int 8), (3, .int a3)]) (st2 := [.ref 123]) (w3 := ((sx_h3 8 a3).set 122 (.inl (0, [0, 0, 0, 8])))) rfl rfl ?_
  refine sx_RP.step (pc2 := 70) (ls2 := [(0, .ref 111), (1, .int 3), (2, .int 8), (3, .int a3)]) (st2 := [.int 3, .ref 123]) (w3 := ((sx_h3 8 a3).set 122 (.inl (0, [0, 0, 0, 8])))) rfl rfl ?_
  refine sx_RP.step (pc2 := 71) (ls2 := [(0, .ref 111), (1, .int 3), (2, .int 8), (3, .int a3)]) (st2 := [.int 8, .int 3, .ref 123]) (w3 := ((sx_h3 8 a3).set 122 (.inl (0, [0, 0, 0, 8])))) rfl rfl ?_
  refine sx_RP.step (pc2 := 78) (ls2 := [(0, .ref 111), (1, .int 3), (2, .int 8), (3, .int a3)]) (st2 := [.int 3, .ref 123]) (w3 := ((sx_h3 8 a3).set 122 (.inl (0, [0, 0, 0, 8])))) rfl rfl ?_
  refine sx_RP.step (pc2 := 79) (ls2 := [(0, .ref 111), (1, .int 3), (2, .int 8), (3, .int a3)]) (st2 := [.int a3, .int 3, .ref 123]) (w3 := ((sx_h3 8 a3).set 122 (.inl (0, [0, 0, 0, 8])))) rfl rfl ?_
  refine sx_RP.step (pc2 := 80) (ls2 := [(0, .ref 111), (1, .int 3), (2, .int 8), (3, .int a3)]) (st2 := []) (w3 := (((sx_h3 8 a3).set 122 (.inl (0, [0, 0, 0, 8]))).set 123 (.inl (0, [0, 0, 0, a3])))) rfl rfl ?_
  refine sx_RP.step (pc2 := 81) (ls2 := [(0, .ref 111), (1, .int 3), (2, .int 8), (3, .int a3)]) (st2 := [.int 0]) (w3 := (((sx_h3 8 a3).set 122 (.inl (0, [0, 0, 0, 8]))).set 123 (.inl (0, [0, 0, 0, a3])))) rfl rfl ?_
  refine sx_RP.step (pc2 := 83) (ls2 := [(4, .int 0), (0, .ref 111), (1, .int 3), (2, .int 8), (3, .int a3)]) (st2 := []) (w3 := (((sx_h3 8 a3).set 122 (.inl (0, [0, 0, 0, 8]))).set 123 (.inl (0, [0, 0, 0, a3])))) rfl rfl ?_
  refine sx_RP.wd (w2 := sx_g3 8 a3) rfl ?_
  exact cp_230L3 ys 8 a3 a3 40 0 (by omega)
set_option maxRecDepth 20000 in
set_option maxHeartbeats 4000000 in
theorem cp_114_3_16 (ys : List Int32) (a3 : Int32) : sx_RU (some ys) 6 114 0 (lv_args 0 [.ref 109, .int 16, .int a3]) [] sx_w0 none (sx_h3 16 a3) := by
  have h : sx_RP (some ys) 6 114 0 (lv_args 0 [.ref 109, .int 16, .int a3]) [] sx_w0 (fun r w2 => r = none ∧ w2 = sx_h3 16 a3) := by
    refine sx_RP.step (pc2 := 1) (ls2 := [(0, .ref 109), (1, .int 16), (2, .int a3)]) (st2 := [.ref 109]) (w3 := sx_w0) rfl rfl ?_
    refine sx_RP.step (pc2 := 2) (ls2 := [(0, .ref 109), (1, .int 16), (2, .int a3)]) (st2 := [.int 16, .ref 109]) (w3 := sx_w0) rfl rfl ?_
    refine sx_RP.step (pc2 := 5) (ls2 := [(0, .ref 109), (1, .int 16), (2, .int a3)]) (st2 := []) (w3 := (sx_w0.set 109 (.inr (.inr (.inr (5, [.ref 110, .int 16, .int 0])))))) rfl rfl ?_
    refine sx_RP.step (pc2 := 6) (ls2 := [(0, .ref 109), (1, .int 16), (2, .int a3)]) (st2 := [.ref 109]) (w3 := (sx_w0.set 109 (.inr (.inr (.inr (5, [.ref 110, .int 16, .int 0])))))) rfl rfl ?_
    refine sx_RP.step (pc2 := 7) (ls2 := [(0, .ref 109), (1, .int 16), (2, .int a3)]) (st2 := [.int 16, .ref 109]) (w3 := (sx_w0.set 109 (.inr (.inr (.inr (5, [.ref 110, .int 16, .int 0])))))) rfl rfl ?_
    refine sx_RP.step (pc2 := 14) (ls2 := [(0, .ref 109), (1, .int 16), (2, .int a3)]) (st2 := [.ref 109]) (w3 := (sx_w0.set 109 (.inr (.inr (.inr (5, [.ref 110, .int 16, .int 0])))))) rfl rfl ?_
    refine sx_RP.step (pc2 := 15) (ls2 := [(0, .ref 109), (1, .int 16), (2, .int a3)]) (st2 := [.int a3, .ref 109]) (w3 := (sx_w0.set 109 (.inr (.inr (.inr (5, [.ref 110, .int 16, .int 0])))))) rfl rfl ?_
    refine sx_RP.step (pc2 := 18) (ls2 := [(0, .ref 109), (1, .int 16), (2, .int a3)]) (st2 := []) (w3 := (sx_w0.set 109 (.inr (.inr (.inr (5, [.ref 110, .int 16, .int a3])))))) rfl rfl ?_
    refine sx_RP.step (pc2 := 19) (ls2 := [(0, .ref 109), (1, .int 16), (2, .int a3)]) (st2 := [.int 0]) (w3 := (sx_w0.set 109 (.inr (.inr (.inr (5, [.ref 110, .int 16, .int a3])))))) rfl rfl ?_
    refine sx_RP.step (pc2 := 20) (ls2 := [(3, .int 0), (0, .ref 109), (1, .int 16), (2, .int a3)]) (st2 := []) (w3 := (sx_w0.set 109 (.inr (.inr (.inr (5, [.ref 110, .int 16, .int a3])))))) rfl rfl ?_
    refine sx_RP.wd (w2 := sx_h3 16 a3) rfl ?_
    exact cp_114L3 ys 16 a3 a3 40 0 (by omega)
  obtain ⟨r, w2, h1, rfl, rfl⟩ := h
  exact h1
set_option maxRecDepth 20000 in
set_option maxHeartbeats 4000000 in
theorem k_sheet_3_16 (ys : List Int32) (a3 : Int32) (p0 : 0 ≤ a3) (p1 : a3 ≤ 40) : sx_twoI ys 111 230 [.int 3, .int 16, .int a3] := by
  refine sx_twoI.of ?_
  refine sx_RP.step (pc2 := 1) (ls2 := [(0, .ref 0), (1, .int 3), (2, .int 16), (3, .int a3)]) (st2 := [.int 3]) (w3 := sx_w0) rfl rfl ?_
  refine sx_RP.cl (as2 := [.int 3]) (rest2 := []) rfl rfl rfl rfl rfl rfl ?_
  refine sx_RP.step (pc2 := 1) (ls2 := [(0, .int 3)]) (st2 := [.int 3]) (w3 := sx_w0) rfl rfl ?_
  refine sx_RP.step (pc2 := 2) (ls2 := [(0, .int 3)]) (st2 := [.int 0, .int 3]) (w3 := sx_w0) rfl rfl ?_
  refine sx_RP.step (pc2 := 3) (ls2 := [(0, .int 3)]) (st2 := [.int 3, .int 0, .int 3]) (w3 := sx_w0) rfl rfl ?_
  refine sx_RP.cl (as2 := [.int 3, .int 0, .int 3]) (rest2 := []) rfl rfl rfl rfl rfl rfl ?_
  refine sx_RP.step (pc2 := 1) (ls2 := [(0, .int 3), (1, .int 0), (2, .int 3)]) (st2 := [.int 3]) (w3 := sx_w0) rfl rfl ?_
  refine sx_RP.step (pc2 := 2) (ls2 := [(0, .int 3), (1, .int 0), (2, .int 3)]) (st2 := [.int 0, .int 3]) (w3 := sx_w0) rfl rfl ?_
  refine sx_RP.step (pc2 := 5) (ls2 := [(0, .int 3), (1, .int 0), (2, .int 3)]) (st2 := []) (w3 := sx_w0) rfl rfl ?_
  refine sx_RP.step (pc2 := 6) (ls2 := [(0, .int 3), (1, .int 0), (2, .int 3)]) (st2 := [.int 3]) (w3 := sx_w0) rfl rfl ?_
  refine sx_RP.step (pc2 := 7) (ls2 := [(0, .int 3), (1, .int 0), (2, .int 3)]) (st2 := [.int 3, .int 3]) (w3 := sx_w0) rfl rfl ?_
  refine sx_RP.step (pc2 := 10) (ls2 := [(0, .int 3), (1, .int 0), (2, .int 3)]) (st2 := []) (w3 := sx_w0) rfl rfl ?_
  refine sx_RP.step (pc2 := 11) (ls2 := [(0, .int 3), (1, .int 0), (2, .int 3)]) (st2 := [.int 1]) (w3 := sx_w0) rfl rfl ?_
  refine sx_RP.step (pc2 := 15) (ls2 := [(0, .int 3), (1, .int 0), (2, .int 3)]) (st2 := [.int 1]) (w3 := sx_w0) rfl rfl ?_
  refine sx_RP.retc (st3 := [.int 1]) rfl rfl rfl ?_
  refine sx_RP.retc (st3 := [.int 1]) rfl rfl rfl ?_
  refine sx_RP.step (pc2 := 7) (ls2 := [(0, .ref 0), (1, .int 3), (2, .int 16), (3, .int a3)]) (st2 := []) (w3 := sx_w0) rfl rfl ?_
  refine sx_RP.step (pc2 := 8) (ls2 := [(0, .ref 0), (1, .int 3), (2, .int 16), (3, .int a3)]) (st2 := [.int 16]) (w3 := sx_w0) rfl rfl ?_
  refine sx_RP.cl (as2 := [.int 16]) (rest2 := []) rfl rfl rfl rfl rfl rfl ?_
  refine sx_RP.step (pc2 := 1) (ls2 := [(0, .int 16)]) (st2 := [.int 16]) (w3 := sx_w0) rfl rfl ?_
  refine sx_RP.step (pc2 := 3) (ls2 := [(0, .int 16)]) (st2 := [.int 8, .int 16]) (w3 := sx_w0) rfl rfl ?_
  refine sx_RP.step (pc2 := 6) (ls2 := [(0, .int 16)]) (st2 := []) (w3 := sx_w0) rfl rfl ?_
  refine sx_RP.step (pc2 := 7) (ls2 := [(0, .int 16)]) (st2 := [.int 16]) (w3 := sx_w0) rfl rfl ?_
  refine sx_RP.step (pc2 := 9) (ls2 := [(0, .int 16)]) (st2 := [.int 16, .int 16]) (w3 := sx_w0) rfl rfl ?_
  refine sx_RP.step (pc2 := 18) (ls2 := [(0, .int 16)]) (st2 := []) (w3 := sx_w0) rfl rfl ?_
  refine sx_RP.step (pc2 := 19) (ls2 := [(0, .int 16)]) (st2 := [.int 1]) (w3 := sx_w0) rfl rfl ?_
  refine sx_RP.step (pc2 := 23) (ls2 := [(0, .int 16)]) (st2 := [.int 1]) (w3 := sx_w0) rfl rfl ?_
  refine sx_RP.retc (st3 := [.int 1]) rfl rfl rfl ?_
  refine sx_RP.step (pc2 := 25) (ls2 := [(0, .ref 0), (1, .int 3), (2, .int 16), (3, .int a3)]) (st2 := []) (w3 := sx_w0) rfl rfl ?_
  refine sx_RP.step (pc2 := 26) (ls2 := [(0, .ref 0), (1, .int 3), (2, .int 16), (3, .int a3)]) (st2 := [.int a3]) (w3 := sx_w0) rfl rfl ?_
  refine sx_RP.br (p1 := 37) (l1 := [(0, .ref 0), (1, .int 3), (2, .int 16), (3, .int a3)]) (s1 := []) (v1 := sx_w0) rfl rfl (fun _ => ?_) (fun q => absurd p0 (of_decide_eq_false q))
  refine sx_RP.step (pc2 := 38) (ls2 := [(0, .ref 0), (1, .int 3), (2, .int 16), (3, .int a3)]) (st2 := [.int a3]) (w3 := sx_w0) rfl rfl ?_
  refine sx_RP.step (pc2 := 40) (ls2 := [(0, .ref 0), (1, .int 3), (2, .int 16), (3, .int a3)]) (st2 := [.int 40, .int a3]) (w3 := sx_w0) rfl rfl ?_
  refine sx_RP.br (p1 := 50) (l1 := [(0, .ref 0), (1, .int 3), (2, .int 16), (3, .int a3)]) (s1 := []) (v1 := sx_w0) rfl rfl (fun _ => ?_) (fun q => absurd p1 (of_decide_eq_false q))
  refine sx_RP.step (pc2 := 51) (ls2 := [(0, .ref 0), (1, .int 3), (2, .int 16), (3, .int a3)]) (st2 := [.ref 0]) (w3 := sx_w0) rfl rfl ?_
  refine sx_RP.step (pc2 := 54) (ls2 := [(0, .ref 0), (1, .int 3), (2, .int 16), (3, .int a3)]) (st2 := [.ref 98]) (w3 := sx_w0) rfl rfl ?_
  refine sx_RP.step (pc2 := 55) (ls2 := [(0, .ref 0), (1, .int 3), (2, .int 16), (3, .int a3)]) (st2 := [.int 3, .ref 98]) (w3 := sx_w0) rfl rfl ?_
  refine sx_RP.step (pc2 := 56) (ls2 := [(0, .ref 0), (1, .int 3), (2, .int 16), (3, .int a3)]) (st2 := [.ref 109]) (w3 := sx_w0) rfl rfl ?_
  refine sx_RP.step (pc2 := 57) (ls2 := [(0, .ref 0), (1, .int 3), (2, .int 16), (3, .int a3)]) (st2 := [.int 16, .ref 109]) (w3 := sx_w0) rfl rfl ?_
  refine sx_RP.step (pc2 := 58) (ls2 := [(0, .ref 0), (1, .int 3), (2, .int 16), (3, .int a3)]) (st2 := [.int a3, .int 16, .ref 109]) (w3 := sx_w0) rfl rfl ?_
  refine sx_RP.cu (as := [.ref 109, .int 16, .int a3]) (rest2 := []) (st3 := []) rfl rfl rfl rfl rfl (cp_114_3_16 ys a3) rfl ?_
  refine sx_RP.step (pc2 := 62) (ls2 := [(0, .ref 0), (1, .int 3), (2, .int 16), (3, .int a3)]) (st2 := [.ref 0]) (w3 := (sx_h3 16 a3)) rfl rfl ?_
  refine sx_RP.step (pc2 := 65) (ls2 := [(0, .ref 0), (1, .int 3), (2, .int 16), (3, .int a3)]) (st2 := [.ref 98]) (w3 := (sx_h3 16 a3)) rfl rfl ?_
  refine sx_RP.step (pc2 := 66) (ls2 := [(0, .ref 0), (1, .int 3), (2, .int 16), (3, .int a3)]) (st2 := [.int 3, .ref 98]) (w3 := (sx_h3 16 a3)) rfl rfl ?_
  refine sx_RP.step (pc2 := 67) (ls2 := [(0, .ref 0), (1, .int 3), (2, .int 16), (3, .int a3)]) (st2 := [.ref 109]) (w3 := (sx_h3 16 a3)) rfl rfl ?_
  refine sx_RP.step (pc2 := 70) (ls2 := [(0, .ref 0), (1, .int 3), (2, .int 16), (3, .int a3)]) (st2 := [.int a3]) (w3 := (sx_h3 16 a3)) rfl rfl ?_
  refine sx_RP.ret rfl rfl ?_
  refine ⟨a3, rfl, ⟨_, rfl⟩, ?_⟩
  refine sx_RP.step (pc2 := 1) (ls2 := [(0, .ref 111), (1, .int 3), (2, .int 16), (3, .int a3)]) (st2 := [.int 3]) (w3 := (sx_h3 16 a3)) rfl rfl ?_
  refine sx_RP.cl (as2 := [.int 3]) (rest2 := []) rfl rfl rfl rfl rfl rfl ?_
  refine sx_RP.step (pc2 := 1) (ls2 := [(0, .int 3)]) (st2 := [.int 3]) (w3 := (sx_h3 16 a3)) rfl rfl ?_
  refine sx_RP.step (pc2 := 2) (ls2 := [(0, .int 3)]) (st2 := [.int 0, .int 3]) (w3 := (sx_h3 16 a3)) rfl rfl ?_
  refine sx_RP.step (pc2 := 3) (ls2 := [(0, .int 3)]) (st2 := [.int 3, .int 0, .int 3]) (w3 := (sx_h3 16 a3)) rfl rfl ?_
  refine sx_RP.cl (as2 := [.int 3, .int 0, .int 3]) (rest2 := []) rfl rfl rfl rfl rfl rfl ?_
  refine sx_RP.step (pc2 := 1) (ls2 := [(0, .int 3), (1, .int 0), (2, .int 3)]) (st2 := [.int 3]) (w3 := (sx_h3 16 a3)) rfl rfl ?_
  refine sx_RP.step (pc2 := 2) (ls2 := [(0, .int 3), (1, .int 0), (2, .int 3)]) (st2 := [.int 0, .int 3]) (w3 := (sx_h3 16 a3)) rfl rfl ?_
  refine sx_RP.step (pc2 := 5) (ls2 := [(0, .int 3), (1, .int 0), (2, .int 3)]) (st2 := []) (w3 := (sx_h3 16 a3)) rfl rfl ?_
  refine sx_RP.step (pc2 := 6) (ls2 := [(0, .int 3), (1, .int 0), (2, .int 3)]) (st2 := [.int 3]) (w3 := (sx_h3 16 a3)) rfl rfl ?_
  refine sx_RP.step (pc2 := 7) (ls2 := [(0, .int 3), (1, .int 0), (2, .int 3)]) (st2 := [.int 3, .int 3]) (w3 := (sx_h3 16 a3)) rfl rfl ?_
  refine sx_RP.step (pc2 := 10) (ls2 := [(0, .int 3), (1, .int 0), (2, .int 3)]) (st2 := []) (w3 := (sx_h3 16 a3)) rfl rfl ?_
  refine sx_RP.step (pc2 := 11) (ls2 := [(0, .int 3), (1, .int 0), (2, .int 3)]) (st2 := [.int 1]) (w3 := (sx_h3 16 a3)) rfl rfl ?_
  refine sx_RP.step (pc2 := 15) (ls2 := [(0, .int 3), (1, .int 0), (2, .int 3)]) (st2 := [.int 1]) (w3 := (sx_h3 16 a3)) rfl rfl ?_
  refine sx_RP.retc (st3 := [.int 1]) rfl rfl rfl ?_
  refine sx_RP.retc (st3 := [.int 1]) rfl rfl rfl ?_
  refine sx_RP.step (pc2 := 7) (ls2 := [(0, .ref 111), (1, .int 3), (2, .int 16), (3, .int a3)]) (st2 := []) (w3 := (sx_h3 16 a3)) rfl rfl ?_
  refine sx_RP.step (pc2 := 8) (ls2 := [(0, .ref 111), (1, .int 3), (2, .int 16), (3, .int a3)]) (st2 := [.int 16]) (w3 := (sx_h3 16 a3)) rfl rfl ?_
  refine sx_RP.step (pc2 := 11) (ls2 := [(0, .ref 111), (1, .int 3), (2, .int 16), (3, .int a3)]) (st2 := []) (w3 := (sx_h3 16 a3)) rfl rfl ?_
  refine sx_RP.step (pc2 := 12) (ls2 := [(0, .ref 111), (1, .int 3), (2, .int 16), (3, .int a3)]) (st2 := [.int 16]) (w3 := (sx_h3 16 a3)) rfl rfl ?_
  refine sx_RP.step (pc2 := 14) (ls2 := [(0, .ref 111), (1, .int 3), (2, .int 16), (3, .int a3)]) (st2 := [.int 8, .int 16]) (w3 := (sx_h3 16 a3)) rfl rfl ?_
  refine sx_RP.step (pc2 := 17) (ls2 := [(0, .ref 111), (1, .int 3), (2, .int 16), (3, .int a3)]) (st2 := []) (w3 := (sx_h3 16 a3)) rfl rfl ?_
  refine sx_RP.step (pc2 := 18) (ls2 := [(0, .ref 111), (1, .int 3), (2, .int 16), (3, .int a3)]) (st2 := [.int 16]) (w3 := (sx_h3 16 a3)) rfl rfl ?_
  refine sx_RP.step (pc2 := 20) (ls2 := [(0, .ref 111), (1, .int 3), (2, .int 16), (3, .int a3)]) (st2 := [.int 16, .int 16]) (w3 := (sx_h3 16 a3)) rfl rfl ?_
  refine sx_RP.step (pc2 := 35) (ls2 := [(0, .ref 111), (1, .int 3), (2, .int 16), (3, .int a3)]) (st2 := []) (w3 := (sx_h3 16 a3)) rfl rfl ?_
  refine sx_RP.step (pc2 := 36) (ls2 := [(0, .ref 111), (1, .int 3), (2, .int 16), (3, .int a3)]) (st2 := [.int a3]) (w3 := (sx_h3 16 a3)) rfl rfl ?_
  refine sx_RP.br (p1 := 46) (l1 := [(0, .ref 111), (1, .int 3), (2, .int 16), (3, .int a3)]) (s1 := []) (v1 := (sx_h3 16 a3)) rfl rfl (fun _ => ?_) (fun q => absurd p0 (of_decide_eq_false q))
  refine sx_RP.step (pc2 := 47) (ls2 := [(0, .ref 111), (1, .int 3), (2, .int 16), (3, .int a3)]) (st2 := [.int a3]) (w3 := (sx_h3 16 a3)) rfl rfl ?_
  refine sx_RP.step (pc2 := 49) (ls2 := [(0, .ref 111), (1, .int 3), (2, .int 16), (3, .int a3)]) (st2 := [.int 40, .int a3]) (w3 := (sx_h3 16 a3)) rfl rfl ?_
  refine sx_RP.br (p1 := 58) (l1 := [(0, .ref 111), (1, .int 3), (2, .int 16), (3, .int a3)]) (s1 := []) (v1 := (sx_h3 16 a3)) rfl rfl (fun _ => ?_) (fun q => absurd p1 (of_decide_eq_false q))
  refine sx_RP.step (pc2 := 59) (ls2 := [(0, .ref 111), (1, .int 3), (2, .int 16), (3, .int a3)]) (st2 := [.ref 111]) (w3 := (sx_h3 16 a3)) rfl rfl ?_
  refine sx_RP.step (pc2 := 62) (ls2 := [(0, .ref 111), (1, .int 3), (2, .int 16), (3, .int a3)]) (st2 := [.ref 122]) (w3 := (sx_h3 16 a3)) rfl rfl ?_
  refine sx_RP.step (pc2 := 63) (ls2 := [(0, .ref 111), (1, .int 3), (2, .int 16), (3, .int a3)]) (st2 := [.int 3, .ref 122]) (w3 := (sx_h3 16 a3)) rfl rfl ?_
  refine sx_RP.step (pc2 := 64) (ls2 := [(0, .ref 111), (1, .int 3), (2, .int 16), (3, .int a3)]) (st2 := [.int 16, .int 3, .ref 122]) (w3 := (sx_h3 16 a3)) rfl rfl ?_
  refine sx_RP.step (pc2 := 65) (ls2 := [(0, .ref 111), (1, .int 3), (2, .int 16), (3, .int a3)]) (st2 := []) (w3 := ((sx_h3 16 a3).set 122 (.inl (0, [0, 0, 0, 16])))) rfl rfl ?_
  refine sx_RP.step (pc2 := 66) (ls2 := [(0, .ref 111), (1, .int 3), (2, .int 16), (3, .int a3)]) (st2 := [.ref 111]) (w3 := ((sx_h3 16 a3).set 122 (.inl (0, [0, 0, 0, 16])))) rfl rfl ?_
  refine sx_RP.step (pc2 := 69) (ls2 := [(0, .ref 111), (1, .int 3), (2, .int 16), (3, .int a3)]) (st2 := [.ref 123]) (w3 := ((sx_h3 16 a3).set 122 (.inl (0, [0, 0, 0, 16])))) rfl rfl ?_
  refine sx_RP.step (pc2 := 70) (ls2 := [(0, .ref 111), (1, .int 3), (2, .int 16), (3, .int a3)]) (st2 := [.int 3, .ref 123]) (w3 := ((sx_h3 16 a3).set 122 (.inl (0, [0, 0, 0, 16])))) rfl rfl ?_
  refine sx_RP.step (pc2 := 71) (ls2 := [(0, .ref 111), (1, .int 3), (2, .int 16), (3, .int a3)]) (st2 := [.int 16, .int 3, .ref 123]) (w3 := ((sx_h3 16 a3).set 122 (.inl (0, [0, 0, 0, 16])))) rfl rfl ?_
  refine sx_RP.step (pc2 := 78) (ls2 := [(0, .ref 111), (1, .int 3), (2, .int 16), (3, .int a3)]) (st2 := [.int 3, .ref 123]) (w3 := ((sx_h3 16 a3).set 122 (.inl (0, [0, 0, 0, 16])))) rfl rfl ?_
  refine sx_RP.step (pc2 := 79) (ls2 := [(0, .ref 111), (1, .int 3), (2, .int 16), (3, .int a3)]) (st2 := [.int a3, .int 3, .ref 123]) (w3 := ((sx_h3 16 a3).set 122 (.inl (0, [0, 0, 0, 16])))) rfl rfl ?_
  refine sx_RP.step (pc2 := 80) (ls2 := [(0, .ref 111), (1, .int 3), (2, .int 16), (3, .int a3)]) (st2 := []) (w3 := (((sx_h3 16 a3).set 122 (.inl (0, [0, 0, 0, 16]))).set 123 (.inl (0, [0, 0, 0, a3])))) rfl rfl ?_
  refine sx_RP.step (pc2 := 81) (ls2 := [(0, .ref 111), (1, .int 3), (2, .int 16), (3, .int a3)]) (st2 := [.int 0]) (w3 := (((sx_h3 16 a3).set 122 (.inl (0, [0, 0, 0, 16]))).set 123 (.inl (0, [0, 0, 0, a3])))) rfl rfl ?_
  refine sx_RP.step (pc2 := 83) (ls2 := [(4, .int 0), (0, .ref 111), (1, .int 3), (2, .int 16), (3, .int a3)]) (st2 := []) (w3 := (((sx_h3 16 a3).set 122 (.inl (0, [0, 0, 0, 16]))).set 123 (.inl (0, [0, 0, 0, a3])))) rfl rfl ?_
  refine sx_RP.wd (w2 := sx_g3 16 a3) rfl ?_
  exact cp_230L3 ys 16 a3 a3 40 0 (by omega)
set_option maxRecDepth 20000 in
set_option maxHeartbeats 4000000 in
theorem cp_114_3_64 (ys : List Int32) (a3 : Int32) : sx_RU (some ys) 6 114 0 (lv_args 0 [.ref 109, .int 64, .int a3]) [] sx_w0 none (sx_h3 64 a3) := by
  have h : sx_RP (some ys) 6 114 0 (lv_args 0 [.ref 109, .int 64, .int a3]) [] sx_w0 (fun r w2 => r = none ∧ w2 = sx_h3 64 a3) := by
    refine sx_RP.step (pc2 := 1) (ls2 := [(0, .ref 109), (1, .int 64), (2, .int a3)]) (st2 := [.ref 109]) (w3 := sx_w0) rfl rfl ?_
    refine sx_RP.step (pc2 := 2) (ls2 := [(0, .ref 109), (1, .int 64), (2, .int a3)]) (st2 := [.int 64, .ref 109]) (w3 := sx_w0) rfl rfl ?_
    refine sx_RP.step (pc2 := 5) (ls2 := [(0, .ref 109), (1, .int 64), (2, .int a3)]) (st2 := []) (w3 := (sx_w0.set 109 (.inr (.inr (.inr (5, [.ref 110, .int 64, .int 0])))))) rfl rfl ?_
    refine sx_RP.step (pc2 := 6) (ls2 := [(0, .ref 109), (1, .int 64), (2, .int a3)]) (st2 := [.ref 109]) (w3 := (sx_w0.set 109 (.inr (.inr (.inr (5, [.ref 110, .int 64, .int 0])))))) rfl rfl ?_
    refine sx_RP.step (pc2 := 7) (ls2 := [(0, .ref 109), (1, .int 64), (2, .int a3)]) (st2 := [.int 64, .ref 109]) (w3 := (sx_w0.set 109 (.inr (.inr (.inr (5, [.ref 110, .int 64, .int 0])))))) rfl rfl ?_
    refine sx_RP.step (pc2 := 14) (ls2 := [(0, .ref 109), (1, .int 64), (2, .int a3)]) (st2 := [.ref 109]) (w3 := (sx_w0.set 109 (.inr (.inr (.inr (5, [.ref 110, .int 64, .int 0])))))) rfl rfl ?_
    refine sx_RP.step (pc2 := 15) (ls2 := [(0, .ref 109), (1, .int 64), (2, .int a3)]) (st2 := [.int a3, .ref 109]) (w3 := (sx_w0.set 109 (.inr (.inr (.inr (5, [.ref 110, .int 64, .int 0])))))) rfl rfl ?_
    refine sx_RP.step (pc2 := 18) (ls2 := [(0, .ref 109), (1, .int 64), (2, .int a3)]) (st2 := []) (w3 := (sx_w0.set 109 (.inr (.inr (.inr (5, [.ref 110, .int 64, .int a3])))))) rfl rfl ?_
    refine sx_RP.step (pc2 := 19) (ls2 := [(0, .ref 109), (1, .int 64), (2, .int a3)]) (st2 := [.int 0]) (w3 := (sx_w0.set 109 (.inr (.inr (.inr (5, [.ref 110, .int 64, .int a3])))))) rfl rfl ?_
    refine sx_RP.step (pc2 := 20) (ls2 := [(3, .int 0), (0, .ref 109), (1, .int 64), (2, .int a3)]) (st2 := []) (w3 := (sx_w0.set 109 (.inr (.inr (.inr (5, [.ref 110, .int 64, .int a3])))))) rfl rfl ?_
    refine sx_RP.wd (w2 := sx_h3 64 a3) rfl ?_
    exact cp_114L3 ys 64 a3 a3 40 0 (by omega)
  obtain ⟨r, w2, h1, rfl, rfl⟩ := h
  exact h1
set_option maxRecDepth 20000 in
set_option maxHeartbeats 4000000 in
theorem k_sheet_3_64 (ys : List Int32) (a3 : Int32) (p0 : 0 ≤ a3) (p1 : a3 ≤ 40) : sx_twoI ys 111 230 [.int 3, .int 64, .int a3] := by
  refine sx_twoI.of ?_
  refine sx_RP.step (pc2 := 1) (ls2 := [(0, .ref 0), (1, .int 3), (2, .int 64), (3, .int a3)]) (st2 := [.int 3]) (w3 := sx_w0) rfl rfl ?_
  refine sx_RP.cl (as2 := [.int 3]) (rest2 := []) rfl rfl rfl rfl rfl rfl ?_
  refine sx_RP.step (pc2 := 1) (ls2 := [(0, .int 3)]) (st2 := [.int 3]) (w3 := sx_w0) rfl rfl ?_
  refine sx_RP.step (pc2 := 2) (ls2 := [(0, .int 3)]) (st2 := [.int 0, .int 3]) (w3 := sx_w0) rfl rfl ?_
  refine sx_RP.step (pc2 := 3) (ls2 := [(0, .int 3)]) (st2 := [.int 3, .int 0, .int 3]) (w3 := sx_w0) rfl rfl ?_
  refine sx_RP.cl (as2 := [.int 3, .int 0, .int 3]) (rest2 := []) rfl rfl rfl rfl rfl rfl ?_
  refine sx_RP.step (pc2 := 1) (ls2 := [(0, .int 3), (1, .int 0), (2, .int 3)]) (st2 := [.int 3]) (w3 := sx_w0) rfl rfl ?_
  refine sx_RP.step (pc2 := 2) (ls2 := [(0, .int 3), (1, .int 0), (2, .int 3)]) (st2 := [.int 0, .int 3]) (w3 := sx_w0) rfl rfl ?_
  refine sx_RP.step (pc2 := 5) (ls2 := [(0, .int 3), (1, .int 0), (2, .int 3)]) (st2 := []) (w3 := sx_w0) rfl rfl ?_
  refine sx_RP.step (pc2 := 6) (ls2 := [(0, .int 3), (1, .int 0), (2, .int 3)]) (st2 := [.int 3]) (w3 := sx_w0) rfl rfl ?_
  refine sx_RP.step (pc2 := 7) (ls2 := [(0, .int 3), (1, .int 0), (2, .int 3)]) (st2 := [.int 3, .int 3]) (w3 := sx_w0) rfl rfl ?_
  refine sx_RP.step (pc2 := 10) (ls2 := [(0, .int 3), (1, .int 0), (2, .int 3)]) (st2 := []) (w3 := sx_w0) rfl rfl ?_
  refine sx_RP.step (pc2 := 11) (ls2 := [(0, .int 3), (1, .int 0), (2, .int 3)]) (st2 := [.int 1]) (w3 := sx_w0) rfl rfl ?_
  refine sx_RP.step (pc2 := 15) (ls2 := [(0, .int 3), (1, .int 0), (2, .int 3)]) (st2 := [.int 1]) (w3 := sx_w0) rfl rfl ?_
  refine sx_RP.retc (st3 := [.int 1]) rfl rfl rfl ?_
  refine sx_RP.retc (st3 := [.int 1]) rfl rfl rfl ?_
  refine sx_RP.step (pc2 := 7) (ls2 := [(0, .ref 0), (1, .int 3), (2, .int 64), (3, .int a3)]) (st2 := []) (w3 := sx_w0) rfl rfl ?_
  refine sx_RP.step (pc2 := 8) (ls2 := [(0, .ref 0), (1, .int 3), (2, .int 64), (3, .int a3)]) (st2 := [.int 64]) (w3 := sx_w0) rfl rfl ?_
  refine sx_RP.cl (as2 := [.int 64]) (rest2 := []) rfl rfl rfl rfl rfl rfl ?_
  refine sx_RP.step (pc2 := 1) (ls2 := [(0, .int 64)]) (st2 := [.int 64]) (w3 := sx_w0) rfl rfl ?_
  refine sx_RP.step (pc2 := 3) (ls2 := [(0, .int 64)]) (st2 := [.int 8, .int 64]) (w3 := sx_w0) rfl rfl ?_
  refine sx_RP.step (pc2 := 6) (ls2 := [(0, .int 64)]) (st2 := []) (w3 := sx_w0) rfl rfl ?_
  refine sx_RP.step (pc2 := 7) (ls2 := [(0, .int 64)]) (st2 := [.int 64]) (w3 := sx_w0) rfl rfl ?_
  refine sx_RP.step (pc2 := 9) (ls2 := [(0, .int 64)]) (st2 := [.int 16, .int 64]) (w3 := sx_w0) rfl rfl ?_
  refine sx_RP.step (pc2 := 12) (ls2 := [(0, .int 64)]) (st2 := []) (w3 := sx_w0) rfl rfl ?_
  refine sx_RP.step (pc2 := 13) (ls2 := [(0, .int 64)]) (st2 := [.int 64]) (w3 := sx_w0) rfl rfl ?_
  refine sx_RP.step (pc2 := 15) (ls2 := [(0, .int 64)]) (st2 := [.int 64, .int 64]) (w3 := sx_w0) rfl rfl ?_
  refine sx_RP.step (pc2 := 18) (ls2 := [(0, .int 64)]) (st2 := []) (w3 := sx_w0) rfl rfl ?_
  refine sx_RP.step (pc2 := 19) (ls2 := [(0, .int 64)]) (st2 := [.int 1]) (w3 := sx_w0) rfl rfl ?_
  refine sx_RP.step (pc2 := 23) (ls2 := [(0, .int 64)]) (st2 := [.int 1]) (w3 := sx_w0) rfl rfl ?_
  refine sx_RP.retc (st3 := [.int 1]) rfl rfl rfl ?_
  refine sx_RP.step (pc2 := 25) (ls2 := [(0, .ref 0), (1, .int 3), (2, .int 64), (3, .int a3)]) (st2 := []) (w3 := sx_w0) rfl rfl ?_
  refine sx_RP.step (pc2 := 26) (ls2 := [(0, .ref 0), (1, .int 3), (2, .int 64), (3, .int a3)]) (st2 := [.int a3]) (w3 := sx_w0) rfl rfl ?_
  refine sx_RP.br (p1 := 37) (l1 := [(0, .ref 0), (1, .int 3), (2, .int 64), (3, .int a3)]) (s1 := []) (v1 := sx_w0) rfl rfl (fun _ => ?_) (fun q => absurd p0 (of_decide_eq_false q))
  refine sx_RP.step (pc2 := 38) (ls2 := [(0, .ref 0), (1, .int 3), (2, .int 64), (3, .int a3)]) (st2 := [.int a3]) (w3 := sx_w0) rfl rfl ?_
  refine sx_RP.step (pc2 := 40) (ls2 := [(0, .ref 0), (1, .int 3), (2, .int 64), (3, .int a3)]) (st2 := [.int 40, .int a3]) (w3 := sx_w0) rfl rfl ?_
  refine sx_RP.br (p1 := 50) (l1 := [(0, .ref 0), (1, .int 3), (2, .int 64), (3, .int a3)]) (s1 := []) (v1 := sx_w0) rfl rfl (fun _ => ?_) (fun q => absurd p1 (of_decide_eq_false q))
  refine sx_RP.step (pc2 := 51) (ls2 := [(0, .ref 0), (1, .int 3), (2, .int 64), (3, .int a3)]) (st2 := [.ref 0]) (w3 := sx_w0) rfl rfl ?_
  refine sx_RP.step (pc2 := 54) (ls2 := [(0, .ref 0), (1, .int 3), (2, .int 64), (3, .int a3)]) (st2 := [.ref 98]) (w3 := sx_w0) rfl rfl ?_
  refine sx_RP.step (pc2 := 55) (ls2 := [(0, .ref 0), (1, .int 3), (2, .int 64), (3, .int a3)]) (st2 := [.int 3, .ref 98]) (w3 := sx_w0) rfl rfl ?_
  refine sx_RP.step (pc2 := 56) (ls2 := [(0, .ref 0), (1, .int 3), (2, .int 64), (3, .int a3)]) (st2 := [.ref 109]) (w3 := sx_w0) rfl rfl ?_
  refine sx_RP.step (pc2 := 57) (ls2 := [(0, .ref 0), (1, .int 3), (2, .int 64), (3, .int a3)]) (st2 := [.int 64, .ref 109]) (w3 := sx_w0) rfl rfl ?_
  refine sx_RP.step (pc2 := 58) (ls2 := [(0, .ref 0), (1, .int 3), (2, .int 64), (3, .int a3)]) (st2 := [.int a3, .int 64, .ref 109]) (w3 := sx_w0) rfl rfl ?_
  refine sx_RP.cu (as := [.ref 109, .int 64, .int a3]) (rest2 := []) (st3 := []) rfl rfl rfl rfl rfl (cp_114_3_64 ys a3) rfl ?_
  refine sx_RP.step (pc2 := 62) (ls2 := [(0, .ref 0), (1, .int 3), (2, .int 64), (3, .int a3)]) (st2 := [.ref 0]) (w3 := (sx_h3 64 a3)) rfl rfl ?_
  refine sx_RP.step (pc2 := 65) (ls2 := [(0, .ref 0), (1, .int 3), (2, .int 64), (3, .int a3)]) (st2 := [.ref 98]) (w3 := (sx_h3 64 a3)) rfl rfl ?_
  refine sx_RP.step (pc2 := 66) (ls2 := [(0, .ref 0), (1, .int 3), (2, .int 64), (3, .int a3)]) (st2 := [.int 3, .ref 98]) (w3 := (sx_h3 64 a3)) rfl rfl ?_
  refine sx_RP.step (pc2 := 67) (ls2 := [(0, .ref 0), (1, .int 3), (2, .int 64), (3, .int a3)]) (st2 := [.ref 109]) (w3 := (sx_h3 64 a3)) rfl rfl ?_
  refine sx_RP.step (pc2 := 70) (ls2 := [(0, .ref 0), (1, .int 3), (2, .int 64), (3, .int a3)]) (st2 := [.int a3]) (w3 := (sx_h3 64 a3)) rfl rfl ?_
  refine sx_RP.ret rfl rfl ?_
  refine ⟨a3, rfl, ⟨_, rfl⟩, ?_⟩
  refine sx_RP.step (pc2 := 1) (ls2 := [(0, .ref 111), (1, .int 3), (2, .int 64), (3, .int a3)]) (st2 := [.int 3]) (w3 := (sx_h3 64 a3)) rfl rfl ?_
  refine sx_RP.cl (as2 := [.int 3]) (rest2 := []) rfl rfl rfl rfl rfl rfl ?_
  refine sx_RP.step (pc2 := 1) (ls2 := [(0, .int 3)]) (st2 := [.int 3]) (w3 := (sx_h3 64 a3)) rfl rfl ?_
  refine sx_RP.step (pc2 := 2) (ls2 := [(0, .int 3)]) (st2 := [.int 0, .int 3]) (w3 := (sx_h3 64 a3)) rfl rfl ?_
  refine sx_RP.step (pc2 := 3) (ls2 := [(0, .int 3)]) (st2 := [.int 3, .int 0, .int 3]) (w3 := (sx_h3 64 a3)) rfl rfl ?_
  refine sx_RP.cl (as2 := [.int 3, .int 0, .int 3]) (rest2 := []) rfl rfl rfl rfl rfl rfl ?_
  refine sx_RP.step (pc2 := 1) (ls2 := [(0, .int 3), (1, .int 0), (2, .int 3)]) (st2 := [.int 3]) (w3 := (sx_h3 64 a3)) rfl rfl ?_
  refine sx_RP.step (pc2 := 2) (ls2 := [(0, .int 3), (1, .int 0), (2, .int 3)]) (st2 := [.int 0, .int 3]) (w3 := (sx_h3 64 a3)) rfl rfl ?_
  refine sx_RP.step (pc2 := 5) (ls2 := [(0, .int 3), (1, .int 0), (2, .int 3)]) (st2 := []) (w3 := (sx_h3 64 a3)) rfl rfl ?_
  refine sx_RP.step (pc2 := 6) (ls2 := [(0, .int 3), (1, .int 0), (2, .int 3)]) (st2 := [.int 3]) (w3 := (sx_h3 64 a3)) rfl rfl ?_
  refine sx_RP.step (pc2 := 7) (ls2 := [(0, .int 3), (1, .int 0), (2, .int 3)]) (st2 := [.int 3, .int 3]) (w3 := (sx_h3 64 a3)) rfl rfl ?_
  refine sx_RP.step (pc2 := 10) (ls2 := [(0, .int 3), (1, .int 0), (2, .int 3)]) (st2 := []) (w3 := (sx_h3 64 a3)) rfl rfl ?_
  refine sx_RP.step (pc2 := 11) (ls2 := [(0, .int 3), (1, .int 0), (2, .int 3)]) (st2 := [.int 1]) (w3 := (sx_h3 64 a3)) rfl rfl ?_
  refine sx_RP.step (pc2 := 15) (ls2 := [(0, .int 3), (1, .int 0), (2, .int 3)]) (st2 := [.int 1]) (w3 := (sx_h3 64 a3)) rfl rfl ?_
  refine sx_RP.retc (st3 := [.int 1]) rfl rfl rfl ?_
  refine sx_RP.retc (st3 := [.int 1]) rfl rfl rfl ?_
  refine sx_RP.step (pc2 := 7) (ls2 := [(0, .ref 111), (1, .int 3), (2, .int 64), (3, .int a3)]) (st2 := []) (w3 := (sx_h3 64 a3)) rfl rfl ?_
  refine sx_RP.step (pc2 := 8) (ls2 := [(0, .ref 111), (1, .int 3), (2, .int 64), (3, .int a3)]) (st2 := [.int 64]) (w3 := (sx_h3 64 a3)) rfl rfl ?_
  refine sx_RP.step (pc2 := 11) (ls2 := [(0, .ref 111), (1, .int 3), (2, .int 64), (3, .int a3)]) (st2 := []) (w3 := (sx_h3 64 a3)) rfl rfl ?_
  refine sx_RP.step (pc2 := 12) (ls2 := [(0, .ref 111), (1, .int 3), (2, .int 64), (3, .int a3)]) (st2 := [.int 64]) (w3 := (sx_h3 64 a3)) rfl rfl ?_
  refine sx_RP.step (pc2 := 14) (ls2 := [(0, .ref 111), (1, .int 3), (2, .int 64), (3, .int a3)]) (st2 := [.int 8, .int 64]) (w3 := (sx_h3 64 a3)) rfl rfl ?_
  refine sx_RP.step (pc2 := 17) (ls2 := [(0, .ref 111), (1, .int 3), (2, .int 64), (3, .int a3)]) (st2 := []) (w3 := (sx_h3 64 a3)) rfl rfl ?_
  refine sx_RP.step (pc2 := 18) (ls2 := [(0, .ref 111), (1, .int 3), (2, .int 64), (3, .int a3)]) (st2 := [.int 64]) (w3 := (sx_h3 64 a3)) rfl rfl ?_
  refine sx_RP.step (pc2 := 20) (ls2 := [(0, .ref 111), (1, .int 3), (2, .int 64), (3, .int a3)]) (st2 := [.int 16, .int 64]) (w3 := (sx_h3 64 a3)) rfl rfl ?_
  refine sx_RP.step (pc2 := 23) (ls2 := [(0, .ref 111), (1, .int 3), (2, .int 64), (3, .int a3)]) (st2 := []) (w3 := (sx_h3 64 a3)) rfl rfl ?_
  refine sx_RP.step (pc2 := 24) (ls2 := [(0, .ref 111), (1, .int 3), (2, .int 64), (3, .int a3)]) (st2 := [.int 64]) (w3 := (sx_h3 64 a3)) rfl rfl ?_
  refine sx_RP.step (pc2 := 26) (ls2 := [(0, .ref 111), (1, .int 3), (2, .int 64), (3, .int a3)]) (st2 := [.int 64, .int 64]) (w3 := (sx_h3 64 a3)) rfl rfl ?_
  refine sx_RP.step (pc2 := 35) (ls2 := [(0, .ref 111), (1, .int 3), (2, .int 64), (3, .int a3)]) (st2 := []) (w3 := (sx_h3 64 a3)) rfl rfl ?_
  refine sx_RP.step (pc2 := 36) (ls2 := [(0, .ref 111), (1, .int 3), (2, .int 64), (3, .int a3)]) (st2 := [.int a3]) (w3 := (sx_h3 64 a3)) rfl rfl ?_
  refine sx_RP.br (p1 := 46) (l1 := [(0, .ref 111), (1, .int 3), (2, .int 64), (3, .int a3)]) (s1 := []) (v1 := (sx_h3 64 a3)) rfl rfl (fun _ => ?_) (fun q => absurd p0 (of_decide_eq_false q))
  refine sx_RP.step (pc2 := 47) (ls2 := [(0, .ref 111), (1, .int 3), (2, .int 64), (3, .int a3)]) (st2 := [.int a3]) (w3 := (sx_h3 64 a3)) rfl rfl ?_
  refine sx_RP.step (pc2 := 49) (ls2 := [(0, .ref 111), (1, .int 3), (2, .int 64), (3, .int a3)]) (st2 := [.int 40, .int a3]) (w3 := (sx_h3 64 a3)) rfl rfl ?_
  refine sx_RP.br (p1 := 58) (l1 := [(0, .ref 111), (1, .int 3), (2, .int 64), (3, .int a3)]) (s1 := []) (v1 := (sx_h3 64 a3)) rfl rfl (fun _ => ?_) (fun q => absurd p1 (of_decide_eq_false q))
  refine sx_RP.step (pc2 := 59) (ls2 := [(0, .ref 111), (1, .int 3), (2, .int 64), (3, .int a3)]) (st2 := [.ref 111]) (w3 := (sx_h3 64 a3)) rfl rfl ?_
  refine sx_RP.step (pc2 := 62) (ls2 := [(0, .ref 111), (1, .int 3), (2, .int 64), (3, .int a3)]) (st2 := [.ref 122]) (w3 := (sx_h3 64 a3)) rfl rfl ?_
  refine sx_RP.step (pc2 := 63) (ls2 := [(0, .ref 111), (1, .int 3), (2, .int 64), (3, .int a3)]) (st2 := [.int 3, .ref 122]) (w3 := (sx_h3 64 a3)) rfl rfl ?_
  refine sx_RP.step (pc2 := 64) (ls2 := [(0, .ref 111), (1, .int 3), (2, .int 64), (3, .int a3)]) (st2 := [.int 64, .int 3, .ref 122]) (w3 := (sx_h3 64 a3)) rfl rfl ?_
  refine sx_RP.step (pc2 := 65) (ls2 := [(0, .ref 111), (1, .int 3), (2, .int 64), (3, .int a3)]) (st2 := []) (w3 := ((sx_h3 64 a3).set 122 (.inl (0, [0, 0, 0, 64])))) rfl rfl ?_
  refine sx_RP.step (pc2 := 66) (ls2 := [(0, .ref 111), (1, .int 3), (2, .int 64), (3, .int a3)]) (st2 := [.ref 111]) (w3 := ((sx_h3 64 a3).set 122 (.inl (0, [0, 0, 0, 64])))) rfl rfl ?_
  refine sx_RP.step (pc2 := 69) (ls2 := [(0, .ref 111), (1, .int 3), (2, .int 64), (3, .int a3)]) (st2 := [.ref 123]) (w3 := ((sx_h3 64 a3).set 122 (.inl (0, [0, 0, 0, 64])))) rfl rfl ?_
  refine sx_RP.step (pc2 := 70) (ls2 := [(0, .ref 111), (1, .int 3), (2, .int 64), (3, .int a3)]) (st2 := [.int 3, .ref 123]) (w3 := ((sx_h3 64 a3).set 122 (.inl (0, [0, 0, 0, 64])))) rfl rfl ?_
  refine sx_RP.step (pc2 := 71) (ls2 := [(0, .ref 111), (1, .int 3), (2, .int 64), (3, .int a3)]) (st2 := [.int 64, .int 3, .ref 123]) (w3 := ((sx_h3 64 a3).set 122 (.inl (0, [0, 0, 0, 64])))) rfl rfl ?_
  refine sx_RP.step (pc2 := 78) (ls2 := [(0, .ref 111), (1, .int 3), (2, .int 64), (3, .int a3)]) (st2 := [.int 3, .ref 123]) (w3 := ((sx_h3 64 a3).set 122 (.inl (0, [0, 0, 0, 64])))) rfl rfl ?_
  refine sx_RP.step (pc2 := 79) (ls2 := [(0, .ref 111), (1, .int 3), (2, .int 64), (3, .int a3)]) (st2 := [.int a3, .int 3, .ref 123]) (w3 := ((sx_h3 64 a3).set 122 (.inl (0, [0, 0, 0, 64])))) rfl rfl ?_
  refine sx_RP.step (pc2 := 80) (ls2 := [(0, .ref 111), (1, .int 3), (2, .int 64), (3, .int a3)]) (st2 := []) (w3 := (((sx_h3 64 a3).set 122 (.inl (0, [0, 0, 0, 64]))).set 123 (.inl (0, [0, 0, 0, a3])))) rfl rfl ?_
  refine sx_RP.step (pc2 := 81) (ls2 := [(0, .ref 111), (1, .int 3), (2, .int 64), (3, .int a3)]) (st2 := [.int 0]) (w3 := (((sx_h3 64 a3).set 122 (.inl (0, [0, 0, 0, 64]))).set 123 (.inl (0, [0, 0, 0, a3])))) rfl rfl ?_
  refine sx_RP.step (pc2 := 83) (ls2 := [(4, .int 0), (0, .ref 111), (1, .int 3), (2, .int 64), (3, .int a3)]) (st2 := []) (w3 := (((sx_h3 64 a3).set 122 (.inl (0, [0, 0, 0, 64]))).set 123 (.inl (0, [0, 0, 0, a3])))) rfl rfl ?_
  refine sx_RP.wd (w2 := sx_g3 64 a3) rfl ?_
  exact cp_230L3 ys 64 a3 a3 40 0 (by omega)
set_option maxRecDepth 20000 in
set_option maxHeartbeats 4000000 in
theorem k_sheet_s (ys : List Int32) (a1 a2 a3 : Int32) (n0 : ¬ (0 ≤ a1 ∧ a1 ≤ 3)) : sx_twoI ys 111 230 [.int a1, .int a2, .int a3] := by
  refine sx_twoI.of ?_
  refine sx_RP.step (pc2 := 1) (ls2 := [(0, .ref 0), (1, .int a1), (2, .int a2), (3, .int a3)]) (st2 := [.int a1]) (w3 := sx_w0) rfl rfl ?_
  refine sx_RP.cu (as := [.int a1]) (rest2 := []) (st3 := [.int 0]) rfl rfl rfl rfl rfl (cx_112q n0) rfl ?_
  refine sx_RP.step (pc2 := 18) (ls2 := [(0, .ref 0), (1, .int a1), (2, .int a2), (3, .int a3)]) (st2 := []) (w3 := sx_w0) rfl rfl ?_
  refine sx_RP.step (pc2 := 19) (ls2 := [(0, .ref 0), (1, .int a1), (2, .int a2), (3, .int a3)]) (st2 := [.ref 0]) (w3 := sx_w0) rfl rfl ?_
  refine sx_RP.step (pc2 := 21) (ls2 := [(0, .ref 0), (1, .int a1), (2, .int a2), (3, .int a3)]) (st2 := [.int (-1000000001), .ref 0]) (w3 := sx_w0) rfl rfl ?_
  refine sx_RP.cu (as := [.ref 0, .int (-1000000001)]) (rest2 := []) (st3 := [.int (-1000000001)]) rfl rfl rfl rfl rfl (cf_B _) rfl ?_
  refine sx_RP.ret rfl rfl ?_
  refine ⟨(-1000000001), rfl, ⟨_, rfl⟩, ?_⟩
  refine sx_RP.step (pc2 := 1) (ls2 := [(0, .ref 111), (1, .int a1), (2, .int a2), (3, .int a3)]) (st2 := [.int a1]) (w3 := sx_vB) rfl rfl ?_
  refine sx_RP.cu (as := [.int a1]) (rest2 := []) (st3 := [.int 0]) rfl rfl rfl rfl rfl (cx_231q n0) rfl ?_
  refine sx_RP.step (pc2 := 29) (ls2 := [(0, .ref 111), (1, .int a1), (2, .int a2), (3, .int a3)]) (st2 := []) (w3 := sx_vB) rfl rfl ?_
  refine sx_RP.step (pc2 := 30) (ls2 := [(0, .ref 111), (1, .int a1), (2, .int a2), (3, .int a3)]) (st2 := [.ref 111]) (w3 := sx_vB) rfl rfl ?_
  refine sx_RP.step (pc2 := 31) (ls2 := [(0, .ref 111), (1, .int a1), (2, .int a2), (3, .int a3)]) (st2 := [.int 0, .ref 111]) (w3 := sx_vB) rfl rfl ?_
  refine sx_RP.cu (as := [.ref 111, .int 0]) (rest2 := []) (st3 := [.int (-1000000001)]) rfl rfl rfl rfl rfl (cn_B _) rfl ?_
  refine sx_RP.ret rfl rfl ?_
  rfl
set_option maxRecDepth 20000 in
set_option maxHeartbeats 4000000 in
theorem k_sheet_b (ys : List Int32) (a1 a2 a3 : Int32) (p0 : 0 ≤ a1 ∧ a1 ≤ 3) (m0 : ¬ a2 = 0) (m1 : ¬ a2 = 8) (m2 : ¬ a2 = 16) (m3 : ¬ a2 = 64) : sx_twoI ys 111 230 [.int a1, .int a2, .int a3] := by
  refine sx_twoI.of ?_
  refine sx_RP.step (pc2 := 1) (ls2 := [(0, .ref 0), (1, .int a1), (2, .int a2), (3, .int a3)]) (st2 := [.int a1]) (w3 := sx_w0) rfl rfl ?_
  refine sx_RP.cu (as := [.int a1]) (rest2 := []) (st3 := [.int 1]) rfl rfl rfl rfl rfl (cx_112p p0) rfl ?_
  refine sx_RP.step (pc2 := 7) (ls2 := [(0, .ref 0), (1, .int a1), (2, .int a2), (3, .int a3)]) (st2 := []) (w3 := sx_w0) rfl rfl ?_
  refine sx_RP.step (pc2 := 8) (ls2 := [(0, .ref 0), (1, .int a1), (2, .int a2), (3, .int a3)]) (st2 := [.int a2]) (w3 := sx_w0) rfl rfl ?_
  refine sx_RP.cl (as2 := [.int a2]) (rest2 := []) rfl rfl rfl rfl rfl rfl ?_
  refine sx_RP.step (pc2 := 1) (ls2 := [(0, .int a2)]) (st2 := [.int a2]) (w3 := sx_w0) rfl rfl ?_
  refine sx_RP.step (pc2 := 3) (ls2 := [(0, .int a2)]) (st2 := [.int 8, .int a2]) (w3 := sx_w0) rfl rfl ?_
  refine sx_RP.br (p2 := 6) (l2 := [(0, .int a2)]) (s2 := []) (v2 := sx_w0) rfl rfl (fun q => absurd (of_decide_eq_true q) m1) (fun _ => ?_)
  refine sx_RP.step (pc2 := 7) (ls2 := [(0, .int a2)]) (st2 := [.int a2]) (w3 := sx_w0) rfl rfl ?_
  refine sx_RP.step (pc2 := 9) (ls2 := [(0, .int a2)]) (st2 := [.int 16, .int a2]) (w3 := sx_w0) rfl rfl ?_
  refine sx_RP.br (p2 := 12) (l2 := [(0, .int a2)]) (s2 := []) (v2 := sx_w0) rfl rfl (fun q => absurd (of_decide_eq_true q) m2) (fun _ => ?_)
  refine sx_RP.step (pc2 := 13) (ls2 := [(0, .int a2)]) (st2 := [.int a2]) (w3 := sx_w0) rfl rfl ?_
  refine sx_RP.step (pc2 := 15) (ls2 := [(0, .int a2)]) (st2 := [.int 64, .int a2]) (w3 := sx_w0) rfl rfl ?_
  refine sx_RP.br (p1 := 22) (l1 := [(0, .int a2)]) (s1 := []) (v1 := sx_w0) rfl rfl (fun _ => ?_) (fun q => absurd m3 (of_decide_eq_false q))
  refine sx_RP.step (pc2 := 23) (ls2 := [(0, .int a2)]) (st2 := [.int 0]) (w3 := sx_w0) rfl rfl ?_
  refine sx_RP.retc (st3 := [.int 0]) rfl rfl rfl ?_
  refine sx_RP.step (pc2 := 14) (ls2 := [(0, .ref 0), (1, .int a1), (2, .int a2), (3, .int a3)]) (st2 := []) (w3 := sx_w0) rfl rfl ?_
  refine sx_RP.step (pc2 := 15) (ls2 := [(0, .ref 0), (1, .int a1), (2, .int a2), (3, .int a3)]) (st2 := [.int a2]) (w3 := sx_w0) rfl rfl ?_
  refine sx_RP.br (p2 := 18) (l2 := [(0, .ref 0), (1, .int a1), (2, .int a2), (3, .int a3)]) (s2 := []) (v2 := sx_w0) rfl rfl (fun q => absurd (of_decide_eq_true q) m0) (fun _ => ?_)
  refine sx_RP.step (pc2 := 19) (ls2 := [(0, .ref 0), (1, .int a1), (2, .int a2), (3, .int a3)]) (st2 := [.ref 0]) (w3 := sx_w0) rfl rfl ?_
  refine sx_RP.step (pc2 := 21) (ls2 := [(0, .ref 0), (1, .int a1), (2, .int a2), (3, .int a3)]) (st2 := [.int (-1000000001), .ref 0]) (w3 := sx_w0) rfl rfl ?_
  refine sx_RP.cu (as := [.ref 0, .int (-1000000001)]) (rest2 := []) (st3 := [.int (-1000000001)]) rfl rfl rfl rfl rfl (cf_B _) rfl ?_
  refine sx_RP.ret rfl rfl ?_
  refine ⟨(-1000000001), rfl, ⟨_, rfl⟩, ?_⟩
  refine sx_RP.step (pc2 := 1) (ls2 := [(0, .ref 111), (1, .int a1), (2, .int a2), (3, .int a3)]) (st2 := [.int a1]) (w3 := sx_vB) rfl rfl ?_
  refine sx_RP.cu (as := [.int a1]) (rest2 := []) (st3 := [.int 1]) rfl rfl rfl rfl rfl (cx_231p p0) rfl ?_
  refine sx_RP.step (pc2 := 7) (ls2 := [(0, .ref 111), (1, .int a1), (2, .int a2), (3, .int a3)]) (st2 := []) (w3 := sx_vB) rfl rfl ?_
  refine sx_RP.step (pc2 := 8) (ls2 := [(0, .ref 111), (1, .int a1), (2, .int a2), (3, .int a3)]) (st2 := [.int a2]) (w3 := sx_vB) rfl rfl ?_
  refine sx_RP.br (p2 := 11) (l2 := [(0, .ref 111), (1, .int a1), (2, .int a2), (3, .int a3)]) (s2 := []) (v2 := sx_vB) rfl rfl (fun q => absurd (of_decide_eq_true q) m0) (fun _ => ?_)
  refine sx_RP.step (pc2 := 12) (ls2 := [(0, .ref 111), (1, .int a1), (2, .int a2), (3, .int a3)]) (st2 := [.int a2]) (w3 := sx_vB) rfl rfl ?_
  refine sx_RP.step (pc2 := 14) (ls2 := [(0, .ref 111), (1, .int a1), (2, .int a2), (3, .int a3)]) (st2 := [.int 8, .int a2]) (w3 := sx_vB) rfl rfl ?_
  refine sx_RP.br (p2 := 17) (l2 := [(0, .ref 111), (1, .int a1), (2, .int a2), (3, .int a3)]) (s2 := []) (v2 := sx_vB) rfl rfl (fun q => absurd (of_decide_eq_true q) m1) (fun _ => ?_)
  refine sx_RP.step (pc2 := 18) (ls2 := [(0, .ref 111), (1, .int a1), (2, .int a2), (3, .int a3)]) (st2 := [.int a2]) (w3 := sx_vB) rfl rfl ?_
  refine sx_RP.step (pc2 := 20) (ls2 := [(0, .ref 111), (1, .int a1), (2, .int a2), (3, .int a3)]) (st2 := [.int 16, .int a2]) (w3 := sx_vB) rfl rfl ?_
  refine sx_RP.br (p2 := 23) (l2 := [(0, .ref 111), (1, .int a1), (2, .int a2), (3, .int a3)]) (s2 := []) (v2 := sx_vB) rfl rfl (fun q => absurd (of_decide_eq_true q) m2) (fun _ => ?_)
  refine sx_RP.step (pc2 := 24) (ls2 := [(0, .ref 111), (1, .int a1), (2, .int a2), (3, .int a3)]) (st2 := [.int a2]) (w3 := sx_vB) rfl rfl ?_
  refine sx_RP.step (pc2 := 26) (ls2 := [(0, .ref 111), (1, .int a1), (2, .int a2), (3, .int a3)]) (st2 := [.int 64, .int a2]) (w3 := sx_vB) rfl rfl ?_
  refine sx_RP.br (p2 := 29) (l2 := [(0, .ref 111), (1, .int a1), (2, .int a2), (3, .int a3)]) (s2 := []) (v2 := sx_vB) rfl rfl (fun q => absurd (of_decide_eq_true q) m3) (fun _ => ?_)
  refine sx_RP.step (pc2 := 30) (ls2 := [(0, .ref 111), (1, .int a1), (2, .int a2), (3, .int a3)]) (st2 := [.ref 111]) (w3 := sx_vB) rfl rfl ?_
  refine sx_RP.step (pc2 := 31) (ls2 := [(0, .ref 111), (1, .int a1), (2, .int a2), (3, .int a3)]) (st2 := [.int 0, .ref 111]) (w3 := sx_vB) rfl rfl ?_
  refine sx_RP.cu (as := [.ref 111, .int 0]) (rest2 := []) (st3 := [.int (-1000000001)]) rfl rfl rfl rfl rfl (cn_B _) rfl ?_
  refine sx_RP.ret rfl rfl ?_
  rfl
set_option maxRecDepth 20000 in
set_option maxHeartbeats 4000000 in
theorem k_sheet_z_0 (ys : List Int32) (a1 a3 : Int32) (p0 : 0 ≤ a1 ∧ a1 ≤ 3) (n0 : ¬ 0 ≤ a3) : sx_twoI ys 111 230 [.int a1, .int 0, .int a3] := by
  refine sx_twoI.of ?_
  refine sx_RP.step (pc2 := 1) (ls2 := [(0, .ref 0), (1, .int a1), (2, .int 0), (3, .int a3)]) (st2 := [.int a1]) (w3 := sx_w0) rfl rfl ?_
  refine sx_RP.cu (as := [.int a1]) (rest2 := []) (st3 := [.int 1]) rfl rfl rfl rfl rfl (cx_112p p0) rfl ?_
  refine sx_RP.step (pc2 := 7) (ls2 := [(0, .ref 0), (1, .int a1), (2, .int 0), (3, .int a3)]) (st2 := []) (w3 := sx_w0) rfl rfl ?_
  refine sx_RP.step (pc2 := 8) (ls2 := [(0, .ref 0), (1, .int a1), (2, .int 0), (3, .int a3)]) (st2 := [.int 0]) (w3 := sx_w0) rfl rfl ?_
  refine sx_RP.cl (as2 := [.int 0]) (rest2 := []) rfl rfl rfl rfl rfl rfl ?_
  refine sx_RP.step (pc2 := 1) (ls2 := [(0, .int 0)]) (st2 := [.int 0]) (w3 := sx_w0) rfl rfl ?_
  refine sx_RP.step (pc2 := 3) (ls2 := [(0, .int 0)]) (st2 := [.int 8, .int 0]) (w3 := sx_w0) rfl rfl ?_
  refine sx_RP.step (pc2 := 6) (ls2 := [(0, .int 0)]) (st2 := []) (w3 := sx_w0) rfl rfl ?_
  refine sx_RP.step (pc2 := 7) (ls2 := [(0, .int 0)]) (st2 := [.int 0]) (w3 := sx_w0) rfl rfl ?_
  refine sx_RP.step (pc2 := 9) (ls2 := [(0, .int 0)]) (st2 := [.int 16, .int 0]) (w3 := sx_w0) rfl rfl ?_
  refine sx_RP.step (pc2 := 12) (ls2 := [(0, .int 0)]) (st2 := []) (w3 := sx_w0) rfl rfl ?_
  refine sx_RP.step (pc2 := 13) (ls2 := [(0, .int 0)]) (st2 := [.int 0]) (w3 := sx_w0) rfl rfl ?_
  refine sx_RP.step (pc2 := 15) (ls2 := [(0, .int 0)]) (st2 := [.int 64, .int 0]) (w3 := sx_w0) rfl rfl ?_
  refine sx_RP.step (pc2 := 22) (ls2 := [(0, .int 0)]) (st2 := []) (w3 := sx_w0) rfl rfl ?_
  refine sx_RP.step (pc2 := 23) (ls2 := [(0, .int 0)]) (st2 := [.int 0]) (w3 := sx_w0) rfl rfl ?_
  refine sx_RP.retc (st3 := [.int 0]) rfl rfl rfl ?_
  refine sx_RP.step (pc2 := 14) (ls2 := [(0, .ref 0), (1, .int a1), (2, .int 0), (3, .int a3)]) (st2 := []) (w3 := sx_w0) rfl rfl ?_
  refine sx_RP.step (pc2 := 15) (ls2 := [(0, .ref 0), (1, .int a1), (2, .int 0), (3, .int a3)]) (st2 := [.int 0]) (w3 := sx_w0) rfl rfl ?_
  refine sx_RP.step (pc2 := 25) (ls2 := [(0, .ref 0), (1, .int a1), (2, .int 0), (3, .int a3)]) (st2 := []) (w3 := sx_w0) rfl rfl ?_
  refine sx_RP.step (pc2 := 26) (ls2 := [(0, .ref 0), (1, .int a1), (2, .int 0), (3, .int a3)]) (st2 := [.int a3]) (w3 := sx_w0) rfl rfl ?_
  refine sx_RP.br (p2 := 29) (l2 := [(0, .ref 0), (1, .int a1), (2, .int 0), (3, .int a3)]) (s2 := []) (v2 := sx_w0) rfl rfl (fun q => absurd (of_decide_eq_true q) n0) (fun _ => ?_)
  refine sx_RP.step (pc2 := 30) (ls2 := [(0, .ref 0), (1, .int a1), (2, .int 0), (3, .int a3)]) (st2 := [.ref 0]) (w3 := sx_w0) rfl rfl ?_
  refine sx_RP.step (pc2 := 33) (ls2 := [(0, .ref 0), (1, .int a1), (2, .int 0), (3, .int a3)]) (st2 := [.int (-1000000007), .ref 0]) (w3 := sx_w0) rfl rfl ?_
  refine sx_RP.cu (as := [.ref 0, .int (-1000000007)]) (rest2 := []) (st3 := [.int (-1000000007)]) rfl rfl rfl rfl rfl (cf_Z _) rfl ?_
  refine sx_RP.ret rfl rfl ?_
  refine ⟨(-1000000007), rfl, ⟨_, rfl⟩, ?_⟩
  refine sx_RP.step (pc2 := 1) (ls2 := [(0, .ref 111), (1, .int a1), (2, .int 0), (3, .int a3)]) (st2 := [.int a1]) (w3 := sx_vZ) rfl rfl ?_
  refine sx_RP.cu (as := [.int a1]) (rest2 := []) (st3 := [.int 1]) rfl rfl rfl rfl rfl (cx_231p p0) rfl ?_
  refine sx_RP.step (pc2 := 7) (ls2 := [(0, .ref 111), (1, .int a1), (2, .int 0), (3, .int a3)]) (st2 := []) (w3 := sx_vZ) rfl rfl ?_
  refine sx_RP.step (pc2 := 8) (ls2 := [(0, .ref 111), (1, .int a1), (2, .int 0), (3, .int a3)]) (st2 := [.int 0]) (w3 := sx_vZ) rfl rfl ?_
  refine sx_RP.step (pc2 := 35) (ls2 := [(0, .ref 111), (1, .int a1), (2, .int 0), (3, .int a3)]) (st2 := []) (w3 := sx_vZ) rfl rfl ?_
  refine sx_RP.step (pc2 := 36) (ls2 := [(0, .ref 111), (1, .int a1), (2, .int 0), (3, .int a3)]) (st2 := [.int a3]) (w3 := sx_vZ) rfl rfl ?_
  refine sx_RP.br (p2 := 39) (l2 := [(0, .ref 111), (1, .int a1), (2, .int 0), (3, .int a3)]) (s2 := []) (v2 := sx_vZ) rfl rfl (fun q => absurd (of_decide_eq_true q) n0) (fun _ => ?_)
  refine sx_RP.step (pc2 := 40) (ls2 := [(0, .ref 111), (1, .int a1), (2, .int 0), (3, .int a3)]) (st2 := [.ref 111]) (w3 := sx_vZ) rfl rfl ?_
  refine sx_RP.step (pc2 := 42) (ls2 := [(0, .ref 111), (1, .int a1), (2, .int 0), (3, .int a3)]) (st2 := [.int 6, .ref 111]) (w3 := sx_vZ) rfl rfl ?_
  refine sx_RP.cu (as := [.ref 111, .int 6]) (rest2 := []) (st3 := [.int (-1000000007)]) rfl rfl rfl rfl rfl (cn_Z _) rfl ?_
  refine sx_RP.ret rfl rfl ?_
  rfl
set_option maxRecDepth 20000 in
set_option maxHeartbeats 4000000 in
theorem k_sheet_m_0 (ys : List Int32) (a1 a3 : Int32) (p0 : 0 ≤ a1 ∧ a1 ≤ 3) (p1 : 0 ≤ a3) (n0 : ¬ a3 ≤ 40) : sx_twoI ys 111 230 [.int a1, .int 0, .int a3] := by
  refine sx_twoI.of ?_
  refine sx_RP.step (pc2 := 1) (ls2 := [(0, .ref 0), (1, .int a1), (2, .int 0), (3, .int a3)]) (st2 := [.int a1]) (w3 := sx_w0) rfl rfl ?_
  refine sx_RP.cu (as := [.int a1]) (rest2 := []) (st3 := [.int 1]) rfl rfl rfl rfl rfl (cx_112p p0) rfl ?_
  refine sx_RP.step (pc2 := 7) (ls2 := [(0, .ref 0), (1, .int a1), (2, .int 0), (3, .int a3)]) (st2 := []) (w3 := sx_w0) rfl rfl ?_
  refine sx_RP.step (pc2 := 8) (ls2 := [(0, .ref 0), (1, .int a1), (2, .int 0), (3, .int a3)]) (st2 := [.int 0]) (w3 := sx_w0) rfl rfl ?_
  refine sx_RP.cl (as2 := [.int 0]) (rest2 := []) rfl rfl rfl rfl rfl rfl ?_
  refine sx_RP.step (pc2 := 1) (ls2 := [(0, .int 0)]) (st2 := [.int 0]) (w3 := sx_w0) rfl rfl ?_
  refine sx_RP.step (pc2 := 3) (ls2 := [(0, .int 0)]) (st2 := [.int 8, .int 0]) (w3 := sx_w0) rfl rfl ?_
  refine sx_RP.step (pc2 := 6) (ls2 := [(0, .int 0)]) (st2 := []) (w3 := sx_w0) rfl rfl ?_
  refine sx_RP.step (pc2 := 7) (ls2 := [(0, .int 0)]) (st2 := [.int 0]) (w3 := sx_w0) rfl rfl ?_
  refine sx_RP.step (pc2 := 9) (ls2 := [(0, .int 0)]) (st2 := [.int 16, .int 0]) (w3 := sx_w0) rfl rfl ?_
  refine sx_RP.step (pc2 := 12) (ls2 := [(0, .int 0)]) (st2 := []) (w3 := sx_w0) rfl rfl ?_
  refine sx_RP.step (pc2 := 13) (ls2 := [(0, .int 0)]) (st2 := [.int 0]) (w3 := sx_w0) rfl rfl ?_
  refine sx_RP.step (pc2 := 15) (ls2 := [(0, .int 0)]) (st2 := [.int 64, .int 0]) (w3 := sx_w0) rfl rfl ?_
  refine sx_RP.step (pc2 := 22) (ls2 := [(0, .int 0)]) (st2 := []) (w3 := sx_w0) rfl rfl ?_
  refine sx_RP.step (pc2 := 23) (ls2 := [(0, .int 0)]) (st2 := [.int 0]) (w3 := sx_w0) rfl rfl ?_
  refine sx_RP.retc (st3 := [.int 0]) rfl rfl rfl ?_
  refine sx_RP.step (pc2 := 14) (ls2 := [(0, .ref 0), (1, .int a1), (2, .int 0), (3, .int a3)]) (st2 := []) (w3 := sx_w0) rfl rfl ?_
  refine sx_RP.step (pc2 := 15) (ls2 := [(0, .ref 0), (1, .int a1), (2, .int 0), (3, .int a3)]) (st2 := [.int 0]) (w3 := sx_w0) rfl rfl ?_
  refine sx_RP.step (pc2 := 25) (ls2 := [(0, .ref 0), (1, .int a1), (2, .int 0), (3, .int a3)]) (st2 := []) (w3 := sx_w0) rfl rfl ?_
  refine sx_RP.step (pc2 := 26) (ls2 := [(0, .ref 0), (1, .int a1), (2, .int 0), (3, .int a3)]) (st2 := [.int a3]) (w3 := sx_w0) rfl rfl ?_
  refine sx_RP.br (p1 := 37) (l1 := [(0, .ref 0), (1, .int a1), (2, .int 0), (3, .int a3)]) (s1 := []) (v1 := sx_w0) rfl rfl (fun _ => ?_) (fun q => absurd p1 (of_decide_eq_false q))
  refine sx_RP.step (pc2 := 38) (ls2 := [(0, .ref 0), (1, .int a1), (2, .int 0), (3, .int a3)]) (st2 := [.int a3]) (w3 := sx_w0) rfl rfl ?_
  refine sx_RP.step (pc2 := 40) (ls2 := [(0, .ref 0), (1, .int a1), (2, .int 0), (3, .int a3)]) (st2 := [.int 40, .int a3]) (w3 := sx_w0) rfl rfl ?_
  refine sx_RP.br (p2 := 43) (l2 := [(0, .ref 0), (1, .int a1), (2, .int 0), (3, .int a3)]) (s2 := []) (v2 := sx_w0) rfl rfl (fun q => absurd (of_decide_eq_true q) n0) (fun _ => ?_)
  refine sx_RP.step (pc2 := 44) (ls2 := [(0, .ref 0), (1, .int a1), (2, .int 0), (3, .int a3)]) (st2 := [.ref 0]) (w3 := sx_w0) rfl rfl ?_
  refine sx_RP.step (pc2 := 46) (ls2 := [(0, .ref 0), (1, .int a1), (2, .int 0), (3, .int a3)]) (st2 := [.int (-1000000001), .ref 0]) (w3 := sx_w0) rfl rfl ?_
  refine sx_RP.cu (as := [.ref 0, .int (-1000000001)]) (rest2 := []) (st3 := [.int (-1000000001)]) rfl rfl rfl rfl rfl (cf_B _) rfl ?_
  refine sx_RP.ret rfl rfl ?_
  refine ⟨(-1000000001), rfl, ⟨_, rfl⟩, ?_⟩
  refine sx_RP.step (pc2 := 1) (ls2 := [(0, .ref 111), (1, .int a1), (2, .int 0), (3, .int a3)]) (st2 := [.int a1]) (w3 := sx_vB) rfl rfl ?_
  refine sx_RP.cu (as := [.int a1]) (rest2 := []) (st3 := [.int 1]) rfl rfl rfl rfl rfl (cx_231p p0) rfl ?_
  refine sx_RP.step (pc2 := 7) (ls2 := [(0, .ref 111), (1, .int a1), (2, .int 0), (3, .int a3)]) (st2 := []) (w3 := sx_vB) rfl rfl ?_
  refine sx_RP.step (pc2 := 8) (ls2 := [(0, .ref 111), (1, .int a1), (2, .int 0), (3, .int a3)]) (st2 := [.int 0]) (w3 := sx_vB) rfl rfl ?_
  refine sx_RP.step (pc2 := 35) (ls2 := [(0, .ref 111), (1, .int a1), (2, .int 0), (3, .int a3)]) (st2 := []) (w3 := sx_vB) rfl rfl ?_
  refine sx_RP.step (pc2 := 36) (ls2 := [(0, .ref 111), (1, .int a1), (2, .int 0), (3, .int a3)]) (st2 := [.int a3]) (w3 := sx_vB) rfl rfl ?_
  refine sx_RP.br (p1 := 46) (l1 := [(0, .ref 111), (1, .int a1), (2, .int 0), (3, .int a3)]) (s1 := []) (v1 := sx_vB) rfl rfl (fun _ => ?_) (fun q => absurd p1 (of_decide_eq_false q))
  refine sx_RP.step (pc2 := 47) (ls2 := [(0, .ref 111), (1, .int a1), (2, .int 0), (3, .int a3)]) (st2 := [.int a3]) (w3 := sx_vB) rfl rfl ?_
  refine sx_RP.step (pc2 := 49) (ls2 := [(0, .ref 111), (1, .int a1), (2, .int 0), (3, .int a3)]) (st2 := [.int 40, .int a3]) (w3 := sx_vB) rfl rfl ?_
  refine sx_RP.br (p2 := 52) (l2 := [(0, .ref 111), (1, .int a1), (2, .int 0), (3, .int a3)]) (s2 := []) (v2 := sx_vB) rfl rfl (fun q => absurd (of_decide_eq_true q) n0) (fun _ => ?_)
  refine sx_RP.step (pc2 := 53) (ls2 := [(0, .ref 111), (1, .int a1), (2, .int 0), (3, .int a3)]) (st2 := [.ref 111]) (w3 := sx_vB) rfl rfl ?_
  refine sx_RP.step (pc2 := 54) (ls2 := [(0, .ref 111), (1, .int a1), (2, .int 0), (3, .int a3)]) (st2 := [.int 0, .ref 111]) (w3 := sx_vB) rfl rfl ?_
  refine sx_RP.cu (as := [.ref 111, .int 0]) (rest2 := []) (st3 := [.int (-1000000001)]) rfl rfl rfl rfl rfl (cn_B _) rfl ?_
  refine sx_RP.ret rfl rfl ?_
  rfl
set_option maxRecDepth 20000 in
set_option maxHeartbeats 4000000 in
theorem k_sheet_z_8 (ys : List Int32) (a1 a3 : Int32) (p0 : 0 ≤ a1 ∧ a1 ≤ 3) (n0 : ¬ 0 ≤ a3) : sx_twoI ys 111 230 [.int a1, .int 8, .int a3] := by
  refine sx_twoI.of ?_
  refine sx_RP.step (pc2 := 1) (ls2 := [(0, .ref 0), (1, .int a1), (2, .int 8), (3, .int a3)]) (st2 := [.int a1]) (w3 := sx_w0) rfl rfl ?_
  refine sx_RP.cu (as := [.int a1]) (rest2 := []) (st3 := [.int 1]) rfl rfl rfl rfl rfl (cx_112p p0) rfl ?_
  refine sx_RP.step (pc2 := 7) (ls2 := [(0, .ref 0), (1, .int a1), (2, .int 8), (3, .int a3)]) (st2 := []) (w3 := sx_w0) rfl rfl ?_
  refine sx_RP.step (pc2 := 8) (ls2 := [(0, .ref 0), (1, .int a1), (2, .int 8), (3, .int a3)]) (st2 := [.int 8]) (w3 := sx_w0) rfl rfl ?_
  refine sx_RP.cl (as2 := [.int 8]) (rest2 := []) rfl rfl rfl rfl rfl rfl ?_
  refine sx_RP.step (pc2 := 1) (ls2 := [(0, .int 8)]) (st2 := [.int 8]) (w3 := sx_w0) rfl rfl ?_
  refine sx_RP.step (pc2 := 3) (ls2 := [(0, .int 8)]) (st2 := [.int 8, .int 8]) (w3 := sx_w0) rfl rfl ?_
  refine sx_RP.step (pc2 := 18) (ls2 := [(0, .int 8)]) (st2 := []) (w3 := sx_w0) rfl rfl ?_
  refine sx_RP.step (pc2 := 19) (ls2 := [(0, .int 8)]) (st2 := [.int 1]) (w3 := sx_w0) rfl rfl ?_
  refine sx_RP.step (pc2 := 23) (ls2 := [(0, .int 8)]) (st2 := [.int 1]) (w3 := sx_w0) rfl rfl ?_
  refine sx_RP.retc (st3 := [.int 1]) rfl rfl rfl ?_
  refine sx_RP.step (pc2 := 25) (ls2 := [(0, .ref 0), (1, .int a1), (2, .int 8), (3, .int a3)]) (st2 := []) (w3 := sx_w0) rfl rfl ?_
  refine sx_RP.step (pc2 := 26) (ls2 := [(0, .ref 0), (1, .int a1), (2, .int 8), (3, .int a3)]) (st2 := [.int a3]) (w3 := sx_w0) rfl rfl ?_
  refine sx_RP.br (p2 := 29) (l2 := [(0, .ref 0), (1, .int a1), (2, .int 8), (3, .int a3)]) (s2 := []) (v2 := sx_w0) rfl rfl (fun q => absurd (of_decide_eq_true q) n0) (fun _ => ?_)
  refine sx_RP.step (pc2 := 30) (ls2 := [(0, .ref 0), (1, .int a1), (2, .int 8), (3, .int a3)]) (st2 := [.ref 0]) (w3 := sx_w0) rfl rfl ?_
  refine sx_RP.step (pc2 := 33) (ls2 := [(0, .ref 0), (1, .int a1), (2, .int 8), (3, .int a3)]) (st2 := [.int (-1000000007), .ref 0]) (w3 := sx_w0) rfl rfl ?_
  refine sx_RP.cu (as := [.ref 0, .int (-1000000007)]) (rest2 := []) (st3 := [.int (-1000000007)]) rfl rfl rfl rfl rfl (cf_Z _) rfl ?_
  refine sx_RP.ret rfl rfl ?_
  refine ⟨(-1000000007), rfl, ⟨_, rfl⟩, ?_⟩
  refine sx_RP.step (pc2 := 1) (ls2 := [(0, .ref 111), (1, .int a1), (2, .int 8), (3, .int a3)]) (st2 := [.int a1]) (w3 := sx_vZ) rfl rfl ?_
  refine sx_RP.cu (as := [.int a1]) (rest2 := []) (st3 := [.int 1]) rfl rfl rfl rfl rfl (cx_231p p0) rfl ?_
  refine sx_RP.step (pc2 := 7) (ls2 := [(0, .ref 111), (1, .int a1), (2, .int 8), (3, .int a3)]) (st2 := []) (w3 := sx_vZ) rfl rfl ?_
  refine sx_RP.step (pc2 := 8) (ls2 := [(0, .ref 111), (1, .int a1), (2, .int 8), (3, .int a3)]) (st2 := [.int 8]) (w3 := sx_vZ) rfl rfl ?_
  refine sx_RP.step (pc2 := 11) (ls2 := [(0, .ref 111), (1, .int a1), (2, .int 8), (3, .int a3)]) (st2 := []) (w3 := sx_vZ) rfl rfl ?_
  refine sx_RP.step (pc2 := 12) (ls2 := [(0, .ref 111), (1, .int a1), (2, .int 8), (3, .int a3)]) (st2 := [.int 8]) (w3 := sx_vZ) rfl rfl ?_
  refine sx_RP.step (pc2 := 14) (ls2 := [(0, .ref 111), (1, .int a1), (2, .int 8), (3, .int a3)]) (st2 := [.int 8, .int 8]) (w3 := sx_vZ) rfl rfl ?_
  refine sx_RP.step (pc2 := 35) (ls2 := [(0, .ref 111), (1, .int a1), (2, .int 8), (3, .int a3)]) (st2 := []) (w3 := sx_vZ) rfl rfl ?_
  refine sx_RP.step (pc2 := 36) (ls2 := [(0, .ref 111), (1, .int a1), (2, .int 8), (3, .int a3)]) (st2 := [.int a3]) (w3 := sx_vZ) rfl rfl ?_
  refine sx_RP.br (p2 := 39) (l2 := [(0, .ref 111), (1, .int a1), (2, .int 8), (3, .int a3)]) (s2 := []) (v2 := sx_vZ) rfl rfl (fun q => absurd (of_decide_eq_true q) n0) (fun _ => ?_)
  refine sx_RP.step (pc2 := 40) (ls2 := [(0, .ref 111), (1, .int a1), (2, .int 8), (3, .int a3)]) (st2 := [.ref 111]) (w3 := sx_vZ) rfl rfl ?_
  refine sx_RP.step (pc2 := 42) (ls2 := [(0, .ref 111), (1, .int a1), (2, .int 8), (3, .int a3)]) (st2 := [.int 6, .ref 111]) (w3 := sx_vZ) rfl rfl ?_
  refine sx_RP.cu (as := [.ref 111, .int 6]) (rest2 := []) (st3 := [.int (-1000000007)]) rfl rfl rfl rfl rfl (cn_Z _) rfl ?_
  refine sx_RP.ret rfl rfl ?_
  rfl
set_option maxRecDepth 20000 in
set_option maxHeartbeats 4000000 in
theorem k_sheet_m_8 (ys : List Int32) (a1 a3 : Int32) (p0 : 0 ≤ a1 ∧ a1 ≤ 3) (p1 : 0 ≤ a3) (n0 : ¬ a3 ≤ 40) : sx_twoI ys 111 230 [.int a1, .int 8, .int a3] := by
  refine sx_twoI.of ?_
  refine sx_RP.step (pc2 := 1) (ls2 := [(0, .ref 0), (1, .int a1), (2, .int 8), (3, .int a3)]) (st2 := [.int a1]) (w3 := sx_w0) rfl rfl ?_
  refine sx_RP.cu (as := [.int a1]) (rest2 := []) (st3 := [.int 1]) rfl rfl rfl rfl rfl (cx_112p p0) rfl ?_
  refine sx_RP.step (pc2 := 7) (ls2 := [(0, .ref 0), (1, .int a1), (2, .int 8), (3, .int a3)]) (st2 := []) (w3 := sx_w0) rfl rfl ?_
  refine sx_RP.step (pc2 := 8) (ls2 := [(0, .ref 0), (1, .int a1), (2, .int 8), (3, .int a3)]) (st2 := [.int 8]) (w3 := sx_w0) rfl rfl ?_
  refine sx_RP.cl (as2 := [.int 8]) (rest2 := []) rfl rfl rfl rfl rfl rfl ?_
  refine sx_RP.step (pc2 := 1) (ls2 := [(0, .int 8)]) (st2 := [.int 8]) (w3 := sx_w0) rfl rfl ?_
  refine sx_RP.step (pc2 := 3) (ls2 := [(0, .int 8)]) (st2 := [.int 8, .int 8]) (w3 := sx_w0) rfl rfl ?_
  refine sx_RP.step (pc2 := 18) (ls2 := [(0, .int 8)]) (st2 := []) (w3 := sx_w0) rfl rfl ?_
  refine sx_RP.step (pc2 := 19) (ls2 := [(0, .int 8)]) (st2 := [.int 1]) (w3 := sx_w0) rfl rfl ?_
  refine sx_RP.step (pc2 := 23) (ls2 := [(0, .int 8)]) (st2 := [.int 1]) (w3 := sx_w0) rfl rfl ?_
  refine sx_RP.retc (st3 := [.int 1]) rfl rfl rfl ?_
  refine sx_RP.step (pc2 := 25) (ls2 := [(0, .ref 0), (1, .int a1), (2, .int 8), (3, .int a3)]) (st2 := []) (w3 := sx_w0) rfl rfl ?_
  refine sx_RP.step (pc2 := 26) (ls2 := [(0, .ref 0), (1, .int a1), (2, .int 8), (3, .int a3)]) (st2 := [.int a3]) (w3 := sx_w0) rfl rfl ?_
  refine sx_RP.br (p1 := 37) (l1 := [(0, .ref 0), (1, .int a1), (2, .int 8), (3, .int a3)]) (s1 := []) (v1 := sx_w0) rfl rfl (fun _ => ?_) (fun q => absurd p1 (of_decide_eq_false q))
  refine sx_RP.step (pc2 := 38) (ls2 := [(0, .ref 0), (1, .int a1), (2, .int 8), (3, .int a3)]) (st2 := [.int a3]) (w3 := sx_w0) rfl rfl ?_
  refine sx_RP.step (pc2 := 40) (ls2 := [(0, .ref 0), (1, .int a1), (2, .int 8), (3, .int a3)]) (st2 := [.int 40, .int a3]) (w3 := sx_w0) rfl rfl ?_
  refine sx_RP.br (p2 := 43) (l2 := [(0, .ref 0), (1, .int a1), (2, .int 8), (3, .int a3)]) (s2 := []) (v2 := sx_w0) rfl rfl (fun q => absurd (of_decide_eq_true q) n0) (fun _ => ?_)
  refine sx_RP.step (pc2 := 44) (ls2 := [(0, .ref 0), (1, .int a1), (2, .int 8), (3, .int a3)]) (st2 := [.ref 0]) (w3 := sx_w0) rfl rfl ?_
  refine sx_RP.step (pc2 := 46) (ls2 := [(0, .ref 0), (1, .int a1), (2, .int 8), (3, .int a3)]) (st2 := [.int (-1000000001), .ref 0]) (w3 := sx_w0) rfl rfl ?_
  refine sx_RP.cu (as := [.ref 0, .int (-1000000001)]) (rest2 := []) (st3 := [.int (-1000000001)]) rfl rfl rfl rfl rfl (cf_B _) rfl ?_
  refine sx_RP.ret rfl rfl ?_
  refine ⟨(-1000000001), rfl, ⟨_, rfl⟩, ?_⟩
  refine sx_RP.step (pc2 := 1) (ls2 := [(0, .ref 111), (1, .int a1), (2, .int 8), (3, .int a3)]) (st2 := [.int a1]) (w3 := sx_vB) rfl rfl ?_
  refine sx_RP.cu (as := [.int a1]) (rest2 := []) (st3 := [.int 1]) rfl rfl rfl rfl rfl (cx_231p p0) rfl ?_
  refine sx_RP.step (pc2 := 7) (ls2 := [(0, .ref 111), (1, .int a1), (2, .int 8), (3, .int a3)]) (st2 := []) (w3 := sx_vB) rfl rfl ?_
  refine sx_RP.step (pc2 := 8) (ls2 := [(0, .ref 111), (1, .int a1), (2, .int 8), (3, .int a3)]) (st2 := [.int 8]) (w3 := sx_vB) rfl rfl ?_
  refine sx_RP.step (pc2 := 11) (ls2 := [(0, .ref 111), (1, .int a1), (2, .int 8), (3, .int a3)]) (st2 := []) (w3 := sx_vB) rfl rfl ?_
  refine sx_RP.step (pc2 := 12) (ls2 := [(0, .ref 111), (1, .int a1), (2, .int 8), (3, .int a3)]) (st2 := [.int 8]) (w3 := sx_vB) rfl rfl ?_
  refine sx_RP.step (pc2 := 14) (ls2 := [(0, .ref 111), (1, .int a1), (2, .int 8), (3, .int a3)]) (st2 := [.int 8, .int 8]) (w3 := sx_vB) rfl rfl ?_
  refine sx_RP.step (pc2 := 35) (ls2 := [(0, .ref 111), (1, .int a1), (2, .int 8), (3, .int a3)]) (st2 := []) (w3 := sx_vB) rfl rfl ?_
  refine sx_RP.step (pc2 := 36) (ls2 := [(0, .ref 111), (1, .int a1), (2, .int 8), (3, .int a3)]) (st2 := [.int a3]) (w3 := sx_vB) rfl rfl ?_
  refine sx_RP.br (p1 := 46) (l1 := [(0, .ref 111), (1, .int a1), (2, .int 8), (3, .int a3)]) (s1 := []) (v1 := sx_vB) rfl rfl (fun _ => ?_) (fun q => absurd p1 (of_decide_eq_false q))
  refine sx_RP.step (pc2 := 47) (ls2 := [(0, .ref 111), (1, .int a1), (2, .int 8), (3, .int a3)]) (st2 := [.int a3]) (w3 := sx_vB) rfl rfl ?_
  refine sx_RP.step (pc2 := 49) (ls2 := [(0, .ref 111), (1, .int a1), (2, .int 8), (3, .int a3)]) (st2 := [.int 40, .int a3]) (w3 := sx_vB) rfl rfl ?_
  refine sx_RP.br (p2 := 52) (l2 := [(0, .ref 111), (1, .int a1), (2, .int 8), (3, .int a3)]) (s2 := []) (v2 := sx_vB) rfl rfl (fun q => absurd (of_decide_eq_true q) n0) (fun _ => ?_)
  refine sx_RP.step (pc2 := 53) (ls2 := [(0, .ref 111), (1, .int a1), (2, .int 8), (3, .int a3)]) (st2 := [.ref 111]) (w3 := sx_vB) rfl rfl ?_
  refine sx_RP.step (pc2 := 54) (ls2 := [(0, .ref 111), (1, .int a1), (2, .int 8), (3, .int a3)]) (st2 := [.int 0, .ref 111]) (w3 := sx_vB) rfl rfl ?_
  refine sx_RP.cu (as := [.ref 111, .int 0]) (rest2 := []) (st3 := [.int (-1000000001)]) rfl rfl rfl rfl rfl (cn_B _) rfl ?_
  refine sx_RP.ret rfl rfl ?_
  rfl
set_option maxRecDepth 20000 in
set_option maxHeartbeats 4000000 in
theorem k_sheet_z_16 (ys : List Int32) (a1 a3 : Int32) (p0 : 0 ≤ a1 ∧ a1 ≤ 3) (n0 : ¬ 0 ≤ a3) : sx_twoI ys 111 230 [.int a1, .int 16, .int a3] := by
  refine sx_twoI.of ?_
  refine sx_RP.step (pc2 := 1) (ls2 := [(0, .ref 0), (1, .int a1), (2, .int 16), (3, .int a3)]) (st2 := [.int a1]) (w3 := sx_w0) rfl rfl ?_
  refine sx_RP.cu (as := [.int a1]) (rest2 := []) (st3 := [.int 1]) rfl rfl rfl rfl rfl (cx_112p p0) rfl ?_
  refine sx_RP.step (pc2 := 7) (ls2 := [(0, .ref 0), (1, .int a1), (2, .int 16), (3, .int a3)]) (st2 := []) (w3 := sx_w0) rfl rfl ?_
  refine sx_RP.step (pc2 := 8) (ls2 := [(0, .ref 0), (1, .int a1), (2, .int 16), (3, .int a3)]) (st2 := [.int 16]) (w3 := sx_w0) rfl rfl ?_
  refine sx_RP.cl (as2 := [.int 16]) (rest2 := []) rfl rfl rfl rfl rfl rfl ?_
  refine sx_RP.step (pc2 := 1) (ls2 := [(0, .int 16)]) (st2 := [.int 16]) (w3 := sx_w0) rfl rfl ?_
  refine sx_RP.step (pc2 := 3) (ls2 := [(0, .int 16)]) (st2 := [.int 8, .int 16]) (w3 := sx_w0) rfl rfl ?_
  refine sx_RP.step (pc2 := 6) (ls2 := [(0, .int 16)]) (st2 := []) (w3 := sx_w0) rfl rfl ?_
  refine sx_RP.step (pc2 := 7) (ls2 := [(0, .int 16)]) (st2 := [.int 16]) (w3 := sx_w0) rfl rfl ?_
  refine sx_RP.step (pc2 := 9) (ls2 := [(0, .int 16)]) (st2 := [.int 16, .int 16]) (w3 := sx_w0) rfl rfl ?_
  refine sx_RP.step (pc2 := 18) (ls2 := [(0, .int 16)]) (st2 := []) (w3 := sx_w0) rfl rfl ?_
  refine sx_RP.step (pc2 := 19) (ls2 := [(0, .int 16)]) (st2 := [.int 1]) (w3 := sx_w0) rfl rfl ?_
  refine sx_RP.step (pc2 := 23) (ls2 := [(0, .int 16)]) (st2 := [.int 1]) (w3 := sx_w0) rfl rfl ?_
  refine sx_RP.retc (st3 := [.int 1]) rfl rfl rfl ?_
  refine sx_RP.step (pc2 := 25) (ls2 := [(0, .ref 0), (1, .int a1), (2, .int 16), (3, .int a3)]) (st2 := []) (w3 := sx_w0) rfl rfl ?_
  refine sx_RP.step (pc2 := 26) (ls2 := [(0, .ref 0), (1, .int a1), (2, .int 16), (3, .int a3)]) (st2 := [.int a3]) (w3 := sx_w0) rfl rfl ?_
  refine sx_RP.br (p2 := 29) (l2 := [(0, .ref 0), (1, .int a1), (2, .int 16), (3, .int a3)]) (s2 := []) (v2 := sx_w0) rfl rfl (fun q => absurd (of_decide_eq_true q) n0) (fun _ => ?_)
  refine sx_RP.step (pc2 := 30) (ls2 := [(0, .ref 0), (1, .int a1), (2, .int 16), (3, .int a3)]) (st2 := [.ref 0]) (w3 := sx_w0) rfl rfl ?_
  refine sx_RP.step (pc2 := 33) (ls2 := [(0, .ref 0), (1, .int a1), (2, .int 16), (3, .int a3)]) (st2 := [.int (-1000000007), .ref 0]) (w3 := sx_w0) rfl rfl ?_
  refine sx_RP.cu (as := [.ref 0, .int (-1000000007)]) (rest2 := []) (st3 := [.int (-1000000007)]) rfl rfl rfl rfl rfl (cf_Z _) rfl ?_
  refine sx_RP.ret rfl rfl ?_
  refine ⟨(-1000000007), rfl, ⟨_, rfl⟩, ?_⟩
  refine sx_RP.step (pc2 := 1) (ls2 := [(0, .ref 111), (1, .int a1), (2, .int 16), (3, .int a3)]) (st2 := [.int a1]) (w3 := sx_vZ) rfl rfl ?_
  refine sx_RP.cu (as := [.int a1]) (rest2 := []) (st3 := [.int 1]) rfl rfl rfl rfl rfl (cx_231p p0) rfl ?_
  refine sx_RP.step (pc2 := 7) (ls2 := [(0, .ref 111), (1, .int a1), (2, .int 16), (3, .int a3)]) (st2 := []) (w3 := sx_vZ) rfl rfl ?_
  refine sx_RP.step (pc2 := 8) (ls2 := [(0, .ref 111), (1, .int a1), (2, .int 16), (3, .int a3)]) (st2 := [.int 16]) (w3 := sx_vZ) rfl rfl ?_
  refine sx_RP.step (pc2 := 11) (ls2 := [(0, .ref 111), (1, .int a1), (2, .int 16), (3, .int a3)]) (st2 := []) (w3 := sx_vZ) rfl rfl ?_
  refine sx_RP.step (pc2 := 12) (ls2 := [(0, .ref 111), (1, .int a1), (2, .int 16), (3, .int a3)]) (st2 := [.int 16]) (w3 := sx_vZ) rfl rfl ?_
  refine sx_RP.step (pc2 := 14) (ls2 := [(0, .ref 111), (1, .int a1), (2, .int 16), (3, .int a3)]) (st2 := [.int 8, .int 16]) (w3 := sx_vZ) rfl rfl ?_
  refine sx_RP.step (pc2 := 17) (ls2 := [(0, .ref 111), (1, .int a1), (2, .int 16), (3, .int a3)]) (st2 := []) (w3 := sx_vZ) rfl rfl ?_
  refine sx_RP.step (pc2 := 18) (ls2 := [(0, .ref 111), (1, .int a1), (2, .int 16), (3, .int a3)]) (st2 := [.int 16]) (w3 := sx_vZ) rfl rfl ?_
  refine sx_RP.step (pc2 := 20) (ls2 := [(0, .ref 111), (1, .int a1), (2, .int 16), (3, .int a3)]) (st2 := [.int 16, .int 16]) (w3 := sx_vZ) rfl rfl ?_
  refine sx_RP.step (pc2 := 35) (ls2 := [(0, .ref 111), (1, .int a1), (2, .int 16), (3, .int a3)]) (st2 := []) (w3 := sx_vZ) rfl rfl ?_
  refine sx_RP.step (pc2 := 36) (ls2 := [(0, .ref 111), (1, .int a1), (2, .int 16), (3, .int a3)]) (st2 := [.int a3]) (w3 := sx_vZ) rfl rfl ?_
  refine sx_RP.br (p2 := 39) (l2 := [(0, .ref 111), (1, .int a1), (2, .int 16), (3, .int a3)]) (s2 := []) (v2 := sx_vZ) rfl rfl (fun q => absurd (of_decide_eq_true q) n0) (fun _ => ?_)
  refine sx_RP.step (pc2 := 40) (ls2 := [(0, .ref 111), (1, .int a1), (2, .int 16), (3, .int a3)]) (st2 := [.ref 111]) (w3 := sx_vZ) rfl rfl ?_
  refine sx_RP.step (pc2 := 42) (ls2 := [(0, .ref 111), (1, .int a1), (2, .int 16), (3, .int a3)]) (st2 := [.int 6, .ref 111]) (w3 := sx_vZ) rfl rfl ?_
  refine sx_RP.cu (as := [.ref 111, .int 6]) (rest2 := []) (st3 := [.int (-1000000007)]) rfl rfl rfl rfl rfl (cn_Z _) rfl ?_
  refine sx_RP.ret rfl rfl ?_
  rfl
set_option maxRecDepth 20000 in
set_option maxHeartbeats 4000000 in
theorem k_sheet_m_16 (ys : List Int32) (a1 a3 : Int32) (p0 : 0 ≤ a1 ∧ a1 ≤ 3) (p1 : 0 ≤ a3) (n0 : ¬ a3 ≤ 40) : sx_twoI ys 111 230 [.int a1, .int 16, .int a3] := by
  refine sx_twoI.of ?_
  refine sx_RP.step (pc2 := 1) (ls2 := [(0, .ref 0), (1, .int a1), (2, .int 16), (3, .int a3)]) (st2 := [.int a1]) (w3 := sx_w0) rfl rfl ?_
  refine sx_RP.cu (as := [.int a1]) (rest2 := []) (st3 := [.int 1]) rfl rfl rfl rfl rfl (cx_112p p0) rfl ?_
  refine sx_RP.step (pc2 := 7) (ls2 := [(0, .ref 0), (1, .int a1), (2, .int 16), (3, .int a3)]) (st2 := []) (w3 := sx_w0) rfl rfl ?_
  refine sx_RP.step (pc2 := 8) (ls2 := [(0, .ref 0), (1, .int a1), (2, .int 16), (3, .int a3)]) (st2 := [.int 16]) (w3 := sx_w0) rfl rfl ?_
  refine sx_RP.cl (as2 := [.int 16]) (rest2 := []) rfl rfl rfl rfl rfl rfl ?_
  refine sx_RP.step (pc2 := 1) (ls2 := [(0, .int 16)]) (st2 := [.int 16]) (w3 := sx_w0) rfl rfl ?_
  refine sx_RP.step (pc2 := 3) (ls2 := [(0, .int 16)]) (st2 := [.int 8, .int 16]) (w3 := sx_w0) rfl rfl ?_
  refine sx_RP.step (pc2 := 6) (ls2 := [(0, .int 16)]) (st2 := []) (w3 := sx_w0) rfl rfl ?_
  refine sx_RP.step (pc2 := 7) (ls2 := [(0, .int 16)]) (st2 := [.int 16]) (w3 := sx_w0) rfl rfl ?_
  refine sx_RP.step (pc2 := 9) (ls2 := [(0, .int 16)]) (st2 := [.int 16, .int 16]) (w3 := sx_w0) rfl rfl ?_
  refine sx_RP.step (pc2 := 18) (ls2 := [(0, .int 16)]) (st2 := []) (w3 := sx_w0) rfl rfl ?_
  refine sx_RP.step (pc2 := 19) (ls2 := [(0, .int 16)]) (st2 := [.int 1]) (w3 := sx_w0) rfl rfl ?_
  refine sx_RP.step (pc2 := 23) (ls2 := [(0, .int 16)]) (st2 := [.int 1]) (w3 := sx_w0) rfl rfl ?_
  refine sx_RP.retc (st3 := [.int 1]) rfl rfl rfl ?_
  refine sx_RP.step (pc2 := 25) (ls2 := [(0, .ref 0), (1, .int a1), (2, .int 16), (3, .int a3)]) (st2 := []) (w3 := sx_w0) rfl rfl ?_
  refine sx_RP.step (pc2 := 26) (ls2 := [(0, .ref 0), (1, .int a1), (2, .int 16), (3, .int a3)]) (st2 := [.int a3]) (w3 := sx_w0) rfl rfl ?_
  refine sx_RP.br (p1 := 37) (l1 := [(0, .ref 0), (1, .int a1), (2, .int 16), (3, .int a3)]) (s1 := []) (v1 := sx_w0) rfl rfl (fun _ => ?_) (fun q => absurd p1 (of_decide_eq_false q))
  refine sx_RP.step (pc2 := 38) (ls2 := [(0, .ref 0), (1, .int a1), (2, .int 16), (3, .int a3)]) (st2 := [.int a3]) (w3 := sx_w0) rfl rfl ?_
  refine sx_RP.step (pc2 := 40) (ls2 := [(0, .ref 0), (1, .int a1), (2, .int 16), (3, .int a3)]) (st2 := [.int 40, .int a3]) (w3 := sx_w0) rfl rfl ?_
  refine sx_RP.br (p2 := 43) (l2 := [(0, .ref 0), (1, .int a1), (2, .int 16), (3, .int a3)]) (s2 := []) (v2 := sx_w0) rfl rfl (fun q => absurd (of_decide_eq_true q) n0) (fun _ => ?_)
  refine sx_RP.step (pc2 := 44) (ls2 := [(0, .ref 0), (1, .int a1), (2, .int 16), (3, .int a3)]) (st2 := [.ref 0]) (w3 := sx_w0) rfl rfl ?_
  refine sx_RP.step (pc2 := 46) (ls2 := [(0, .ref 0), (1, .int a1), (2, .int 16), (3, .int a3)]) (st2 := [.int (-1000000001), .ref 0]) (w3 := sx_w0) rfl rfl ?_
  refine sx_RP.cu (as := [.ref 0, .int (-1000000001)]) (rest2 := []) (st3 := [.int (-1000000001)]) rfl rfl rfl rfl rfl (cf_B _) rfl ?_
  refine sx_RP.ret rfl rfl ?_
  refine ⟨(-1000000001), rfl, ⟨_, rfl⟩, ?_⟩
  refine sx_RP.step (pc2 := 1) (ls2 := [(0, .ref 111), (1, .int a1), (2, .int 16), (3, .int a3)]) (st2 := [.int a1]) (w3 := sx_vB) rfl rfl ?_
  refine sx_RP.cu (as := [.int a1]) (rest2 := []) (st3 := [.int 1]) rfl rfl rfl rfl rfl (cx_231p p0) rfl ?_
  refine sx_RP.step (pc2 := 7) (ls2 := [(0, .ref 111), (1, .int a1), (2, .int 16), (3, .int a3)]) (st2 := []) (w3 := sx_vB) rfl rfl ?_
  refine sx_RP.step (pc2 := 8) (ls2 := [(0, .ref 111), (1, .int a1), (2, .int 16), (3, .int a3)]) (st2 := [.int 16]) (w3 := sx_vB) rfl rfl ?_
  refine sx_RP.step (pc2 := 11) (ls2 := [(0, .ref 111), (1, .int a1), (2, .int 16), (3, .int a3)]) (st2 := []) (w3 := sx_vB) rfl rfl ?_
  refine sx_RP.step (pc2 := 12) (ls2 := [(0, .ref 111), (1, .int a1), (2, .int 16), (3, .int a3)]) (st2 := [.int 16]) (w3 := sx_vB) rfl rfl ?_
  refine sx_RP.step (pc2 := 14) (ls2 := [(0, .ref 111), (1, .int a1), (2, .int 16), (3, .int a3)]) (st2 := [.int 8, .int 16]) (w3 := sx_vB) rfl rfl ?_
  refine sx_RP.step (pc2 := 17) (ls2 := [(0, .ref 111), (1, .int a1), (2, .int 16), (3, .int a3)]) (st2 := []) (w3 := sx_vB) rfl rfl ?_
  refine sx_RP.step (pc2 := 18) (ls2 := [(0, .ref 111), (1, .int a1), (2, .int 16), (3, .int a3)]) (st2 := [.int 16]) (w3 := sx_vB) rfl rfl ?_
  refine sx_RP.step (pc2 := 20) (ls2 := [(0, .ref 111), (1, .int a1), (2, .int 16), (3, .int a3)]) (st2 := [.int 16, .int 16]) (w3 := sx_vB) rfl rfl ?_
  refine sx_RP.step (pc2 := 35) (ls2 := [(0, .ref 111), (1, .int a1), (2, .int 16), (3, .int a3)]) (st2 := []) (w3 := sx_vB) rfl rfl ?_
  refine sx_RP.step (pc2 := 36) (ls2 := [(0, .ref 111), (1, .int a1), (2, .int 16), (3, .int a3)]) (st2 := [.int a3]) (w3 := sx_vB) rfl rfl ?_
  refine sx_RP.br (p1 := 46) (l1 := [(0, .ref 111), (1, .int a1), (2, .int 16), (3, .int a3)]) (s1 := []) (v1 := sx_vB) rfl rfl (fun _ => ?_) (fun q => absurd p1 (of_decide_eq_false q))
  refine sx_RP.step (pc2 := 47) (ls2 := [(0, .ref 111), (1, .int a1), (2, .int 16), (3, .int a3)]) (st2 := [.int a3]) (w3 := sx_vB) rfl rfl ?_
  refine sx_RP.step (pc2 := 49) (ls2 := [(0, .ref 111), (1, .int a1), (2, .int 16), (3, .int a3)]) (st2 := [.int 40, .int a3]) (w3 := sx_vB) rfl rfl ?_
  refine sx_RP.br (p2 := 52) (l2 := [(0, .ref 111), (1, .int a1), (2, .int 16), (3, .int a3)]) (s2 := []) (v2 := sx_vB) rfl rfl (fun q => absurd (of_decide_eq_true q) n0) (fun _ => ?_)
  refine sx_RP.step (pc2 := 53) (ls2 := [(0, .ref 111), (1, .int a1), (2, .int 16), (3, .int a3)]) (st2 := [.ref 111]) (w3 := sx_vB) rfl rfl ?_
  refine sx_RP.step (pc2 := 54) (ls2 := [(0, .ref 111), (1, .int a1), (2, .int 16), (3, .int a3)]) (st2 := [.int 0, .ref 111]) (w3 := sx_vB) rfl rfl ?_
  refine sx_RP.cu (as := [.ref 111, .int 0]) (rest2 := []) (st3 := [.int (-1000000001)]) rfl rfl rfl rfl rfl (cn_B _) rfl ?_
  refine sx_RP.ret rfl rfl ?_
  rfl
set_option maxRecDepth 20000 in
set_option maxHeartbeats 4000000 in
theorem k_sheet_z_64 (ys : List Int32) (a1 a3 : Int32) (p0 : 0 ≤ a1 ∧ a1 ≤ 3) (n0 : ¬ 0 ≤ a3) : sx_twoI ys 111 230 [.int a1, .int 64, .int a3] := by
  refine sx_twoI.of ?_
  refine sx_RP.step (pc2 := 1) (ls2 := [(0, .ref 0), (1, .int a1), (2, .int 64), (3, .int a3)]) (st2 := [.int a1]) (w3 := sx_w0) rfl rfl ?_
  refine sx_RP.cu (as := [.int a1]) (rest2 := []) (st3 := [.int 1]) rfl rfl rfl rfl rfl (cx_112p p0) rfl ?_
  refine sx_RP.step (pc2 := 7) (ls2 := [(0, .ref 0), (1, .int a1), (2, .int 64), (3, .int a3)]) (st2 := []) (w3 := sx_w0) rfl rfl ?_
  refine sx_RP.step (pc2 := 8) (ls2 := [(0, .ref 0), (1, .int a1), (2, .int 64), (3, .int a3)]) (st2 := [.int 64]) (w3 := sx_w0) rfl rfl ?_
  refine sx_RP.cl (as2 := [.int 64]) (rest2 := []) rfl rfl rfl rfl rfl rfl ?_
  refine sx_RP.step (pc2 := 1) (ls2 := [(0, .int 64)]) (st2 := [.int 64]) (w3 := sx_w0) rfl rfl ?_
  refine sx_RP.step (pc2 := 3) (ls2 := [(0, .int 64)]) (st2 := [.int 8, .int 64]) (w3 := sx_w0) rfl rfl ?_
  refine sx_RP.step (pc2 := 6) (ls2 := [(0, .int 64)]) (st2 := []) (w3 := sx_w0) rfl rfl ?_
  refine sx_RP.step (pc2 := 7) (ls2 := [(0, .int 64)]) (st2 := [.int 64]) (w3 := sx_w0) rfl rfl ?_
  refine sx_RP.step (pc2 := 9) (ls2 := [(0, .int 64)]) (st2 := [.int 16, .int 64]) (w3 := sx_w0) rfl rfl ?_
  refine sx_RP.step (pc2 := 12) (ls2 := [(0, .int 64)]) (st2 := []) (w3 := sx_w0) rfl rfl ?_
  refine sx_RP.step (pc2 := 13) (ls2 := [(0, .int 64)]) (st2 := [.int 64]) (w3 := sx_w0) rfl rfl ?_
  refine sx_RP.step (pc2 := 15) (ls2 := [(0, .int 64)]) (st2 := [.int 64, .int 64]) (w3 := sx_w0) rfl rfl ?_
  refine sx_RP.step (pc2 := 18) (ls2 := [(0, .int 64)]) (st2 := []) (w3 := sx_w0) rfl rfl ?_
  refine sx_RP.step (pc2 := 19) (ls2 := [(0, .int 64)]) (st2 := [.int 1]) (w3 := sx_w0) rfl rfl ?_
  refine sx_RP.step (pc2 := 23) (ls2 := [(0, .int 64)]) (st2 := [.int 1]) (w3 := sx_w0) rfl rfl ?_
  refine sx_RP.retc (st3 := [.int 1]) rfl rfl rfl ?_
  refine sx_RP.step (pc2 := 25) (ls2 := [(0, .ref 0), (1, .int a1), (2, .int 64), (3, .int a3)]) (st2 := []) (w3 := sx_w0) rfl rfl ?_
  refine sx_RP.step (pc2 := 26) (ls2 := [(0, .ref 0), (1, .int a1), (2, .int 64), (3, .int a3)]) (st2 := [.int a3]) (w3 := sx_w0) rfl rfl ?_
  refine sx_RP.br (p2 := 29) (l2 := [(0, .ref 0), (1, .int a1), (2, .int 64), (3, .int a3)]) (s2 := []) (v2 := sx_w0) rfl rfl (fun q => absurd (of_decide_eq_true q) n0) (fun _ => ?_)
  refine sx_RP.step (pc2 := 30) (ls2 := [(0, .ref 0), (1, .int a1), (2, .int 64), (3, .int a3)]) (st2 := [.ref 0]) (w3 := sx_w0) rfl rfl ?_
  refine sx_RP.step (pc2 := 33) (ls2 := [(0, .ref 0), (1, .int a1), (2, .int 64), (3, .int a3)]) (st2 := [.int (-1000000007), .ref 0]) (w3 := sx_w0) rfl rfl ?_
  refine sx_RP.cu (as := [.ref 0, .int (-1000000007)]) (rest2 := []) (st3 := [.int (-1000000007)]) rfl rfl rfl rfl rfl (cf_Z _) rfl ?_
  refine sx_RP.ret rfl rfl ?_
  refine ⟨(-1000000007), rfl, ⟨_, rfl⟩, ?_⟩
  refine sx_RP.step (pc2 := 1) (ls2 := [(0, .ref 111), (1, .int a1), (2, .int 64), (3, .int a3)]) (st2 := [.int a1]) (w3 := sx_vZ) rfl rfl ?_
  refine sx_RP.cu (as := [.int a1]) (rest2 := []) (st3 := [.int 1]) rfl rfl rfl rfl rfl (cx_231p p0) rfl ?_
  refine sx_RP.step (pc2 := 7) (ls2 := [(0, .ref 111), (1, .int a1), (2, .int 64), (3, .int a3)]) (st2 := []) (w3 := sx_vZ) rfl rfl ?_
  refine sx_RP.step (pc2 := 8) (ls2 := [(0, .ref 111), (1, .int a1), (2, .int 64), (3, .int a3)]) (st2 := [.int 64]) (w3 := sx_vZ) rfl rfl ?_
  refine sx_RP.step (pc2 := 11) (ls2 := [(0, .ref 111), (1, .int a1), (2, .int 64), (3, .int a3)]) (st2 := []) (w3 := sx_vZ) rfl rfl ?_
  refine sx_RP.step (pc2 := 12) (ls2 := [(0, .ref 111), (1, .int a1), (2, .int 64), (3, .int a3)]) (st2 := [.int 64]) (w3 := sx_vZ) rfl rfl ?_
  refine sx_RP.step (pc2 := 14) (ls2 := [(0, .ref 111), (1, .int a1), (2, .int 64), (3, .int a3)]) (st2 := [.int 8, .int 64]) (w3 := sx_vZ) rfl rfl ?_
  refine sx_RP.step (pc2 := 17) (ls2 := [(0, .ref 111), (1, .int a1), (2, .int 64), (3, .int a3)]) (st2 := []) (w3 := sx_vZ) rfl rfl ?_
  refine sx_RP.step (pc2 := 18) (ls2 := [(0, .ref 111), (1, .int a1), (2, .int 64), (3, .int a3)]) (st2 := [.int 64]) (w3 := sx_vZ) rfl rfl ?_
  refine sx_RP.step (pc2 := 20) (ls2 := [(0, .ref 111), (1, .int a1), (2, .int 64), (3, .int a3)]) (st2 := [.int 16, .int 64]) (w3 := sx_vZ) rfl rfl ?_
  refine sx_RP.step (pc2 := 23) (ls2 := [(0, .ref 111), (1, .int a1), (2, .int 64), (3, .int a3)]) (st2 := []) (w3 := sx_vZ) rfl rfl ?_
  refine sx_RP.step (pc2 := 24) (ls2 := [(0, .ref 111), (1, .int a1), (2, .int 64), (3, .int a3)]) (st2 := [.int 64]) (w3 := sx_vZ) rfl rfl ?_
  refine sx_RP.step (pc2 := 26) (ls2 := [(0, .ref 111), (1, .int a1), (2, .int 64), (3, .int a3)]) (st2 := [.int 64, .int 64]) (w3 := sx_vZ) rfl rfl ?_
  refine sx_RP.step (pc2 := 35) (ls2 := [(0, .ref 111), (1, .int a1), (2, .int 64), (3, .int a3)]) (st2 := []) (w3 := sx_vZ) rfl rfl ?_
  refine sx_RP.step (pc2 := 36) (ls2 := [(0, .ref 111), (1, .int a1), (2, .int 64), (3, .int a3)]) (st2 := [.int a3]) (w3 := sx_vZ) rfl rfl ?_
  refine sx_RP.br (p2 := 39) (l2 := [(0, .ref 111), (1, .int a1), (2, .int 64), (3, .int a3)]) (s2 := []) (v2 := sx_vZ) rfl rfl (fun q => absurd (of_decide_eq_true q) n0) (fun _ => ?_)
  refine sx_RP.step (pc2 := 40) (ls2 := [(0, .ref 111), (1, .int a1), (2, .int 64), (3, .int a3)]) (st2 := [.ref 111]) (w3 := sx_vZ) rfl rfl ?_
  refine sx_RP.step (pc2 := 42) (ls2 := [(0, .ref 111), (1, .int a1), (2, .int 64), (3, .int a3)]) (st2 := [.int 6, .ref 111]) (w3 := sx_vZ) rfl rfl ?_
  refine sx_RP.cu (as := [.ref 111, .int 6]) (rest2 := []) (st3 := [.int (-1000000007)]) rfl rfl rfl rfl rfl (cn_Z _) rfl ?_
  refine sx_RP.ret rfl rfl ?_
  rfl
set_option maxRecDepth 20000 in
set_option maxHeartbeats 4000000 in
theorem k_sheet_m_64 (ys : List Int32) (a1 a3 : Int32) (p0 : 0 ≤ a1 ∧ a1 ≤ 3) (p1 : 0 ≤ a3) (n0 : ¬ a3 ≤ 40) : sx_twoI ys 111 230 [.int a1, .int 64, .int a3] := by
  refine sx_twoI.of ?_
  refine sx_RP.step (pc2 := 1) (ls2 := [(0, .ref 0), (1, .int a1), (2, .int 64), (3, .int a3)]) (st2 := [.int a1]) (w3 := sx_w0) rfl rfl ?_
  refine sx_RP.cu (as := [.int a1]) (rest2 := []) (st3 := [.int 1]) rfl rfl rfl rfl rfl (cx_112p p0) rfl ?_
  refine sx_RP.step (pc2 := 7) (ls2 := [(0, .ref 0), (1, .int a1), (2, .int 64), (3, .int a3)]) (st2 := []) (w3 := sx_w0) rfl rfl ?_
  refine sx_RP.step (pc2 := 8) (ls2 := [(0, .ref 0), (1, .int a1), (2, .int 64), (3, .int a3)]) (st2 := [.int 64]) (w3 := sx_w0) rfl rfl ?_
  refine sx_RP.cl (as2 := [.int 64]) (rest2 := []) rfl rfl rfl rfl rfl rfl ?_
  refine sx_RP.step (pc2 := 1) (ls2 := [(0, .int 64)]) (st2 := [.int 64]) (w3 := sx_w0) rfl rfl ?_
  refine sx_RP.step (pc2 := 3) (ls2 := [(0, .int 64)]) (st2 := [.int 8, .int 64]) (w3 := sx_w0) rfl rfl ?_
  refine sx_RP.step (pc2 := 6) (ls2 := [(0, .int 64)]) (st2 := []) (w3 := sx_w0) rfl rfl ?_
  refine sx_RP.step (pc2 := 7) (ls2 := [(0, .int 64)]) (st2 := [.int 64]) (w3 := sx_w0) rfl rfl ?_
  refine sx_RP.step (pc2 := 9) (ls2 := [(0, .int 64)]) (st2 := [.int 16, .int 64]) (w3 := sx_w0) rfl rfl ?_
  refine sx_RP.step (pc2 := 12) (ls2 := [(0, .int 64)]) (st2 := []) (w3 := sx_w0) rfl rfl ?_
  refine sx_RP.step (pc2 := 13) (ls2 := [(0, .int 64)]) (st2 := [.int 64]) (w3 := sx_w0) rfl rfl ?_
  refine sx_RP.step (pc2 := 15) (ls2 := [(0, .int 64)]) (st2 := [.int 64, .int 64]) (w3 := sx_w0) rfl rfl ?_
  refine sx_RP.step (pc2 := 18) (ls2 := [(0, .int 64)]) (st2 := []) (w3 := sx_w0) rfl rfl ?_
  refine sx_RP.step (pc2 := 19) (ls2 := [(0, .int 64)]) (st2 := [.int 1]) (w3 := sx_w0) rfl rfl ?_
  refine sx_RP.step (pc2 := 23) (ls2 := [(0, .int 64)]) (st2 := [.int 1]) (w3 := sx_w0) rfl rfl ?_
  refine sx_RP.retc (st3 := [.int 1]) rfl rfl rfl ?_
  refine sx_RP.step (pc2 := 25) (ls2 := [(0, .ref 0), (1, .int a1), (2, .int 64), (3, .int a3)]) (st2 := []) (w3 := sx_w0) rfl rfl ?_
  refine sx_RP.step (pc2 := 26) (ls2 := [(0, .ref 0), (1, .int a1), (2, .int 64), (3, .int a3)]) (st2 := [.int a3]) (w3 := sx_w0) rfl rfl ?_
  refine sx_RP.br (p1 := 37) (l1 := [(0, .ref 0), (1, .int a1), (2, .int 64), (3, .int a3)]) (s1 := []) (v1 := sx_w0) rfl rfl (fun _ => ?_) (fun q => absurd p1 (of_decide_eq_false q))
  refine sx_RP.step (pc2 := 38) (ls2 := [(0, .ref 0), (1, .int a1), (2, .int 64), (3, .int a3)]) (st2 := [.int a3]) (w3 := sx_w0) rfl rfl ?_
  refine sx_RP.step (pc2 := 40) (ls2 := [(0, .ref 0), (1, .int a1), (2, .int 64), (3, .int a3)]) (st2 := [.int 40, .int a3]) (w3 := sx_w0) rfl rfl ?_
  refine sx_RP.br (p2 := 43) (l2 := [(0, .ref 0), (1, .int a1), (2, .int 64), (3, .int a3)]) (s2 := []) (v2 := sx_w0) rfl rfl (fun q => absurd (of_decide_eq_true q) n0) (fun _ => ?_)
  refine sx_RP.step (pc2 := 44) (ls2 := [(0, .ref 0), (1, .int a1), (2, .int 64), (3, .int a3)]) (st2 := [.ref 0]) (w3 := sx_w0) rfl rfl ?_
  refine sx_RP.step (pc2 := 46) (ls2 := [(0, .ref 0), (1, .int a1), (2, .int 64), (3, .int a3)]) (st2 := [.int (-1000000001), .ref 0]) (w3 := sx_w0) rfl rfl ?_
  refine sx_RP.cu (as := [.ref 0, .int (-1000000001)]) (rest2 := []) (st3 := [.int (-1000000001)]) rfl rfl rfl rfl rfl (cf_B _) rfl ?_
  refine sx_RP.ret rfl rfl ?_
  refine ⟨(-1000000001), rfl, ⟨_, rfl⟩, ?_⟩
  refine sx_RP.step (pc2 := 1) (ls2 := [(0, .ref 111), (1, .int a1), (2, .int 64), (3, .int a3)]) (st2 := [.int a1]) (w3 := sx_vB) rfl rfl ?_
  refine sx_RP.cu (as := [.int a1]) (rest2 := []) (st3 := [.int 1]) rfl rfl rfl rfl rfl (cx_231p p0) rfl ?_
  refine sx_RP.step (pc2 := 7) (ls2 := [(0, .ref 111), (1, .int a1), (2, .int 64), (3, .int a3)]) (st2 := []) (w3 := sx_vB) rfl rfl ?_
  refine sx_RP.step (pc2 := 8) (ls2 := [(0, .ref 111), (1, .int a1), (2, .int 64), (3, .int a3)]) (st2 := [.int 64]) (w3 := sx_vB) rfl rfl ?_
  refine sx_RP.step (pc2 := 11) (ls2 := [(0, .ref 111), (1, .int a1), (2, .int 64), (3, .int a3)]) (st2 := []) (w3 := sx_vB) rfl rfl ?_
  refine sx_RP.step (pc2 := 12) (ls2 := [(0, .ref 111), (1, .int a1), (2, .int 64), (3, .int a3)]) (st2 := [.int 64]) (w3 := sx_vB) rfl rfl ?_
  refine sx_RP.step (pc2 := 14) (ls2 := [(0, .ref 111), (1, .int a1), (2, .int 64), (3, .int a3)]) (st2 := [.int 8, .int 64]) (w3 := sx_vB) rfl rfl ?_
  refine sx_RP.step (pc2 := 17) (ls2 := [(0, .ref 111), (1, .int a1), (2, .int 64), (3, .int a3)]) (st2 := []) (w3 := sx_vB) rfl rfl ?_
  refine sx_RP.step (pc2 := 18) (ls2 := [(0, .ref 111), (1, .int a1), (2, .int 64), (3, .int a3)]) (st2 := [.int 64]) (w3 := sx_vB) rfl rfl ?_
  refine sx_RP.step (pc2 := 20) (ls2 := [(0, .ref 111), (1, .int a1), (2, .int 64), (3, .int a3)]) (st2 := [.int 16, .int 64]) (w3 := sx_vB) rfl rfl ?_
  refine sx_RP.step (pc2 := 23) (ls2 := [(0, .ref 111), (1, .int a1), (2, .int 64), (3, .int a3)]) (st2 := []) (w3 := sx_vB) rfl rfl ?_
  refine sx_RP.step (pc2 := 24) (ls2 := [(0, .ref 111), (1, .int a1), (2, .int 64), (3, .int a3)]) (st2 := [.int 64]) (w3 := sx_vB) rfl rfl ?_
  refine sx_RP.step (pc2 := 26) (ls2 := [(0, .ref 111), (1, .int a1), (2, .int 64), (3, .int a3)]) (st2 := [.int 64, .int 64]) (w3 := sx_vB) rfl rfl ?_
  refine sx_RP.step (pc2 := 35) (ls2 := [(0, .ref 111), (1, .int a1), (2, .int 64), (3, .int a3)]) (st2 := []) (w3 := sx_vB) rfl rfl ?_
  refine sx_RP.step (pc2 := 36) (ls2 := [(0, .ref 111), (1, .int a1), (2, .int 64), (3, .int a3)]) (st2 := [.int a3]) (w3 := sx_vB) rfl rfl ?_
  refine sx_RP.br (p1 := 46) (l1 := [(0, .ref 111), (1, .int a1), (2, .int 64), (3, .int a3)]) (s1 := []) (v1 := sx_vB) rfl rfl (fun _ => ?_) (fun q => absurd p1 (of_decide_eq_false q))
  refine sx_RP.step (pc2 := 47) (ls2 := [(0, .ref 111), (1, .int a1), (2, .int 64), (3, .int a3)]) (st2 := [.int a3]) (w3 := sx_vB) rfl rfl ?_
  refine sx_RP.step (pc2 := 49) (ls2 := [(0, .ref 111), (1, .int a1), (2, .int 64), (3, .int a3)]) (st2 := [.int 40, .int a3]) (w3 := sx_vB) rfl rfl ?_
  refine sx_RP.br (p2 := 52) (l2 := [(0, .ref 111), (1, .int a1), (2, .int 64), (3, .int a3)]) (s2 := []) (v2 := sx_vB) rfl rfl (fun q => absurd (of_decide_eq_true q) n0) (fun _ => ?_)
  refine sx_RP.step (pc2 := 53) (ls2 := [(0, .ref 111), (1, .int a1), (2, .int 64), (3, .int a3)]) (st2 := [.ref 111]) (w3 := sx_vB) rfl rfl ?_
  refine sx_RP.step (pc2 := 54) (ls2 := [(0, .ref 111), (1, .int a1), (2, .int 64), (3, .int a3)]) (st2 := [.int 0, .ref 111]) (w3 := sx_vB) rfl rfl ?_
  refine sx_RP.cu (as := [.ref 111, .int 0]) (rest2 := []) (st3 := [.int (-1000000001)]) rfl rfl rfl rfl rfl (cn_B _) rfl ?_
  refine sx_RP.ret rfl rfl ?_
  rfl
