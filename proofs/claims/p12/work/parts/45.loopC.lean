-- safety: pure loops of the class
theorem above_at {xs : Option (List Int32)} : ∀ {x : Nat}, x ≤ 5 → ∃ v : Int32, (v = -1 ∨ inR v 5) ∧ (sx_st xs 1).getD x 0 = v := by
  intro x hx
  rcases (show x = 0 ∨ x = 1 ∨ x = 2 ∨ x = 3 ∨ x = 4 ∨ x = 5 by omega) with rfl | rfl | rfl | rfl | rfl | rfl
  · exact ⟨-1, Or.inl rfl, rfl⟩
  · exact ⟨0, Or.inr ⟨0, by decide, rfl⟩, rfl⟩
  · exact ⟨0, Or.inr ⟨0, by decide, rfl⟩, rfl⟩
  · exact ⟨1, Or.inr ⟨1, by decide, rfl⟩, rfl⟩
  · exact ⟨2, Or.inr ⟨2, by decide, rfl⟩, rfl⟩
  · exact ⟨3, Or.inr ⟨3, by decide, rfl⟩, rfl⟩
set_option maxRecDepth 20000 in
set_option maxHeartbeats 4000000 in
theorem p13B {xs : Option (List Int32)} {d : Nat} {w : List sx_C} {A : Nat} (hA : isA A) (x : Int32) (hI : WI w) {j : Nat} (hj : j ≤ 10) (n : Int32) (kk : ∀ (un : Int32), j + 1 ≤ 10 → sx_RP xs d 13 4 [(0, .ref A), (1, .int x), (2, .int un), (3, .int (nI (j + 1)))] [] w (fun r w2 => (∃ v : Int32, r = some (.int v)) ∧ w2 = w)) : sx_RP xs d 13 4 [(0, .ref A), (1, .int x), (2, .int n), (3, .int (nI j))] [] w (fun r w2 => (∃ v : Int32, r = some (.int v)) ∧ w2 = w) := by
  refine sx_RP.step (pc2 := 5) (ls2 := [(0, .ref A), (1, .int x), (2, .int n), (3, .int (nI j))]) (st2 := [.int (nI j)]) (w3 := w) rfl rfl ?_
  refine sx_RP.step (pc2 := 6) (ls2 := [(0, .ref A), (1, .int x), (2, .int n), (3, .int (nI j))]) (st2 := [.ref A, .int (nI j)]) (w3 := w) rfl rfl ?_
  refine sx_RP.gc (k := 3) hI hA rfl rfl (by omega) (show _ = 9 from rfl) ?_
  obtain ⟨x1, hx2, ex3⟩ : inR (fi w A 3) 10 := (hI.c hA).1
  rw [ex3]
  refine sx_RP.br (p1 := 46) (l1 := [(0, .ref A), (1, .int x), (2, .int n), (3, .int (nI j))]) (s1 := []) (v1 := w) (p2 := 12) (l2 := [(0, .ref A), (1, .int x), (2, .int n), (3, .int (nI j))]) (s2 := []) (v2 := w) rfl rfl (fun q4 => ?_) (fun q4 => ?_)
  · replace q4 := of_decide_eq_true q4
    replace q4 := (nI_leI (a := x1) (b := j) (by omega) (by omega)).mp q4
    refine sx_RP.step (pc2 := 47) (ls2 := [(0, .ref A), (1, .int x), (2, .int n), (3, .int (nI j))]) (st2 := [.int n]) (w3 := w) rfl rfl ?_
    refine sx_RP.ret (r := (some (.int n))) rfl rfl ?_
    exact ⟨⟨_, rfl⟩, rfl⟩
  · replace q4 := of_decide_eq_false q4
    replace q4 := mt (nI_leI (a := x1) (b := j) (by omega) (by omega)).mpr q4
    refine sx_RP.step (pc2 := 13) (ls2 := [(0, .ref A), (1, .int x), (2, .int n), (3, .int (nI j))]) (st2 := [.ref A]) (w3 := w) rfl rfl ?_
    refine sx_RP.gref (k := 2) (b := A + 2) hI hA rfl rfl (by omega) (show _ = 16 from rfl) ?_
    refine sx_RP.step (pc2 := 17) (ls2 := [(0, .ref A), (1, .int x), (2, .int n), (3, .int (nI j))]) (st2 := [.int (nI j), .ref (A + 2)]) (w3 := w) rfl rfl ?_
    refine sx_RP.ald (v := .ref (A + 4 + j)) rfl (hI.1.aG hA) rfl (grA_at (show j < 10 by omega)) (show _ = 18 from rfl) ?_
    refine sx_RP.gg (k := 5) hI (gAd.of hA (show j < 10 by omega)) rfl rfl (by decide) (show _ = 21 from rfl) ?_
    obtain ⟨x5, hx6, ex7⟩ : inR (fi w (A + 4 + j) 5) 1 := hI.gk (k := 5) (gAd.of hA (show j < 10 by omega)) (by decide)
    rw [ex7]
    refine sx_RP.br (p1 := 40) (l1 := [(0, .ref A), (1, .int x), (2, .int n), (3, .int (nI j))]) (s1 := []) (v1 := w) (p2 := 24) (l2 := [(0, .ref A), (1, .int x), (2, .int n), (3, .int (nI j))]) (s2 := []) (v2 := w) rfl rfl (fun q8 => ?_) (fun q8 => ?_)
    · replace q8 := of_decide_eq_true q8
      replace q8 := mt (nI_eq (a := x5) (b := 0) (by omega) (by omega)).mpr q8
      refine sx_RP.step (pc2 := 43) (ls2 := [(3, .int ((nI j) + 1)), (0, .ref A), (1, .int x), (2, .int n)]) (st2 := []) (w3 := w) rfl rfl ?_
      rw [nI_1 j]
      refine sx_RP.step (pc2 := 4) (ls2 := [(3, .int (nI (j + 1))), (0, .ref A), (1, .int x), (2, .int n)]) (st2 := []) (w3 := w) rfl rfl ?_
      exact sx_RP.ls (sx_lr.cons rfl (sx_lr.cons rfl (sx_lr.cons rfl (sx_lr.cons rfl sx_lr.nil)))) (kk n (by omega))
    · replace q8 := Decidable.not_not.mp (of_decide_eq_false q8)
      replace q8 := (nI_eq (a := x5) (b := 0) (by omega) (by omega)).mp q8
      refine sx_RP.step (pc2 := 25) (ls2 := [(0, .ref A), (1, .int x), (2, .int n), (3, .int (nI j))]) (st2 := [.ref A]) (w3 := w) rfl rfl ?_
      refine sx_RP.gref (k := 2) (b := A + 2) hI hA rfl rfl (by omega) (show _ = 28 from rfl) ?_
      refine sx_RP.step (pc2 := 29) (ls2 := [(0, .ref A), (1, .int x), (2, .int n), (3, .int (nI j))]) (st2 := [.int (nI j), .ref (A + 2)]) (w3 := w) rfl rfl ?_
      refine sx_RP.ald (v := .ref (A + 4 + j)) rfl (hI.1.aG hA) rfl (grA_at (show j < 10 by omega)) (show _ = 30 from rfl) ?_
      refine sx_RP.gg (k := 2) hI (gAd.of hA (show j < 10 by omega)) rfl rfl (by decide) (show _ = 33 from rfl) ?_
      obtain ⟨x9, hx10, ex11⟩ : inR (fi w (A + 4 + j) 2) 47 := hI.gk (k := 2) (gAd.of hA (show j < 10 by omega)) (by decide)
      rw [ex11]
      refine sx_RP.step (pc2 := 34) (ls2 := [(0, .ref A), (1, .int x), (2, .int n), (3, .int (nI j))]) (st2 := [.int x, .int (nI x9)]) (w3 := w) rfl rfl ?_
      refine sx_RP.br (p1 := 40) (l1 := [(0, .ref A), (1, .int x), (2, .int n), (3, .int (nI j))]) (s1 := []) (v1 := w) (p2 := 37) (l2 := [(0, .ref A), (1, .int x), (2, .int n), (3, .int (nI j))]) (s2 := []) (v2 := w) rfl rfl (fun q12 => ?_) (fun q12 => ?_)
      · replace q12 := of_decide_eq_true q12
        refine sx_RP.step (pc2 := 43) (ls2 := [(3, .int ((nI j) + 1)), (0, .ref A), (1, .int x), (2, .int n)]) (st2 := []) (w3 := w) rfl rfl ?_
        rw [nI_1 j]
        refine sx_RP.step (pc2 := 4) (ls2 := [(3, .int (nI (j + 1))), (0, .ref A), (1, .int x), (2, .int n)]) (st2 := []) (w3 := w) rfl rfl ?_
        exact sx_RP.ls (sx_lr.cons rfl (sx_lr.cons rfl (sx_lr.cons rfl (sx_lr.cons rfl sx_lr.nil)))) (kk n (by omega))
      · replace q12 := Decidable.not_not.mp (of_decide_eq_false q12)
        refine sx_RP.step (pc2 := 40) (ls2 := [(2, .int (n + 1)), (0, .ref A), (1, .int x), (3, .int (nI j))]) (st2 := []) (w3 := w) rfl rfl ?_
        refine sx_RP.step (pc2 := 43) (ls2 := [(3, .int ((nI j) + 1)), (2, .int (n + 1)), (0, .ref A), (1, .int x)]) (st2 := []) (w3 := w) rfl rfl ?_
        rw [nI_1 j]
        refine sx_RP.step (pc2 := 4) (ls2 := [(3, .int (nI (j + 1))), (2, .int (n + 1)), (0, .ref A), (1, .int x)]) (st2 := []) (w3 := w) rfl rfl ?_
        exact sx_RP.ls (sx_lr.cons rfl (sx_lr.cons rfl (sx_lr.cons rfl (sx_lr.cons rfl sx_lr.nil)))) (kk (n + 1) (by omega))
set_option maxRecDepth 20000 in
set_option maxHeartbeats 4000000 in
theorem p13L {xs : Option (List Int32)} {d : Nat} {w : List sx_C} {A : Nat} (hA : isA A) (x : Int32) (hI : WI w) : ∀ (fz j : Nat) (n : Int32) , 10 ≤ j + fz * 1 → j ≤ 10 → sx_RP xs d 13 4 [(0, .ref A), (1, .int x), (2, .int n), (3, .int (nI j))] [] w (fun r w2 => (∃ v : Int32, r = some (.int v)) ∧ w2 = w)
  | 0, j, n, h, hj => p13B hA x hI hj n  (fun un  hlt  => absurd hlt (by omega)) 
  | fz + 1, j, n, h, hj => p13B hA x hI hj n  (fun un  hlt  => p13L hA x hI  fz (j + 1) un (by omega) hlt ) 
set_option maxRecDepth 20000 in
set_option maxHeartbeats 4000000 in
theorem p13 {xs : Option (List Int32)} {d : Nat} {w : List sx_C} (hI : WI w) {A : Nat} (hA : isA A) (x : Int32) : ∃ v : Int32, sx_RU xs d 13 0 (lv_args 0 [.ref A, .int x]) [] w (some (.int v)) w := by
  have h : sx_RP xs d 13 0 (lv_args 0 [.ref A, .int x]) [] w (fun r w2 => (∃ v : Int32, r = some (.int v)) ∧ w2 = w) := by
    refine sx_RP.step (pc2 := 1) (ls2 := [(0, .ref A), (1, .int x)]) (st2 := [.int 0]) (w3 := w) rfl rfl ?_
    refine sx_RP.step (pc2 := 2) (ls2 := [(2, .int 0), (0, .ref A), (1, .int x)]) (st2 := []) (w3 := w) rfl rfl ?_
    refine sx_RP.step (pc2 := 3) (ls2 := [(2, .int 0), (0, .ref A), (1, .int x)]) (st2 := [.int 0]) (w3 := w) rfl rfl ?_
    refine sx_RP.step (pc2 := 4) (ls2 := [(3, .int 0), (2, .int 0), (0, .ref A), (1, .int x)]) (st2 := []) (w3 := w) rfl rfl ?_
    exact sx_RP.ls (sx_lr.cons rfl (sx_lr.cons rfl (sx_lr.cons rfl (sx_lr.cons rfl sx_lr.nil)))) (p13L hA x hI 10 0 0 (by omega) (by omega) )
  obtain ⟨r, w2, h1, ⟨v, rfl⟩, rfl⟩ := h
  exact ⟨v, h1⟩
set_option maxRecDepth 20000 in
set_option maxHeartbeats 4000000 in
theorem p42B {xs : Option (List Int32)} {d : Nat} {w : List sx_C} {A : Nat} (hA : isA A) (x : Int32) (hI : WI w) {j : Nat} (hj : j ≤ 10) (n : Int32) (kk : ∀ (un : Int32), j + 1 ≤ 10 → sx_RP xs (d + 1) 42 4 [(0, .ref A), (1, .int x), (2, .int un), (3, .int (nI (j + 1)))] [] w (fun r w2 => (∃ v : Int32, r = some (.int v)) ∧ w2 = w)) : sx_RP xs (d + 1) 42 4 [(0, .ref A), (1, .int x), (2, .int n), (3, .int (nI j))] [] w (fun r w2 => (∃ v : Int32, r = some (.int v)) ∧ w2 = w) := by
  refine sx_RP.step (pc2 := 5) (ls2 := [(0, .ref A), (1, .int x), (2, .int n), (3, .int (nI j))]) (st2 := [.int (nI j)]) (w3 := w) rfl rfl ?_
  refine sx_RP.step (pc2 := 6) (ls2 := [(0, .ref A), (1, .int x), (2, .int n), (3, .int (nI j))]) (st2 := [.ref A, .int (nI j)]) (w3 := w) rfl rfl ?_
  refine sx_RP.gc (k := 3) hI hA rfl rfl (by omega) (show _ = 9 from rfl) ?_
  obtain ⟨x1, hx2, ex3⟩ : inR (fi w A 3) 10 := (hI.c hA).1
  rw [ex3]
  refine sx_RP.br (p1 := 34) (l1 := [(0, .ref A), (1, .int x), (2, .int n), (3, .int (nI j))]) (s1 := []) (v1 := w) (p2 := 12) (l2 := [(0, .ref A), (1, .int x), (2, .int n), (3, .int (nI j))]) (s2 := []) (v2 := w) rfl rfl (fun q4 => ?_) (fun q4 => ?_)
  · replace q4 := of_decide_eq_true q4
    replace q4 := (nI_leI (a := x1) (b := j) (by omega) (by omega)).mp q4
    refine sx_RP.step (pc2 := 35) (ls2 := [(0, .ref A), (1, .int x), (2, .int n), (3, .int (nI j))]) (st2 := [.int n]) (w3 := w) rfl rfl ?_
    refine sx_RP.ret (r := (some (.int n))) rfl rfl ?_
    exact ⟨⟨_, rfl⟩, rfl⟩
  · replace q4 := of_decide_eq_false q4
    replace q4 := mt (nI_leI (a := x1) (b := j) (by omega) (by omega)).mpr q4
    refine sx_RP.step (pc2 := 13) (ls2 := [(0, .ref A), (1, .int x), (2, .int n), (3, .int (nI j))]) (st2 := [.ref A]) (w3 := w) rfl rfl ?_
    refine sx_RP.gref (k := 2) (b := A + 2) hI hA rfl rfl (by omega) (show _ = 16 from rfl) ?_
    refine sx_RP.step (pc2 := 17) (ls2 := [(0, .ref A), (1, .int x), (2, .int n), (3, .int (nI j))]) (st2 := [.int (nI j), .ref (A + 2)]) (w3 := w) rfl rfl ?_
    refine sx_RP.ald (v := .ref (A + 4 + j)) rfl (hI.1.aG hA) rfl (grA_at (show j < 10 by omega)) (show _ = 18 from rfl) ?_
    refine sx_RP.step (pc2 := 19) (ls2 := [(0, .ref A), (1, .int x), (2, .int n), (3, .int (nI j))]) (st2 := [.int x, .ref (A + 4 + j)]) (w3 := w) rfl rfl ?_
    obtain ⟨x5, hx6, c7⟩ := p43 hI (gAd.of hA (show j < 10 by omega)) x
    refine sx_RP.cu (as := [.ref (A + 4 + j), .int x]) (rest2 := []) (st3 := [.int (nI x5)]) rfl rfl (sx_inv_v2 (mi := 42) (k := 82) (st := [.int x, .ref (A + 4 + j)]) (w := w) rfl rfl (hI.1.oG (gAd.of hA (show j < 10 by omega))) rfl rfl rfl) rfl rfl (c7) rfl ?_
    refine sx_RP.br (p1 := 28) (l1 := [(0, .ref A), (1, .int x), (2, .int n), (3, .int (nI j))]) (s1 := []) (v1 := w) (p2 := 25) (l2 := [(0, .ref A), (1, .int x), (2, .int n), (3, .int (nI j))]) (s2 := []) (v2 := w) rfl rfl (fun q8 => ?_) (fun q8 => ?_)
    · replace q8 := of_decide_eq_true q8
      replace q8 := (nI_eq (a := x5) (b := 0) (by omega) (by omega)).mp q8
      refine sx_RP.step (pc2 := 31) (ls2 := [(3, .int ((nI j) + 1)), (0, .ref A), (1, .int x), (2, .int n)]) (st2 := []) (w3 := w) rfl rfl ?_
      rw [nI_1 j]
      refine sx_RP.step (pc2 := 4) (ls2 := [(3, .int (nI (j + 1))), (0, .ref A), (1, .int x), (2, .int n)]) (st2 := []) (w3 := w) rfl rfl ?_
      exact sx_RP.ls (sx_lr.cons rfl (sx_lr.cons rfl (sx_lr.cons rfl (sx_lr.cons rfl sx_lr.nil)))) (kk n (by omega))
    · replace q8 := of_decide_eq_false q8
      replace q8 := mt (nI_eq (a := x5) (b := 0) (by omega) (by omega)).mpr q8
      refine sx_RP.step (pc2 := 28) (ls2 := [(2, .int (n + 1)), (0, .ref A), (1, .int x), (3, .int (nI j))]) (st2 := []) (w3 := w) rfl rfl ?_
      refine sx_RP.step (pc2 := 31) (ls2 := [(3, .int ((nI j) + 1)), (2, .int (n + 1)), (0, .ref A), (1, .int x)]) (st2 := []) (w3 := w) rfl rfl ?_
      rw [nI_1 j]
      refine sx_RP.step (pc2 := 4) (ls2 := [(3, .int (nI (j + 1))), (2, .int (n + 1)), (0, .ref A), (1, .int x)]) (st2 := []) (w3 := w) rfl rfl ?_
      exact sx_RP.ls (sx_lr.cons rfl (sx_lr.cons rfl (sx_lr.cons rfl (sx_lr.cons rfl sx_lr.nil)))) (kk (n + 1) (by omega))
set_option maxRecDepth 20000 in
set_option maxHeartbeats 4000000 in
theorem p42L {xs : Option (List Int32)} {d : Nat} {w : List sx_C} {A : Nat} (hA : isA A) (x : Int32) (hI : WI w) : ∀ (fz j : Nat) (n : Int32) , 10 ≤ j + fz * 1 → j ≤ 10 → sx_RP xs (d + 1) 42 4 [(0, .ref A), (1, .int x), (2, .int n), (3, .int (nI j))] [] w (fun r w2 => (∃ v : Int32, r = some (.int v)) ∧ w2 = w)
  | 0, j, n, h, hj => p42B hA x hI hj n  (fun un  hlt  => absurd hlt (by omega)) 
  | fz + 1, j, n, h, hj => p42B hA x hI hj n  (fun un  hlt  => p42L hA x hI  fz (j + 1) un (by omega) hlt ) 
set_option maxRecDepth 20000 in
set_option maxHeartbeats 4000000 in
theorem p42 {xs : Option (List Int32)} {d : Nat} {w : List sx_C} (hI : WI w) {A : Nat} (hA : isA A) (x : Int32) : ∃ v : Int32, sx_RU xs (d + 1) 42 0 (lv_args 0 [.ref A, .int x]) [] w (some (.int v)) w := by
  have h : sx_RP xs (d + 1) 42 0 (lv_args 0 [.ref A, .int x]) [] w (fun r w2 => (∃ v : Int32, r = some (.int v)) ∧ w2 = w) := by
    refine sx_RP.step (pc2 := 1) (ls2 := [(0, .ref A), (1, .int x)]) (st2 := [.int 0]) (w3 := w) rfl rfl ?_
    refine sx_RP.step (pc2 := 2) (ls2 := [(2, .int 0), (0, .ref A), (1, .int x)]) (st2 := []) (w3 := w) rfl rfl ?_
    refine sx_RP.step (pc2 := 3) (ls2 := [(2, .int 0), (0, .ref A), (1, .int x)]) (st2 := [.int 0]) (w3 := w) rfl rfl ?_
    refine sx_RP.step (pc2 := 4) (ls2 := [(3, .int 0), (2, .int 0), (0, .ref A), (1, .int x)]) (st2 := []) (w3 := w) rfl rfl ?_
    exact sx_RP.ls (sx_lr.cons rfl (sx_lr.cons rfl (sx_lr.cons rfl (sx_lr.cons rfl sx_lr.nil)))) (p42L hA x hI 10 0 0 (by omega) (by omega) )
  obtain ⟨r, w2, h1, ⟨v, rfl⟩, rfl⟩ := h
  exact ⟨v, h1⟩
set_option maxRecDepth 20000 in
set_option maxHeartbeats 4000000 in
theorem p45B {xs : Option (List Int32)} {d : Nat} {w : List sx_C} {A : Nat} (hA : isA A) (x : Int32) (hI : WI w) {j : Nat} (hj : j ≤ 10) (kk : j + 1 ≤ 10 → sx_RP xs (d + 2) 45 2 [(0, .ref A), (1, .int x), (2, .int (nI (j + 1)))] [] w (fun r w2 => (∃ j, j ≤ 1 ∧ r = some (.int (nI j))) ∧ w2 = w)) : sx_RP xs (d + 2) 45 2 [(0, .ref A), (1, .int x), (2, .int (nI j))] [] w (fun r w2 => (∃ j, j ≤ 1 ∧ r = some (.int (nI j))) ∧ w2 = w) := by
  refine sx_RP.step (pc2 := 3) (ls2 := [(0, .ref A), (1, .int x), (2, .int (nI j))]) (st2 := [.int (nI j)]) (w3 := w) rfl rfl ?_
  refine sx_RP.step (pc2 := 4) (ls2 := [(0, .ref A), (1, .int x), (2, .int (nI j))]) (st2 := [.ref A, .int (nI j)]) (w3 := w) rfl rfl ?_
  refine sx_RP.gc (k := 3) hI hA rfl rfl (by omega) (show _ = 7 from rfl) ?_
  obtain ⟨x1, hx2, ex3⟩ : inR (fi w A 3) 10 := (hI.c hA).1
  rw [ex3]
  refine sx_RP.br (p1 := 48) (l1 := [(0, .ref A), (1, .int x), (2, .int (nI j))]) (s1 := []) (v1 := w) (p2 := 10) (l2 := [(0, .ref A), (1, .int x), (2, .int (nI j))]) (s2 := []) (v2 := w) rfl rfl (fun q4 => ?_) (fun q4 => ?_)
  · replace q4 := of_decide_eq_true q4
    replace q4 := (nI_leI (a := x1) (b := j) (by omega) (by omega)).mp q4
    refine sx_RP.step (pc2 := 49) (ls2 := [(0, .ref A), (1, .int x), (2, .int (nI j))]) (st2 := [.int 0]) (w3 := w) rfl rfl ?_
    refine sx_RP.ret (r := (some (.int 0))) rfl rfl ?_
    exact ⟨⟨0, by decide, rfl⟩, rfl⟩
  · replace q4 := of_decide_eq_false q4
    replace q4 := mt (nI_leI (a := x1) (b := j) (by omega) (by omega)).mpr q4
    refine sx_RP.step (pc2 := 11) (ls2 := [(0, .ref A), (1, .int x), (2, .int (nI j))]) (st2 := [.ref A]) (w3 := w) rfl rfl ?_
    refine sx_RP.gref (k := 2) (b := A + 2) hI hA rfl rfl (by omega) (show _ = 14 from rfl) ?_
    refine sx_RP.step (pc2 := 15) (ls2 := [(0, .ref A), (1, .int x), (2, .int (nI j))]) (st2 := [.int (nI j), .ref (A + 2)]) (w3 := w) rfl rfl ?_
    refine sx_RP.ald (v := .ref (A + 4 + j)) rfl (hI.1.aG hA) rfl (grA_at (show j < 10 by omega)) (show _ = 16 from rfl) ?_
    refine sx_RP.step (pc2 := 17) (ls2 := [(0, .ref A), (1, .int x), (2, .int (nI j))]) (st2 := [.int 1, .ref (A + 4 + j)]) (w3 := w) rfl rfl ?_
    obtain ⟨x5, hx6, c7⟩ := p43 hI (gAd.of hA (show j < 10 by omega)) 1
    refine sx_RP.cu (as := [.ref (A + 4 + j), .int 1]) (rest2 := []) (st3 := [.int (nI x5)]) rfl rfl (sx_inv_v2 (mi := 45) (k := 82) (st := [.int 1, .ref (A + 4 + j)]) (w := w) rfl rfl (hI.1.oG (gAd.of hA (show j < 10 by omega))) rfl rfl rfl) rfl rfl (c7) rfl ?_
    refine sx_RP.br (p1 := 42) (l1 := [(0, .ref A), (1, .int x), (2, .int (nI j))]) (s1 := []) (v1 := w) (p2 := 23) (l2 := [(0, .ref A), (1, .int x), (2, .int (nI j))]) (s2 := []) (v2 := w) rfl rfl (fun q8 => ?_) (fun q8 => ?_)
    · replace q8 := of_decide_eq_true q8
      replace q8 := (nI_eq (a := x5) (b := 0) (by omega) (by omega)).mp q8
      refine sx_RP.step (pc2 := 45) (ls2 := [(2, .int ((nI j) + 1)), (0, .ref A), (1, .int x)]) (st2 := []) (w3 := w) rfl rfl ?_
      rw [nI_1 j]
      refine sx_RP.step (pc2 := 2) (ls2 := [(2, .int (nI (j + 1))), (0, .ref A), (1, .int x)]) (st2 := []) (w3 := w) rfl rfl ?_
      exact sx_RP.ls (sx_lr.cons rfl (sx_lr.cons rfl (sx_lr.cons rfl sx_lr.nil))) (kk (by omega))
    · replace q8 := of_decide_eq_false q8
      replace q8 := mt (nI_eq (a := x5) (b := 0) (by omega) (by omega)).mpr q8
      refine sx_RP.step (pc2 := 24) (ls2 := [(0, .ref A), (1, .int x), (2, .int (nI j))]) (st2 := [.ref A]) (w3 := w) rfl rfl ?_
      refine sx_RP.gref (k := 2) (b := A + 2) hI hA rfl rfl (by omega) (show _ = 27 from rfl) ?_
      refine sx_RP.step (pc2 := 28) (ls2 := [(0, .ref A), (1, .int x), (2, .int (nI j))]) (st2 := [.int (nI j), .ref (A + 2)]) (w3 := w) rfl rfl ?_
      refine sx_RP.ald (v := .ref (A + 4 + j)) rfl (hI.1.aG hA) rfl (grA_at (show j < 10 by omega)) (show _ = 29 from rfl) ?_
      refine sx_RP.gg (k := 2) hI (gAd.of hA (show j < 10 by omega)) rfl rfl (by decide) (show _ = 32 from rfl) ?_
      obtain ⟨x9, hx10, ex11⟩ : inR (fi w (A + 4 + j) 2) 47 := hI.gk (k := 2) (gAd.of hA (show j < 10 by omega)) (by decide)
      rw [ex11]
      refine sx_RP.step (pc2 := 33) (ls2 := [(0, .ref A), (1, .int x), (2, .int (nI j))]) (st2 := [.int x, .int (nI x9)]) (w3 := w) rfl rfl ?_
      obtain ⟨v12, c13⟩ := p46 hI (nI x9) x
      refine sx_RP.cu (as := [.int (nI x9), .int x]) (rest2 := []) (st3 := [.int v12]) rfl rfl rfl rfl rfl (c13) rfl ?_
      refine sx_RP.step (pc2 := 37) (ls2 := [(0, .ref A), (1, .int x), (2, .int (nI j))]) (st2 := [.int 1, .int v12]) (w3 := w) rfl rfl ?_
      refine sx_RP.br (p1 := 42) (l1 := [(0, .ref A), (1, .int x), (2, .int (nI j))]) (s1 := []) (v1 := w) (p2 := 40) (l2 := [(0, .ref A), (1, .int x), (2, .int (nI j))]) (s2 := []) (v2 := w) rfl rfl (fun q14 => ?_) (fun q14 => ?_)
      · replace q14 := of_decide_eq_true q14
        refine sx_RP.step (pc2 := 45) (ls2 := [(2, .int ((nI j) + 1)), (0, .ref A), (1, .int x)]) (st2 := []) (w3 := w) rfl rfl ?_
        rw [nI_1 j]
        refine sx_RP.step (pc2 := 2) (ls2 := [(2, .int (nI (j + 1))), (0, .ref A), (1, .int x)]) (st2 := []) (w3 := w) rfl rfl ?_
        exact sx_RP.ls (sx_lr.cons rfl (sx_lr.cons rfl (sx_lr.cons rfl sx_lr.nil))) (kk (by omega))
      · replace q14 := of_decide_eq_false q14
        refine sx_RP.step (pc2 := 41) (ls2 := [(0, .ref A), (1, .int x), (2, .int (nI j))]) (st2 := [.int 1]) (w3 := w) rfl rfl ?_
        refine sx_RP.ret (r := (some (.int 1))) rfl rfl ?_
        exact ⟨⟨1, by decide, rfl⟩, rfl⟩
set_option maxRecDepth 20000 in
set_option maxHeartbeats 4000000 in
theorem p45L {xs : Option (List Int32)} {d : Nat} {w : List sx_C} {A : Nat} (hA : isA A) (x : Int32) (hI : WI w) : ∀ (fz j : Nat) , 10 ≤ j + fz * 1 → j ≤ 10 → sx_RP xs (d + 2) 45 2 [(0, .ref A), (1, .int x), (2, .int (nI j))] [] w (fun r w2 => (∃ j, j ≤ 1 ∧ r = some (.int (nI j))) ∧ w2 = w)
  | 0, j, h, hj => p45B hA x hI hj   (fun   hlt  => absurd hlt (by omega)) 
  | fz + 1, j, h, hj => p45B hA x hI hj   (fun   hlt  => p45L hA x hI  fz (j + 1)  (by omega) hlt ) 
set_option maxRecDepth 20000 in
set_option maxHeartbeats 4000000 in
theorem p45 {xs : Option (List Int32)} {d : Nat} {w : List sx_C} (hI : WI w) {A : Nat} (hA : isA A) (x : Int32) : ∃ j, j ≤ 1 ∧ sx_RU xs (d + 2) 45 0 (lv_args 0 [.ref A, .int x]) [] w (some (.int (nI j))) w := by
  have h : sx_RP xs (d + 2) 45 0 (lv_args 0 [.ref A, .int x]) [] w (fun r w2 => (∃ j, j ≤ 1 ∧ r = some (.int (nI j))) ∧ w2 = w) := by
    refine sx_RP.step (pc2 := 1) (ls2 := [(0, .ref A), (1, .int x)]) (st2 := [.int 0]) (w3 := w) rfl rfl ?_
    refine sx_RP.step (pc2 := 2) (ls2 := [(2, .int 0), (0, .ref A), (1, .int x)]) (st2 := []) (w3 := w) rfl rfl ?_
    exact sx_RP.ls (sx_lr.cons rfl (sx_lr.cons rfl (sx_lr.cons rfl sx_lr.nil))) (p45L hA x hI 10 0  (by omega) (by omega) )
  obtain ⟨r, w2, h1, ⟨j, hj, rfl⟩, rfl⟩ := h
  exact ⟨j, hj, h1⟩
set_option maxRecDepth 20000 in
set_option maxHeartbeats 4000000 in
theorem p54B {xs : Option (List Int32)} {d : Nat} {w : List sx_C} {A : Nat} (hA : isA A) (hI : WI w) {j : Nat} (hj : j ≤ 10) (kk : j + 1 ≤ 10 → sx_RP xs (d + 1) 54 2 [(0, .ref A), (1, .int (nI (j + 1)))] [] w (fun r w2 => (∃ v : Int32, r = some (.int v)) ∧ w2 = w)) : sx_RP xs (d + 1) 54 2 [(0, .ref A), (1, .int (nI j))] [] w (fun r w2 => (∃ v : Int32, r = some (.int v)) ∧ w2 = w) := by
  refine sx_RP.step (pc2 := 3) (ls2 := [(0, .ref A), (1, .int (nI j))]) (st2 := [.int (nI j)]) (w3 := w) rfl rfl ?_
  refine sx_RP.step (pc2 := 4) (ls2 := [(0, .ref A), (1, .int (nI j))]) (st2 := [.ref A, .int (nI j)]) (w3 := w) rfl rfl ?_
  refine sx_RP.gc (k := 3) hI hA rfl rfl (by omega) (show _ = 7 from rfl) ?_
  obtain ⟨x1, hx2, ex3⟩ : inR (fi w A 3) 10 := (hI.c hA).1
  rw [ex3]
  refine sx_RP.br (p1 := 46) (l1 := [(0, .ref A), (1, .int (nI j))]) (s1 := []) (v1 := w) (p2 := 10) (l2 := [(0, .ref A), (1, .int (nI j))]) (s2 := []) (v2 := w) rfl rfl (fun q4 => ?_) (fun q4 => ?_)
  · replace q4 := of_decide_eq_true q4
    replace q4 := (nI_leI (a := x1) (b := j) (by omega) (by omega)).mp q4
    refine sx_RP.step (pc2 := 47) (ls2 := [(0, .ref A), (1, .int (nI j))]) (st2 := [.int (-1)]) (w3 := w) rfl rfl ?_
    refine sx_RP.ret (r := (some (.int (-1)))) rfl rfl ?_
    exact ⟨⟨_, rfl⟩, rfl⟩
  · replace q4 := of_decide_eq_false q4
    replace q4 := mt (nI_leI (a := x1) (b := j) (by omega) (by omega)).mpr q4
    refine sx_RP.step (pc2 := 11) (ls2 := [(0, .ref A), (1, .int (nI j))]) (st2 := [.ref A]) (w3 := w) rfl rfl ?_
    refine sx_RP.gref (k := 2) (b := A + 2) hI hA rfl rfl (by omega) (show _ = 14 from rfl) ?_
    refine sx_RP.step (pc2 := 15) (ls2 := [(0, .ref A), (1, .int (nI j))]) (st2 := [.int (nI j), .ref (A + 2)]) (w3 := w) rfl rfl ?_
    refine sx_RP.ald (v := .ref (A + 4 + j)) rfl (hI.1.aG hA) rfl (grA_at (show j < 10 by omega)) (show _ = 16 from rfl) ?_
    refine sx_RP.gg (k := 1) hI (gAd.of hA (show j < 10 by omega)) rfl rfl (by decide) (show _ = 19 from rfl) ?_
    obtain ⟨x5, hx6, ex7⟩ : inR (fi w (A + 4 + j) 1) 1 := hI.gk (k := 1) (gAd.of hA (show j < 10 by omega)) (by decide)
    rw [ex7]
    refine sx_RP.br (p1 := 40) (l1 := [(0, .ref A), (1, .int (nI j))]) (s1 := []) (v1 := w) (p2 := 22) (l2 := [(0, .ref A), (1, .int (nI j))]) (s2 := []) (v2 := w) rfl rfl (fun q8 => ?_) (fun q8 => ?_)
    · replace q8 := of_decide_eq_true q8
      replace q8 := mt (nI_eq (a := x5) (b := 0) (by omega) (by omega)).mpr q8
      refine sx_RP.step (pc2 := 43) (ls2 := [(1, .int ((nI j) + 1)), (0, .ref A)]) (st2 := []) (w3 := w) rfl rfl ?_
      rw [nI_1 j]
      refine sx_RP.step (pc2 := 2) (ls2 := [(1, .int (nI (j + 1))), (0, .ref A)]) (st2 := []) (w3 := w) rfl rfl ?_
      exact sx_RP.ls (sx_lr.cons rfl (sx_lr.cons rfl sx_lr.nil)) (kk (by omega))
    · replace q8 := Decidable.not_not.mp (of_decide_eq_false q8)
      replace q8 := (nI_eq (a := x5) (b := 0) (by omega) (by omega)).mp q8
      refine sx_RP.step (pc2 := 23) (ls2 := [(0, .ref A), (1, .int (nI j))]) (st2 := [.ref A]) (w3 := w) rfl rfl ?_
      refine sx_RP.step (pc2 := 24) (ls2 := [(0, .ref A), (1, .int (nI j))]) (st2 := [.ref A, .ref A]) (w3 := w) rfl rfl ?_
      refine sx_RP.gref (k := 2) (b := A + 2) hI hA rfl rfl (by omega) (show _ = 27 from rfl) ?_
      refine sx_RP.step (pc2 := 28) (ls2 := [(0, .ref A), (1, .int (nI j))]) (st2 := [.int (nI j), .ref (A + 2), .ref A]) (w3 := w) rfl rfl ?_
      refine sx_RP.ald (v := .ref (A + 4 + j)) rfl (hI.1.aG hA) rfl (grA_at (show j < 10 by omega)) (show _ = 29 from rfl) ?_
      refine sx_RP.gg (k := 2) hI (gAd.of hA (show j < 10 by omega)) rfl rfl (by decide) (show _ = 32 from rfl) ?_
      obtain ⟨x9, hx10, ex11⟩ : inR (fi w (A + 4 + j) 2) 47 := hI.gk (k := 2) (gAd.of hA (show j < 10 by omega)) (by decide)
      rw [ex11]
      obtain ⟨x12, hx13, c14⟩ := p11 hI hA (nI x9)
      refine sx_RP.cu (as := [.ref A, .int (nI x9)]) (rest2 := []) (st3 := [.int (nI x12)]) rfl rfl (sx_inv_v2 (mi := 54) (k := 86) (st := [.int (nI x9), .ref A]) (w := w) rfl rfl (hI.1.oC hA) rfl rfl rfl) rfl rfl (c14) rfl ?_
      refine sx_RP.br (p1 := 40) (l1 := [(0, .ref A), (1, .int (nI j))]) (s1 := []) (v1 := w) (p2 := 38) (l2 := [(0, .ref A), (1, .int (nI j))]) (s2 := []) (v2 := w) rfl rfl (fun q15 => ?_) (fun q15 => ?_)
      · replace q15 := of_decide_eq_true q15
        replace q15 := (nI_eq (a := x12) (b := 0) (by omega) (by omega)).mp q15
        refine sx_RP.step (pc2 := 43) (ls2 := [(1, .int ((nI j) + 1)), (0, .ref A)]) (st2 := []) (w3 := w) rfl rfl ?_
        rw [nI_1 j]
        refine sx_RP.step (pc2 := 2) (ls2 := [(1, .int (nI (j + 1))), (0, .ref A)]) (st2 := []) (w3 := w) rfl rfl ?_
        exact sx_RP.ls (sx_lr.cons rfl (sx_lr.cons rfl sx_lr.nil)) (kk (by omega))
      · replace q15 := of_decide_eq_false q15
        replace q15 := mt (nI_eq (a := x12) (b := 0) (by omega) (by omega)).mpr q15
        refine sx_RP.step (pc2 := 39) (ls2 := [(0, .ref A), (1, .int (nI j))]) (st2 := [.int (nI j)]) (w3 := w) rfl rfl ?_
        refine sx_RP.ret (r := (some (.int (nI j)))) rfl rfl ?_
        exact ⟨⟨_, rfl⟩, rfl⟩
set_option maxRecDepth 20000 in
set_option maxHeartbeats 4000000 in
theorem p54L {xs : Option (List Int32)} {d : Nat} {w : List sx_C} {A : Nat} (hA : isA A) (hI : WI w) : ∀ (fz j : Nat) , 10 ≤ j + fz * 1 → j ≤ 10 → sx_RP xs (d + 1) 54 2 [(0, .ref A), (1, .int (nI j))] [] w (fun r w2 => (∃ v : Int32, r = some (.int v)) ∧ w2 = w)
  | 0, j, h, hj => p54B hA hI hj   (fun   hlt  => absurd hlt (by omega)) 
  | fz + 1, j, h, hj => p54B hA hI hj   (fun   hlt  => p54L hA hI  fz (j + 1)  (by omega) hlt ) 
set_option maxRecDepth 20000 in
set_option maxHeartbeats 4000000 in
theorem p54 {xs : Option (List Int32)} {d : Nat} {w : List sx_C} (hI : WI w) {A : Nat} (hA : isA A) : ∃ v : Int32, sx_RU xs (d + 1) 54 0 (lv_args 0 [.ref A]) [] w (some (.int v)) w := by
  have h : sx_RP xs (d + 1) 54 0 (lv_args 0 [.ref A]) [] w (fun r w2 => (∃ v : Int32, r = some (.int v)) ∧ w2 = w) := by
    refine sx_RP.step (pc2 := 1) (ls2 := [(0, .ref A)]) (st2 := [.int 0]) (w3 := w) rfl rfl ?_
    refine sx_RP.step (pc2 := 2) (ls2 := [(1, .int 0), (0, .ref A)]) (st2 := []) (w3 := w) rfl rfl ?_
    exact sx_RP.ls (sx_lr.cons rfl (sx_lr.cons rfl sx_lr.nil)) (p54L hA hI 10 0  (by omega) (by omega) )
  obtain ⟨r, w2, h1, ⟨v, rfl⟩, rfl⟩ := h
  exact ⟨v, h1⟩
set_option maxRecDepth 20000 in
set_option maxHeartbeats 4000000 in
theorem p77B {xs : Option (List Int32)} {d : Nat} {w : List sx_C} {A : Nat} (hA : isA A) (x y : Int32) (hI : WI w) {j : Nat} (hj : j ≤ 48) (s : Int64) (kk : ∀ (us : Int64), j + 1 ≤ 48 → sx_RP xs (d + 2) 77 5 [(0, .ref A), (1, .int x), (2, .int y), (3, .long us), (5, .int (nI (j + 1)))] [] w (fun r w2 => (∃ v : Int64, r = some (.long v)) ∧ w2 = w)) : sx_RP xs (d + 2) 77 5 [(0, .ref A), (1, .int x), (2, .int y), (3, .long s), (5, .int (nI j))] [] w (fun r w2 => (∃ v : Int64, r = some (.long v)) ∧ w2 = w) := by
  refine sx_RP.step (pc2 := 7) (ls2 := [(0, .ref A), (1, .int x), (2, .int y), (3, .long s), (5, .int (nI j))]) (st2 := [.int (nI j)]) (w3 := w) rfl rfl ?_
  refine sx_RP.step (pc2 := 9) (ls2 := [(0, .ref A), (1, .int x), (2, .int y), (3, .long s), (5, .int (nI j))]) (st2 := [.int 48, .int (nI j)]) (w3 := w) rfl rfl ?_
  refine sx_RP.br (p1 := 58) (l1 := [(0, .ref A), (1, .int x), (2, .int y), (3, .long s), (5, .int (nI j))]) (s1 := []) (v1 := w) (p2 := 12) (l2 := [(0, .ref A), (1, .int x), (2, .int y), (3, .long s), (5, .int (nI j))]) (s2 := []) (v2 := w) rfl rfl (fun q1 => ?_) (fun q1 => ?_)
  · replace q1 := of_decide_eq_true q1
    replace q1 := (nI_leI (a := 48) (b := j) (by omega) (by omega)).mp q1
    refine sx_RP.step (pc2 := 59) (ls2 := [(0, .ref A), (1, .int x), (2, .int y), (3, .long s), (5, .int (nI j))]) (st2 := [.long s]) (w3 := w) rfl rfl ?_
    refine sx_RP.ret (r := (some (.long s))) rfl rfl ?_
    exact ⟨⟨_, rfl⟩, rfl⟩
  · replace q1 := of_decide_eq_false q1
    replace q1 := mt (nI_leI (a := 48) (b := j) (by omega) (by omega)).mpr q1
    refine sx_RP.step (pc2 := 13) (ls2 := [(0, .ref A), (1, .int x), (2, .int y), (3, .long s), (5, .int (nI j))]) (st2 := [.int y]) (w3 := w) rfl rfl ?_
    refine sx_RP.step (pc2 := 14) (ls2 := [(0, .ref A), (1, .int x), (2, .int y), (3, .long s), (5, .int (nI j))]) (st2 := [.int 3, .int y]) (w3 := w) rfl rfl ?_
    refine sx_RP.step (pc2 := 15) (ls2 := [(0, .ref A), (1, .int x), (2, .int y), (3, .long s), (5, .int (nI j))]) (st2 := [.int x, .int 3, .int y]) (w3 := w) rfl rfl ?_
    refine sx_RP.step (pc2 := 17) (ls2 := [(0, .ref A), (1, .int x), (2, .int y), (3, .long s), (5, .int (nI j))]) (st2 := [.int (nI j), .int x, .int 3, .int y]) (w3 := w) rfl rfl ?_
    obtain ⟨v2, c3⟩ := p46 hI x (nI j)
    refine sx_RP.cu (as := [.int x, .int (nI j)]) (rest2 := [.int 3, .int y]) (st3 := [.int v2, .int 3, .int y]) rfl rfl rfl rfl rfl (c3) rfl ?_
    refine sx_RP.step (pc2 := 21) (ls2 := [(0, .ref A), (1, .int x), (2, .int y), (3, .long s), (5, .int (nI j))]) (st2 := [.int (3 * v2), .int y]) (w3 := w) rfl rfl ?_
    refine sx_RP.step (pc2 := 22) (ls2 := [(0, .ref A), (1, .int x), (2, .int y), (3, .long s), (5, .int (nI j))]) (st2 := [.int (y - (3 * v2))]) (w3 := w) rfl rfl ?_
    refine sx_RP.step (pc2 := 24) (ls2 := [(6, .int (y - (3 * v2))), (0, .ref A), (1, .int x), (2, .int y), (3, .long s), (5, .int (nI j))]) (st2 := []) (w3 := w) rfl rfl ?_
    refine sx_RP.step (pc2 := 26) (ls2 := [(6, .int (y - (3 * v2))), (0, .ref A), (1, .int x), (2, .int y), (3, .long s), (5, .int (nI j))]) (st2 := [.int (y - (3 * v2))]) (w3 := w) rfl rfl ?_
    refine sx_RP.step (pc2 := 27) (ls2 := [(6, .int (y - (3 * v2))), (0, .ref A), (1, .int x), (2, .int y), (3, .long s), (5, .int (nI j))]) (st2 := [.ref A, .int (y - (3 * v2))]) (w3 := w) rfl rfl ?_
    refine sx_RP.gref (k := 0) (b := A + 1) hI hA rfl rfl (by omega) (show _ = 30 from rfl) ?_
    refine sx_RP.step (pc2 := 32) (ls2 := [(6, .int (y - (3 * v2))), (0, .ref A), (1, .int x), (2, .int y), (3, .long s), (5, .int (nI j))]) (st2 := [.int (nI j), .ref (A + 1), .int (y - (3 * v2))]) (w3 := w) rfl rfl ?_
    refine sx_RP.ild (c := j) rfl (hI.1.aS hA).1 (hI.1.aS hA).2 (sx_in_nI (show j < 48 by omega) (by decide)) (show (nI j).toNatClampNeg = j from nI_clamp (by omega)) (show _ = 33 from rfl) ?_
    obtain ⟨x4, hx5, ex6⟩ : inR ((ia w (A + 1)).getD j 0) 3 := hI.st hA (show j < 48 by omega)
    rw [ex6]
    refine sx_RP.step (pc2 := 34) (ls2 := [(6, .int (y - (3 * v2))), (0, .ref A), (1, .int x), (2, .int y), (3, .long s), (5, .int (nI j))]) (st2 := [.int 2, .int (nI x4), .int (y - (3 * v2))]) (w3 := w) rfl rfl ?_
    refine sx_RP.br (p1 := 41) (l1 := [(6, .int (y - (3 * v2))), (0, .ref A), (1, .int x), (2, .int y), (3, .long s), (5, .int (nI j))]) (s1 := [.int (y - (3 * v2))]) (v1 := w) (p2 := 37) (l2 := [(6, .int (y - (3 * v2))), (0, .ref A), (1, .int x), (2, .int y), (3, .long s), (5, .int (nI j))]) (s2 := [.int (y - (3 * v2))]) (v2 := w) rfl rfl (fun q7 => ?_) (fun q7 => ?_)
    · replace q7 := of_decide_eq_true q7
      replace q7 := mt (nI_eq (a := x4) (b := 2) (by omega) (by omega)).mpr q7
      refine sx_RP.step (pc2 := 42) (ls2 := [(6, .int (y - (3 * v2))), (0, .ref A), (1, .int x), (2, .int y), (3, .long s), (5, .int (nI j))]) (st2 := [.int 0, .int (y - (3 * v2))]) (w3 := w) rfl rfl ?_
      refine sx_RP.br (p1 := 52) (l1 := [(6, .int (y - (3 * v2))), (0, .ref A), (1, .int x), (2, .int y), (3, .long s), (5, .int (nI j))]) (s1 := []) (v1 := w) (p2 := 45) (l2 := [(6, .int (y - (3 * v2))), (0, .ref A), (1, .int x), (2, .int y), (3, .long s), (5, .int (nI j))]) (s2 := []) (v2 := w) rfl rfl (fun q8 => ?_) (fun q8 => ?_)
      · replace q8 := of_decide_eq_true q8
        refine sx_RP.step (pc2 := 55) (ls2 := [(5, .int ((nI j) + 1)), (6, .int (y - (3 * v2))), (0, .ref A), (1, .int x), (2, .int y), (3, .long s)]) (st2 := []) (w3 := w) rfl rfl ?_
        rw [nI_1 j]
        refine sx_RP.step (pc2 := 5) (ls2 := [(5, .int (nI (j + 1))), (6, .int (y - (3 * v2))), (0, .ref A), (1, .int x), (2, .int y), (3, .long s)]) (st2 := []) (w3 := w) rfl rfl ?_
        exact sx_RP.ls (sx_lr.cons rfl (sx_lr.cons rfl (sx_lr.cons rfl (sx_lr.cons rfl (sx_lr.cons rfl sx_lr.nil))))) (kk s (by omega))
      · replace q8 := of_decide_eq_false q8
        refine sx_RP.step (pc2 := 46) (ls2 := [(6, .int (y - (3 * v2))), (0, .ref A), (1, .int x), (2, .int y), (3, .long s), (5, .int (nI j))]) (st2 := [.long s]) (w3 := w) rfl rfl ?_
        refine sx_RP.step (pc2 := 47) (ls2 := [(6, .int (y - (3 * v2))), (0, .ref A), (1, .int x), (2, .int y), (3, .long s), (5, .int (nI j))]) (st2 := [.long 1, .long s]) (w3 := w) rfl rfl ?_
        refine sx_RP.step (pc2 := 49) (ls2 := [(6, .int (y - (3 * v2))), (0, .ref A), (1, .int x), (2, .int y), (3, .long s), (5, .int (nI j))]) (st2 := [.int (nI j), .long 1, .long s]) (w3 := w) rfl rfl ?_
        refine sx_RP.step (pc2 := 50) (ls2 := [(6, .int (y - (3 * v2))), (0, .ref A), (1, .int x), (2, .int y), (3, .long s), (5, .int (nI j))]) (st2 := [.long ((1 : Int64) <<< ((nI j).toInt64 &&& 63)), .long s]) (w3 := w) rfl rfl ?_
        refine sx_RP.step (pc2 := 51) (ls2 := [(6, .int (y - (3 * v2))), (0, .ref A), (1, .int x), (2, .int y), (3, .long s), (5, .int (nI j))]) (st2 := [.long (s ||| ((1 : Int64) <<< ((nI j).toInt64 &&& 63)))]) (w3 := w) rfl rfl ?_
        refine sx_RP.step (pc2 := 52) (ls2 := [(3, .long (s ||| ((1 : Int64) <<< ((nI j).toInt64 &&& 63)))), (6, .int (y - (3 * v2))), (0, .ref A), (1, .int x), (2, .int y), (5, .int (nI j))]) (st2 := []) (w3 := w) rfl rfl ?_
        refine sx_RP.step (pc2 := 55) (ls2 := [(5, .int ((nI j) + 1)), (3, .long (s ||| ((1 : Int64) <<< ((nI j).toInt64 &&& 63)))), (6, .int (y - (3 * v2))), (0, .ref A), (1, .int x), (2, .int y)]) (st2 := []) (w3 := w) rfl rfl ?_
        rw [nI_1 j]
        refine sx_RP.step (pc2 := 5) (ls2 := [(5, .int (nI (j + 1))), (3, .long (s ||| ((1 : Int64) <<< ((nI j).toInt64 &&& 63)))), (6, .int (y - (3 * v2))), (0, .ref A), (1, .int x), (2, .int y)]) (st2 := []) (w3 := w) rfl rfl ?_
        exact sx_RP.ls (sx_lr.cons rfl (sx_lr.cons rfl (sx_lr.cons rfl (sx_lr.cons rfl (sx_lr.cons rfl sx_lr.nil))))) (kk (s ||| ((1 : Int64) <<< ((nI j).toInt64 &&& 63))) (by omega))
    · replace q7 := Decidable.not_not.mp (of_decide_eq_false q7)
      replace q7 := (nI_eq (a := x4) (b := 2) (by omega) (by omega)).mp q7
      refine sx_RP.step (pc2 := 38) (ls2 := [(6, .int (y - (3 * v2))), (0, .ref A), (1, .int x), (2, .int y), (3, .long s), (5, .int (nI j))]) (st2 := [.int 4, .int (y - (3 * v2))]) (w3 := w) rfl rfl ?_
      refine sx_RP.step (pc2 := 42) (ls2 := [(6, .int (y - (3 * v2))), (0, .ref A), (1, .int x), (2, .int y), (3, .long s), (5, .int (nI j))]) (st2 := [.int 4, .int (y - (3 * v2))]) (w3 := w) rfl rfl ?_
      refine sx_RP.br (p1 := 52) (l1 := [(6, .int (y - (3 * v2))), (0, .ref A), (1, .int x), (2, .int y), (3, .long s), (5, .int (nI j))]) (s1 := []) (v1 := w) (p2 := 45) (l2 := [(6, .int (y - (3 * v2))), (0, .ref A), (1, .int x), (2, .int y), (3, .long s), (5, .int (nI j))]) (s2 := []) (v2 := w) rfl rfl (fun q9 => ?_) (fun q9 => ?_)
      · replace q9 := of_decide_eq_true q9
        refine sx_RP.step (pc2 := 55) (ls2 := [(5, .int ((nI j) + 1)), (6, .int (y - (3 * v2))), (0, .ref A), (1, .int x), (2, .int y), (3, .long s)]) (st2 := []) (w3 := w) rfl rfl ?_
        rw [nI_1 j]
        refine sx_RP.step (pc2 := 5) (ls2 := [(5, .int (nI (j + 1))), (6, .int (y - (3 * v2))), (0, .ref A), (1, .int x), (2, .int y), (3, .long s)]) (st2 := []) (w3 := w) rfl rfl ?_
        exact sx_RP.ls (sx_lr.cons rfl (sx_lr.cons rfl (sx_lr.cons rfl (sx_lr.cons rfl (sx_lr.cons rfl sx_lr.nil))))) (kk s (by omega))
      · replace q9 := of_decide_eq_false q9
        refine sx_RP.step (pc2 := 46) (ls2 := [(6, .int (y - (3 * v2))), (0, .ref A), (1, .int x), (2, .int y), (3, .long s), (5, .int (nI j))]) (st2 := [.long s]) (w3 := w) rfl rfl ?_
        refine sx_RP.step (pc2 := 47) (ls2 := [(6, .int (y - (3 * v2))), (0, .ref A), (1, .int x), (2, .int y), (3, .long s), (5, .int (nI j))]) (st2 := [.long 1, .long s]) (w3 := w) rfl rfl ?_
        refine sx_RP.step (pc2 := 49) (ls2 := [(6, .int (y - (3 * v2))), (0, .ref A), (1, .int x), (2, .int y), (3, .long s), (5, .int (nI j))]) (st2 := [.int (nI j), .long 1, .long s]) (w3 := w) rfl rfl ?_
        refine sx_RP.step (pc2 := 50) (ls2 := [(6, .int (y - (3 * v2))), (0, .ref A), (1, .int x), (2, .int y), (3, .long s), (5, .int (nI j))]) (st2 := [.long ((1 : Int64) <<< ((nI j).toInt64 &&& 63)), .long s]) (w3 := w) rfl rfl ?_
        refine sx_RP.step (pc2 := 51) (ls2 := [(6, .int (y - (3 * v2))), (0, .ref A), (1, .int x), (2, .int y), (3, .long s), (5, .int (nI j))]) (st2 := [.long (s ||| ((1 : Int64) <<< ((nI j).toInt64 &&& 63)))]) (w3 := w) rfl rfl ?_
        refine sx_RP.step (pc2 := 52) (ls2 := [(3, .long (s ||| ((1 : Int64) <<< ((nI j).toInt64 &&& 63)))), (6, .int (y - (3 * v2))), (0, .ref A), (1, .int x), (2, .int y), (5, .int (nI j))]) (st2 := []) (w3 := w) rfl rfl ?_
        refine sx_RP.step (pc2 := 55) (ls2 := [(5, .int ((nI j) + 1)), (3, .long (s ||| ((1 : Int64) <<< ((nI j).toInt64 &&& 63)))), (6, .int (y - (3 * v2))), (0, .ref A), (1, .int x), (2, .int y)]) (st2 := []) (w3 := w) rfl rfl ?_
        rw [nI_1 j]
        refine sx_RP.step (pc2 := 5) (ls2 := [(5, .int (nI (j + 1))), (3, .long (s ||| ((1 : Int64) <<< ((nI j).toInt64 &&& 63)))), (6, .int (y - (3 * v2))), (0, .ref A), (1, .int x), (2, .int y)]) (st2 := []) (w3 := w) rfl rfl ?_
        exact sx_RP.ls (sx_lr.cons rfl (sx_lr.cons rfl (sx_lr.cons rfl (sx_lr.cons rfl (sx_lr.cons rfl sx_lr.nil))))) (kk (s ||| ((1 : Int64) <<< ((nI j).toInt64 &&& 63))) (by omega))
set_option maxRecDepth 20000 in
set_option maxHeartbeats 4000000 in
theorem p77L {xs : Option (List Int32)} {d : Nat} {w : List sx_C} {A : Nat} (hA : isA A) (x y : Int32) (hI : WI w) : ∀ (fz j : Nat) (s : Int64) , 48 ≤ j + fz * 1 → j ≤ 48 → sx_RP xs (d + 2) 77 5 [(0, .ref A), (1, .int x), (2, .int y), (3, .long s), (5, .int (nI j))] [] w (fun r w2 => (∃ v : Int64, r = some (.long v)) ∧ w2 = w)
  | 0, j, s, h, hj => p77B hA x y hI hj s  (fun us  hlt  => absurd hlt (by omega)) 
  | fz + 1, j, s, h, hj => p77B hA x y hI hj s  (fun us  hlt  => p77L hA x y hI  fz (j + 1) us (by omega) hlt ) 
set_option maxRecDepth 20000 in
set_option maxHeartbeats 4000000 in
theorem p77 {xs : Option (List Int32)} {d : Nat} {w : List sx_C} (hI : WI w) {A : Nat} (hA : isA A) (x y : Int32) : ∃ v : Int64, sx_RU xs (d + 2) 77 0 (lv_args 0 [.ref A, .int x, .int y]) [] w (some (.long v)) w := by
  have h : sx_RP xs (d + 2) 77 0 (lv_args 0 [.ref A, .int x, .int y]) [] w (fun r w2 => (∃ v : Int64, r = some (.long v)) ∧ w2 = w) := by
    refine sx_RP.step (pc2 := 1) (ls2 := [(0, .ref A), (1, .int x), (2, .int y)]) (st2 := [.long 0]) (w3 := w) rfl rfl ?_
    refine sx_RP.step (pc2 := 2) (ls2 := [(3, .long 0), (0, .ref A), (1, .int x), (2, .int y)]) (st2 := []) (w3 := w) rfl rfl ?_
    refine sx_RP.step (pc2 := 3) (ls2 := [(3, .long 0), (0, .ref A), (1, .int x), (2, .int y)]) (st2 := [.int 0]) (w3 := w) rfl rfl ?_
    refine sx_RP.step (pc2 := 5) (ls2 := [(5, .int 0), (3, .long 0), (0, .ref A), (1, .int x), (2, .int y)]) (st2 := []) (w3 := w) rfl rfl ?_
    exact sx_RP.ls (sx_lr.cons rfl (sx_lr.cons rfl (sx_lr.cons rfl (sx_lr.cons rfl (sx_lr.cons rfl sx_lr.nil))))) (p77L hA x y hI 48 0 0 (by omega) (by omega) )
  obtain ⟨r, w2, h1, ⟨v, rfl⟩, rfl⟩ := h
  exact ⟨v, h1⟩
set_option maxRecDepth 20000 in
set_option maxHeartbeats 4000000 in
theorem p84B {xs : Option (List Int32)} {d : Nat} {w : List sx_C} {A : Nat} (hA : isA A) (x : Int32) (hI : WI w) {j : Nat} (hj : j ≤ 999) (l : Int32) (kk : ∀ (ul : Int32), j + 1 ≤ 999 → sx_RP xs (d + 1) 84 7 [(0, .ref A), (1, .int x), (2, .int ul), (3, .int (nI (j + 1)))] [] w (fun r w2 => (∃ v : Int32, r = some (.int v)) ∧ w2 = w)) : sx_RP xs (d + 1) 84 7 [(0, .ref A), (1, .int x), (2, .int l), (3, .int (nI j))] [] w (fun r w2 => (∃ v : Int32, r = some (.int v)) ∧ w2 = w) := by
  refine sx_RP.step (pc2 := 8) (ls2 := [(0, .ref A), (1, .int x), (2, .int l), (3, .int (nI j))]) (st2 := [.int (nI j)]) (w3 := w) rfl rfl ?_
  refine sx_RP.step (pc2 := 11) (ls2 := [(0, .ref A), (1, .int x), (2, .int l), (3, .int (nI j))]) (st2 := [.int 999, .int (nI j)]) (w3 := w) rfl rfl ?_
  refine sx_RP.br (p1 := 49) (l1 := [(0, .ref A), (1, .int x), (2, .int l), (3, .int (nI j))]) (s1 := []) (v1 := w) (p2 := 14) (l2 := [(0, .ref A), (1, .int x), (2, .int l), (3, .int (nI j))]) (s2 := []) (v2 := w) rfl rfl (fun q1 => ?_) (fun q1 => ?_)
  · replace q1 := of_decide_eq_true q1
    replace q1 := (nI_leI (a := 999) (b := j) (by omega) (by omega)).mp q1
    refine sx_RP.step (pc2 := 52) (ls2 := [(0, .ref A), (1, .int x), (2, .int l), (3, .int (nI j))]) (st2 := [.int 999]) (w3 := w) rfl rfl ?_
    refine sx_RP.ret (r := (some (.int 999))) rfl rfl ?_
    exact ⟨⟨_, rfl⟩, rfl⟩
  · replace q1 := of_decide_eq_false q1
    replace q1 := mt (nI_leI (a := 999) (b := j) (by omega) (by omega)).mpr q1
    refine sx_RP.step (pc2 := 15) (ls2 := [(0, .ref A), (1, .int x), (2, .int l), (3, .int (nI j))]) (st2 := [.ref A]) (w3 := w) rfl rfl ?_
    refine sx_RP.gc (k := 9) hI hA rfl rfl (by omega) (show _ = 18 from rfl) ?_
    refine sx_RP.step (pc2 := 19) (ls2 := [(0, .ref A), (1, .int x), (2, .int l), (3, .int (nI j))]) (st2 := [.int 1, .int (fi w A 9)]) (w3 := w) rfl rfl ?_
    refine sx_RP.step (pc2 := 20) (ls2 := [(0, .ref A), (1, .int x), (2, .int l), (3, .int (nI j))]) (st2 := [.int x, .int 1, .int (fi w A 9)]) (w3 := w) rfl rfl ?_
    refine sx_RP.step (pc2 := 21) (ls2 := [(0, .ref A), (1, .int x), (2, .int l), (3, .int (nI j))]) (st2 := [.int (nI j), .int x, .int 1, .int (fi w A 9)]) (w3 := w) rfl rfl ?_
    refine sx_RP.step (pc2 := 22) (ls2 := [(0, .ref A), (1, .int x), (2, .int l), (3, .int (nI j))]) (st2 := [.int 5, .int (nI j), .int x, .int 1, .int (fi w A 9)]) (w3 := w) rfl rfl ?_
    refine sx_RP.step (pc2 := 23) (ls2 := [(0, .ref A), (1, .int x), (2, .int l), (3, .int (nI j))]) (st2 := [.int ((nI j) / 5), .int x, .int 1, .int (fi w A 9)]) (w3 := w) rfl rfl ?_
    refine sx_RP.step (pc2 := 24) (ls2 := [(0, .ref A), (1, .int x), (2, .int l), (3, .int (nI j))]) (st2 := [.int (x - ((nI j) / 5)), .int 1, .int (fi w A 9)]) (w3 := w) rfl rfl ?_
    obtain ⟨v2, c3⟩ := p85 hI 1 (x - ((nI j) / 5))
    refine sx_RP.cu (as := [.int 1, .int (x - ((nI j) / 5))]) (rest2 := [.int (fi w A 9)]) (st3 := [.int v2, .int (fi w A 9)]) rfl rfl rfl rfl rfl (c3) rfl ?_
    refine sx_RP.step (pc2 := 28) (ls2 := [(0, .ref A), (1, .int x), (2, .int l), (3, .int (nI j))]) (st2 := [.int ((fi w A 9) * v2)]) (w3 := w) rfl rfl ?_
    refine sx_RP.step (pc2 := 30) (ls2 := [(4, .int ((fi w A 9) * v2)), (0, .ref A), (1, .int x), (2, .int l), (3, .int (nI j))]) (st2 := []) (w3 := w) rfl rfl ?_
    refine sx_RP.step (pc2 := 32) (ls2 := [(4, .int ((fi w A 9) * v2)), (0, .ref A), (1, .int x), (2, .int l), (3, .int (nI j))]) (st2 := [.int ((fi w A 9) * v2)]) (w3 := w) rfl rfl ?_
    refine sx_RP.step (pc2 := 33) (ls2 := [(4, .int ((fi w A 9) * v2)), (0, .ref A), (1, .int x), (2, .int l), (3, .int (nI j))]) (st2 := [.int l, .int ((fi w A 9) * v2)]) (w3 := w) rfl rfl ?_
    refine sx_RP.br (p1 := 38) (l1 := [(4, .int ((fi w A 9) * v2)), (0, .ref A), (1, .int x), (2, .int l), (3, .int (nI j))]) (s1 := []) (v1 := w) (p2 := 36) (l2 := [(4, .int ((fi w A 9) * v2)), (0, .ref A), (1, .int x), (2, .int l), (3, .int (nI j))]) (s2 := []) (v2 := w) rfl rfl (fun q4 => ?_) (fun q4 => ?_)
    · replace q4 := of_decide_eq_true q4
      refine sx_RP.step (pc2 := 39) (ls2 := [(4, .int ((fi w A 9) * v2)), (0, .ref A), (1, .int x), (2, .int l), (3, .int (nI j))]) (st2 := [.int l]) (w3 := w) rfl rfl ?_
      refine sx_RP.step (pc2 := 41) (ls2 := [(4, .int ((fi w A 9) * v2)), (0, .ref A), (1, .int x), (2, .int l), (3, .int (nI j))]) (st2 := [.int ((fi w A 9) * v2), .int l]) (w3 := w) rfl rfl ?_
      refine sx_RP.step (pc2 := 42) (ls2 := [(4, .int ((fi w A 9) * v2)), (0, .ref A), (1, .int x), (2, .int l), (3, .int (nI j))]) (st2 := [.int (l - ((fi w A 9) * v2))]) (w3 := w) rfl rfl ?_
      refine sx_RP.step (pc2 := 43) (ls2 := [(2, .int (l - ((fi w A 9) * v2))), (4, .int ((fi w A 9) * v2)), (0, .ref A), (1, .int x), (3, .int (nI j))]) (st2 := []) (w3 := w) rfl rfl ?_
      refine sx_RP.step (pc2 := 46) (ls2 := [(3, .int ((nI j) + 1)), (2, .int (l - ((fi w A 9) * v2))), (4, .int ((fi w A 9) * v2)), (0, .ref A), (1, .int x)]) (st2 := []) (w3 := w) rfl rfl ?_
      rw [nI_1 j]
      refine sx_RP.step (pc2 := 7) (ls2 := [(3, .int (nI (j + 1))), (2, .int (l - ((fi w A 9) * v2))), (4, .int ((fi w A 9) * v2)), (0, .ref A), (1, .int x)]) (st2 := []) (w3 := w) rfl rfl ?_
      exact sx_RP.ls (sx_lr.cons rfl (sx_lr.cons rfl (sx_lr.cons rfl (sx_lr.cons rfl sx_lr.nil)))) (kk (l - ((fi w A 9) * v2)) (by omega))
    · replace q4 := of_decide_eq_false q4
      refine sx_RP.step (pc2 := 37) (ls2 := [(4, .int ((fi w A 9) * v2)), (0, .ref A), (1, .int x), (2, .int l), (3, .int (nI j))]) (st2 := [.int (nI j)]) (w3 := w) rfl rfl ?_
      refine sx_RP.ret (r := (some (.int (nI j)))) rfl rfl ?_
      exact ⟨⟨_, rfl⟩, rfl⟩
set_option maxRecDepth 20000 in
set_option maxHeartbeats 4000000 in
theorem p84L {xs : Option (List Int32)} {d : Nat} {w : List sx_C} {A : Nat} (hA : isA A) (x : Int32) (hI : WI w) : ∀ (fz j : Nat) (l : Int32) , 999 ≤ j + fz * 1 → j ≤ 999 → sx_RP xs (d + 1) 84 7 [(0, .ref A), (1, .int x), (2, .int l), (3, .int (nI j))] [] w (fun r w2 => (∃ v : Int32, r = some (.int v)) ∧ w2 = w)
  | 0, j, l, h, hj => p84B hA x hI hj l  (fun ul  hlt  => absurd hlt (by omega)) 
  | fz + 1, j, l, h, hj => p84B hA x hI hj l  (fun ul  hlt  => p84L hA x hI  fz (j + 1) ul (by omega) hlt ) 
set_option maxRecDepth 20000 in
set_option maxHeartbeats 4000000 in
theorem p84 {xs : Option (List Int32)} {d : Nat} {w : List sx_C} (hI : WI w) {A : Nat} (hA : isA A) (x : Int32) : ∃ v : Int32, sx_RU xs (d + 1) 84 0 (lv_args 0 [.ref A, .int x]) [] w (some (.int v)) w := by
  have h : sx_RP xs (d + 1) 84 0 (lv_args 0 [.ref A, .int x]) [] w (fun r w2 => (∃ v : Int32, r = some (.int v)) ∧ w2 = w) := by
    refine sx_RP.step (pc2 := 1) (ls2 := [(0, .ref A), (1, .int x)]) (st2 := [.ref A]) (w3 := w) rfl rfl ?_
    refine sx_RP.gc (k := 8) hI hA rfl rfl (by omega) (show _ = 4 from rfl) ?_
    refine sx_RP.step (pc2 := 5) (ls2 := [(2, .int (fi w A 8)), (0, .ref A), (1, .int x)]) (st2 := []) (w3 := w) rfl rfl ?_
    refine sx_RP.step (pc2 := 6) (ls2 := [(2, .int (fi w A 8)), (0, .ref A), (1, .int x)]) (st2 := [.int 0]) (w3 := w) rfl rfl ?_
    refine sx_RP.step (pc2 := 7) (ls2 := [(3, .int 0), (2, .int (fi w A 8)), (0, .ref A), (1, .int x)]) (st2 := []) (w3 := w) rfl rfl ?_
    exact sx_RP.ls (sx_lr.cons rfl (sx_lr.cons rfl (sx_lr.cons rfl (sx_lr.cons rfl sx_lr.nil)))) (p84L hA x hI 999 0 (fi w A 8) (by omega) (by omega) )
  obtain ⟨r, w2, h1, ⟨v, rfl⟩, rfl⟩ := h
  exact ⟨v, h1⟩
