-- 45.loopC.lean.txt
section
-- safety: pure loops of the class
theorem above_at {xs : Option (List Int32)} : ∀ {x : Nat}, x ≤ 5 → ∃ v : Int32, (v = -1 ∨ inR v 5) ∧ (sx_st xs 1).getD x 0 = v := by
  intro x hx
  rcases (show x = 0 ∨ x = 1 ∨ x = 2 ∨ x = 3 ∨ x = 4 ∨ x = 5 by omega) with rfl | rfl | rfl | rfl | rfl | rfl
  · exact ⟨-1, Or.inl rfl, rfl⟩
  · exact ⟨0, Or.inr ⟨0, by decide, rfl⟩, rfl⟩
  · exact ⟨0, Or.inr ⟨0, by decide, rfl⟩, rfl⟩
  · exact ⟨1, Or.inr ⟨1, by decide, rfl⟩, rfl⟩
  · exact ⟨2, Or.inr ⟨2, by decide, rfl⟩, rfl⟩
  · exact ⟨3, Or.inr ⟨3, by decide, rfl⟩, rfl⟩
set_option maxRecDepth 20000 in
set_option maxHeartbeats 4000000 in
theorem p13B {xs : Option (List Int32)} {d : Nat} {w : List sx_C} {A : Nat} (hA : isA A) (x : Int32) (hI : WI w) {j : Nat} (hj : j ≤ 10) (n : Int32) (kk : ∀ (un : Int32), j + 1 ≤ 10 → sx_RP xs d 13 4 [(0, .ref A), (1, .int x), (2, .int un), (3, .int (nI (j + 1)))] [] w (fun r w2 => (∃ v : Int32, r = some (.int v)) ∧ w2 = w)) : sx_RP xs d 13 4 [(0, .ref A), (1, .int x), (2, .int n), (3, .int (nI j))] [] w (fun r w2 => (∃ v : Int32, r = some (.int v)) ∧ w2 = w) := by
  refine sx_RP.step (pc2 := 5) (ls2 := [(0, .ref A), (1, .int x), (2, .int n), (3, .int (nI j))]) (st2 := [.int (nI j)]) (w3 := w) rfl rfl ?_
  refine sx_RP.step (pc2 := 6) (ls2 := [(0, .ref A), (1, .int x), (2, .int n), (3, .int (nI j))]) (st2 := [.ref A, .int (nI j)]) (w3 := w) rfl rfl ?_
  refine sx_RP.gc (k := 3) hI hA rfl rfl (by omega) (show _ = 9 from rfl) ?_
  obtain ⟨x1, hx2, ex3⟩ : inR (fi w A 3) 10 := (hI.c hA).1
  rw [ex3]
  refine sx_RP.br (p1 := 46) (l1 := [(0, .ref A), (1, .int x), (2, .int n), (3, .int (nI j))]) (s1 := []) (v1 := w) (p2 := 12) (l2 := [(0, .ref A), (1, .int x), (2, .int n), (3, .int (nI j))]) (s2 := []) (v2 := w) rfl rfl (fun q4 => ?_) (fun q4 => ?_)
  · replace q4 := of_decide_eq_true q4
    replace q4 := (nI_leI (a := x1) (b := j) (by omega) (by omega)).mp q4
    refine sx_RP.step (pc2 := 47) (ls2 := [(0, .ref A), (1, .int x), (2, .int n), (3, .int (nI j))]) (st2 := [.int n]) (w3 := w) rfl rfl ?_
    refine sx_RP.ret (r := (some (.int n))) rfl rfl ?_
    exact ⟨⟨_, rfl⟩, rfl⟩
  · replace q4 := of_decide_eq_false q4
    replace q4 := mt (nI_leI (a := x1) (b := j) (by omega) (by omega)).mpr q4
    refine sx_RP.step (pc2 := 13) (ls2 := [(0, .ref A), (1, .int x), (2, .int n), (3, .int (nI j))]) (st2 := [.ref A]) (w3 := w) rfl rfl ?_
    refine sx_RP.gref (k := 2) (b := A + 2) hI hA rfl rfl (by omega) (show _ = 16 from rfl) ?_
    refine sx_RP.step (pc2 := 17) (ls2 := [(0, .ref A), (1, .int x), (2, .int n), (3, .int (nI j))]) (st2 := [.int (nI j), .ref (A + 2)]) (w3 := w) rfl rfl ?_
    refine sx_RP.ald (v := .ref (A + 4 + j)) rfl (hI.1.aG hA) rfl (grA_at (show j < 10 by omega)) (show _ = 18 from rfl) ?_
    refine sx_RP.gg (k := 5) hI (gAd.of hA (show j < 10 by omega)) rfl rfl (by decide) (show _ = 21 from rfl) ?_
    obtain ⟨x5, hx6, ex7⟩ : inR (fi w (A + 4 + j) 5) 1 := hI.gk (k := 5) (gAd.of hA (show j < 10 by omega)) (by decide)
    rw [ex7]
    refine sx_RP.br (p1 := 40) (l1 := [(0, .ref A), (1, .int x), (2, .int n), (3, .int (nI j))]) (s1 := []) (v1 := w) (p2 := 24) (l2 := [(0, .ref A), (1, .int x), (2, .int n), (3, .int (nI j))]) (s2 := []) (v2 := w) rfl rfl (fun q8 => ?_) (fun q8 => ?_)
    · replace q8 := of_decide_eq_true q8
      replace q8 := mt (nI_eq (a := x5) (b := 0) (by omega) (by omega)).mpr q8
      refine sx_RP.step (pc2 := 43) (ls2 := [(3, .int ((nI j) + 1)), (0, .ref A), (1, .int x), (2, .int n)]) (st2 := []) (w3 := w) rfl rfl ?_
      rw [nI_1 j]
      refine sx_RP.step (pc2 := 4) (ls2 := [(3, .int (nI (j + 1))), (0, .ref A), (1, .int x), (2, .int n)]) (st2 := []) (w3 := w) rfl rfl ?_
      exact sx_RP.ls (sx_lr.cons rfl (sx_lr.cons rfl (sx_lr.cons rfl (sx_lr.cons rfl sx_lr.nil)))) (kk n (by omega))
    · replace q8 := Decidable.not_not.mp (of_decide_eq_false q8)
      replace q8 := (nI_eq (a := x5) (b := 0) (by omega) (by omega)).mp q8
      refine sx_RP.step (pc2 := 25) (ls2 := [(0, .ref A), (1, .int x), (2, .int n), (3, .int (nI j))]) (st2 := [.ref A]) (w3 := w) rfl rfl ?_
      refine sx_RP.gref (k := 2) (b := A + 2) hI hA rfl rfl (by omega) (show _ = 28 from rfl) ?_
      refine sx_RP.step (pc2 := 29) (ls2 := [(0, .ref A), (1, .int x), (2, .int n), (3, .int (nI j))]) (st2 := [.int (nI j), .ref (A + 2)]) (w3 := w) rfl rfl ?_
      refine sx_RP.ald (v := .ref (A + 4 + j)) rfl (hI.1.aG hA) rfl (grA_at (show j < 10 by omega)) (show _ = 30 from rfl) ?_
      refine sx_RP.gg (k := 2) hI (gAd.of hA (show j < 10 by omega)) rfl rfl (by decide) (show _ = 33 from rfl) ?_
      obtain ⟨x9, hx10, ex11⟩ : inR (fi w (A + 4 + j) 2) 47 := hI.gk (k := 2) (gAd.of hA (show j < 10 by omega)) (by decide)
      rw [ex11]
      refine sx_RP.step (pc2 := 34) (ls2 := [(0, .ref A), (1, .int x), (2, .int n), (3, .int (nI j))]) (st2 := [.int x, .int (nI x9)]) (w3 := w) rfl rfl ?_
      refine sx_RP.br (p1 := 40) (l1 := [(0, .ref A), (1, .int x), (2, .int n), (3, .int (nI j))]) (s1 := []) (v1 := w) (p2 := 37) (l2 := [(0, .ref A), (1, .int x), (2, .int n), (3, .int (nI j))]) (s2 := []) (v2 := w) rfl rfl (fun q12 => ?_) (fun q12 => ?_)
      · replace q12 := of_decide_eq_true q12
        refine sx_RP.step (pc2 := 43) (ls2 := [(3, .int ((nI j) + 1)), (0, .ref A), (1, .int x), (2, .int n)]) (st2 := []) (w3 := w) rfl rfl ?_
        rw [nI_1 j]
        refine sx_RP.step (pc2 := 4) (ls2 := [(3, .int (nI (j + 1))), (0, .ref A), (1, .int x), (2, .int n)]) (st2 := []) (w3 := w) rfl rfl ?_
        exact sx_RP.ls (sx_lr.cons rfl (sx_lr.cons rfl (sx_lr.cons rfl (sx_lr.cons rfl sx_lr.nil)))) (kk n (by omega))
      · replace q12 := Decidable.not_not.mp (of_decide_eq_false q12)
        refine sx_RP.step (pc2 := 40) (ls2 := [(2, .int (n + 1)), (0, .ref A), (1, .int x), (3, .int (nI j))]) (st2 := []) (w3 := w) rfl rfl ?_
        refine sx_RP.step (pc2 := 43) (ls2 := [(3, .int ((nI j) + 1)), (2, .int (n + 1)), (0, .ref A), (1, .int x)]) (st2 := []) (w3 := w) rfl rfl ?_
        rw [nI_1 j]
        refine sx_RP.step (pc2 := 4) (ls2 := [(3, .int (nI (j + 1))), (2, .int (n + 1)), (0, .ref A), (1, .int x)]) (st2 := []) (w3 := w) rfl rfl ?_
        exact sx_RP.ls (sx_lr.cons rfl (sx_lr.cons rfl (sx_lr.cons rfl (sx_lr.cons rfl sx_lr.nil)))) (kk (n + 1) (by omega))
set_option maxRecDepth 20000 in
set_option maxHeartbeats 4000000 in
theorem p13L {xs : Option (List Int32)} {d : Nat} {w : List sx_C} {A : Nat} (hA : isA A) (x : Int32) (hI : WI w) : ∀ (fz j : Nat) (n : Int32) , 10 ≤ j + fz * 1 → j ≤ 10 → sx_RP xs d 13 4 [(0, .ref A), (1, .int x), (2, .int n), (3, .int (nI j))] [] w (fun r w2 => (∃ v : Int32, r = some (.int v)) ∧ w2 = w)
  | 0, j, n, h, hj => p13B hA x hI hj n  (fun un  hlt  => absurd hlt (by omega)) 
  | fz + 1, j, n, h, hj => p13B hA x hI hj n  (fun un  hlt  => p13L hA x hI  fz (j + 1) un (by omega) hlt ) 
set_option maxRecDepth 20000 in
set_option maxHeartbeats 4000000 in
theorem p13 {xs : Option (List Int32)} {d : Nat} {w : List sx_C} (hI : WI w) {A : Nat} (hA : isA A) (x : Int32) : ∃ v : Int32, sx_RU xs d 13 0 (lv_args 0 [.ref A, .int x]) [] w (some (.int v)) w := by
  have h : sx_RP xs d 13 0 (lv_args 0 [.ref A, .int x]) [] w (fun r w2 => (∃ v : Int32, r = some (.int v)) ∧ w2 = w) := by
    refine sx_RP.step (pc2 := 1) (ls2 := [(0, .ref A), (1, .int x)]) (st2 := [.int 0]) (w3 := w) rfl rfl ?_
    refine sx_RP.step (pc2 := 2) (ls2 := [(2, .int 0), (0, .ref A), (1, .int x)]) (st2 := []) (w3 := w) rfl rfl ?_
    refine sx_RP.step (pc2 := 3) (ls2 := [(2, .int 0), (0, .ref A), (1, .int x)]) (st2 := [.int 0]) (w3 := w) rfl rfl ?_
    refine sx_RP.step (pc2 := 4) (ls2 := [(3, .int 0), (2, .int 0), (0, .ref A), (1, .int x)]) (st2 := []) (w3 := w) rfl rfl ?_
    exact sx_RP.ls (sx_lr.cons rfl (sx_lr.cons rfl (sx_lr.cons rfl (sx_lr.cons rfl sx_lr.nil)))) (p13L hA x hI 10 0 0 (by omega) (by omega) )
  obtain ⟨r, w2, h1, ⟨v, rfl⟩, rfl⟩ := h
  exact ⟨v, h1⟩
set_option maxRecDepth 20000 in
set_option maxHeartbeats 4000000 in
theorem p42B {xs : Option (List Int32)} {d : Nat} {w : List sx_C} {A : Nat} (hA : isA A) (x : Int32) (hI : WI w) {j : Nat} (hj : j ≤ 10) (n : Int32) (kk : ∀ (un : Int32), j + 1 ≤ 10 → sx_RP xs (d + 1) 42 4 [(0, .ref A), (1, .int x), (2, .int un), (3, .int (nI (j + 1)))] [] w (fun r w2 => (∃ v : Int32, r = some (.int v)) ∧ w2 = w)) : sx_RP xs (d + 1) 42 4 [(0, .ref A), (1, .int x), (2, .int n), (3, .int (nI j))] [] w (fun r w2 => (∃ v : Int32, r = some (.int v)) ∧ w2 = w) := by
  refine sx_RP.step (pc2 := 5) (ls2 := [(0, .ref A), (1, .int x), (2, .int n), (3, .int (nI j))]) (st2 := [.int (nI j)]) (w3 := w) rfl rfl ?_
  refine sx_RP.step (pc2 := 6) (ls2 := [(0, .ref A), (1, .int x), (2, .int n), (3, .int (nI j))]) (st2 := [.ref A, .int (nI j)]) (w3 := w) rfl rfl ?_
  refine sx_RP.gc (k := 3) hI hA rfl rfl (by omega) (show _ = 9 from rfl) ?_
  obtain ⟨x1, hx2, ex3⟩ : inR (fi w A 3) 10 := (hI.c hA).1
  rw [ex3]
  refine sx_RP.br (p1 := 34) (l1 := [(0, .ref A), (1, .int x), (2, .int n), (3, .int (nI j))]) (s1 := []) (v1 := w) (p2 := 12) (l2 := [(0, .ref A), (1, .int x), (2, .int n), (3, .int (nI j))]) (s2 := []) (v2 := w) rfl rfl (fun q4 => ?_) (fun q4 => ?_)
  · replace q4 := of_decide_eq_true q4
    replace q4 := (nI_leI (a := x1) (b := j) (by omega) (by omega)).mp q4
    refine sx_RP.step (pc2 := 35) (ls2 := [(0, .ref A), (1, .int x), (2, .int n), (3, .int (nI j))]) (st2 := [.int n]) (w3 := w) rfl rfl ?_
    refine sx_RP.ret (r := (some (.int n))) rfl rfl ?_
    exact ⟨⟨_, rfl⟩, rfl⟩
  · replace q4 := of_decide_eq_false q4
    replace q4 := mt (nI_leI (a := x1) (b := j) (by omega) (by omega)).mpr q4
    refine sx_RP.step (pc2 := 13) (ls2 := [(0, .ref A), (1, .int x), (2, .int n), (3, .int (nI j))]) (st2 := [.ref A]) (w3 := w) rfl rfl ?_
    refine sx_RP.gref (k := 2) (b := A + 2) hI hA rfl rfl (by omega) (show _ = 16 from rfl) ?_
    refine sx_RP.step (pc2 := 17) (ls2 := [(0, .ref A), (1, .int x), (2, .int n), (3, .int (nI j))]) (st2 := [.int (nI j), .ref (A + 2)]) (w3 := w) rfl rfl ?_
    refine sx_RP.ald (v := .ref (A + 4 + j)) rfl (hI.1.aG hA) rfl (grA_at (show j < 10 by omega)) (show _ = 18 from rfl) ?_
    refine sx_RP.step (pc2 := 19) (ls2 := [(0, .ref A), (1, .int x), (2, .int n), (3, .int (nI j))]) (st2 := [.int x, .ref (A + 4 + j)]) (w3 := w) rfl rfl ?_
    obtain ⟨x5, hx6, c7⟩ := p43 hI (gAd.of hA (show j < 10 by omega)) x
    refine sx_RP.cu (as := [.ref (A + 4 + j), .int x]) (rest2 := []) (st3 := [.int (nI x5)]) rfl rfl (sx_inv_v2 (mi := 42) (k := 82) (st := [.int x, .ref (A + 4 + j)]) (w := w) rfl rfl (hI.1.oG (gAd.of hA (show j < 10 by omega))) rfl rfl rfl) rfl rfl (c7) rfl ?_
    refine sx_RP.br (p1 := 28) (l1 := [(0, .ref A), (1, .int x), (2, .int n), (3, .int (nI j))]) (s1 := []) (v1 := w) (p2 := 25) (l2 := [(0, .ref A), (1, .int x), (2, .int n), (3, .int (nI j))]) (s2 := []) (v2 := w) rfl rfl (fun q8 => ?_) (fun q8 => ?_)
    · replace q8 := of_decide_eq_true q8
      replace q8 := (nI_eq (a := x5) (b := 0) (by omega) (by omega)).mp q8
      refine sx_RP.step (pc2 := 31) (ls2 := [(3, .int ((nI j) + 1)), (0, .ref A), (1, .int x), (2, .int n)]) (st2 := []) (w3 := w) rfl rfl ?_
      rw [nI_1 j]
      refine sx_RP.step (pc2 := 4) (ls2 := [(3, .int (nI (j + 1))), (0, .ref A), (1, .int x), (2, .int n)]) (st2 := []) (w3 := w) rfl rfl ?_
      exact sx_RP.ls (sx_lr.cons rfl (sx_lr.cons rfl (sx_lr.cons rfl (sx_lr.cons rfl sx_lr.nil)))) (kk n (by omega))
    · replace q8 := of_decide_eq_false q8
      replace q8 := mt (nI_eq (a := x5) (b := 0) (by omega) (by omega)).mpr q8
      refine sx_RP.step (pc2 := 28) (ls2 := [(2, .int (n + 1)), (0, .ref A), (1, .int x), (3, .int (nI j))]) (st2 := []) (w3 := w) rfl rfl ?_
      refine sx_RP.step (pc2 := 31) (ls2 := [(3, .int ((nI j) + 1)), (2, .int (n + 1)), (0, .ref A), (1, .int x)]) (st2 := []) (w3 := w) rfl rfl ?_
      rw [nI_1 j]
      refine sx_RP.step (pc2 := 4) (ls2 := [(3, .int (nI (j + 1))), (2, .int (n + 1)), (0, .ref A), (1, .int x)]) (st2 := []) (w3 := w) rfl rfl ?_
      exact sx_RP.ls (sx_lr.cons rfl (sx_lr.cons rfl (sx_lr.cons rfl (sx_lr.cons rfl sx_lr.nil)))) (kk (n + 1) (by omega))
set_option maxRecDepth 20000 in
set_option maxHeartbeats 4000000 in
theorem p42L {xs : Option (List Int32)} {d : Nat} {w : List sx_C} {A : Nat} (hA : isA A) (x : Int32) (hI : WI w) : ∀ (fz j : Nat) (n : Int32) , 10 ≤ j + fz * 1 → j ≤ 10 → sx_RP xs (d + 1) 42 4 [(0, .ref A), (1, .int x), (2, .int n), (3, .int (nI j))] [] w (fun r w2 => (∃ v : Int32, r = some (.int v)) ∧ w2 = w)
  | 0, j, n, h, hj => p42B hA x hI hj n  (fun un  hlt  => absurd hlt (by omega)) 
  | fz + 1, j, n, h, hj => p42B hA x hI hj n  (fun un  hlt  => p42L hA x hI  fz (j + 1) un (by omega) hlt ) 
set_option maxRecDepth 20000 in
set_option maxHeartbeats 4000000 in
theorem p42 {xs : Option (List Int32)} {d : Nat} {w : List sx_C} (hI : WI w) {A : Nat} (hA : isA A) (x : Int32) : ∃ v : Int32, sx_RU xs (d + 1) 42 0 (lv_args 0 [.ref A, .int x]) [] w (some (.int v)) w := by
  have h : sx_RP xs (d + 1) 42 0 (lv_args 0 [.ref A, .int x]) [] w (fun r w2 => (∃ v : Int32, r = some (.int v)) ∧ w2 = w) := by
    refine sx_RP.step (pc2 := 1) (ls2 := [(0, .ref A), (1, .int x)]) (st2 := [.int 0]) (w3 := w) rfl rfl ?_
    refine sx_RP.step (pc2 := 2) (ls2 := [(2, .int 0), (0, .ref A), (1, .int x)]) (st2 := []) (w3 := w) rfl rfl ?_
    refine sx_RP.step (pc2 := 3) (ls2 := [(2, .int 0), (0, .ref A), (1, .int x)]) (st2 := [.int 0]) (w3 := w) rfl rfl ?_
    refine sx_RP.step (pc2 := 4) (ls2 := [(3, .int 0), (2, .int 0), (0, .ref A), (1, .int x)]) (st2 := []) (w3 := w) rfl rfl ?_
    exact sx_RP.ls (sx_lr.cons rfl (sx_lr.cons rfl (sx_lr.cons rfl (sx_lr.cons rfl sx_lr.nil)))) (p42L hA x hI 10 0 0 (by omega) (by omega) )
  obtain ⟨r, w2, h1, ⟨v, rfl⟩, rfl⟩ := h
  exact ⟨v, h1⟩
set_option maxRecDepth 20000 in
set_option maxHeartbeats 4000000 in
theorem p45B {xs : Option (List Int32)} {d : Nat} {w : List sx_C} {A : Nat} (hA : isA A) (x : Int32) (hI : WI w) {j : Nat} (hj : j ≤ 10) (kk : j + 1 ≤ 10 → sx_RP xs (d + 2) 45 2 [(0, .ref A), (1, .int x), (2, .int (nI (j + 1)))] [] w (fun r w2 => (∃ j, j ≤ 1 ∧ r = some (.int (nI j))) ∧ w2 = w)) : sx_RP xs (d + 2) 45 2 [(0, .ref A), (1, .int x), (2, .int (nI j))] [] w (fun r w2 => (∃ j, j ≤ 1 ∧ r = some (.int (nI j))) ∧ w2 = w) := by
  refine sx_RP.step (pc2 := 3) (ls2 := [(0, .ref A), (1, .int x), (2, .int (nI j))]) (st2 := [.int (nI j)]) (w3 := w) rfl rfl ?_
  refine sx_RP.step (pc2 := 4) (ls2 := [(0, .ref A), (1, .int x), (2, .int (nI j))]) (st2 := [.ref A, .int (nI j)]) (w3 := w) rfl rfl ?_
  refine sx_RP.gc (k := 3) hI hA rfl rfl (by omega) (show _ = 7 from rfl) ?_
  obtain ⟨x1, hx2, ex3⟩ : inR (fi w A 3) 10 := (hI.c hA).1
  rw [ex3]
  refine sx_RP.br (p1 := 48) (l1 := [(0, .ref A), (1, .int x), (2, .int (nI j))]) (s1 := []) (v1 := w) (p2 := 10) (l2 := [(0, .ref A), (1, .int x), (2, .int (nI j))]) (s2 := []) (v2 := w) rfl rfl (fun q4 => ?_) (fun q4 => ?_)
  · replace q4 := of_decide_eq_true q4
    replace q4 := (nI_leI (a := x1) (b := j) (by omega) (by omega)).mp q4
    refine sx_RP.step (pc2 := 49) (ls2 := [(0, .ref A), (1, .int x), (2, .int (nI j))]) (st2 := [.int 0]) (w3 := w) rfl rfl ?_
    refine sx_RP.ret (r := (some (.int 0))) rfl rfl ?_
    exact ⟨⟨0, by decide, rfl⟩, rfl⟩
  · replace q4 := of_decide_eq_false q4
    replace q4 := mt (nI_leI (a := x1) (b := j) (by omega) (by omega)).mpr q4
    refine sx_RP.step (pc2 := 11) (ls2 := [(0, .ref A), (1, .int x), (2, .int (nI j))]) (st2 := [.ref A]) (w3 := w) rfl rfl ?_
    refine sx_RP.gref (k := 2) (b := A + 2) hI hA rfl rfl (by omega) (show _ = 14 from rfl) ?_
    refine sx_RP.step (pc2 := 15) (ls2 := [(0, .ref A), (1, .int x), (2, .int (nI j))]) (st2 := [.int (nI j), .ref (A + 2)]) (w3 := w) rfl rfl ?_
    refine sx_RP.ald (v := .ref (A + 4 + j)) rfl (hI.1.aG hA) rfl (grA_at (show j < 10 by omega)) (show _ = 16 from rfl) ?_
    refine sx_RP.step (pc2 := 17) (ls2 := [(0, .ref A), (1, .int x), (2, .int (nI j))]) (st2 := [.int 1, .ref (A + 4 + j)]) (w3 := w) rfl rfl ?_
    obtain ⟨x5, hx6, c7⟩ := p43 hI (gAd.of hA (show j < 10 by omega)) 1
    refine sx_RP.cu (as := [.ref (A + 4 + j), .int 1]) (rest2 := []) (st3 := [.int (nI x5)]) rfl rfl (sx_inv_v2 (mi := 45) (k := 82) (st := [.int 1, .ref (A + 4 + j)]) (w := w) rfl rfl (hI.1.oG (gAd.of hA (show j < 10 by omega))) rfl rfl rfl) rfl rfl (c7) rfl ?_
    refine sx_RP.br (p1 := 42) (l1 := [(0, .ref A), (1, .int x), (2, .int (nI j))]) (s1 := []) (v1 := w) (p2 := 23) (l2 := [(0, .ref A), (1, .int x), (2, .int (nI j))]) (s2 := []) (v2 := w) rfl rfl (fun q8 => ?_) (fun q8 => ?_)
    · replace q8 := of_decide_eq_true q8
      replace q8 := (nI_eq (a := x5) (b := 0) (by omega) (by omega)).mp q8
      refine sx_RP.step (pc2 := 45) (ls2 := [(2, .int ((nI j) + 1)), (0, .ref A), (1, .int x)]) (st2 := []) (w3 := w) rfl rfl ?_
      rw [nI_1 j]
      refine sx_RP.step (pc2 := 2) (ls2 := [(2, .int (nI (j + 1))), (0, .ref A), (1, .int x)]) (st2 := []) (w3 := w) rfl rfl ?_
      exact sx_RP.ls (sx_lr.cons rfl (sx_lr.cons rfl (sx_lr.cons rfl sx_lr.nil))) (kk (by omega))
    · replace q8 := of_decide_eq_false q8
      replace q8 := mt (nI_eq (a := x5) (b := 0) (by omega) (by omega)).mpr q8
      refine sx_RP.step (pc2 := 24) (ls2 := [(0, .ref A), (1, .int x), (2, .int (nI j))]) (st2 := [.ref A]) (w3 := w) rfl rfl ?_
      refine sx_RP.gref (k := 2) (b := A + 2) hI hA rfl rfl (by omega) (show _ = 27 from rfl) ?_
      refine sx_RP.step (pc2 := 28) (ls2 := [(0, .ref A), (1, .int x), (2, .int (nI j))]) (st2 := [.int (nI j), .ref (A + 2)]) (w3 := w) rfl rfl ?_
      refine sx_RP.ald (v := .ref (A + 4 + j)) rfl (hI.1.aG hA) rfl (grA_at (show j < 10 by omega)) (show _ = 29 from rfl) ?_
      refine sx_RP.gg (k := 2) hI (gAd.of hA (show j < 10 by omega)) rfl rfl (by decide) (show _ = 32 from rfl) ?_
      obtain ⟨x9, hx10, ex11⟩ : inR (fi w (A + 4 + j) 2) 47 := hI.gk (k := 2) (gAd.of hA (show j < 10 by omega)) (by decide)
      rw [ex11]
      refine sx_RP.step (pc2 := 33) (ls2 := [(0, .ref A), (1, .int x), (2, .int (nI j))]) (st2 := [.int x, .int (nI x9)]) (w3 := w) rfl rfl ?_
      obtain ⟨v12, c13⟩ := p46 hI (nI x9) x
      refine sx_RP.cu (as := [.int (nI x9), .int x]) (rest2 := []) (st3 := [.int v12]) rfl rfl rfl rfl rfl (c13) rfl ?_
      refine sx_RP.step (pc2 := 37) (ls2 := [(0, .ref A), (1, .int x), (2, .int (nI j))]) (st2 := [.int 1, .int v12]) (w3 := w) rfl rfl ?_
      refine sx_RP.br (p1 := 42) (l1 := [(0, .ref A), (1, .int x), (2, .int (nI j))]) (s1 := []) (v1 := w) (p2 := 40) (l2 := [(0, .ref A), (1, .int x), (2, .int (nI j))]) (s2 := []) (v2 := w) rfl rfl (fun q14 => ?_) (fun q14 => ?_)
      · replace q14 := of_decide_eq_true q14
        refine sx_RP.step (pc2 := 45) (ls2 := [(2, .int ((nI j) + 1)), (0, .ref A), (1, .int x)]) (st2 := []) (w3 := w) rfl rfl ?_
        rw [nI_1 j]
        refine sx_RP.step (pc2 := 2) (ls2 := [(2, .int (nI (j + 1))), (0, .ref A), (1, .int x)]) (st2 := []) (w3 := w) rfl rfl ?_
        exact sx_RP.ls (sx_lr.cons rfl (sx_lr.cons rfl (sx_lr.cons rfl sx_lr.nil))) (kk (by omega))
      · replace q14 := of_decide_eq_false q14
        refine sx_RP.step (pc2 := 41) (ls2 := [(0, .ref A), (1, .int x), (2, .int (nI j))]) (st2 := [.int 1]) (w3 := w) rfl rfl ?_
        refine sx_RP.ret (r := (some (.int 1))) rfl rfl ?_
        exact ⟨⟨1, by decide, rfl⟩, rfl⟩
set_option maxRecDepth 20000 in
set_option maxHeartbeats 4000000 in
theorem p45L {xs : Option (List Int32)} {d : Nat} {w : List sx_C} {A : Nat} (hA : isA A) (x : Int32) (hI : WI w) : ∀ (fz j : Nat) , 10 ≤ j + fz * 1 → j ≤ 10 → sx_RP xs (d + 2) 45 2 [(0, .ref A), (1, .int x), (2, .int (nI j))] [] w (fun r w2 => (∃ j, j ≤ 1 ∧ r = some (.int (nI j))) ∧ w2 = w)
  | 0, j, h, hj => p45B hA x hI hj   (fun   hlt  => absurd hlt (by omega)) 
  | fz + 1, j, h, hj => p45B hA x hI hj   (fun   hlt  => p45L hA x hI  fz (j + 1)  (by omega) hlt ) 
set_option maxRecDepth 20000 in
set_option maxHeartbeats 4000000 in
theorem p45 {xs : Option (List Int32)} {d : Nat} {w : List sx_C} (hI : WI w) {A : Nat} (hA : isA A) (x : Int32) : ∃ j, j ≤ 1 ∧ sx_RU xs (d + 2) 45 0 (lv_args 0 [.ref A, .int x]) [] w (some (.int (nI j))) w := by
  have h : sx_RP xs (d + 2) 45 0 (lv_args 0 [.ref A, .int x]) [] w (fun r w2 => (∃ j, j ≤ 1 ∧ r = some (.int (nI j))) ∧ w2 = w) := by
    refine sx_RP.step (pc2 := 1) (ls2 := [(0, .ref A), (1, .int x)]) (st2 := [.int 0]) (w3 := w) rfl rfl ?_
    refine sx_RP.step (pc2 := 2) (ls2 := [(2, .int 0), (0, .ref A), (1, .int x)]) (st2 := []) (w3 := w) rfl rfl ?_
    exact sx_RP.ls (sx_lr.cons rfl (sx_lr.cons rfl (sx_lr.cons rfl sx_lr.nil))) (p45L hA x hI 10 0  (by omega) (by omega) )
  obtain ⟨r, w2, h1, ⟨j, hj, rfl⟩, rfl⟩ := h
  exact ⟨j, hj, h1⟩
set_option maxRecDepth 20000 in
set_option maxHeartbeats 4000000 in
theorem p54B {xs : Option (List Int32)} {d : Nat} {w : List sx_C} {A : Nat} (hA : isA A) (hI : WI w) {j : Nat} (hj : j ≤ 10) (kk : j + 1 ≤ 10 → sx_RP xs (d + 1) 54 2 [(0, .ref A), (1, .int (nI (j + 1)))] [] w (fun r w2 => (∃ v : Int32, r = some (.int v)) ∧ w2 = w)) : sx_RP xs (d + 1) 54 2 [(0, .ref A), (1, .int (nI j))] [] w (fun r w2 => (∃ v : Int32, r = some (.int v)) ∧ w2 = w) := by
  refine sx_RP.step (pc2 := 3) (ls2 := [(0, .ref A), (1, .int (nI j))]) (st2 := [.int (nI j)]) (w3 := w) rfl rfl ?_
  refine sx_RP.step (pc2 := 4) (ls2 := [(0, .ref A), (1, .int (nI j))]) (st2 := [.ref A, .int (nI j)]) (w3 := w) rfl rfl ?_
  refine sx_RP.gc (k := 3) hI hA rfl rfl (by omega) (show _ = 7 from rfl) ?_
  obtain ⟨x1, hx2, ex3⟩ : inR (fi w A 3) 10 := (hI.c hA).1
  rw [ex3]
  refine sx_RP.br (p1 := 46) (l1 := [(0, .ref A), (1, .int (nI j))]) (s1 := []) (v1 := w) (p2 := 10) (l2 := [(0, .ref A), (1, .int (nI j))]) (s2 := []) (v2 := w) rfl rfl (fun q4 => ?_) (fun q4 => ?_)
  · replace q4 := of_decide_eq_true q4
    replace q4 := (nI_leI (a := x1) (b := j) (by omega) (by omega)).mp q4
    refine sx_RP.step (pc2 := 47) (ls2 := [(0, .ref A), (1, .int (nI j))]) (st2 := [.int (-1)]) (w3 := w) rfl rfl ?_
    refine sx_RP.ret (r := (some (.int (-1)))) rfl rfl ?_
    exact ⟨⟨_, rfl⟩, rfl⟩
  · replace q4 := of_decide_eq_false q4
    replace q4 := mt (nI_leI (a := x1) (b := j) (by omega) (by omega)).mpr q4
    refine sx_RP.step (pc2 := 11) (ls2 := [(0, .ref A), (1, .int (nI j))]) (st2 := [.ref A]) (w3 := w) rfl rfl ?_
    refine sx_RP.gref (k := 2) (b := A + 2) hI hA rfl rfl (by omega) (show _ = 14 from rfl) ?_
    refine sx_RP.step (pc2 := 15) (ls2 := [(0, .ref A), (1, .int (nI j))]) (st2 := [.int (nI j), .ref (A + 2)]) (w3 := w) rfl rfl ?_
    refine sx_RP.ald (v := .ref (A + 4 + j)) rfl (hI.1.aG hA) rfl (grA_at (show j < 10 by omega)) (show _ = 16 from rfl) ?_
    refine sx_RP.gg (k := 1) hI (gAd.of hA (show j < 10 by omega)) rfl rfl (by decide) (show _ = 19 from rfl) ?_
    obtain ⟨x5, hx6, ex7⟩ : inR (fi w (A + 4 + j) 1) 1 := hI.gk (k := 1) (gAd.of hA (show j < 10 by omega)) (by decide)
    rw [ex7]
    refine sx_RP.br (p1 := 40) (l1 := [(0, .ref A), (1, .int (nI j))]) (s1 := []) (v1 := w) (p2 := 22) (l2 := [(0, .ref A), (1, .int (nI j))]) (s2 := []) (v2 := w) rfl rfl (fun q8 => ?_) (fun q8 => ?_)
    · replace q8 := of_decide_eq_true q8
      replace q8 := mt (nI_eq (a := x5) (b := 0) (by omega) (by omega)).mpr q8
      refine sx_RP.step (pc2 := 43) (ls2 := [(1, .int ((nI j) + 1)), (0, .ref A)]) (st2 := []) (w3 := w) rfl rfl ?_
      rw [nI_1 j]
      refine sx_RP.step (pc2 := 2) (ls2 := [(1, .int (nI (j + 1))), (0, .ref A)]) (st2 := []) (w3 := w) rfl rfl ?_
      exact sx_RP.ls (sx_lr.cons rfl (sx_lr.cons rfl sx_lr.nil)) (kk (by omega))
    · replace q8 := Decidable.not_not.mp (of_decide_eq_false q8)
      replace q8 := (nI_eq (a := x5) (b := 0) (by omega) (by omega)).mp q8
      refine sx_RP.step (pc2 := 23) (ls2 := [(0, .ref A), (1, .int (nI j))]) (st2 := [.ref A]) (w3 := w) rfl rfl ?_
      refine sx_RP.step (pc2 := 24) (ls2 := [(0, .ref A), (1, .int (nI j))]) (st2 := [.ref A, .ref A]) (w3 := w) rfl rfl ?_
      refine sx_RP.gref (k := 2) (b := A + 2) hI hA rfl rfl (by omega) (show _ = 27 from rfl) ?_
      refine sx_RP.step (pc2 := 28) (ls2 := [(0, .ref A), (1, .int (nI j))]) (st2 := [.int (nI j), .ref (A + 2), .ref A]) (w3 := w) rfl rfl ?_
      refine sx_RP.ald (v := .ref (A + 4 + j)) rfl (hI.1.aG hA) rfl (grA_at (show j < 10 by omega)) (show _ = 29 from rfl) ?_
      refine sx_RP.gg (k := 2) hI (gAd.of hA (show j < 10 by omega)) rfl rfl (by decide) (show _ = 32 from rfl) ?_
      obtain ⟨x9, hx10, ex11⟩ : inR (fi w (A + 4 + j) 2) 47 := hI.gk (k := 2) (gAd.of hA (show j < 10 by omega)) (by decide)
      rw [ex11]
      obtain ⟨x12, hx13, c14⟩ := p11 hI hA (nI x9)
      refine sx_RP.cu (as := [.ref A, .int (nI x9)]) (rest2 := []) (st3 := [.int (nI x12)]) rfl rfl (sx_inv_v2 (mi := 54) (k := 86) (st := [.int (nI x9), .ref A]) (w := w) rfl rfl (hI.1.oC hA) rfl rfl rfl) rfl rfl (c14) rfl ?_
      refine sx_RP.br (p1 := 40) (l1 := [(0, .ref A), (1, .int (nI j))]) (s1 := []) (v1 := w) (p2 := 38) (l2 := [(0, .ref A), (1, .int (nI j))]) (s2 := []) (v2 := w) rfl rfl (fun q15 => ?_) (fun q15 => ?_)
      · replace q15 := of_decide_eq_true q15
        replace q15 := (nI_eq (a := x12) (b := 0) (by omega) (by omega)).mp q15
        refine sx_RP.step (pc2 := 43) (ls2 := [(1, .int ((nI j) + 1)), (0, .ref A)]) (st2 := []) (w3 := w) rfl rfl ?_
        rw [nI_1 j]
        refine sx_RP.step (pc2 := 2) (ls2 := [(1, .int (nI (j + 1))), (0, .ref A)]) (st2 := []) (w3 := w) rfl rfl ?_
        exact sx_RP.ls (sx_lr.cons rfl (sx_lr.cons rfl sx_lr.nil)) (kk (by omega))
      · replace q15 := of_decide_eq_false q15
        replace q15 := mt (nI_eq (a := x12) (b := 0) (by omega) (by omega)).mpr q15
        refine sx_RP.step (pc2 := 39) (ls2 := [(0, .ref A), (1, .int (nI j))]) (st2 := [.int (nI j)]) (w3 := w) rfl rfl ?_
        refine sx_RP.ret (r := (some (.int (nI j)))) rfl rfl ?_
        exact ⟨⟨_, rfl⟩, rfl⟩
set_option maxRecDepth 20000 in
set_option maxHeartbeats 4000000 in
theorem p54L {xs : Option (List Int32)} {d : Nat} {w : List sx_C} {A : Nat} (hA : isA A) (hI : WI w) : ∀ (fz j : Nat) , 10 ≤ j + fz * 1 → j ≤ 10 → sx_RP xs (d + 1) 54 2 [(0, .ref A), (1, .int (nI j))] [] w (fun r w2 => (∃ v : Int32, r = some (.int v)) ∧ w2 = w)
  | 0, j, h, hj => p54B hA hI hj   (fun   hlt  => absurd hlt (by omega)) 
  | fz + 1, j, h, hj => p54B hA hI hj   (fun   hlt  => p54L hA hI  fz (j + 1)  (by omega) hlt ) 
set_option maxRecDepth 20000 in
set_option maxHeartbeats 4000000 in
theorem p54 {xs : Option (List Int32)} {d : Nat} {w : List sx_C} (hI : WI w) {A : Nat} (hA : isA A) : ∃ v : Int32, sx_RU xs (d + 1) 54 0 (lv_args 0 [.ref A]) [] w (some (.int v)) w := by
  have h : sx_RP xs (d + 1) 54 0 (lv_args 0 [.ref A]) [] w (fun r w2 => (∃ v : Int32, r = some (.int v)) ∧ w2 = w) := by
    refine sx_RP.step (pc2 := 1) (ls2 := [(0, .ref A)]) (st2 := [.int 0]) (w3 := w) rfl rfl ?_
    refine sx_RP.step (pc2 := 2) (ls2 := [(1, .int 0), (0, .ref A)]) (st2 := []) (w3 := w) rfl rfl ?_
    exact sx_RP.ls (sx_lr.cons rfl (sx_lr.cons rfl sx_lr.nil)) (p54L hA hI 10 0  (by omega) (by omega) )
  obtain ⟨r, w2, h1, ⟨v, rfl⟩, rfl⟩ := h
  exact ⟨v, h1⟩
set_option maxRecDepth 20000 in
set_option maxHeartbeats 4000000 in
theorem p77B {xs : Option (List Int32)} {d : Nat} {w : List sx_C} {A : Nat} (hA : isA A) (x y : Int32) (hI : WI w) {j : Nat} (hj : j ≤ 48) (s : Int64) (kk : ∀ (us : Int64), j + 1 ≤ 48 → sx_RP xs (d + 2) 77 5 [(0, .ref A), (1, .int x), (2, .int y), (3, .long us), (5, .int (nI (j + 1)))] [] w (fun r w2 => (∃ v : Int64, r = some (.long v)) ∧ w2 = w)) : sx_RP xs (d + 2) 77 5 [(0, .ref A), (1, .int x), (2, .int y), (3, .long s), (5, .int (nI j))] [] w (fun r w2 => (∃ v : Int64, r = some (.long v)) ∧ w2 = w) := by
  refine sx_RP.step (pc2 := 7) (ls2 := [(0, .ref A), (1, .int x), (2, .int y), (3, .long s), (5, .int (nI j))]) (st2 := [.int (nI j)]) (w3 := w) rfl rfl ?_
  refine sx_RP.step (pc2 := 9) (ls2 := [(0, .ref A), (1, .int x), (2, .int y), (3, .long s), (5, .int (nI j))]) (st2 := [.int 48, .int (nI j)]) (w3 := w) rfl rfl ?_
  refine sx_RP.br (p1 := 58) (l1 := [(0, .ref A), (1, .int x), (2, .int y), (3, .long s), (5, .int (nI j))]) (s1 := []) (v1 := w) (p2 := 12) (l2 := [(0, .ref A), (1, .int x), (2, .int y), (3, .long s), (5, .int (nI j))]) (s2 := []) (v2 := w) rfl rfl (fun q1 => ?_) (fun q1 => ?_)
  · replace q1 := of_decide_eq_true q1
    replace q1 := (nI_leI (a := 48) (b := j) (by omega) (by omega)).mp q1
    refine sx_RP.step (pc2 := 59) (ls2 := [(0, .ref A), (1, .int x), (2, .int y), (3, .long s), (5, .int (nI j))]) (st2 := [.long s]) (w3 := w) rfl rfl ?_
    refine sx_RP.ret (r := (some (.long s))) rfl rfl ?_
    exact ⟨⟨_, rfl⟩, rfl⟩
  · replace q1 := of_decide_eq_false q1
    replace q1 := mt (nI_leI (a := 48) (b := j) (by omega) (by omega)).mpr q1
    refine sx_RP.step (pc2 := 13) (ls2 := [(0, .ref A), (1, .int x), (2, .int y), (3, .long s), (5, .int (nI j))]) (st2 := [.int y]) (w3 := w) rfl rfl ?_
    refine sx_RP.step (pc2 := 14) (ls2 := [(0, .ref A), (1, .int x), (2, .int y), (3, .long s), (5, .int (nI j))]) (st2 := [.int 3, .int y]) (w3 := w) rfl rfl ?_
    refine sx_RP.step (pc2 := 15) (ls2 := [(0, .ref A), (1, .int x), (2, .int y), (3, .long s), (5, .int (nI j))]) (st2 := [.int x, .int 3, .int y]) (w3 := w) rfl rfl ?_
    refine sx_RP.step (pc2 := 17) (ls2 := [(0, .ref A), (1, .int x), (2, .int y), (3, .long s), (5, .int (nI j))]) (st2 := [.int (nI j), .int x, .int 3, .int y]) (w3 := w) rfl rfl ?_
    obtain ⟨v2, c3⟩ := p46 hI x (nI j)
    refine sx_RP.cu (as := [.int x, .int (nI j)]) (rest2 := [.int 3, .int y]) (st3 := [.int v2, .int 3, .int y]) rfl rfl rfl rfl rfl (c3) rfl ?_
    refine sx_RP.step (pc2 := 21) (ls2 := [(0, .ref A), (1, .int x), (2, .int y), (3, .long s), (5, .int (nI j))]) (st2 := [.int (3 * v2), .int y]) (w3 := w) rfl rfl ?_
    refine sx_RP.step (pc2 := 22) (ls2 := [(0, .ref A), (1, .int x), (2, .int y), (3, .long s), (5, .int (nI j))]) (st2 := [.int (y - (3 * v2))]) (w3 := w) rfl rfl ?_
    refine sx_RP.step (pc2 := 24) (ls2 := [(6, .int (y - (3 * v2))), (0, .ref A), (1, .int x), (2, .int y), (3, .long s), (5, .int (nI j))]) (st2 := []) (w3 := w) rfl rfl ?_
    refine sx_RP.step (pc2 := 26) (ls2 := [(6, .int (y - (3 * v2))), (0, .ref A), (1, .int x), (2, .int y), (3, .long s), (5, .int (nI j))]) (st2 := [.int (y - (3 * v2))]) (w3 := w) rfl rfl ?_
    refine sx_RP.step (pc2 := 27) (ls2 := [(6, .int (y - (3 * v2))), (0, .ref A), (1, .int x), (2, .int y), (3, .long s), (5, .int (nI j))]) (st2 := [.ref A, .int (y - (3 * v2))]) (w3 := w) rfl rfl ?_
    refine sx_RP.gref (k := 0) (b := A + 1) hI hA rfl rfl (by omega) (show _ = 30 from rfl) ?_
    refine sx_RP.step (pc2 := 32) (ls2 := [(6, .int (y - (3 * v2))), (0, .ref A), (1, .int x), (2, .int y), (3, .long s), (5, .int (nI j))]) (st2 := [.int (nI j), .ref (A + 1), .int (y - (3 * v2))]) (w3 := w) rfl rfl ?_
    refine sx_RP.ild (c := j) rfl (hI.1.aS hA).1 (hI.1.aS hA).2 (sx_in_nI (show j < 48 by omega) (by decide)) (show (nI j).toNatClampNeg = j from nI_clamp (by omega)) (show _ = 33 from rfl) ?_
    obtain ⟨x4, hx5, ex6⟩ : inR ((ia w (A + 1)).getD j 0) 3 := hI.st hA (show j < 48 by omega)
    rw [ex6]
    refine sx_RP.step (pc2 := 34) (ls2 := [(6, .int (y - (3 * v2))), (0, .ref A), (1, .int x), (2, .int y), (3, .long s), (5, .int (nI j))]) (st2 := [.int 2, .int (nI x4), .int (y - (3 * v2))]) (w3 := w) rfl rfl ?_
    refine sx_RP.br (p1 := 41) (l1 := [(6, .int (y - (3 * v2))), (0, .ref A), (1, .int x), (2, .int y), (3, .long s), (5, .int (nI j))]) (s1 := [.int (y - (3 * v2))]) (v1 := w) (p2 := 37) (l2 := [(6, .int (y - (3 * v2))), (0, .ref A), (1, .int x), (2, .int y), (3, .long s), (5, .int (nI j))]) (s2 := [.int (y - (3 * v2))]) (v2 := w) rfl rfl (fun q7 => ?_) (fun q7 => ?_)
    · replace q7 := of_decide_eq_true q7
      replace q7 := mt (nI_eq (a := x4) (b := 2) (by omega) (by omega)).mpr q7
      refine sx_RP.step (pc2 := 42) (ls2 := [(6, .int (y - (3 * v2))), (0, .ref A), (1, .int x), (2, .int y), (3, .long s), (5, .int (nI j))]) (st2 := [.int 0, .int (y - (3 * v2))]) (w3 := w) rfl rfl ?_
      refine sx_RP.br (p1 := 52) (l1 := [(6, .int (y - (3 * v2))), (0, .ref A), (1, .int x), (2, .int y), (3, .long s), (5, .int (nI j))]) (s1 := []) (v1 := w) (p2 := 45) (l2 := [(6, .int (y - (3 * v2))), (0, .ref A), (1, .int x), (2, .int y), (3, .long s), (5, .int (nI j))]) (s2 := []) (v2 := w) rfl rfl (fun q8 => ?_) (fun q8 => ?_)
      · replace q8 := of_decide_eq_true q8
        refine sx_RP.step (pc2 := 55) (ls2 := [(5, .int ((nI j) + 1)), (6, .int (y - (3 * v2))), (0, .ref A), (1, .int x), (2, .int y), (3, .long s)]) (st2 := []) (w3 := w) rfl rfl ?_
        rw [nI_1 j]
        refine sx_RP.step (pc2 := 5) (ls2 := [(5, .int (nI (j + 1))), (6, .int (y - (3 * v2))), (0, .ref A), (1, .int x), (2, .int y), (3, .long s)]) (st2 := []) (w3 := w) rfl rfl ?_
        exact sx_RP.ls (sx_lr.cons rfl (sx_lr.cons rfl (sx_lr.cons rfl (sx_lr.cons rfl (sx_lr.cons rfl sx_lr.nil))))) (kk s (by omega))
      · replace q8 := of_decide_eq_false q8
        refine sx_RP.step (pc2 := 46) (ls2 := [(6, .int (y - (3 * v2))), (0, .ref A), (1, .int x), (2, .int y), (3, .long s), (5, .int (nI j))]) (st2 := [.long s]) (w3 := w) rfl rfl ?_
        refine sx_RP.step (pc2 := 47) (ls2 := [(6, .int (y - (3 * v2))), (0, .ref A), (1, .int x), (2, .int y), (3, .long s), (5, .int (nI j))]) (st2 := [.long 1, .long s]) (w3 := w) rfl rfl ?_
        refine sx_RP.step (pc2 := 49) (ls2 := [(6, .int (y - (3 * v2))), (0, .ref A), (1, .int x), (2, .int y), (3, .long s), (5, .int (nI j))]) (st2 := [.int (nI j), .long 1, .long s]) (w3 := w) rfl rfl ?_
        refine sx_RP.step (pc2 := 50) (ls2 := [(6, .int (y - (3 * v2))), (0, .ref A), (1, .int x), (2, .int y), (3, .long s), (5, .int (nI j))]) (st2 := [.long ((1 : Int64) <<< ((nI j).toInt64 &&& 63)), .long s]) (w3 := w) rfl rfl ?_
        refine sx_RP.step (pc2 := 51) (ls2 := [(6, .int (y - (3 * v2))), (0, .ref A), (1, .int x), (2, .int y), (3, .long s), (5, .int (nI j))]) (st2 := [.long (s ||| ((1 : Int64) <<< ((nI j).toInt64 &&& 63)))]) (w3 := w) rfl rfl ?_
        refine sx_RP.step (pc2 := 52) (ls2 := [(3, .long (s ||| ((1 : Int64) <<< ((nI j).toInt64 &&& 63)))), (6, .int (y - (3 * v2))), (0, .ref A), (1, .int x), (2, .int y), (5, .int (nI j))]) (st2 := []) (w3 := w) rfl rfl ?_
        refine sx_RP.step (pc2 := 55) (ls2 := [(5, .int ((nI j) + 1)), (3, .long (s ||| ((1 : Int64) <<< ((nI j).toInt64 &&& 63)))), (6, .int (y - (3 * v2))), (0, .ref A), (1, .int x), (2, .int y)]) (st2 := []) (w3 := w) rfl rfl ?_
        rw [nI_1 j]
        refine sx_RP.step (pc2 := 5) (ls2 := [(5, .int (nI (j + 1))), (3, .long (s ||| ((1 : Int64) <<< ((nI j).toInt64 &&& 63)))), (6, .int (y - (3 * v2))), (0, .ref A), (1, .int x), (2, .int y)]) (st2 := []) (w3 := w) rfl rfl ?_
        exact sx_RP.ls (sx_lr.cons rfl (sx_lr.cons rfl (sx_lr.cons rfl (sx_lr.cons rfl (sx_lr.cons rfl sx_lr.nil))))) (kk (s ||| ((1 : Int64) <<< ((nI j).toInt64 &&& 63))) (by omega))
    · replace q7 := Decidable.not_not.mp (of_decide_eq_false q7)
      replace q7 := (nI_eq (a := x4) (b := 2) (by omega) (by omega)).mp q7
      refine sx_RP.step (pc2 := 38) (ls2 := [(6, .int (y - (3 * v2))), (0, .ref A), (1, .int x), (2, .int y), (3, .long s), (5, .int (nI j))]) (st2 := [.int 4, .int (y - (3 * v2))]) (w3 := w) rfl rfl ?_
      refine sx_RP.step (pc2 := 42) (ls2 := [(6, .int (y - (3 * v2))), (0, .ref A), (1, .int x), (2, .int y), (3, .long s), (5, .int (nI j))]) (st2 := [.int 4, .int (y - (3 * v2))]) (w3 := w) rfl rfl ?_
      refine sx_RP.br (p1 := 52) (l1 := [(6, .int (y - (3 * v2))), (0, .ref A), (1, .int x), (2, .int y), (3, .long s), (5, .int (nI j))]) (s1 := []) (v1 := w) (p2 := 45) (l2 := [(6, .int (y - (3 * v2))), (0, .ref A), (1, .int x), (2, .int y), (3, .long s), (5, .int (nI j))]) (s2 := []) (v2 := w) rfl rfl (fun q9 => ?_) (fun q9 => ?_)
      · replace q9 := of_decide_eq_true q9
        refine sx_RP.step (pc2 := 55) (ls2 := [(5, .int ((nI j) + 1)), (6, .int (y - (3 * v2))), (0, .ref A), (1, .int x), (2, .int y), (3, .long s)]) (st2 := []) (w3 := w) rfl rfl ?_
        rw [nI_1 j]
        refine sx_RP.step (pc2 := 5) (ls2 := [(5, .int (nI (j + 1))), (6, .int (y - (3 * v2))), (0, .ref A), (1, .int x), (2, .int y), (3, .long s)]) (st2 := []) (w3 := w) rfl rfl ?_
        exact sx_RP.ls (sx_lr.cons rfl (sx_lr.cons rfl (sx_lr.cons rfl (sx_lr.cons rfl (sx_lr.cons rfl sx_lr.nil))))) (kk s (by omega))
      · replace q9 := of_decide_eq_false q9
        refine sx_RP.step (pc2 := 46) (ls2 := [(6, .int (y - (3 * v2))), (0, .ref A), (1, .int x), (2, .int y), (3, .long s), (5, .int (nI j))]) (st2 := [.long s]) (w3 := w) rfl rfl ?_
        refine sx_RP.step (pc2 := 47) (ls2 := [(6, .int (y - (3 * v2))), (0, .ref A), (1, .int x), (2, .int y), (3, .long s), (5, .int (nI j))]) (st2 := [.long 1, .long s]) (w3 := w) rfl rfl ?_
        refine sx_RP.step (pc2 := 49) (ls2 := [(6, .int (y - (3 * v2))), (0, .ref A), (1, .int x), (2, .int y), (3, .long s), (5, .int (nI j))]) (st2 := [.int (nI j), .long 1, .long s]) (w3 := w) rfl rfl ?_
        refine sx_RP.step (pc2 := 50) (ls2 := [(6, .int (y - (3 * v2))), (0, .ref A), (1, .int x), (2, .int y), (3, .long s), (5, .int (nI j))]) (st2 := [.long ((1 : Int64) <<< ((nI j).toInt64 &&& 63)), .long s]) (w3 := w) rfl rfl ?_
        refine sx_RP.step (pc2 := 51) (ls2 := [(6, .int (y - (3 * v2))), (0, .ref A), (1, .int x), (2, .int y), (3, .long s), (5, .int (nI j))]) (st2 := [.long (s ||| ((1 : Int64) <<< ((nI j).toInt64 &&& 63)))]) (w3 := w) rfl rfl ?_
        refine sx_RP.step (pc2 := 52) (ls2 := [(3, .long (s ||| ((1 : Int64) <<< ((nI j).toInt64 &&& 63)))), (6, .int (y - (3 * v2))), (0, .ref A), (1, .int x), (2, .int y), (5, .int (nI j))]) (st2 := []) (w3 := w) rfl rfl ?_
        refine sx_RP.step (pc2 := 55) (ls2 := [(5, .int ((nI j) + 1)), (3, .long (s ||| ((1 : Int64) <<< ((nI j).toInt64 &&& 63)))), (6, .int (y - (3 * v2))), (0, .ref A), (1, .int x), (2, .int y)]) (st2 := []) (w3 := w) rfl rfl ?_
        rw [nI_1 j]
        refine sx_RP.step (pc2 := 5) (ls2 := [(5, .int (nI (j + 1))), (3, .long (s ||| ((1 : Int64) <<< ((nI j).toInt64 &&& 63)))), (6, .int (y - (3 * v2))), (0, .ref A), (1, .int x), (2, .int y)]) (st2 := []) (w3 := w) rfl rfl ?_
        exact sx_RP.ls (sx_lr.cons rfl (sx_lr.cons rfl (sx_lr.cons rfl (sx_lr.cons rfl (sx_lr.cons rfl sx_lr.nil))))) (kk (s ||| ((1 : Int64) <<< ((nI j).toInt64 &&& 63))) (by omega))
set_option maxRecDepth 20000 in
set_option maxHeartbeats 4000000 in
theorem p77L {xs : Option (List Int32)} {d : Nat} {w : List sx_C} {A : Nat} (hA : isA A) (x y : Int32) (hI : WI w) : ∀ (fz j : Nat) (s : Int64) , 48 ≤ j + fz * 1 → j ≤ 48 → sx_RP xs (d + 2) 77 5 [(0, .ref A), (1, .int x), (2, .int y), (3, .long s), (5, .int (nI j))] [] w (fun r w2 => (∃ v : Int64, r = some (.long v)) ∧ w2 = w)
  | 0, j, s, h, hj => p77B hA x y hI hj s  (fun us  hlt  => absurd hlt (by omega)) 
  | fz + 1, j, s, h, hj => p77B hA x y hI hj s  (fun us  hlt  => p77L hA x y hI  fz (j + 1) us (by omega) hlt ) 
set_option maxRecDepth 20000 in
set_option maxHeartbeats 4000000 in
theorem p77 {xs : Option (List Int32)} {d : Nat} {w : List sx_C} (hI : WI w) {A : Nat} (hA : isA A) (x y : Int32) : ∃ v : Int64, sx_RU xs (d + 2) 77 0 (lv_args 0 [.ref A, .int x, .int y]) [] w (some (.long v)) w := by
  have h : sx_RP xs (d + 2) 77 0 (lv_args 0 [.ref A, .int x, .int y]) [] w (fun r w2 => (∃ v : Int64, r = some (.long v)) ∧ w2 = w) := by
    refine sx_RP.step (pc2 := 1) (ls2 := [(0, .ref A), (1, .int x), (2, .int y)]) (st2 := [.long 0]) (w3 := w) rfl rfl ?_
    refine sx_RP.step (pc2 := 2) (ls2 := [(3, .long 0), (0, .ref A), (1, .int x), (2, .int y)]) (st2 := []) (w3 := w) rfl rfl ?_
    refine sx_RP.step (pc2 := 3) (ls2 := [(3, .long 0), (0, .ref A), (1, .int x), (2, .int y)]) (st2 := [.int 0]) (w3 := w) rfl rfl ?_
    refine sx_RP.step (pc2 := 5) (ls2 := [(5, .int 0), (3, .long 0), (0, .ref A), (1, .int x), (2, .int y)]) (st2 := []) (w3 := w) rfl rfl ?_
    exact sx_RP.ls (sx_lr.cons rfl (sx_lr.cons rfl (sx_lr.cons rfl (sx_lr.cons rfl (sx_lr.cons rfl sx_lr.nil))))) (p77L hA x y hI 48 0 0 (by omega) (by omega) )
  obtain ⟨r, w2, h1, ⟨v, rfl⟩, rfl⟩ := h
  exact ⟨v, h1⟩
set_option maxRecDepth 20000 in
set_option maxHeartbeats 4000000 in
theorem p84B {xs : Option (List Int32)} {d : Nat} {w : List sx_C} {A : Nat} (hA : isA A) (x : Int32) (hI : WI w) {j : Nat} (hj : j ≤ 999) (l : Int32) (kk : ∀ (ul : Int32), j + 1 ≤ 999 → sx_RP xs (d + 1) 84 7 [(0, .ref A), (1, .int x), (2, .int ul), (3, .int (nI (j + 1)))] [] w (fun r w2 => (∃ v : Int32, r = some (.int v)) ∧ w2 = w)) : sx_RP xs (d + 1) 84 7 [(0, .ref A), (1, .int x), (2, .int l), (3, .int (nI j))] [] w (fun r w2 => (∃ v : Int32, r = some (.int v)) ∧ w2 = w) := by
  refine sx_RP.step (pc2 := 8) (ls2 := [(0, .ref A), (1, .int x), (2, .int l), (3, .int (nI j))]) (st2 := [.int (nI j)]) (w3 := w) rfl rfl ?_
  refine sx_RP.step (pc2 := 11) (ls2 := [(0, .ref A), (1, .int x), (2, .int l), (3, .int (nI j))]) (st2 := [.int 999, .int (nI j)]) (w3 := w) rfl rfl ?_
  refine sx_RP.br (p1 := 49) (l1 := [(0, .ref A), (1, .int x), (2, .int l), (3, .int (nI j))]) (s1 := []) (v1 := w) (p2 := 14) (l2 := [(0, .ref A), (1, .int x), (2, .int l), (3, .int (nI j))]) (s2 := []) (v2 := w) rfl rfl (fun q1 => ?_) (fun q1 => ?_)
  · replace q1 := of_decide_eq_true q1
    replace q1 := (nI_leI (a := 999) (b := j) (by omega) (by omega)).mp q1
    refine sx_RP.step (pc2 := 52) (ls2 := [(0, .ref A), (1, .int x), (2, .int l), (3, .int (nI j))]) (st2 := [.int 999]) (w3 := w) rfl rfl ?_
    refine sx_RP.ret (r := (some (.int 999))) rfl rfl ?_
    exact ⟨⟨_, rfl⟩, rfl⟩
  · replace q1 := of_decide_eq_false q1
    replace q1 := mt (nI_leI (a := 999) (b := j) (by omega) (by omega)).mpr q1
    refine sx_RP.step (pc2 := 15) (ls2 := [(0, .ref A), (1, .int x), (2, .int l), (3, .int (nI j))]) (st2 := [.ref A]) (w3 := w) rfl rfl ?_
    refine sx_RP.gc (k := 9) hI hA rfl rfl (by omega) (show _ = 18 from rfl) ?_
    refine sx_RP.step (pc2 := 19) (ls2 := [(0, .ref A), (1, .int x), (2, .int l), (3, .int (nI j))]) (st2 := [.int 1, .int (fi w A 9)]) (w3 := w) rfl rfl ?_
    refine sx_RP.step (pc2 := 20) (ls2 := [(0, .ref A), (1, .int x), (2, .int l), (3, .int (nI j))]) (st2 := [.int x, .int 1, .int (fi w A 9)]) (w3 := w) rfl rfl ?_
    refine sx_RP.step (pc2 := 21) (ls2 := [(0, .ref A), (1, .int x), (2, .int l), (3, .int (nI j))]) (st2 := [.int (nI j), .int x, .int 1, .int (fi w A 9)]) (w3 := w) rfl rfl ?_
    refine sx_RP.step (pc2 := 22) (ls2 := [(0, .ref A), (1, .int x), (2, .int l), (3, .int (nI j))]) (st2 := [.int 5, .int (nI j), .int x, .int 1, .int (fi w A 9)]) (w3 := w) rfl rfl ?_
    refine sx_RP.step (pc2 := 23) (ls2 := [(0, .ref A), (1, .int x), (2, .int l), (3, .int (nI j))]) (st2 := [.int ((nI j) / 5), .int x, .int 1, .int (fi w A 9)]) (w3 := w) rfl rfl ?_
    refine sx_RP.step (pc2 := 24) (ls2 := [(0, .ref A), (1, .int x), (2, .int l), (3, .int (nI j))]) (st2 := [.int (x - ((nI j) / 5)), .int 1, .int (fi w A 9)]) (w3 := w) rfl rfl ?_
    obtain ⟨v2, c3⟩ := p85 hI 1 (x - ((nI j) / 5))
    refine sx_RP.cu (as := [.int 1, .int (x - ((nI j) / 5))]) (rest2 := [.int (fi w A 9)]) (st3 := [.int v2, .int (fi w A 9)]) rfl rfl rfl rfl rfl (c3) rfl ?_
    refine sx_RP.step (pc2 := 28) (ls2 := [(0, .ref A), (1, .int x), (2, .int l), (3, .int (nI j))]) (st2 := [.int ((fi w A 9) * v2)]) (w3 := w) rfl rfl ?_
    refine sx_RP.step (pc2 := 30) (ls2 := [(4, .int ((fi w A 9) * v2)), (0, .ref A), (1, .int x), (2, .int l), (3, .int (nI j))]) (st2 := []) (w3 := w) rfl rfl ?_
    refine sx_RP.step (pc2 := 32) (ls2 := [(4, .int ((fi w A 9) * v2)), (0, .ref A), (1, .int x), (2, .int l), (3, .int (nI j))]) (st2 := [.int ((fi w A 9) * v2)]) (w3 := w) rfl rfl ?_
    refine sx_RP.step (pc2 := 33) (ls2 := [(4, .int ((fi w A 9) * v2)), (0, .ref A), (1, .int x), (2, .int l), (3, .int (nI j))]) (st2 := [.int l, .int ((fi w A 9) * v2)]) (w3 := w) rfl rfl ?_
    refine sx_RP.br (p1 := 38) (l1 := [(4, .int ((fi w A 9) * v2)), (0, .ref A), (1, .int x), (2, .int l), (3, .int (nI j))]) (s1 := []) (v1 := w) (p2 := 36) (l2 := [(4, .int ((fi w A 9) * v2)), (0, .ref A), (1, .int x), (2, .int l), (3, .int (nI j))]) (s2 := []) (v2 := w) rfl rfl (fun q4 => ?_) (fun q4 => ?_)
    · replace q4 := of_decide_eq_true q4
      refine sx_RP.step (pc2 := 39) (ls2 := [(4, .int ((fi w A 9) * v2)), (0, .ref A), (1, .int x), (2, .int l), (3, .int (nI j))]) (st2 := [.int l]) (w3 := w) rfl rfl ?_
      refine sx_RP.step (pc2 := 41) (ls2 := [(4, .int ((fi w A 9) * v2)), (0, .ref A), (1, .int x), (2, .int l), (3, .int (nI j))]) (st2 := [.int ((fi w A 9) * v2), .int l]) (w3 := w) rfl rfl ?_
      refine sx_RP.step (pc2 := 42) (ls2 := [(4, .int ((fi w A 9) * v2)), (0, .ref A), (1, .int x), (2, .int l), (3, .int (nI j))]) (st2 := [.int (l - ((fi w A 9) * v2))]) (w3 := w) rfl rfl ?_
      refine sx_RP.step (pc2 := 43) (ls2 := [(2, .int (l - ((fi w A 9) * v2))), (4, .int ((fi w A 9) * v2)), (0, .ref A), (1, .int x), (3, .int (nI j))]) (st2 := []) (w3 := w) rfl rfl ?_
      refine sx_RP.step (pc2 := 46) (ls2 := [(3, .int ((nI j) + 1)), (2, .int (l - ((fi w A 9) * v2))), (4, .int ((fi w A 9) * v2)), (0, .ref A), (1, .int x)]) (st2 := []) (w3 := w) rfl rfl ?_
      rw [nI_1 j]
      refine sx_RP.step (pc2 := 7) (ls2 := [(3, .int (nI (j + 1))), (2, .int (l - ((fi w A 9) * v2))), (4, .int ((fi w A 9) * v2)), (0, .ref A), (1, .int x)]) (st2 := []) (w3 := w) rfl rfl ?_
      exact sx_RP.ls (sx_lr.cons rfl (sx_lr.cons rfl (sx_lr.cons rfl (sx_lr.cons rfl sx_lr.nil)))) (kk (l - ((fi w A 9) * v2)) (by omega))
    · replace q4 := of_decide_eq_false q4
      refine sx_RP.step (pc2 := 37) (ls2 := [(4, .int ((fi w A 9) * v2)), (0, .ref A), (1, .int x), (2, .int l), (3, .int (nI j))]) (st2 := [.int (nI j)]) (w3 := w) rfl rfl ?_
      refine sx_RP.ret (r := (some (.int (nI j)))) rfl rfl ?_
      exact ⟨⟨_, rfl⟩, rfl⟩
set_option maxRecDepth 20000 in
set_option maxHeartbeats 4000000 in
theorem p84L {xs : Option (List Int32)} {d : Nat} {w : List sx_C} {A : Nat} (hA : isA A) (x : Int32) (hI : WI w) : ∀ (fz j : Nat) (l : Int32) , 999 ≤ j + fz * 1 → j ≤ 999 → sx_RP xs (d + 1) 84 7 [(0, .ref A), (1, .int x), (2, .int l), (3, .int (nI j))] [] w (fun r w2 => (∃ v : Int32, r = some (.int v)) ∧ w2 = w)
  | 0, j, l, h, hj => p84B hA x hI hj l  (fun ul  hlt  => absurd hlt (by omega)) 
  | fz + 1, j, l, h, hj => p84B hA x hI hj l  (fun ul  hlt  => p84L hA x hI  fz (j + 1) ul (by omega) hlt ) 
set_option maxRecDepth 20000 in
set_option maxHeartbeats 4000000 in
theorem p84 {xs : Option (List Int32)} {d : Nat} {w : List sx_C} (hI : WI w) {A : Nat} (hA : isA A) (x : Int32) : ∃ v : Int32, sx_RU xs (d + 1) 84 0 (lv_args 0 [.ref A, .int x]) [] w (some (.int v)) w := by
  have h : sx_RP xs (d + 1) 84 0 (lv_args 0 [.ref A, .int x]) [] w (fun r w2 => (∃ v : Int32, r = some (.int v)) ∧ w2 = w) := by
    refine sx_RP.step (pc2 := 1) (ls2 := [(0, .ref A), (1, .int x)]) (st2 := [.ref A]) (w3 := w) rfl rfl ?_
    refine sx_RP.gc (k := 8) hI hA rfl rfl (by omega) (show _ = 4 from rfl) ?_
    refine sx_RP.step (pc2 := 5) (ls2 := [(2, .int (fi w A 8)), (0, .ref A), (1, .int x)]) (st2 := []) (w3 := w) rfl rfl ?_
    refine sx_RP.step (pc2 := 6) (ls2 := [(2, .int (fi w A 8)), (0, .ref A), (1, .int x)]) (st2 := [.int 0]) (w3 := w) rfl rfl ?_
    refine sx_RP.step (pc2 := 7) (ls2 := [(3, .int 0), (2, .int (fi w A 8)), (0, .ref A), (1, .int x)]) (st2 := []) (w3 := w) rfl rfl ?_
    exact sx_RP.ls (sx_lr.cons rfl (sx_lr.cons rfl (sx_lr.cons rfl (sx_lr.cons rfl sx_lr.nil)))) (p84L hA x hI 999 0 (fi w A 8) (by omega) (by omega) )
  obtain ⟨r, w2, h1, ⟨v, rfl⟩, rfl⟩ := h
  exact ⟨v, h1⟩
end
-- 45z.tests.lean.txt
section
-- tests of ranges, both ways
section SXN
variable {xs : Option (List Int32)} {d : Nat} {w : List sx_C} {x lo hi : Int32}
theorem cx_8n (q : ¬ (lo ≤ x ∧ x ≤ hi)) : sx_RU xs d 8 0 (lv_args 0 [.int x, .int lo, .int hi]) [] w (some (.int 0)) w := by
  have c := cx_8 xs d w x lo hi
  rw [if_neg q] at c
  exact c
theorem cx_8p (q : lo ≤ x ∧ x ≤ hi) : sx_RU xs d 8 0 (lv_args 0 [.int x, .int lo, .int hi]) [] w (some (.int 1)) w := by
  have c := cx_8 xs d w x lo hi
  rw [if_pos q] at c
  exact c
theorem cx_132o (q : ¬ (lo ≤ x ∧ x ≤ hi)) : sx_RU xs d 132 0 (lv_args 0 [.int x, .int lo, .int hi]) [] w (some (.int 0)) w := by
  have c := cx_132 xs d w x lo hi
  rw [if_neg q] at c
  exact c
theorem cx_132p (q : lo ≤ x ∧ x ≤ hi) : sx_RU xs d 132 0 (lv_args 0 [.int x, .int lo, .int hi]) [] w (some (.int 1)) w := by
  have c := cx_132 xs d w x lo hi
  rw [if_pos q] at c
  exact c
theorem cx_7n (q : ¬ (0 ≤ x ∧ x ≤ 47)) : sx_RU xs d 7 0 (lv_args 0 [.int x]) [] w (some (.int 0)) w := by
  have c := cx_7 xs d w x
  rw [if_neg q] at c
  exact c
theorem cx_7p (q : 0 ≤ x ∧ x ≤ 47) : sx_RU xs d 7 0 (lv_args 0 [.int x]) [] w (some (.int 1)) w := by
  have c := cx_7 xs d w x
  rw [if_pos q] at c
  exact c
theorem cx_22n (q : ¬ (0 ≤ x ∧ x ≤ 5)) : sx_RU xs d 22 0 (lv_args 0 [.int x]) [] w (some (.int 0)) w := by
  have c := cx_22 xs d w x
  rw [if_neg q] at c
  exact c
theorem cx_22p (q : 0 ≤ x ∧ x ≤ 5) : sx_RU xs d 22 0 (lv_args 0 [.int x]) [] w (some (.int 1)) w := by
  have c := cx_22 xs d w x
  rw [if_pos q] at c
  exact c
theorem cx_23n (q : ¬ (0 ≤ x ∧ x ≤ 3)) : sx_RU xs d 23 0 (lv_args 0 [.int x]) [] w (some (.int 0)) w := by
  have c := cx_23 xs d w x
  rw [if_neg q] at c
  exact c
theorem cx_23p (q : 0 ≤ x ∧ x ≤ 3) : sx_RU xs d 23 0 (lv_args 0 [.int x]) [] w (some (.int 1)) w := by
  have c := cx_23 xs d w x
  rw [if_pos q] at c
  exact c
theorem cx_112n (q : ¬ (0 ≤ x ∧ x ≤ 3)) : sx_RU xs (d + 1) 112 0 (lv_args 0 [.int x]) [] w (some (.int 0)) w := by
  refine sx_RU.step rfl rfl (sx_RU.step rfl rfl (sx_RU.step rfl rfl ?_))
  exact sx_RU.call rfl rfl rfl rfl (cx_8n q) (sx_RU.ret rfl rfl)
theorem cx_112p (q : 0 ≤ x ∧ x ≤ 3) : sx_RU xs (d + 1) 112 0 (lv_args 0 [.int x]) [] w (some (.int 1)) w := by
  refine sx_RU.step rfl rfl (sx_RU.step rfl rfl (sx_RU.step rfl rfl ?_))
  exact sx_RU.call rfl rfl rfl rfl (cx_8p q) (sx_RU.ret rfl rfl)
theorem bes_cases {c j : Nat} (hc : c < 48) (hj : j < 4) : bsd c j = -1 ∨ ∃ c2, c2 < 48 ∧ bsd c j = nI c2 := by
  rcases bsd_nat c hc j hj with h | ⟨h1, h2⟩
  · exact Or.inl h
  · exact Or.inr ⟨_, h1, h2⟩
theorem cb_20e {c j : Nat} {v : Int32} (hc : c < 48) (hj : j < 4) (h : bsd c j = v) : sx_RU xs d 20 0 (lv_args 0 [.int (nI c), .int (nI j)]) [] w (some (.int v)) w := by
  rw [← h]
  exact cb_20 hc j hj
theorem cb_142e {c j : Nat} {v : Int32} (hc : c < 48) (hj : j < 4) (h : bsd c j = v) : sx_RU xs d 142 0 (lv_args 0 [.int (nI c), .int (nI j)]) [] w (some (.int v)) w := by
  rw [← h]
  exact cb_142 hc j hj
end SXN
theorem idx_of {x : Int32} {n m : Nat} (q1 : ¬ x < 0) (q2 : ¬ nI n ≤ x) (hn : n ≤ m) (hm : m < 2 ^ 31) : ∃ j, j < m ∧ x = nI j := by
  obtain ⟨j, hj, rfl⟩ := nI_of q1
  refine ⟨j, ?_, rfl⟩
  have := mt (nI_leI (by omega) hj).mpr q2
  omega
end
-- 46.tests.lean.txt
section
-- safety: tests that tell something; more leaves
theorem in_casesN {a m n : Nat} (ha : a < 2 ^ 31) (hm : m < 2 ^ 31) (hn : n < 2 ^ 31) : ¬ (nI m ≤ nI a ∧ nI a ≤ nI n) ∨ (m ≤ a ∧ a ≤ n) := by
  by_cases h : m ≤ a ∧ a ≤ n
  · exact Or.inr h
  · left
    rw [nI_leI hm ha, nI_leI ha hn]
    exact h
set_option maxRecDepth 20000 in
set_option maxHeartbeats 4000000 in
theorem p27 {xs : Option (List Int32)} {d : Nat} {w : List sx_C} (hI : WI w) {A : Nat} (hA : isA A) (x : Int32) : sx_RU xs d 27 0 (lv_args 0 [.ref A, .int x]) [] w (some (.int 0)) w ∨ ((∃ j, j < 10 ∧ x = nI j) ∧ sx_RU xs d 27 0 (lv_args 0 [.ref A, .int x]) [] w (some (.int 1)) w) := by
  have h : sx_RP xs d 27 0 (lv_args 0 [.ref A, .int x]) [] w (fun r w2 => (r = some (.int 0) ∨ ((∃ j, j < 10 ∧ x = nI j) ∧ r = some (.int 1))) ∧ w2 = w) := by
    refine sx_RP.step (pc2 := 1) (ls2 := [(0, .ref A), (1, .int x)]) (st2 := [.int x]) (w3 := w) rfl rfl ?_
    refine sx_RP.br (p1 := 16) (l1 := [(0, .ref A), (1, .int x)]) (s1 := []) (v1 := w) (p2 := 4) (l2 := [(0, .ref A), (1, .int x)]) (s2 := []) (v2 := w) rfl rfl (fun q1 => ?_) (fun q1 => ?_)
    · replace q1 := of_decide_eq_true q1
      refine sx_RP.step (pc2 := 17) (ls2 := [(0, .ref A), (1, .int x)]) (st2 := [.int 0]) (w3 := w) rfl rfl ?_
      refine sx_RP.ret (r := (some (.int 0))) rfl rfl ?_
      exact ⟨Or.inl rfl, rfl⟩
    · replace q1 := of_decide_eq_false q1
      refine sx_RP.step (pc2 := 5) (ls2 := [(0, .ref A), (1, .int x)]) (st2 := [.int x]) (w3 := w) rfl rfl ?_
      refine sx_RP.step (pc2 := 6) (ls2 := [(0, .ref A), (1, .int x)]) (st2 := [.ref A, .int x]) (w3 := w) rfl rfl ?_
      refine sx_RP.gc (k := 3) hI hA rfl rfl (by omega) (show _ = 9 from rfl) ?_
      obtain ⟨x2, hx3, ex4⟩ : inR (fi w A 3) 10 := (hI.c hA).1
      rw [ex4]
      refine sx_RP.br (p1 := 16) (l1 := [(0, .ref A), (1, .int x)]) (s1 := []) (v1 := w) (p2 := 12) (l2 := [(0, .ref A), (1, .int x)]) (s2 := []) (v2 := w) rfl rfl (fun q5 => ?_) (fun q5 => ?_)
      · replace q5 := of_decide_eq_true q5
        refine sx_RP.step (pc2 := 17) (ls2 := [(0, .ref A), (1, .int x)]) (st2 := [.int 0]) (w3 := w) rfl rfl ?_
        refine sx_RP.ret (r := (some (.int 0))) rfl rfl ?_
        exact ⟨Or.inl rfl, rfl⟩
      · replace q5 := of_decide_eq_false q5
        refine sx_RP.step (pc2 := 13) (ls2 := [(0, .ref A), (1, .int x)]) (st2 := [.int 1]) (w3 := w) rfl rfl ?_
        refine sx_RP.step (pc2 := 17) (ls2 := [(0, .ref A), (1, .int x)]) (st2 := [.int 1]) (w3 := w) rfl rfl ?_
        refine sx_RP.ret (r := (some (.int 1))) rfl rfl ?_
        exact ⟨Or.inr ⟨idx_of q1 q5 (by omega) (by decide), rfl⟩, rfl⟩
  obtain ⟨r, w2, h1, h2, rfl⟩ := h
  rcases h2 with rfl | ⟨hc, rfl⟩
  · exact Or.inl h1
  · exact Or.inr ⟨hc, h1⟩
set_option maxRecDepth 20000 in
set_option maxHeartbeats 4000000 in
theorem p66 {xs : Option (List Int32)} {d : Nat} {w : List sx_C} (hI : WI w) {A : Nat} (hA : isA A) (x : Int32) : sx_RU xs d 66 0 (lv_args 0 [.ref A, .int x]) [] w (some (.int 0)) w ∨ ((∃ j, j < 9 ∧ x = nI j) ∧ sx_RU xs d 66 0 (lv_args 0 [.ref A, .int x]) [] w (some (.int 1)) w) := by
  have h : sx_RP xs d 66 0 (lv_args 0 [.ref A, .int x]) [] w (fun r w2 => (r = some (.int 0) ∨ ((∃ j, j < 9 ∧ x = nI j) ∧ r = some (.int 1))) ∧ w2 = w) := by
    refine sx_RP.step (pc2 := 1) (ls2 := [(0, .ref A), (1, .int x)]) (st2 := [.int x]) (w3 := w) rfl rfl ?_
    refine sx_RP.br (p1 := 16) (l1 := [(0, .ref A), (1, .int x)]) (s1 := []) (v1 := w) (p2 := 4) (l2 := [(0, .ref A), (1, .int x)]) (s2 := []) (v2 := w) rfl rfl (fun q1 => ?_) (fun q1 => ?_)
    · replace q1 := of_decide_eq_true q1
      refine sx_RP.step (pc2 := 17) (ls2 := [(0, .ref A), (1, .int x)]) (st2 := [.int 0]) (w3 := w) rfl rfl ?_
      refine sx_RP.ret (r := (some (.int 0))) rfl rfl ?_
      exact ⟨Or.inl rfl, rfl⟩
    · replace q1 := of_decide_eq_false q1
      refine sx_RP.step (pc2 := 5) (ls2 := [(0, .ref A), (1, .int x)]) (st2 := [.int x]) (w3 := w) rfl rfl ?_
      refine sx_RP.step (pc2 := 6) (ls2 := [(0, .ref A), (1, .int x)]) (st2 := [.ref A, .int x]) (w3 := w) rfl rfl ?_
      refine sx_RP.gc (k := 5) hI hA rfl rfl (by omega) (show _ = 9 from rfl) ?_
      obtain ⟨x2, hx3, ex4⟩ : inR (fi w A 5) 9 := (hI.c hA).2
      rw [ex4]
      refine sx_RP.br (p1 := 16) (l1 := [(0, .ref A), (1, .int x)]) (s1 := []) (v1 := w) (p2 := 12) (l2 := [(0, .ref A), (1, .int x)]) (s2 := []) (v2 := w) rfl rfl (fun q5 => ?_) (fun q5 => ?_)
      · replace q5 := of_decide_eq_true q5
        refine sx_RP.step (pc2 := 17) (ls2 := [(0, .ref A), (1, .int x)]) (st2 := [.int 0]) (w3 := w) rfl rfl ?_
        refine sx_RP.ret (r := (some (.int 0))) rfl rfl ?_
        exact ⟨Or.inl rfl, rfl⟩
      · replace q5 := of_decide_eq_false q5
        refine sx_RP.step (pc2 := 13) (ls2 := [(0, .ref A), (1, .int x)]) (st2 := [.int 1]) (w3 := w) rfl rfl ?_
        refine sx_RP.step (pc2 := 17) (ls2 := [(0, .ref A), (1, .int x)]) (st2 := [.int 1]) (w3 := w) rfl rfl ?_
        refine sx_RP.ret (r := (some (.int 1))) rfl rfl ?_
        exact ⟨Or.inr ⟨idx_of q1 q5 (by omega) (by decide), rfl⟩, rfl⟩
  obtain ⟨r, w2, h1, h2, rfl⟩ := h
  rcases h2 with rfl | ⟨hc, rfl⟩
  · exact Or.inl h1
  · exact Or.inr ⟨hc, h1⟩
set_option maxRecDepth 20000 in
set_option maxHeartbeats 4000000 in
theorem p24 {xs : Option (List Int32)} {d : Nat} {w : List sx_C} (hI : WI w) {A : Nat} (hA : isA A) : sx_RU xs d 24 0 (lv_args 0 [.ref A]) [] w (some (.int 0)) w ∨ ((∃ j, j ≤ 9 ∧ fi w A 3 = nI j) ∧ sx_RU xs d 24 0 (lv_args 0 [.ref A]) [] w (some (.int 1)) w) := by
  have h : sx_RP xs d 24 0 (lv_args 0 [.ref A]) [] w (fun r w2 => (r = some (.int 0) ∨ ((∃ j, j ≤ 9 ∧ fi w A 3 = nI j) ∧ r = some (.int 1))) ∧ w2 = w) := by
    refine sx_RP.step (pc2 := 1) (ls2 := [(0, .ref A)]) (st2 := [.ref A]) (w3 := w) rfl rfl ?_
    refine sx_RP.gc (k := 3) hI hA rfl rfl (by omega) (show _ = 4 from rfl) ?_
    obtain ⟨x1, hx2, ex3⟩ : inR (fi w A 3) 10 := (hI.c hA).1
    rw [ex3]
    refine sx_RP.step (pc2 := 6) (ls2 := [(0, .ref A)]) (st2 := [.int 10, .int (nI x1)]) (w3 := w) rfl rfl ?_
    refine sx_RP.br (p1 := 13) (l1 := [(0, .ref A)]) (s1 := []) (v1 := w) (p2 := 9) (l2 := [(0, .ref A)]) (s2 := []) (v2 := w) rfl rfl (fun q4 => ?_) (fun q4 => ?_)
    · replace q4 := of_decide_eq_true q4
      replace q4 := (nI_leI (a := 10) (b := x1) (by omega) (by omega)).mp q4
      refine sx_RP.step (pc2 := 14) (ls2 := [(0, .ref A)]) (st2 := [.int 0]) (w3 := w) rfl rfl ?_
      refine sx_RP.ret (r := (some (.int 0))) rfl rfl ?_
      exact ⟨Or.inl rfl, rfl⟩
    · replace q4 := of_decide_eq_false q4
      replace q4 := mt (nI_leI (a := 10) (b := x1) (by omega) (by omega)).mpr q4
      refine sx_RP.step (pc2 := 10) (ls2 := [(0, .ref A)]) (st2 := [.int 1]) (w3 := w) rfl rfl ?_
      refine sx_RP.step (pc2 := 14) (ls2 := [(0, .ref A)]) (st2 := [.int 1]) (w3 := w) rfl rfl ?_
      refine sx_RP.ret (r := (some (.int 1))) rfl rfl ?_
      exact ⟨Or.inr ⟨⟨x1, by omega, rfl⟩, rfl⟩, rfl⟩
  obtain ⟨r, w2, h1, h2, rfl⟩ := h
  rcases h2 with rfl | ⟨hc, rfl⟩
  · exact Or.inl h1
  · exact Or.inr ⟨hc, h1⟩
set_option maxRecDepth 20000 in
set_option maxHeartbeats 4000000 in
theorem p63 {xs : Option (List Int32)} {d : Nat} {w : List sx_C} (hI : WI w) {A : Nat} (hA : isA A) : sx_RU xs d 63 0 (lv_args 0 [.ref A]) [] w (some (.int 0)) w ∨ ((∃ j, j ≤ 8 ∧ fi w A 5 = nI j) ∧ sx_RU xs d 63 0 (lv_args 0 [.ref A]) [] w (some (.int 1)) w) := by
  have h : sx_RP xs d 63 0 (lv_args 0 [.ref A]) [] w (fun r w2 => (r = some (.int 0) ∨ ((∃ j, j ≤ 8 ∧ fi w A 5 = nI j) ∧ r = some (.int 1))) ∧ w2 = w) := by
    refine sx_RP.step (pc2 := 1) (ls2 := [(0, .ref A)]) (st2 := [.ref A]) (w3 := w) rfl rfl ?_
    refine sx_RP.gc (k := 5) hI hA rfl rfl (by omega) (show _ = 4 from rfl) ?_
    obtain ⟨x1, hx2, ex3⟩ : inR (fi w A 5) 9 := (hI.c hA).2
    rw [ex3]
    refine sx_RP.step (pc2 := 6) (ls2 := [(0, .ref A)]) (st2 := [.int 9, .int (nI x1)]) (w3 := w) rfl rfl ?_
    refine sx_RP.br (p1 := 13) (l1 := [(0, .ref A)]) (s1 := []) (v1 := w) (p2 := 9) (l2 := [(0, .ref A)]) (s2 := []) (v2 := w) rfl rfl (fun q4 => ?_) (fun q4 => ?_)
    · replace q4 := of_decide_eq_true q4
      replace q4 := (nI_leI (a := 9) (b := x1) (by omega) (by omega)).mp q4
      refine sx_RP.step (pc2 := 14) (ls2 := [(0, .ref A)]) (st2 := [.int 0]) (w3 := w) rfl rfl ?_
      refine sx_RP.ret (r := (some (.int 0))) rfl rfl ?_
      exact ⟨Or.inl rfl, rfl⟩
    · replace q4 := of_decide_eq_false q4
      replace q4 := mt (nI_leI (a := 9) (b := x1) (by omega) (by omega)).mpr q4
      refine sx_RP.step (pc2 := 10) (ls2 := [(0, .ref A)]) (st2 := [.int 1]) (w3 := w) rfl rfl ?_
      refine sx_RP.step (pc2 := 14) (ls2 := [(0, .ref A)]) (st2 := [.int 1]) (w3 := w) rfl rfl ?_
      refine sx_RP.ret (r := (some (.int 1))) rfl rfl ?_
      exact ⟨Or.inr ⟨⟨x1, by omega, rfl⟩, rfl⟩, rfl⟩
  obtain ⟨r, w2, h1, h2, rfl⟩ := h
  rcases h2 with rfl | ⟨hc, rfl⟩
  · exact Or.inl h1
  · exact Or.inr ⟨hc, h1⟩
set_option maxRecDepth 20000 in
set_option maxHeartbeats 4000000 in
theorem p31_0 {xs : Option (List Int32)} {d : Nat} {w : List sx_C} (hI : WI w) (x : Int32) : ∃ j, j ≤ 1 ∧ sx_RU xs d 31 0 (lv_args 0 [.int (nI 0), .int x]) [] w (some (.int (nI j))) w := by
  have h : sx_RP xs d 31 0 (lv_args 0 [.int (nI 0), .int x]) [] w (fun r w2 => (∃ j, j ≤ 1 ∧ r = some (.int (nI j))) ∧ w2 = w) := by
    refine sx_RP.step (pc2 := 1) (ls2 := [(0, .int (nI 0)), (1, .int x)]) (st2 := [.int (nI 0)]) (w3 := w) rfl rfl ?_
    refine sx_RP.step (pc2 := 2) (ls2 := [(2, .int (nI 0)), (0, .int (nI 0)), (1, .int x)]) (st2 := []) (w3 := w) rfl rfl ?_
    refine sx_RP.step (pc2 := 3) (ls2 := [(2, .int (nI 0)), (0, .int (nI 0)), (1, .int x)]) (st2 := [.int 0]) (w3 := w) rfl rfl ?_
    refine sx_RP.step (pc2 := 4) (ls2 := [(3, .int 0), (2, .int (nI 0)), (0, .int (nI 0)), (1, .int x)]) (st2 := []) (w3 := w) rfl rfl ?_
    refine sx_RP.step (pc2 := 5) (ls2 := [(3, .int 0), (2, .int (nI 0)), (0, .int (nI 0)), (1, .int x)]) (st2 := [.int 0]) (w3 := w) rfl rfl ?_
    refine sx_RP.step (pc2 := 7) (ls2 := [(3, .int 0), (2, .int (nI 0)), (0, .int (nI 0)), (1, .int x)]) (st2 := [.int 6, .int 0]) (w3 := w) rfl rfl ?_
    refine sx_RP.step (pc2 := 10) (ls2 := [(3, .int 0), (2, .int (nI 0)), (0, .int (nI 0)), (1, .int x)]) (st2 := []) (w3 := w) rfl rfl ?_
    refine sx_RP.step (pc2 := 11) (ls2 := [(3, .int 0), (2, .int (nI 0)), (0, .int (nI 0)), (1, .int x)]) (st2 := [.int (nI 0)]) (w3 := w) rfl rfl ?_
    refine sx_RP.step (pc2 := 12) (ls2 := [(3, .int 0), (2, .int (nI 0)), (0, .int (nI 0)), (1, .int x)]) (st2 := [.int (-1), .int (nI 0)]) (w3 := w) rfl rfl ?_
    refine sx_RP.step (pc2 := 15) (ls2 := [(3, .int 0), (2, .int (nI 0)), (0, .int (nI 0)), (1, .int x)]) (st2 := []) (w3 := w) rfl rfl ?_
    refine sx_RP.step (pc2 := 16) (ls2 := [(3, .int 0), (2, .int (nI 0)), (0, .int (nI 0)), (1, .int x)]) (st2 := [.int (nI 0)]) (w3 := w) rfl rfl ?_
    refine sx_RP.step (pc2 := 17) (ls2 := [(3, .int 0), (2, .int (nI 0)), (0, .int (nI 0)), (1, .int x)]) (st2 := [.int x, .int (nI 0)]) (w3 := w) rfl rfl ?_
    refine sx_RP.br (p1 := 22) (l1 := [(3, .int 0), (2, .int (nI 0)), (0, .int (nI 0)), (1, .int x)]) (s1 := []) (v1 := w) (p2 := 20) (l2 := [(3, .int 0), (2, .int (nI 0)), (0, .int (nI 0)), (1, .int x)]) (s2 := []) (v2 := w) rfl rfl (fun q1 => ?_) (fun q1 => ?_)
    · replace q1 := of_decide_eq_true q1
      refine sx_RP.step (pc2 := 25) (ls2 := [(3, .int 0), (2, .int (nI 0)), (0, .int (nI 0)), (1, .int x)]) (st2 := [.float 1]) (w3 := w) rfl rfl ?_
      refine sx_RP.step (pc2 := 26) (ls2 := [(3, .int 0), (2, .int (nI 0)), (0, .int (nI 0)), (1, .int x)]) (st2 := [.int (nI 0), .float 1]) (w3 := w) rfl rfl ?_
      refine sx_RP.step (pc2 := 27) (ls2 := [(3, .int 0), (2, .int (nI 0)), (0, .int (nI 0)), (1, .int x)]) (st2 := [.int (-1)]) (w3 := w) rfl rfl ?_
      refine sx_RP.step (pc2 := 28) (ls2 := [(2, .int (-1)), (3, .int 0), (0, .int (nI 0)), (1, .int x)]) (st2 := []) (w3 := w) rfl rfl ?_
      refine sx_RP.step (pc2 := 31) (ls2 := [(3, .int 1), (2, .int (-1)), (0, .int (nI 0)), (1, .int x)]) (st2 := []) (w3 := w) rfl rfl ?_
      refine sx_RP.step (pc2 := 4) (ls2 := [(3, .int 1), (2, .int (-1)), (0, .int (nI 0)), (1, .int x)]) (st2 := []) (w3 := w) rfl rfl ?_
      refine sx_RP.step (pc2 := 5) (ls2 := [(3, .int 1), (2, .int (-1)), (0, .int (nI 0)), (1, .int x)]) (st2 := [.int 1]) (w3 := w) rfl rfl ?_
      refine sx_RP.step (pc2 := 7) (ls2 := [(3, .int 1), (2, .int (-1)), (0, .int (nI 0)), (1, .int x)]) (st2 := [.int 6, .int 1]) (w3 := w) rfl rfl ?_
      refine sx_RP.step (pc2 := 10) (ls2 := [(3, .int 1), (2, .int (-1)), (0, .int (nI 0)), (1, .int x)]) (st2 := []) (w3 := w) rfl rfl ?_
      refine sx_RP.step (pc2 := 11) (ls2 := [(3, .int 1), (2, .int (-1)), (0, .int (nI 0)), (1, .int x)]) (st2 := [.int (-1)]) (w3 := w) rfl rfl ?_
      refine sx_RP.step (pc2 := 12) (ls2 := [(3, .int 1), (2, .int (-1)), (0, .int (nI 0)), (1, .int x)]) (st2 := [.int (-1), .int (-1)]) (w3 := w) rfl rfl ?_
      refine sx_RP.step (pc2 := 34) (ls2 := [(3, .int 1), (2, .int (-1)), (0, .int (nI 0)), (1, .int x)]) (st2 := []) (w3 := w) rfl rfl ?_
      refine sx_RP.step (pc2 := 35) (ls2 := [(3, .int 1), (2, .int (-1)), (0, .int (nI 0)), (1, .int x)]) (st2 := [.int 0]) (w3 := w) rfl rfl ?_
      refine sx_RP.ret (r := (some (.int 0))) rfl rfl ?_
      exact ⟨⟨0, by decide, rfl⟩, rfl⟩
    · replace q1 := Decidable.not_not.mp (of_decide_eq_false q1)
      refine sx_RP.step (pc2 := 21) (ls2 := [(3, .int 0), (2, .int (nI 0)), (0, .int (nI 0)), (1, .int x)]) (st2 := [.int 1]) (w3 := w) rfl rfl ?_
      refine sx_RP.ret (r := (some (.int 1))) rfl rfl ?_
      exact ⟨⟨1, by decide, rfl⟩, rfl⟩
  obtain ⟨r, w2, h1, ⟨j, hj, rfl⟩, rfl⟩ := h
  exact ⟨j, hj, h1⟩
set_option maxRecDepth 20000 in
set_option maxHeartbeats 4000000 in
theorem p31_1 {xs : Option (List Int32)} {d : Nat} {w : List sx_C} (hI : WI w) (x : Int32) : ∃ j, j ≤ 1 ∧ sx_RU xs d 31 0 (lv_args 0 [.int (nI 1), .int x]) [] w (some (.int (nI j))) w := by
  have h : sx_RP xs d 31 0 (lv_args 0 [.int (nI 1), .int x]) [] w (fun r w2 => (∃ j, j ≤ 1 ∧ r = some (.int (nI j))) ∧ w2 = w) := by
    refine sx_RP.step (pc2 := 1) (ls2 := [(0, .int (nI 1)), (1, .int x)]) (st2 := [.int (nI 1)]) (w3 := w) rfl rfl ?_
    refine sx_RP.step (pc2 := 2) (ls2 := [(2, .int (nI 1)), (0, .int (nI 1)), (1, .int x)]) (st2 := []) (w3 := w) rfl rfl ?_
    refine sx_RP.step (pc2 := 3) (ls2 := [(2, .int (nI 1)), (0, .int (nI 1)), (1, .int x)]) (st2 := [.int 0]) (w3 := w) rfl rfl ?_
    refine sx_RP.step (pc2 := 4) (ls2 := [(3, .int 0), (2, .int (nI 1)), (0, .int (nI 1)), (1, .int x)]) (st2 := []) (w3 := w) rfl rfl ?_
    refine sx_RP.step (pc2 := 5) (ls2 := [(3, .int 0), (2, .int (nI 1)), (0, .int (nI 1)), (1, .int x)]) (st2 := [.int 0]) (w3 := w) rfl rfl ?_
    refine sx_RP.step (pc2 := 7) (ls2 := [(3, .int 0), (2, .int (nI 1)), (0, .int (nI 1)), (1, .int x)]) (st2 := [.int 6, .int 0]) (w3 := w) rfl rfl ?_
    refine sx_RP.step (pc2 := 10) (ls2 := [(3, .int 0), (2, .int (nI 1)), (0, .int (nI 1)), (1, .int x)]) (st2 := []) (w3 := w) rfl rfl ?_
    refine sx_RP.step (pc2 := 11) (ls2 := [(3, .int 0), (2, .int (nI 1)), (0, .int (nI 1)), (1, .int x)]) (st2 := [.int (nI 1)]) (w3 := w) rfl rfl ?_
    refine sx_RP.step (pc2 := 12) (ls2 := [(3, .int 0), (2, .int (nI 1)), (0, .int (nI 1)), (1, .int x)]) (st2 := [.int (-1), .int (nI 1)]) (w3 := w) rfl rfl ?_
    refine sx_RP.step (pc2 := 15) (ls2 := [(3, .int 0), (2, .int (nI 1)), (0, .int (nI 1)), (1, .int x)]) (st2 := []) (w3 := w) rfl rfl ?_
    refine sx_RP.step (pc2 := 16) (ls2 := [(3, .int 0), (2, .int (nI 1)), (0, .int (nI 1)), (1, .int x)]) (st2 := [.int (nI 1)]) (w3 := w) rfl rfl ?_
    refine sx_RP.step (pc2 := 17) (ls2 := [(3, .int 0), (2, .int (nI 1)), (0, .int (nI 1)), (1, .int x)]) (st2 := [.int x, .int (nI 1)]) (w3 := w) rfl rfl ?_
    refine sx_RP.br (p1 := 22) (l1 := [(3, .int 0), (2, .int (nI 1)), (0, .int (nI 1)), (1, .int x)]) (s1 := []) (v1 := w) (p2 := 20) (l2 := [(3, .int 0), (2, .int (nI 1)), (0, .int (nI 1)), (1, .int x)]) (s2 := []) (v2 := w) rfl rfl (fun q1 => ?_) (fun q1 => ?_)
    · replace q1 := of_decide_eq_true q1
      refine sx_RP.step (pc2 := 25) (ls2 := [(3, .int 0), (2, .int (nI 1)), (0, .int (nI 1)), (1, .int x)]) (st2 := [.float 1]) (w3 := w) rfl rfl ?_
      refine sx_RP.step (pc2 := 26) (ls2 := [(3, .int 0), (2, .int (nI 1)), (0, .int (nI 1)), (1, .int x)]) (st2 := [.int (nI 1), .float 1]) (w3 := w) rfl rfl ?_
      refine sx_RP.step (pc2 := 27) (ls2 := [(3, .int 0), (2, .int (nI 1)), (0, .int (nI 1)), (1, .int x)]) (st2 := [.int 0]) (w3 := w) rfl rfl ?_
      refine sx_RP.step (pc2 := 28) (ls2 := [(2, .int 0), (3, .int 0), (0, .int (nI 1)), (1, .int x)]) (st2 := []) (w3 := w) rfl rfl ?_
      refine sx_RP.step (pc2 := 31) (ls2 := [(3, .int 1), (2, .int 0), (0, .int (nI 1)), (1, .int x)]) (st2 := []) (w3 := w) rfl rfl ?_
      refine sx_RP.step (pc2 := 4) (ls2 := [(3, .int 1), (2, .int 0), (0, .int (nI 1)), (1, .int x)]) (st2 := []) (w3 := w) rfl rfl ?_
      refine sx_RP.step (pc2 := 5) (ls2 := [(3, .int 1), (2, .int 0), (0, .int (nI 1)), (1, .int x)]) (st2 := [.int 1]) (w3 := w) rfl rfl ?_
      refine sx_RP.step (pc2 := 7) (ls2 := [(3, .int 1), (2, .int 0), (0, .int (nI 1)), (1, .int x)]) (st2 := [.int 6, .int 1]) (w3 := w) rfl rfl ?_
      refine sx_RP.step (pc2 := 10) (ls2 := [(3, .int 1), (2, .int 0), (0, .int (nI 1)), (1, .int x)]) (st2 := []) (w3 := w) rfl rfl ?_
      refine sx_RP.step (pc2 := 11) (ls2 := [(3, .int 1), (2, .int 0), (0, .int (nI 1)), (1, .int x)]) (st2 := [.int 0]) (w3 := w) rfl rfl ?_
      refine sx_RP.step (pc2 := 12) (ls2 := [(3, .int 1), (2, .int 0), (0, .int (nI 1)), (1, .int x)]) (st2 := [.int (-1), .int 0]) (w3 := w) rfl rfl ?_
      refine sx_RP.step (pc2 := 15) (ls2 := [(3, .int 1), (2, .int 0), (0, .int (nI 1)), (1, .int x)]) (st2 := []) (w3 := w) rfl rfl ?_
      refine sx_RP.step (pc2 := 16) (ls2 := [(3, .int 1), (2, .int 0), (0, .int (nI 1)), (1, .int x)]) (st2 := [.int 0]) (w3 := w) rfl rfl ?_
      refine sx_RP.step (pc2 := 17) (ls2 := [(3, .int 1), (2, .int 0), (0, .int (nI 1)), (1, .int x)]) (st2 := [.int x, .int 0]) (w3 := w) rfl rfl ?_
      refine sx_RP.br (p1 := 22) (l1 := [(3, .int 1), (2, .int 0), (0, .int (nI 1)), (1, .int x)]) (s1 := []) (v1 := w) (p2 := 20) (l2 := [(3, .int 1), (2, .int 0), (0, .int (nI 1)), (1, .int x)]) (s2 := []) (v2 := w) rfl rfl (fun q2 => ?_) (fun q2 => ?_)
      · replace q2 := of_decide_eq_true q2
        refine sx_RP.step (pc2 := 25) (ls2 := [(3, .int 1), (2, .int 0), (0, .int (nI 1)), (1, .int x)]) (st2 := [.float 1]) (w3 := w) rfl rfl ?_
        refine sx_RP.step (pc2 := 26) (ls2 := [(3, .int 1), (2, .int 0), (0, .int (nI 1)), (1, .int x)]) (st2 := [.int 0, .float 1]) (w3 := w) rfl rfl ?_
        refine sx_RP.step (pc2 := 27) (ls2 := [(3, .int 1), (2, .int 0), (0, .int (nI 1)), (1, .int x)]) (st2 := [.int (-1)]) (w3 := w) rfl rfl ?_
        refine sx_RP.step (pc2 := 28) (ls2 := [(2, .int (-1)), (3, .int 1), (0, .int (nI 1)), (1, .int x)]) (st2 := []) (w3 := w) rfl rfl ?_
        refine sx_RP.step (pc2 := 31) (ls2 := [(3, .int 2), (2, .int (-1)), (0, .int (nI 1)), (1, .int x)]) (st2 := []) (w3 := w) rfl rfl ?_
        refine sx_RP.step (pc2 := 4) (ls2 := [(3, .int 2), (2, .int (-1)), (0, .int (nI 1)), (1, .int x)]) (st2 := []) (w3 := w) rfl rfl ?_
        refine sx_RP.step (pc2 := 5) (ls2 := [(3, .int 2), (2, .int (-1)), (0, .int (nI 1)), (1, .int x)]) (st2 := [.int 2]) (w3 := w) rfl rfl ?_
        refine sx_RP.step (pc2 := 7) (ls2 := [(3, .int 2), (2, .int (-1)), (0, .int (nI 1)), (1, .int x)]) (st2 := [.int 6, .int 2]) (w3 := w) rfl rfl ?_
        refine sx_RP.step (pc2 := 10) (ls2 := [(3, .int 2), (2, .int (-1)), (0, .int (nI 1)), (1, .int x)]) (st2 := []) (w3 := w) rfl rfl ?_
        refine sx_RP.step (pc2 := 11) (ls2 := [(3, .int 2), (2, .int (-1)), (0, .int (nI 1)), (1, .int x)]) (st2 := [.int (-1)]) (w3 := w) rfl rfl ?_
        refine sx_RP.step (pc2 := 12) (ls2 := [(3, .int 2), (2, .int (-1)), (0, .int (nI 1)), (1, .int x)]) (st2 := [.int (-1), .int (-1)]) (w3 := w) rfl rfl ?_
        refine sx_RP.step (pc2 := 34) (ls2 := [(3, .int 2), (2, .int (-1)), (0, .int (nI 1)), (1, .int x)]) (st2 := []) (w3 := w) rfl rfl ?_
        refine sx_RP.step (pc2 := 35) (ls2 := [(3, .int 2), (2, .int (-1)), (0, .int (nI 1)), (1, .int x)]) (st2 := [.int 0]) (w3 := w) rfl rfl ?_
        refine sx_RP.ret (r := (some (.int 0))) rfl rfl ?_
        exact ⟨⟨0, by decide, rfl⟩, rfl⟩
      · replace q2 := Decidable.not_not.mp (of_decide_eq_false q2)
        refine sx_RP.step (pc2 := 21) (ls2 := [(3, .int 1), (2, .int 0), (0, .int (nI 1)), (1, .int x)]) (st2 := [.int 1]) (w3 := w) rfl rfl ?_
        refine sx_RP.ret (r := (some (.int 1))) rfl rfl ?_
        exact ⟨⟨1, by decide, rfl⟩, rfl⟩
    · replace q1 := Decidable.not_not.mp (of_decide_eq_false q1)
      refine sx_RP.step (pc2 := 21) (ls2 := [(3, .int 0), (2, .int (nI 1)), (0, .int (nI 1)), (1, .int x)]) (st2 := [.int 1]) (w3 := w) rfl rfl ?_
      refine sx_RP.ret (r := (some (.int 1))) rfl rfl ?_
      exact ⟨⟨1, by decide, rfl⟩, rfl⟩
  obtain ⟨r, w2, h1, ⟨j, hj, rfl⟩, rfl⟩ := h
  exact ⟨j, hj, h1⟩
set_option maxRecDepth 20000 in
set_option maxHeartbeats 4000000 in
theorem p31_2 {xs : Option (List Int32)} {d : Nat} {w : List sx_C} (hI : WI w) (x : Int32) : ∃ j, j ≤ 1 ∧ sx_RU xs d 31 0 (lv_args 0 [.int (nI 2), .int x]) [] w (some (.int (nI j))) w := by
  have h : sx_RP xs d 31 0 (lv_args 0 [.int (nI 2), .int x]) [] w (fun r w2 => (∃ j, j ≤ 1 ∧ r = some (.int (nI j))) ∧ w2 = w) := by
    refine sx_RP.step (pc2 := 1) (ls2 := [(0, .int (nI 2)), (1, .int x)]) (st2 := [.int (nI 2)]) (w3 := w) rfl rfl ?_
    refine sx_RP.step (pc2 := 2) (ls2 := [(2, .int (nI 2)), (0, .int (nI 2)), (1, .int x)]) (st2 := []) (w3 := w) rfl rfl ?_
    refine sx_RP.step (pc2 := 3) (ls2 := [(2, .int (nI 2)), (0, .int (nI 2)), (1, .int x)]) (st2 := [.int 0]) (w3 := w) rfl rfl ?_
    refine sx_RP.step (pc2 := 4) (ls2 := [(3, .int 0), (2, .int (nI 2)), (0, .int (nI 2)), (1, .int x)]) (st2 := []) (w3 := w) rfl rfl ?_
    refine sx_RP.step (pc2 := 5) (ls2 := [(3, .int 0), (2, .int (nI 2)), (0, .int (nI 2)), (1, .int x)]) (st2 := [.int 0]) (w3 := w) rfl rfl ?_
    refine sx_RP.step (pc2 := 7) (ls2 := [(3, .int 0), (2, .int (nI 2)), (0, .int (nI 2)), (1, .int x)]) (st2 := [.int 6, .int 0]) (w3 := w) rfl rfl ?_
    refine sx_RP.step (pc2 := 10) (ls2 := [(3, .int 0), (2, .int (nI 2)), (0, .int (nI 2)), (1, .int x)]) (st2 := []) (w3 := w) rfl rfl ?_
    refine sx_RP.step (pc2 := 11) (ls2 := [(3, .int 0), (2, .int (nI 2)), (0, .int (nI 2)), (1, .int x)]) (st2 := [.int (nI 2)]) (w3 := w) rfl rfl ?_
    refine sx_RP.step (pc2 := 12) (ls2 := [(3, .int 0), (2, .int (nI 2)), (0, .int (nI 2)), (1, .int x)]) (st2 := [.int (-1), .int (nI 2)]) (w3 := w) rfl rfl ?_
    refine sx_RP.step (pc2 := 15) (ls2 := [(3, .int 0), (2, .int (nI 2)), (0, .int (nI 2)), (1, .int x)]) (st2 := []) (w3 := w) rfl rfl ?_
    refine sx_RP.step (pc2 := 16) (ls2 := [(3, .int 0), (2, .int (nI 2)), (0, .int (nI 2)), (1, .int x)]) (st2 := [.int (nI 2)]) (w3 := w) rfl rfl ?_
    refine sx_RP.step (pc2 := 17) (ls2 := [(3, .int 0), (2, .int (nI 2)), (0, .int (nI 2)), (1, .int x)]) (st2 := [.int x, .int (nI 2)]) (w3 := w) rfl rfl ?_
    refine sx_RP.br (p1 := 22) (l1 := [(3, .int 0), (2, .int (nI 2)), (0, .int (nI 2)), (1, .int x)]) (s1 := []) (v1 := w) (p2 := 20) (l2 := [(3, .int 0), (2, .int (nI 2)), (0, .int (nI 2)), (1, .int x)]) (s2 := []) (v2 := w) rfl rfl (fun q1 => ?_) (fun q1 => ?_)
    · replace q1 := of_decide_eq_true q1
      refine sx_RP.step (pc2 := 25) (ls2 := [(3, .int 0), (2, .int (nI 2)), (0, .int (nI 2)), (1, .int x)]) (st2 := [.float 1]) (w3 := w) rfl rfl ?_
      refine sx_RP.step (pc2 := 26) (ls2 := [(3, .int 0), (2, .int (nI 2)), (0, .int (nI 2)), (1, .int x)]) (st2 := [.int (nI 2), .float 1]) (w3 := w) rfl rfl ?_
      refine sx_RP.step (pc2 := 27) (ls2 := [(3, .int 0), (2, .int (nI 2)), (0, .int (nI 2)), (1, .int x)]) (st2 := [.int 0]) (w3 := w) rfl rfl ?_
      refine sx_RP.step (pc2 := 28) (ls2 := [(2, .int 0), (3, .int 0), (0, .int (nI 2)), (1, .int x)]) (st2 := []) (w3 := w) rfl rfl ?_
      refine sx_RP.step (pc2 := 31) (ls2 := [(3, .int 1), (2, .int 0), (0, .int (nI 2)), (1, .int x)]) (st2 := []) (w3 := w) rfl rfl ?_
      refine sx_RP.step (pc2 := 4) (ls2 := [(3, .int 1), (2, .int 0), (0, .int (nI 2)), (1, .int x)]) (st2 := []) (w3 := w) rfl rfl ?_
      refine sx_RP.step (pc2 := 5) (ls2 := [(3, .int 1), (2, .int 0), (0, .int (nI 2)), (1, .int x)]) (st2 := [.int 1]) (w3 := w) rfl rfl ?_
      refine sx_RP.step (pc2 := 7) (ls2 := [(3, .int 1), (2, .int 0), (0, .int (nI 2)), (1, .int x)]) (st2 := [.int 6, .int 1]) (w3 := w) rfl rfl ?_
      refine sx_RP.step (pc2 := 10) (ls2 := [(3, .int 1), (2, .int 0), (0, .int (nI 2)), (1, .int x)]) (st2 := []) (w3 := w) rfl rfl ?_
      refine sx_RP.step (pc2 := 11) (ls2 := [(3, .int 1), (2, .int 0), (0, .int (nI 2)), (1, .int x)]) (st2 := [.int 0]) (w3 := w) rfl rfl ?_
      refine sx_RP.step (pc2 := 12) (ls2 := [(3, .int 1), (2, .int 0), (0, .int (nI 2)), (1, .int x)]) (st2 := [.int (-1), .int 0]) (w3 := w) rfl rfl ?_
      refine sx_RP.step (pc2 := 15) (ls2 := [(3, .int 1), (2, .int 0), (0, .int (nI 2)), (1, .int x)]) (st2 := []) (w3 := w) rfl rfl ?_
      refine sx_RP.step (pc2 := 16) (ls2 := [(3, .int 1), (2, .int 0), (0, .int (nI 2)), (1, .int x)]) (st2 := [.int 0]) (w3 := w) rfl rfl ?_
      refine sx_RP.step (pc2 := 17) (ls2 := [(3, .int 1), (2, .int 0), (0, .int (nI 2)), (1, .int x)]) (st2 := [.int x, .int 0]) (w3 := w) rfl rfl ?_
      refine sx_RP.br (p1 := 22) (l1 := [(3, .int 1), (2, .int 0), (0, .int (nI 2)), (1, .int x)]) (s1 := []) (v1 := w) (p2 := 20) (l2 := [(3, .int 1), (2, .int 0), (0, .int (nI 2)), (1, .int x)]) (s2 := []) (v2 := w) rfl rfl (fun q2 => ?_) (fun q2 => ?_)
      · replace q2 := of_decide_eq_true q2
        refine sx_RP.step (pc2 := 25) (ls2 := [(3, .int 1), (2, .int 0), (0, .int (nI 2)), (1, .int x)]) (st2 := [.float 1]) (w3 := w) rfl rfl ?_
        refine sx_RP.step (pc2 := 26) (ls2 := [(3, .int 1), (2, .int 0), (0, .int (nI 2)), (1, .int x)]) (st2 := [.int 0, .float 1]) (w3 := w) rfl rfl ?_
        refine sx_RP.step (pc2 := 27) (ls2 := [(3, .int 1), (2, .int 0), (0, .int (nI 2)), (1, .int x)]) (st2 := [.int (-1)]) (w3 := w) rfl rfl ?_
        refine sx_RP.step (pc2 := 28) (ls2 := [(2, .int (-1)), (3, .int 1), (0, .int (nI 2)), (1, .int x)]) (st2 := []) (w3 := w) rfl rfl ?_
        refine sx_RP.step (pc2 := 31) (ls2 := [(3, .int 2), (2, .int (-1)), (0, .int (nI 2)), (1, .int x)]) (st2 := []) (w3 := w) rfl rfl ?_
        refine sx_RP.step (pc2 := 4) (ls2 := [(3, .int 2), (2, .int (-1)), (0, .int (nI 2)), (1, .int x)]) (st2 := []) (w3 := w) rfl rfl ?_
        refine sx_RP.step (pc2 := 5) (ls2 := [(3, .int 2), (2, .int (-1)), (0, .int (nI 2)), (1, .int x)]) (st2 := [.int 2]) (w3 := w) rfl rfl ?_
        refine sx_RP.step (pc2 := 7) (ls2 := [(3, .int 2), (2, .int (-1)), (0, .int (nI 2)), (1, .int x)]) (st2 := [.int 6, .int 2]) (w3 := w) rfl rfl ?_
        refine sx_RP.step (pc2 := 10) (ls2 := [(3, .int 2), (2, .int (-1)), (0, .int (nI 2)), (1, .int x)]) (st2 := []) (w3 := w) rfl rfl ?_
        refine sx_RP.step (pc2 := 11) (ls2 := [(3, .int 2), (2, .int (-1)), (0, .int (nI 2)), (1, .int x)]) (st2 := [.int (-1)]) (w3 := w) rfl rfl ?_
        refine sx_RP.step (pc2 := 12) (ls2 := [(3, .int 2), (2, .int (-1)), (0, .int (nI 2)), (1, .int x)]) (st2 := [.int (-1), .int (-1)]) (w3 := w) rfl rfl ?_
        refine sx_RP.step (pc2 := 34) (ls2 := [(3, .int 2), (2, .int (-1)), (0, .int (nI 2)), (1, .int x)]) (st2 := []) (w3 := w) rfl rfl ?_
        refine sx_RP.step (pc2 := 35) (ls2 := [(3, .int 2), (2, .int (-1)), (0, .int (nI 2)), (1, .int x)]) (st2 := [.int 0]) (w3 := w) rfl rfl ?_
        refine sx_RP.ret (r := (some (.int 0))) rfl rfl ?_
        exact ⟨⟨0, by decide, rfl⟩, rfl⟩
      · replace q2 := Decidable.not_not.mp (of_decide_eq_false q2)
        refine sx_RP.step (pc2 := 21) (ls2 := [(3, .int 1), (2, .int 0), (0, .int (nI 2)), (1, .int x)]) (st2 := [.int 1]) (w3 := w) rfl rfl ?_
        refine sx_RP.ret (r := (some (.int 1))) rfl rfl ?_
        exact ⟨⟨1, by decide, rfl⟩, rfl⟩
    · replace q1 := Decidable.not_not.mp (of_decide_eq_false q1)
      refine sx_RP.step (pc2 := 21) (ls2 := [(3, .int 0), (2, .int (nI 2)), (0, .int (nI 2)), (1, .int x)]) (st2 := [.int 1]) (w3 := w) rfl rfl ?_
      refine sx_RP.ret (r := (some (.int 1))) rfl rfl ?_
      exact ⟨⟨1, by decide, rfl⟩, rfl⟩
  obtain ⟨r, w2, h1, ⟨j, hj, rfl⟩, rfl⟩ := h
  exact ⟨j, hj, h1⟩
set_option maxRecDepth 20000 in
set_option maxHeartbeats 4000000 in
theorem p31_3 {xs : Option (List Int32)} {d : Nat} {w : List sx_C} (hI : WI w) (x : Int32) : ∃ j, j ≤ 1 ∧ sx_RU xs d 31 0 (lv_args 0 [.int (nI 3), .int x]) [] w (some (.int (nI j))) w := by
  have h : sx_RP xs d 31 0 (lv_args 0 [.int (nI 3), .int x]) [] w (fun r w2 => (∃ j, j ≤ 1 ∧ r = some (.int (nI j))) ∧ w2 = w) := by
    refine sx_RP.step (pc2 := 1) (ls2 := [(0, .int (nI 3)), (1, .int x)]) (st2 := [.int (nI 3)]) (w3 := w) rfl rfl ?_
    refine sx_RP.step (pc2 := 2) (ls2 := [(2, .int (nI 3)), (0, .int (nI 3)), (1, .int x)]) (st2 := []) (w3 := w) rfl rfl ?_
    refine sx_RP.step (pc2 := 3) (ls2 := [(2, .int (nI 3)), (0, .int (nI 3)), (1, .int x)]) (st2 := [.int 0]) (w3 := w) rfl rfl ?_
    refine sx_RP.step (pc2 := 4) (ls2 := [(3, .int 0), (2, .int (nI 3)), (0, .int (nI 3)), (1, .int x)]) (st2 := []) (w3 := w) rfl rfl ?_
    refine sx_RP.step (pc2 := 5) (ls2 := [(3, .int 0), (2, .int (nI 3)), (0, .int (nI 3)), (1, .int x)]) (st2 := [.int 0]) (w3 := w) rfl rfl ?_
    refine sx_RP.step (pc2 := 7) (ls2 := [(3, .int 0), (2, .int (nI 3)), (0, .int (nI 3)), (1, .int x)]) (st2 := [.int 6, .int 0]) (w3 := w) rfl rfl ?_
    refine sx_RP.step (pc2 := 10) (ls2 := [(3, .int 0), (2, .int (nI 3)), (0, .int (nI 3)), (1, .int x)]) (st2 := []) (w3 := w) rfl rfl ?_
    refine sx_RP.step (pc2 := 11) (ls2 := [(3, .int 0), (2, .int (nI 3)), (0, .int (nI 3)), (1, .int x)]) (st2 := [.int (nI 3)]) (w3 := w) rfl rfl ?_
    refine sx_RP.step (pc2 := 12) (ls2 := [(3, .int 0), (2, .int (nI 3)), (0, .int (nI 3)), (1, .int x)]) (st2 := [.int (-1), .int (nI 3)]) (w3 := w) rfl rfl ?_
    refine sx_RP.step (pc2 := 15) (ls2 := [(3, .int 0), (2, .int (nI 3)), (0, .int (nI 3)), (1, .int x)]) (st2 := []) (w3 := w) rfl rfl ?_
    refine sx_RP.step (pc2 := 16) (ls2 := [(3, .int 0), (2, .int (nI 3)), (0, .int (nI 3)), (1, .int x)]) (st2 := [.int (nI 3)]) (w3 := w) rfl rfl ?_
    refine sx_RP.step (pc2 := 17) (ls2 := [(3, .int 0), (2, .int (nI 3)), (0, .int (nI 3)), (1, .int x)]) (st2 := [.int x, .int (nI 3)]) (w3 := w) rfl rfl ?_
    refine sx_RP.br (p1 := 22) (l1 := [(3, .int 0), (2, .int (nI 3)), (0, .int (nI 3)), (1, .int x)]) (s1 := []) (v1 := w) (p2 := 20) (l2 := [(3, .int 0), (2, .int (nI 3)), (0, .int (nI 3)), (1, .int x)]) (s2 := []) (v2 := w) rfl rfl (fun q1 => ?_) (fun q1 => ?_)
    · replace q1 := of_decide_eq_true q1
      refine sx_RP.step (pc2 := 25) (ls2 := [(3, .int 0), (2, .int (nI 3)), (0, .int (nI 3)), (1, .int x)]) (st2 := [.float 1]) (w3 := w) rfl rfl ?_
      refine sx_RP.step (pc2 := 26) (ls2 := [(3, .int 0), (2, .int (nI 3)), (0, .int (nI 3)), (1, .int x)]) (st2 := [.int (nI 3), .float 1]) (w3 := w) rfl rfl ?_
      refine sx_RP.step (pc2 := 27) (ls2 := [(3, .int 0), (2, .int (nI 3)), (0, .int (nI 3)), (1, .int x)]) (st2 := [.int 1]) (w3 := w) rfl rfl ?_
      refine sx_RP.step (pc2 := 28) (ls2 := [(2, .int 1), (3, .int 0), (0, .int (nI 3)), (1, .int x)]) (st2 := []) (w3 := w) rfl rfl ?_
      refine sx_RP.step (pc2 := 31) (ls2 := [(3, .int 1), (2, .int 1), (0, .int (nI 3)), (1, .int x)]) (st2 := []) (w3 := w) rfl rfl ?_
      refine sx_RP.step (pc2 := 4) (ls2 := [(3, .int 1), (2, .int 1), (0, .int (nI 3)), (1, .int x)]) (st2 := []) (w3 := w) rfl rfl ?_
      refine sx_RP.step (pc2 := 5) (ls2 := [(3, .int 1), (2, .int 1), (0, .int (nI 3)), (1, .int x)]) (st2 := [.int 1]) (w3 := w) rfl rfl ?_
      refine sx_RP.step (pc2 := 7) (ls2 := [(3, .int 1), (2, .int 1), (0, .int (nI 3)), (1, .int x)]) (st2 := [.int 6, .int 1]) (w3 := w) rfl rfl ?_
      refine sx_RP.step (pc2 := 10) (ls2 := [(3, .int 1), (2, .int 1), (0, .int (nI 3)), (1, .int x)]) (st2 := []) (w3 := w) rfl rfl ?_
      refine sx_RP.step (pc2 := 11) (ls2 := [(3, .int 1), (2, .int 1), (0, .int (nI 3)), (1, .int x)]) (st2 := [.int 1]) (w3 := w) rfl rfl ?_
      refine sx_RP.step (pc2 := 12) (ls2 := [(3, .int 1), (2, .int 1), (0, .int (nI 3)), (1, .int x)]) (st2 := [.int (-1), .int 1]) (w3 := w) rfl rfl ?_
      refine sx_RP.step (pc2 := 15) (ls2 := [(3, .int 1), (2, .int 1), (0, .int (nI 3)), (1, .int x)]) (st2 := []) (w3 := w) rfl rfl ?_
      refine sx_RP.step (pc2 := 16) (ls2 := [(3, .int 1), (2, .int 1), (0, .int (nI 3)), (1, .int x)]) (st2 := [.int 1]) (w3 := w) rfl rfl ?_
      refine sx_RP.step (pc2 := 17) (ls2 := [(3, .int 1), (2, .int 1), (0, .int (nI 3)), (1, .int x)]) (st2 := [.int x, .int 1]) (w3 := w) rfl rfl ?_
      refine sx_RP.br (p1 := 22) (l1 := [(3, .int 1), (2, .int 1), (0, .int (nI 3)), (1, .int x)]) (s1 := []) (v1 := w) (p2 := 20) (l2 := [(3, .int 1), (2, .int 1), (0, .int (nI 3)), (1, .int x)]) (s2 := []) (v2 := w) rfl rfl (fun q2 => ?_) (fun q2 => ?_)
      · replace q2 := of_decide_eq_true q2
        refine sx_RP.step (pc2 := 25) (ls2 := [(3, .int 1), (2, .int 1), (0, .int (nI 3)), (1, .int x)]) (st2 := [.float 1]) (w3 := w) rfl rfl ?_
        refine sx_RP.step (pc2 := 26) (ls2 := [(3, .int 1), (2, .int 1), (0, .int (nI 3)), (1, .int x)]) (st2 := [.int 1, .float 1]) (w3 := w) rfl rfl ?_
        refine sx_RP.step (pc2 := 27) (ls2 := [(3, .int 1), (2, .int 1), (0, .int (nI 3)), (1, .int x)]) (st2 := [.int 0]) (w3 := w) rfl rfl ?_
        refine sx_RP.step (pc2 := 28) (ls2 := [(2, .int 0), (3, .int 1), (0, .int (nI 3)), (1, .int x)]) (st2 := []) (w3 := w) rfl rfl ?_
        refine sx_RP.step (pc2 := 31) (ls2 := [(3, .int 2), (2, .int 0), (0, .int (nI 3)), (1, .int x)]) (st2 := []) (w3 := w) rfl rfl ?_
        refine sx_RP.step (pc2 := 4) (ls2 := [(3, .int 2), (2, .int 0), (0, .int (nI 3)), (1, .int x)]) (st2 := []) (w3 := w) rfl rfl ?_
        refine sx_RP.step (pc2 := 5) (ls2 := [(3, .int 2), (2, .int 0), (0, .int (nI 3)), (1, .int x)]) (st2 := [.int 2]) (w3 := w) rfl rfl ?_
        refine sx_RP.step (pc2 := 7) (ls2 := [(3, .int 2), (2, .int 0), (0, .int (nI 3)), (1, .int x)]) (st2 := [.int 6, .int 2]) (w3 := w) rfl rfl ?_
        refine sx_RP.step (pc2 := 10) (ls2 := [(3, .int 2), (2, .int 0), (0, .int (nI 3)), (1, .int x)]) (st2 := []) (w3 := w) rfl rfl ?_
        refine sx_RP.step (pc2 := 11) (ls2 := [(3, .int 2), (2, .int 0), (0, .int (nI 3)), (1, .int x)]) (st2 := [.int 0]) (w3 := w) rfl rfl ?_
        refine sx_RP.step (pc2 := 12) (ls2 := [(3, .int 2), (2, .int 0), (0, .int (nI 3)), (1, .int x)]) (st2 := [.int (-1), .int 0]) (w3 := w) rfl rfl ?_
        refine sx_RP.step (pc2 := 15) (ls2 := [(3, .int 2), (2, .int 0), (0, .int (nI 3)), (1, .int x)]) (st2 := []) (w3 := w) rfl rfl ?_
        refine sx_RP.step (pc2 := 16) (ls2 := [(3, .int 2), (2, .int 0), (0, .int (nI 3)), (1, .int x)]) (st2 := [.int 0]) (w3 := w) rfl rfl ?_
        refine sx_RP.step (pc2 := 17) (ls2 := [(3, .int 2), (2, .int 0), (0, .int (nI 3)), (1, .int x)]) (st2 := [.int x, .int 0]) (w3 := w) rfl rfl ?_
        refine sx_RP.br (p1 := 22) (l1 := [(3, .int 2), (2, .int 0), (0, .int (nI 3)), (1, .int x)]) (s1 := []) (v1 := w) (p2 := 20) (l2 := [(3, .int 2), (2, .int 0), (0, .int (nI 3)), (1, .int x)]) (s2 := []) (v2 := w) rfl rfl (fun q3 => ?_) (fun q3 => ?_)
        · replace q3 := of_decide_eq_true q3
          refine sx_RP.step (pc2 := 25) (ls2 := [(3, .int 2), (2, .int 0), (0, .int (nI 3)), (1, .int x)]) (st2 := [.float 1]) (w3 := w) rfl rfl ?_
          refine sx_RP.step (pc2 := 26) (ls2 := [(3, .int 2), (2, .int 0), (0, .int (nI 3)), (1, .int x)]) (st2 := [.int 0, .float 1]) (w3 := w) rfl rfl ?_
          refine sx_RP.step (pc2 := 27) (ls2 := [(3, .int 2), (2, .int 0), (0, .int (nI 3)), (1, .int x)]) (st2 := [.int (-1)]) (w3 := w) rfl rfl ?_
          refine sx_RP.step (pc2 := 28) (ls2 := [(2, .int (-1)), (3, .int 2), (0, .int (nI 3)), (1, .int x)]) (st2 := []) (w3 := w) rfl rfl ?_
          refine sx_RP.step (pc2 := 31) (ls2 := [(3, .int 3), (2, .int (-1)), (0, .int (nI 3)), (1, .int x)]) (st2 := []) (w3 := w) rfl rfl ?_
          refine sx_RP.step (pc2 := 4) (ls2 := [(3, .int 3), (2, .int (-1)), (0, .int (nI 3)), (1, .int x)]) (st2 := []) (w3 := w) rfl rfl ?_
          refine sx_RP.step (pc2 := 5) (ls2 := [(3, .int 3), (2, .int (-1)), (0, .int (nI 3)), (1, .int x)]) (st2 := [.int 3]) (w3 := w) rfl rfl ?_
          refine sx_RP.step (pc2 := 7) (ls2 := [(3, .int 3), (2, .int (-1)), (0, .int (nI 3)), (1, .int x)]) (st2 := [.int 6, .int 3]) (w3 := w) rfl rfl ?_
          refine sx_RP.step (pc2 := 10) (ls2 := [(3, .int 3), (2, .int (-1)), (0, .int (nI 3)), (1, .int x)]) (st2 := []) (w3 := w) rfl rfl ?_
          refine sx_RP.step (pc2 := 11) (ls2 := [(3, .int 3), (2, .int (-1)), (0, .int (nI 3)), (1, .int x)]) (st2 := [.int (-1)]) (w3 := w) rfl rfl ?_
          refine sx_RP.step (pc2 := 12) (ls2 := [(3, .int 3), (2, .int (-1)), (0, .int (nI 3)), (1, .int x)]) (st2 := [.int (-1), .int (-1)]) (w3 := w) rfl rfl ?_
          refine sx_RP.step (pc2 := 34) (ls2 := [(3, .int 3), (2, .int (-1)), (0, .int (nI 3)), (1, .int x)]) (st2 := []) (w3 := w) rfl rfl ?_
          refine sx_RP.step (pc2 := 35) (ls2 := [(3, .int 3), (2, .int (-1)), (0, .int (nI 3)), (1, .int x)]) (st2 := [.int 0]) (w3 := w) rfl rfl ?_
          refine sx_RP.ret (r := (some (.int 0))) rfl rfl ?_
          exact ⟨⟨0, by decide, rfl⟩, rfl⟩
        · replace q3 := Decidable.not_not.mp (of_decide_eq_false q3)
          refine sx_RP.step (pc2 := 21) (ls2 := [(3, .int 2), (2, .int 0), (0, .int (nI 3)), (1, .int x)]) (st2 := [.int 1]) (w3 := w) rfl rfl ?_
          refine sx_RP.ret (r := (some (.int 1))) rfl rfl ?_
          exact ⟨⟨1, by decide, rfl⟩, rfl⟩
      · replace q2 := Decidable.not_not.mp (of_decide_eq_false q2)
        refine sx_RP.step (pc2 := 21) (ls2 := [(3, .int 1), (2, .int 1), (0, .int (nI 3)), (1, .int x)]) (st2 := [.int 1]) (w3 := w) rfl rfl ?_
        refine sx_RP.ret (r := (some (.int 1))) rfl rfl ?_
        exact ⟨⟨1, by decide, rfl⟩, rfl⟩
    · replace q1 := Decidable.not_not.mp (of_decide_eq_false q1)
      refine sx_RP.step (pc2 := 21) (ls2 := [(3, .int 0), (2, .int (nI 3)), (0, .int (nI 3)), (1, .int x)]) (st2 := [.int 1]) (w3 := w) rfl rfl ?_
      refine sx_RP.ret (r := (some (.int 1))) rfl rfl ?_
      exact ⟨⟨1, by decide, rfl⟩, rfl⟩
  obtain ⟨r, w2, h1, ⟨j, hj, rfl⟩, rfl⟩ := h
  exact ⟨j, hj, h1⟩
set_option maxRecDepth 20000 in
set_option maxHeartbeats 4000000 in
theorem p31_4 {xs : Option (List Int32)} {d : Nat} {w : List sx_C} (hI : WI w) (x : Int32) : ∃ j, j ≤ 1 ∧ sx_RU xs d 31 0 (lv_args 0 [.int (nI 4), .int x]) [] w (some (.int (nI j))) w := by
  have h : sx_RP xs d 31 0 (lv_args 0 [.int (nI 4), .int x]) [] w (fun r w2 => (∃ j, j ≤ 1 ∧ r = some (.int (nI j))) ∧ w2 = w) := by
    refine sx_RP.step (pc2 := 1) (ls2 := [(0, .int (nI 4)), (1, .int x)]) (st2 := [.int (nI 4)]) (w3 := w) rfl rfl ?_
    refine sx_RP.step (pc2 := 2) (ls2 := [(2, .int (nI 4)), (0, .int (nI 4)), (1, .int x)]) (st2 := []) (w3 := w) rfl rfl ?_
    refine sx_RP.step (pc2 := 3) (ls2 := [(2, .int (nI 4)), (0, .int (nI 4)), (1, .int x)]) (st2 := [.int 0]) (w3 := w) rfl rfl ?_
    refine sx_RP.step (pc2 := 4) (ls2 := [(3, .int 0), (2, .int (nI 4)), (0, .int (nI 4)), (1, .int x)]) (st2 := []) (w3 := w) rfl rfl ?_
    refine sx_RP.step (pc2 := 5) (ls2 := [(3, .int 0), (2, .int (nI 4)), (0, .int (nI 4)), (1, .int x)]) (st2 := [.int 0]) (w3 := w) rfl rfl ?_
    refine sx_RP.step (pc2 := 7) (ls2 := [(3, .int 0), (2, .int (nI 4)), (0, .int (nI 4)), (1, .int x)]) (st2 := [.int 6, .int 0]) (w3 := w) rfl rfl ?_
    refine sx_RP.step (pc2 := 10) (ls2 := [(3, .int 0), (2, .int (nI 4)), (0, .int (nI 4)), (1, .int x)]) (st2 := []) (w3 := w) rfl rfl ?_
    refine sx_RP.step (pc2 := 11) (ls2 := [(3, .int 0), (2, .int (nI 4)), (0, .int (nI 4)), (1, .int x)]) (st2 := [.int (nI 4)]) (w3 := w) rfl rfl ?_
    refine sx_RP.step (pc2 := 12) (ls2 := [(3, .int 0), (2, .int (nI 4)), (0, .int (nI 4)), (1, .int x)]) (st2 := [.int (-1), .int (nI 4)]) (w3 := w) rfl rfl ?_
    refine sx_RP.step (pc2 := 15) (ls2 := [(3, .int 0), (2, .int (nI 4)), (0, .int (nI 4)), (1, .int x)]) (st2 := []) (w3 := w) rfl rfl ?_
    refine sx_RP.step (pc2 := 16) (ls2 := [(3, .int 0), (2, .int (nI 4)), (0, .int (nI 4)), (1, .int x)]) (st2 := [.int (nI 4)]) (w3 := w) rfl rfl ?_
    refine sx_RP.step (pc2 := 17) (ls2 := [(3, .int 0), (2, .int (nI 4)), (0, .int (nI 4)), (1, .int x)]) (st2 := [.int x, .int (nI 4)]) (w3 := w) rfl rfl ?_
    refine sx_RP.br (p1 := 22) (l1 := [(3, .int 0), (2, .int (nI 4)), (0, .int (nI 4)), (1, .int x)]) (s1 := []) (v1 := w) (p2 := 20) (l2 := [(3, .int 0), (2, .int (nI 4)), (0, .int (nI 4)), (1, .int x)]) (s2 := []) (v2 := w) rfl rfl (fun q1 => ?_) (fun q1 => ?_)
    · replace q1 := of_decide_eq_true q1
      refine sx_RP.step (pc2 := 25) (ls2 := [(3, .int 0), (2, .int (nI 4)), (0, .int (nI 4)), (1, .int x)]) (st2 := [.float 1]) (w3 := w) rfl rfl ?_
      refine sx_RP.step (pc2 := 26) (ls2 := [(3, .int 0), (2, .int (nI 4)), (0, .int (nI 4)), (1, .int x)]) (st2 := [.int (nI 4), .float 1]) (w3 := w) rfl rfl ?_
      refine sx_RP.step (pc2 := 27) (ls2 := [(3, .int 0), (2, .int (nI 4)), (0, .int (nI 4)), (1, .int x)]) (st2 := [.int 2]) (w3 := w) rfl rfl ?_
      refine sx_RP.step (pc2 := 28) (ls2 := [(2, .int 2), (3, .int 0), (0, .int (nI 4)), (1, .int x)]) (st2 := []) (w3 := w) rfl rfl ?_
      refine sx_RP.step (pc2 := 31) (ls2 := [(3, .int 1), (2, .int 2), (0, .int (nI 4)), (1, .int x)]) (st2 := []) (w3 := w) rfl rfl ?_
      refine sx_RP.step (pc2 := 4) (ls2 := [(3, .int 1), (2, .int 2), (0, .int (nI 4)), (1, .int x)]) (st2 := []) (w3 := w) rfl rfl ?_
      refine sx_RP.step (pc2 := 5) (ls2 := [(3, .int 1), (2, .int 2), (0, .int (nI 4)), (1, .int x)]) (st2 := [.int 1]) (w3 := w) rfl rfl ?_
      refine sx_RP.step (pc2 := 7) (ls2 := [(3, .int 1), (2, .int 2), (0, .int (nI 4)), (1, .int x)]) (st2 := [.int 6, .int 1]) (w3 := w) rfl rfl ?_
      refine sx_RP.step (pc2 := 10) (ls2 := [(3, .int 1), (2, .int 2), (0, .int (nI 4)), (1, .int x)]) (st2 := []) (w3 := w) rfl rfl ?_
      refine sx_RP.step (pc2 := 11) (ls2 := [(3, .int 1), (2, .int 2), (0, .int (nI 4)), (1, .int x)]) (st2 := [.int 2]) (w3 := w) rfl rfl ?_
      refine sx_RP.step (pc2 := 12) (ls2 := [(3, .int 1), (2, .int 2), (0, .int (nI 4)), (1, .int x)]) (st2 := [.int (-1), .int 2]) (w3 := w) rfl rfl ?_
      refine sx_RP.step (pc2 := 15) (ls2 := [(3, .int 1), (2, .int 2), (0, .int (nI 4)), (1, .int x)]) (st2 := []) (w3 := w) rfl rfl ?_
      refine sx_RP.step (pc2 := 16) (ls2 := [(3, .int 1), (2, .int 2), (0, .int (nI 4)), (1, .int x)]) (st2 := [.int 2]) (w3 := w) rfl rfl ?_
      refine sx_RP.step (pc2 := 17) (ls2 := [(3, .int 1), (2, .int 2), (0, .int (nI 4)), (1, .int x)]) (st2 := [.int x, .int 2]) (w3 := w) rfl rfl ?_
      refine sx_RP.br (p1 := 22) (l1 := [(3, .int 1), (2, .int 2), (0, .int (nI 4)), (1, .int x)]) (s1 := []) (v1 := w) (p2 := 20) (l2 := [(3, .int 1), (2, .int 2), (0, .int (nI 4)), (1, .int x)]) (s2 := []) (v2 := w) rfl rfl (fun q2 => ?_) (fun q2 => ?_)
      · replace q2 := of_decide_eq_true q2
        refine sx_RP.step (pc2 := 25) (ls2 := [(3, .int 1), (2, .int 2), (0, .int (nI 4)), (1, .int x)]) (st2 := [.float 1]) (w3 := w) rfl rfl ?_
        refine sx_RP.step (pc2 := 26) (ls2 := [(3, .int 1), (2, .int 2), (0, .int (nI 4)), (1, .int x)]) (st2 := [.int 2, .float 1]) (w3 := w) rfl rfl ?_
        refine sx_RP.step (pc2 := 27) (ls2 := [(3, .int 1), (2, .int 2), (0, .int (nI 4)), (1, .int x)]) (st2 := [.int 0]) (w3 := w) rfl rfl ?_
        refine sx_RP.step (pc2 := 28) (ls2 := [(2, .int 0), (3, .int 1), (0, .int (nI 4)), (1, .int x)]) (st2 := []) (w3 := w) rfl rfl ?_
        refine sx_RP.step (pc2 := 31) (ls2 := [(3, .int 2), (2, .int 0), (0, .int (nI 4)), (1, .int x)]) (st2 := []) (w3 := w) rfl rfl ?_
        refine sx_RP.step (pc2 := 4) (ls2 := [(3, .int 2), (2, .int 0), (0, .int (nI 4)), (1, .int x)]) (st2 := []) (w3 := w) rfl rfl ?_
        refine sx_RP.step (pc2 := 5) (ls2 := [(3, .int 2), (2, .int 0), (0, .int (nI 4)), (1, .int x)]) (st2 := [.int 2]) (w3 := w) rfl rfl ?_
        refine sx_RP.step (pc2 := 7) (ls2 := [(3, .int 2), (2, .int 0), (0, .int (nI 4)), (1, .int x)]) (st2 := [.int 6, .int 2]) (w3 := w) rfl rfl ?_
        refine sx_RP.step (pc2 := 10) (ls2 := [(3, .int 2), (2, .int 0), (0, .int (nI 4)), (1, .int x)]) (st2 := []) (w3 := w) rfl rfl ?_
        refine sx_RP.step (pc2 := 11) (ls2 := [(3, .int 2), (2, .int 0), (0, .int (nI 4)), (1, .int x)]) (st2 := [.int 0]) (w3 := w) rfl rfl ?_
        refine sx_RP.step (pc2 := 12) (ls2 := [(3, .int 2), (2, .int 0), (0, .int (nI 4)), (1, .int x)]) (st2 := [.int (-1), .int 0]) (w3 := w) rfl rfl ?_
        refine sx_RP.step (pc2 := 15) (ls2 := [(3, .int 2), (2, .int 0), (0, .int (nI 4)), (1, .int x)]) (st2 := []) (w3 := w) rfl rfl ?_
        refine sx_RP.step (pc2 := 16) (ls2 := [(3, .int 2), (2, .int 0), (0, .int (nI 4)), (1, .int x)]) (st2 := [.int 0]) (w3 := w) rfl rfl ?_
        refine sx_RP.step (pc2 := 17) (ls2 := [(3, .int 2), (2, .int 0), (0, .int (nI 4)), (1, .int x)]) (st2 := [.int x, .int 0]) (w3 := w) rfl rfl ?_
        refine sx_RP.br (p1 := 22) (l1 := [(3, .int 2), (2, .int 0), (0, .int (nI 4)), (1, .int x)]) (s1 := []) (v1 := w) (p2 := 20) (l2 := [(3, .int 2), (2, .int 0), (0, .int (nI 4)), (1, .int x)]) (s2 := []) (v2 := w) rfl rfl (fun q3 => ?_) (fun q3 => ?_)
        · replace q3 := of_decide_eq_true q3
          refine sx_RP.step (pc2 := 25) (ls2 := [(3, .int 2), (2, .int 0), (0, .int (nI 4)), (1, .int x)]) (st2 := [.float 1]) (w3 := w) rfl rfl ?_
          refine sx_RP.step (pc2 := 26) (ls2 := [(3, .int 2), (2, .int 0), (0, .int (nI 4)), (1, .int x)]) (st2 := [.int 0, .float 1]) (w3 := w) rfl rfl ?_
          refine sx_RP.step (pc2 := 27) (ls2 := [(3, .int 2), (2, .int 0), (0, .int (nI 4)), (1, .int x)]) (st2 := [.int (-1)]) (w3 := w) rfl rfl ?_
          refine sx_RP.step (pc2 := 28) (ls2 := [(2, .int (-1)), (3, .int 2), (0, .int (nI 4)), (1, .int x)]) (st2 := []) (w3 := w) rfl rfl ?_
          refine sx_RP.step (pc2 := 31) (ls2 := [(3, .int 3), (2, .int (-1)), (0, .int (nI 4)), (1, .int x)]) (st2 := []) (w3 := w) rfl rfl ?_
          refine sx_RP.step (pc2 := 4) (ls2 := [(3, .int 3), (2, .int (-1)), (0, .int (nI 4)), (1, .int x)]) (st2 := []) (w3 := w) rfl rfl ?_
          refine sx_RP.step (pc2 := 5) (ls2 := [(3, .int 3), (2, .int (-1)), (0, .int (nI 4)), (1, .int x)]) (st2 := [.int 3]) (w3 := w) rfl rfl ?_
          refine sx_RP.step (pc2 := 7) (ls2 := [(3, .int 3), (2, .int (-1)), (0, .int (nI 4)), (1, .int x)]) (st2 := [.int 6, .int 3]) (w3 := w) rfl rfl ?_
          refine sx_RP.step (pc2 := 10) (ls2 := [(3, .int 3), (2, .int (-1)), (0, .int (nI 4)), (1, .int x)]) (st2 := []) (w3 := w) rfl rfl ?_
          refine sx_RP.step (pc2 := 11) (ls2 := [(3, .int 3), (2, .int (-1)), (0, .int (nI 4)), (1, .int x)]) (st2 := [.int (-1)]) (w3 := w) rfl rfl ?_
          refine sx_RP.step (pc2 := 12) (ls2 := [(3, .int 3), (2, .int (-1)), (0, .int (nI 4)), (1, .int x)]) (st2 := [.int (-1), .int (-1)]) (w3 := w) rfl rfl ?_
          refine sx_RP.step (pc2 := 34) (ls2 := [(3, .int 3), (2, .int (-1)), (0, .int (nI 4)), (1, .int x)]) (st2 := []) (w3 := w) rfl rfl ?_
          refine sx_RP.step (pc2 := 35) (ls2 := [(3, .int 3), (2, .int (-1)), (0, .int (nI 4)), (1, .int x)]) (st2 := [.int 0]) (w3 := w) rfl rfl ?_
          refine sx_RP.ret (r := (some (.int 0))) rfl rfl ?_
          exact ⟨⟨0, by decide, rfl⟩, rfl⟩
        · replace q3 := Decidable.not_not.mp (of_decide_eq_false q3)
          refine sx_RP.step (pc2 := 21) (ls2 := [(3, .int 2), (2, .int 0), (0, .int (nI 4)), (1, .int x)]) (st2 := [.int 1]) (w3 := w) rfl rfl ?_
          refine sx_RP.ret (r := (some (.int 1))) rfl rfl ?_
          exact ⟨⟨1, by decide, rfl⟩, rfl⟩
      · replace q2 := Decidable.not_not.mp (of_decide_eq_false q2)
        refine sx_RP.step (pc2 := 21) (ls2 := [(3, .int 1), (2, .int 2), (0, .int (nI 4)), (1, .int x)]) (st2 := [.int 1]) (w3 := w) rfl rfl ?_
        refine sx_RP.ret (r := (some (.int 1))) rfl rfl ?_
        exact ⟨⟨1, by decide, rfl⟩, rfl⟩
    · replace q1 := Decidable.not_not.mp (of_decide_eq_false q1)
      refine sx_RP.step (pc2 := 21) (ls2 := [(3, .int 0), (2, .int (nI 4)), (0, .int (nI 4)), (1, .int x)]) (st2 := [.int 1]) (w3 := w) rfl rfl ?_
      refine sx_RP.ret (r := (some (.int 1))) rfl rfl ?_
      exact ⟨⟨1, by decide, rfl⟩, rfl⟩
  obtain ⟨r, w2, h1, ⟨j, hj, rfl⟩, rfl⟩ := h
  exact ⟨j, hj, h1⟩
set_option maxRecDepth 20000 in
set_option maxHeartbeats 4000000 in
theorem p31_5 {xs : Option (List Int32)} {d : Nat} {w : List sx_C} (hI : WI w) (x : Int32) : ∃ j, j ≤ 1 ∧ sx_RU xs d 31 0 (lv_args 0 [.int (nI 5), .int x]) [] w (some (.int (nI j))) w := by
  have h : sx_RP xs d 31 0 (lv_args 0 [.int (nI 5), .int x]) [] w (fun r w2 => (∃ j, j ≤ 1 ∧ r = some (.int (nI j))) ∧ w2 = w) := by
    refine sx_RP.step (pc2 := 1) (ls2 := [(0, .int (nI 5)), (1, .int x)]) (st2 := [.int (nI 5)]) (w3 := w) rfl rfl ?_
    refine sx_RP.step (pc2 := 2) (ls2 := [(2, .int (nI 5)), (0, .int (nI 5)), (1, .int x)]) (st2 := []) (w3 := w) rfl rfl ?_
    refine sx_RP.step (pc2 := 3) (ls2 := [(2, .int (nI 5)), (0, .int (nI 5)), (1, .int x)]) (st2 := [.int 0]) (w3 := w) rfl rfl ?_
    refine sx_RP.step (pc2 := 4) (ls2 := [(3, .int 0), (2, .int (nI 5)), (0, .int (nI 5)), (1, .int x)]) (st2 := []) (w3 := w) rfl rfl ?_
    refine sx_RP.step (pc2 := 5) (ls2 := [(3, .int 0), (2, .int (nI 5)), (0, .int (nI 5)), (1, .int x)]) (st2 := [.int 0]) (w3 := w) rfl rfl ?_
    refine sx_RP.step (pc2 := 7) (ls2 := [(3, .int 0), (2, .int (nI 5)), (0, .int (nI 5)), (1, .int x)]) (st2 := [.int 6, .int 0]) (w3 := w) rfl rfl ?_
    refine sx_RP.step (pc2 := 10) (ls2 := [(3, .int 0), (2, .int (nI 5)), (0, .int (nI 5)), (1, .int x)]) (st2 := []) (w3 := w) rfl rfl ?_
    refine sx_RP.step (pc2 := 11) (ls2 := [(3, .int 0), (2, .int (nI 5)), (0, .int (nI 5)), (1, .int x)]) (st2 := [.int (nI 5)]) (w3 := w) rfl rfl ?_
    refine sx_RP.step (pc2 := 12) (ls2 := [(3, .int 0), (2, .int (nI 5)), (0, .int (nI 5)), (1, .int x)]) (st2 := [.int (-1), .int (nI 5)]) (w3 := w) rfl rfl ?_
    refine sx_RP.step (pc2 := 15) (ls2 := [(3, .int 0), (2, .int (nI 5)), (0, .int (nI 5)), (1, .int x)]) (st2 := []) (w3 := w) rfl rfl ?_
    refine sx_RP.step (pc2 := 16) (ls2 := [(3, .int 0), (2, .int (nI 5)), (0, .int (nI 5)), (1, .int x)]) (st2 := [.int (nI 5)]) (w3 := w) rfl rfl ?_
    refine sx_RP.step (pc2 := 17) (ls2 := [(3, .int 0), (2, .int (nI 5)), (0, .int (nI 5)), (1, .int x)]) (st2 := [.int x, .int (nI 5)]) (w3 := w) rfl rfl ?_
    refine sx_RP.br (p1 := 22) (l1 := [(3, .int 0), (2, .int (nI 5)), (0, .int (nI 5)), (1, .int x)]) (s1 := []) (v1 := w) (p2 := 20) (l2 := [(3, .int 0), (2, .int (nI 5)), (0, .int (nI 5)), (1, .int x)]) (s2 := []) (v2 := w) rfl rfl (fun q1 => ?_) (fun q1 => ?_)
    · replace q1 := of_decide_eq_true q1
      refine sx_RP.step (pc2 := 25) (ls2 := [(3, .int 0), (2, .int (nI 5)), (0, .int (nI 5)), (1, .int x)]) (st2 := [.float 1]) (w3 := w) rfl rfl ?_
      refine sx_RP.step (pc2 := 26) (ls2 := [(3, .int 0), (2, .int (nI 5)), (0, .int (nI 5)), (1, .int x)]) (st2 := [.int (nI 5), .float 1]) (w3 := w) rfl rfl ?_
      refine sx_RP.step (pc2 := 27) (ls2 := [(3, .int 0), (2, .int (nI 5)), (0, .int (nI 5)), (1, .int x)]) (st2 := [.int 3]) (w3 := w) rfl rfl ?_
      refine sx_RP.step (pc2 := 28) (ls2 := [(2, .int 3), (3, .int 0), (0, .int (nI 5)), (1, .int x)]) (st2 := []) (w3 := w) rfl rfl ?_
      refine sx_RP.step (pc2 := 31) (ls2 := [(3, .int 1), (2, .int 3), (0, .int (nI 5)), (1, .int x)]) (st2 := []) (w3 := w) rfl rfl ?_
      refine sx_RP.step (pc2 := 4) (ls2 := [(3, .int 1), (2, .int 3), (0, .int (nI 5)), (1, .int x)]) (st2 := []) (w3 := w) rfl rfl ?_
      refine sx_RP.step (pc2 := 5) (ls2 := [(3, .int 1), (2, .int 3), (0, .int (nI 5)), (1, .int x)]) (st2 := [.int 1]) (w3 := w) rfl rfl ?_
      refine sx_RP.step (pc2 := 7) (ls2 := [(3, .int 1), (2, .int 3), (0, .int (nI 5)), (1, .int x)]) (st2 := [.int 6, .int 1]) (w3 := w) rfl rfl ?_
      refine sx_RP.step (pc2 := 10) (ls2 := [(3, .int 1), (2, .int 3), (0, .int (nI 5)), (1, .int x)]) (st2 := []) (w3 := w) rfl rfl ?_
      refine sx_RP.step (pc2 := 11) (ls2 := [(3, .int 1), (2, .int 3), (0, .int (nI 5)), (1, .int x)]) (st2 := [.int 3]) (w3 := w) rfl rfl ?_
      refine sx_RP.step (pc2 := 12) (ls2 := [(3, .int 1), (2, .int 3), (0, .int (nI 5)), (1, .int x)]) (st2 := [.int (-1), .int 3]) (w3 := w) rfl rfl ?_
      refine sx_RP.step (pc2 := 15) (ls2 := [(3, .int 1), (2, .int 3), (0, .int (nI 5)), (1, .int x)]) (st2 := []) (w3 := w) rfl rfl ?_
      refine sx_RP.step (pc2 := 16) (ls2 := [(3, .int 1), (2, .int 3), (0, .int (nI 5)), (1, .int x)]) (st2 := [.int 3]) (w3 := w) rfl rfl ?_
      refine sx_RP.step (pc2 := 17) (ls2 := [(3, .int 1), (2, .int 3), (0, .int (nI 5)), (1, .int x)]) (st2 := [.int x, .int 3]) (w3 := w) rfl rfl ?_
      refine sx_RP.br (p1 := 22) (l1 := [(3, .int 1), (2, .int 3), (0, .int (nI 5)), (1, .int x)]) (s1 := []) (v1 := w) (p2 := 20) (l2 := [(3, .int 1), (2, .int 3), (0, .int (nI 5)), (1, .int x)]) (s2 := []) (v2 := w) rfl rfl (fun q2 => ?_) (fun q2 => ?_)
      · replace q2 := of_decide_eq_true q2
        refine sx_RP.step (pc2 := 25) (ls2 := [(3, .int 1), (2, .int 3), (0, .int (nI 5)), (1, .int x)]) (st2 := [.float 1]) (w3 := w) rfl rfl ?_
        refine sx_RP.step (pc2 := 26) (ls2 := [(3, .int 1), (2, .int 3), (0, .int (nI 5)), (1, .int x)]) (st2 := [.int 3, .float 1]) (w3 := w) rfl rfl ?_
        refine sx_RP.step (pc2 := 27) (ls2 := [(3, .int 1), (2, .int 3), (0, .int (nI 5)), (1, .int x)]) (st2 := [.int 1]) (w3 := w) rfl rfl ?_
        refine sx_RP.step (pc2 := 28) (ls2 := [(2, .int 1), (3, .int 1), (0, .int (nI 5)), (1, .int x)]) (st2 := []) (w3 := w) rfl rfl ?_
        refine sx_RP.step (pc2 := 31) (ls2 := [(3, .int 2), (2, .int 1), (0, .int (nI 5)), (1, .int x)]) (st2 := []) (w3 := w) rfl rfl ?_
        refine sx_RP.step (pc2 := 4) (ls2 := [(3, .int 2), (2, .int 1), (0, .int (nI 5)), (1, .int x)]) (st2 := []) (w3 := w) rfl rfl ?_
        refine sx_RP.step (pc2 := 5) (ls2 := [(3, .int 2), (2, .int 1), (0, .int (nI 5)), (1, .int x)]) (st2 := [.int 2]) (w3 := w) rfl rfl ?_
        refine sx_RP.step (pc2 := 7) (ls2 := [(3, .int 2), (2, .int 1), (0, .int (nI 5)), (1, .int x)]) (st2 := [.int 6, .int 2]) (w3 := w) rfl rfl ?_
        refine sx_RP.step (pc2 := 10) (ls2 := [(3, .int 2), (2, .int 1), (0, .int (nI 5)), (1, .int x)]) (st2 := []) (w3 := w) rfl rfl ?_
        refine sx_RP.step (pc2 := 11) (ls2 := [(3, .int 2), (2, .int 1), (0, .int (nI 5)), (1, .int x)]) (st2 := [.int 1]) (w3 := w) rfl rfl ?_
        refine sx_RP.step (pc2 := 12) (ls2 := [(3, .int 2), (2, .int 1), (0, .int (nI 5)), (1, .int x)]) (st2 := [.int (-1), .int 1]) (w3 := w) rfl rfl ?_
        refine sx_RP.step (pc2 := 15) (ls2 := [(3, .int 2), (2, .int 1), (0, .int (nI 5)), (1, .int x)]) (st2 := []) (w3 := w) rfl rfl ?_
        refine sx_RP.step (pc2 := 16) (ls2 := [(3, .int 2), (2, .int 1), (0, .int (nI 5)), (1, .int x)]) (st2 := [.int 1]) (w3 := w) rfl rfl ?_
        refine sx_RP.step (pc2 := 17) (ls2 := [(3, .int 2), (2, .int 1), (0, .int (nI 5)), (1, .int x)]) (st2 := [.int x, .int 1]) (w3 := w) rfl rfl ?_
        refine sx_RP.br (p1 := 22) (l1 := [(3, .int 2), (2, .int 1), (0, .int (nI 5)), (1, .int x)]) (s1 := []) (v1 := w) (p2 := 20) (l2 := [(3, .int 2), (2, .int 1), (0, .int (nI 5)), (1, .int x)]) (s2 := []) (v2 := w) rfl rfl (fun q3 => ?_) (fun q3 => ?_)
        · replace q3 := of_decide_eq_true q3
          refine sx_RP.step (pc2 := 25) (ls2 := [(3, .int 2), (2, .int 1), (0, .int (nI 5)), (1, .int x)]) (st2 := [.float 1]) (w3 := w) rfl rfl ?_
          refine sx_RP.step (pc2 := 26) (ls2 := [(3, .int 2), (2, .int 1), (0, .int (nI 5)), (1, .int x)]) (st2 := [.int 1, .float 1]) (w3 := w) rfl rfl ?_
          refine sx_RP.step (pc2 := 27) (ls2 := [(3, .int 2), (2, .int 1), (0, .int (nI 5)), (1, .int x)]) (st2 := [.int 0]) (w3 := w) rfl rfl ?_
          refine sx_RP.step (pc2 := 28) (ls2 := [(2, .int 0), (3, .int 2), (0, .int (nI 5)), (1, .int x)]) (st2 := []) (w3 := w) rfl rfl ?_
          refine sx_RP.step (pc2 := 31) (ls2 := [(3, .int 3), (2, .int 0), (0, .int (nI 5)), (1, .int x)]) (st2 := []) (w3 := w) rfl rfl ?_
          refine sx_RP.step (pc2 := 4) (ls2 := [(3, .int 3), (2, .int 0), (0, .int (nI 5)), (1, .int x)]) (st2 := []) (w3 := w) rfl rfl ?_
          refine sx_RP.step (pc2 := 5) (ls2 := [(3, .int 3), (2, .int 0), (0, .int (nI 5)), (1, .int x)]) (st2 := [.int 3]) (w3 := w) rfl rfl ?_
          refine sx_RP.step (pc2 := 7) (ls2 := [(3, .int 3), (2, .int 0), (0, .int (nI 5)), (1, .int x)]) (st2 := [.int 6, .int 3]) (w3 := w) rfl rfl ?_
          refine sx_RP.step (pc2 := 10) (ls2 := [(3, .int 3), (2, .int 0), (0, .int (nI 5)), (1, .int x)]) (st2 := []) (w3 := w) rfl rfl ?_
          refine sx_RP.step (pc2 := 11) (ls2 := [(3, .int 3), (2, .int 0), (0, .int (nI 5)), (1, .int x)]) (st2 := [.int 0]) (w3 := w) rfl rfl ?_
          refine sx_RP.step (pc2 := 12) (ls2 := [(3, .int 3), (2, .int 0), (0, .int (nI 5)), (1, .int x)]) (st2 := [.int (-1), .int 0]) (w3 := w) rfl rfl ?_
          refine sx_RP.step (pc2 := 15) (ls2 := [(3, .int 3), (2, .int 0), (0, .int (nI 5)), (1, .int x)]) (st2 := []) (w3 := w) rfl rfl ?_
          refine sx_RP.step (pc2 := 16) (ls2 := [(3, .int 3), (2, .int 0), (0, .int (nI 5)), (1, .int x)]) (st2 := [.int 0]) (w3 := w) rfl rfl ?_
          refine sx_RP.step (pc2 := 17) (ls2 := [(3, .int 3), (2, .int 0), (0, .int (nI 5)), (1, .int x)]) (st2 := [.int x, .int 0]) (w3 := w) rfl rfl ?_
          refine sx_RP.br (p1 := 22) (l1 := [(3, .int 3), (2, .int 0), (0, .int (nI 5)), (1, .int x)]) (s1 := []) (v1 := w) (p2 := 20) (l2 := [(3, .int 3), (2, .int 0), (0, .int (nI 5)), (1, .int x)]) (s2 := []) (v2 := w) rfl rfl (fun q4 => ?_) (fun q4 => ?_)
          · replace q4 := of_decide_eq_true q4
            refine sx_RP.step (pc2 := 25) (ls2 := [(3, .int 3), (2, .int 0), (0, .int (nI 5)), (1, .int x)]) (st2 := [.float 1]) (w3 := w) rfl rfl ?_
            refine sx_RP.step (pc2 := 26) (ls2 := [(3, .int 3), (2, .int 0), (0, .int (nI 5)), (1, .int x)]) (st2 := [.int 0, .float 1]) (w3 := w) rfl rfl ?_
            refine sx_RP.step (pc2 := 27) (ls2 := [(3, .int 3), (2, .int 0), (0, .int (nI 5)), (1, .int x)]) (st2 := [.int (-1)]) (w3 := w) rfl rfl ?_
            refine sx_RP.step (pc2 := 28) (ls2 := [(2, .int (-1)), (3, .int 3), (0, .int (nI 5)), (1, .int x)]) (st2 := []) (w3 := w) rfl rfl ?_
            refine sx_RP.step (pc2 := 31) (ls2 := [(3, .int 4), (2, .int (-1)), (0, .int (nI 5)), (1, .int x)]) (st2 := []) (w3 := w) rfl rfl ?_
            refine sx_RP.step (pc2 := 4) (ls2 := [(3, .int 4), (2, .int (-1)), (0, .int (nI 5)), (1, .int x)]) (st2 := []) (w3 := w) rfl rfl ?_
            refine sx_RP.step (pc2 := 5) (ls2 := [(3, .int 4), (2, .int (-1)), (0, .int (nI 5)), (1, .int x)]) (st2 := [.int 4]) (w3 := w) rfl rfl ?_
            refine sx_RP.step (pc2 := 7) (ls2 := [(3, .int 4), (2, .int (-1)), (0, .int (nI 5)), (1, .int x)]) (st2 := [.int 6, .int 4]) (w3 := w) rfl rfl ?_
            refine sx_RP.step (pc2 := 10) (ls2 := [(3, .int 4), (2, .int (-1)), (0, .int (nI 5)), (1, .int x)]) (st2 := []) (w3 := w) rfl rfl ?_
            refine sx_RP.step (pc2 := 11) (ls2 := [(3, .int 4), (2, .int (-1)), (0, .int (nI 5)), (1, .int x)]) (st2 := [.int (-1)]) (w3 := w) rfl rfl ?_
            refine sx_RP.step (pc2 := 12) (ls2 := [(3, .int 4), (2, .int (-1)), (0, .int (nI 5)), (1, .int x)]) (st2 := [.int (-1), .int (-1)]) (w3 := w) rfl rfl ?_
            refine sx_RP.step (pc2 := 34) (ls2 := [(3, .int 4), (2, .int (-1)), (0, .int (nI 5)), (1, .int x)]) (st2 := []) (w3 := w) rfl rfl ?_
            refine sx_RP.step (pc2 := 35) (ls2 := [(3, .int 4), (2, .int (-1)), (0, .int (nI 5)), (1, .int x)]) (st2 := [.int 0]) (w3 := w) rfl rfl ?_
            refine sx_RP.ret (r := (some (.int 0))) rfl rfl ?_
            exact ⟨⟨0, by decide, rfl⟩, rfl⟩
          · replace q4 := Decidable.not_not.mp (of_decide_eq_false q4)
            refine sx_RP.step (pc2 := 21) (ls2 := [(3, .int 3), (2, .int 0), (0, .int (nI 5)), (1, .int x)]) (st2 := [.int 1]) (w3 := w) rfl rfl ?_
            refine sx_RP.ret (r := (some (.int 1))) rfl rfl ?_
            exact ⟨⟨1, by decide, rfl⟩, rfl⟩
        · replace q3 := Decidable.not_not.mp (of_decide_eq_false q3)
          refine sx_RP.step (pc2 := 21) (ls2 := [(3, .int 2), (2, .int 1), (0, .int (nI 5)), (1, .int x)]) (st2 := [.int 1]) (w3 := w) rfl rfl ?_
          refine sx_RP.ret (r := (some (.int 1))) rfl rfl ?_
          exact ⟨⟨1, by decide, rfl⟩, rfl⟩
      · replace q2 := Decidable.not_not.mp (of_decide_eq_false q2)
        refine sx_RP.step (pc2 := 21) (ls2 := [(3, .int 1), (2, .int 3), (0, .int (nI 5)), (1, .int x)]) (st2 := [.int 1]) (w3 := w) rfl rfl ?_
        refine sx_RP.ret (r := (some (.int 1))) rfl rfl ?_
        exact ⟨⟨1, by decide, rfl⟩, rfl⟩
    · replace q1 := Decidable.not_not.mp (of_decide_eq_false q1)
      refine sx_RP.step (pc2 := 21) (ls2 := [(3, .int 0), (2, .int (nI 5)), (0, .int (nI 5)), (1, .int x)]) (st2 := [.int 1]) (w3 := w) rfl rfl ?_
      refine sx_RP.ret (r := (some (.int 1))) rfl rfl ?_
      exact ⟨⟨1, by decide, rfl⟩, rfl⟩
  obtain ⟨r, w2, h1, ⟨j, hj, rfl⟩, rfl⟩ := h
  exact ⟨j, hj, h1⟩
theorem p31 {xs : Option (List Int32)} {d : Nat} {w : List sx_C} (hI : WI w) {k : Nat} (hk : k ≤ 5) (x : Int32) : ∃ j, j ≤ 1 ∧ sx_RU xs d 31 0 (lv_args 0 [.int (nI k), .int x]) [] w (some (.int (nI j))) w := by
  rcases (show k = 0 ∨ k = 1 ∨ k = 2 ∨ k = 3 ∨ k = 4 ∨ k = 5 by omega) with rfl | rfl | rfl | rfl | rfl | rfl
  · exact p31_0 hI x
  · exact p31_1 hI x
  · exact p31_2 hI x
  · exact p31_3 hI x
  · exact p31_4 hI x
  · exact p31_5 hI x
set_option maxRecDepth 20000 in
set_option maxHeartbeats 4000000 in
theorem p38 {xs : Option (List Int32)} {d : Nat} {w : List sx_C} (hI : WI w) {k s : Nat} (hk : k ≤ 5) (hs : s ≤ 3) : ∃ j, j ≤ 1 ∧ sx_RU xs (d + 1) 38 0 (lv_args 0 [.int (nI k), .int (nI s)]) [] w (some (.int (nI j))) w := by
  have h : sx_RP xs (d + 1) 38 0 (lv_args 0 [.int (nI k), .int (nI s)]) [] w (fun r w2 => (∃ j, j ≤ 1 ∧ r = some (.int (nI j))) ∧ w2 = w) := by
    refine sx_RP.step (pc2 := 1) (ls2 := [(0, .int (nI k)), (1, .int (nI s))]) (st2 := [.int (nI s)]) (w3 := w) rfl rfl ?_
    refine sx_RP.step (pc2 := 2) (ls2 := [(0, .int (nI k)), (1, .int (nI s))]) (st2 := [.int 1, .int (nI s)]) (w3 := w) rfl rfl ?_
    refine sx_RP.br (p1 := 13) (l1 := [(0, .int (nI k)), (1, .int (nI s))]) (s1 := []) (v1 := w) (p2 := 5) (l2 := [(0, .int (nI k)), (1, .int (nI s))]) (s2 := []) (v2 := w) rfl rfl (fun q1 => ?_) (fun q1 => ?_)
    · replace q1 := of_decide_eq_true q1
      replace q1 := mt (nI_eq (a := s) (b := 1) (by omega) (by omega)).mpr q1
      refine sx_RP.step (pc2 := 14) (ls2 := [(0, .int (nI k)), (1, .int (nI s))]) (st2 := [.int 1]) (w3 := w) rfl rfl ?_
      refine sx_RP.step (pc2 := 18) (ls2 := [(0, .int (nI k)), (1, .int (nI s))]) (st2 := [.int 1]) (w3 := w) rfl rfl ?_
      refine sx_RP.ret (r := (some (.int 1))) rfl rfl ?_
      exact ⟨⟨1, by decide, rfl⟩, rfl⟩
    · replace q1 := Decidable.not_not.mp (of_decide_eq_false q1)
      replace q1 := (nI_eq (a := s) (b := 1) (by omega) (by omega)).mp q1
      refine sx_RP.step (pc2 := 6) (ls2 := [(0, .int (nI k)), (1, .int (nI s))]) (st2 := [.int (nI k)]) (w3 := w) rfl rfl ?_
      refine sx_RP.step (pc2 := 7) (ls2 := [(0, .int (nI k)), (1, .int (nI s))]) (st2 := [.int 1, .int (nI k)]) (w3 := w) rfl rfl ?_
      obtain ⟨x2, hx3, c4⟩ := p31 hI (show k ≤ 5 by omega) 1
      refine sx_RP.cu (as := [.int (nI k), .int 1]) (rest2 := []) (st3 := [.int (nI x2)]) rfl rfl rfl rfl rfl (c4) rfl ?_
      refine sx_RP.br (p1 := 17) (l1 := [(0, .int (nI k)), (1, .int (nI s))]) (s1 := []) (v1 := w) (p2 := 13) (l2 := [(0, .int (nI k)), (1, .int (nI s))]) (s2 := []) (v2 := w) rfl rfl (fun q5 => ?_) (fun q5 => ?_)
      · replace q5 := of_decide_eq_true q5
        replace q5 := (nI_eq (a := x2) (b := 0) (by omega) (by omega)).mp q5
        refine sx_RP.step (pc2 := 18) (ls2 := [(0, .int (nI k)), (1, .int (nI s))]) (st2 := [.int 0]) (w3 := w) rfl rfl ?_
        refine sx_RP.ret (r := (some (.int 0))) rfl rfl ?_
        exact ⟨⟨0, by decide, rfl⟩, rfl⟩
      · replace q5 := of_decide_eq_false q5
        replace q5 := mt (nI_eq (a := x2) (b := 0) (by omega) (by omega)).mpr q5
        refine sx_RP.step (pc2 := 14) (ls2 := [(0, .int (nI k)), (1, .int (nI s))]) (st2 := [.int 1]) (w3 := w) rfl rfl ?_
        refine sx_RP.step (pc2 := 18) (ls2 := [(0, .int (nI k)), (1, .int (nI s))]) (st2 := [.int 1]) (w3 := w) rfl rfl ?_
        refine sx_RP.ret (r := (some (.int 1))) rfl rfl ?_
        exact ⟨⟨1, by decide, rfl⟩, rfl⟩
  obtain ⟨r, w2, h1, ⟨j, hj, rfl⟩, rfl⟩ := h
  exact ⟨j, hj, h1⟩
set_option maxRecDepth 20000 in
set_option maxHeartbeats 4000000 in
theorem p37 {xs : Option (List Int32)} {d : Nat} {w : List sx_C} (hI : WI w) {A : Nat} (hA : isA A) {k c : Nat} (hk : k ≤ 5) (hc : c < 48) : ∃ j, j ≤ 1 ∧ sx_RU xs (d + 2) 37 0 (lv_args 0 [.ref A, .int (nI k), .int (nI c)]) [] w (some (.int (nI j))) w := by
  have h : sx_RP xs (d + 2) 37 0 (lv_args 0 [.ref A, .int (nI k), .int (nI c)]) [] w (fun r w2 => (∃ j, j ≤ 1 ∧ r = some (.int (nI j))) ∧ w2 = w) := by
    refine sx_RP.step (pc2 := 1) (ls2 := [(0, .ref A), (1, .int (nI k)), (2, .int (nI c))]) (st2 := [.int (nI k)]) (w3 := w) rfl rfl ?_
    refine sx_RP.step (pc2 := 2) (ls2 := [(0, .ref A), (1, .int (nI k)), (2, .int (nI c))]) (st2 := [.ref A, .int (nI k)]) (w3 := w) rfl rfl ?_
    refine sx_RP.gref (k := 0) (b := A + 1) hI hA rfl rfl (by omega) (show _ = 5 from rfl) ?_
    refine sx_RP.step (pc2 := 6) (ls2 := [(0, .ref A), (1, .int (nI k)), (2, .int (nI c))]) (st2 := [.int (nI c), .ref (A + 1), .int (nI k)]) (w3 := w) rfl rfl ?_
    refine sx_RP.ild (c := c) rfl (hI.1.aS hA).1 (hI.1.aS hA).2 (sx_in_nI (show c < 48 by omega) (by decide)) (show (nI c).toNatClampNeg = c from nI_clamp (by omega)) (show _ = 7 from rfl) ?_
    obtain ⟨x1, hx2, ex3⟩ : inR ((ia w (A + 1)).getD c 0) 3 := hI.st hA (show c < 48 by omega)
    rw [ex3]
    obtain ⟨x4, hx5, c6⟩ := p38 hI (show k ≤ 5 by omega) (show x1 ≤ 3 by omega)
    refine sx_RP.cu (as := [.int (nI k), .int (nI x1)]) (rest2 := []) (st3 := [.int (nI x4)]) rfl rfl rfl rfl rfl (c6) rfl ?_
    refine sx_RP.ret (r := (some (.int (nI x4)))) rfl (bo_ret rfl (inR.n (show x4 ≤ 1 by omega))) ?_
    exact ⟨⟨x4, by omega, rfl⟩, rfl⟩
  obtain ⟨r, w2, h1, ⟨j, hj, rfl⟩, rfl⟩ := h
  exact ⟨j, hj, h1⟩
set_option maxRecDepth 20000 in
set_option maxHeartbeats 4000000 in
theorem p57 {xs : Option (List Int32)} {d : Nat} {w : List sx_C} (hI : WI w) {A : Nat} (hA : isA A) {k c : Nat} (hk : k ≤ 5) (hc : c < 48) : ∃ j, j ≤ 1 ∧ sx_RU xs (d + 3) 57 0 (lv_args 0 [.ref A, .int (nI k), .int (nI c)]) [] w (some (.int (nI j))) w := by
  have h : sx_RP xs (d + 3) 57 0 (lv_args 0 [.ref A, .int (nI k), .int (nI c)]) [] w (fun r w2 => (∃ j, j ≤ 1 ∧ r = some (.int (nI j))) ∧ w2 = w) := by
    refine sx_RP.step (pc2 := 1) (ls2 := [(0, .ref A), (1, .int (nI k)), (2, .int (nI c))]) (st2 := [.ref A]) (w3 := w) rfl rfl ?_
    refine sx_RP.gref (k := 0) (b := A + 1) hI hA rfl rfl (by omega) (show _ = 4 from rfl) ?_
    refine sx_RP.step (pc2 := 5) (ls2 := [(0, .ref A), (1, .int (nI k)), (2, .int (nI c))]) (st2 := [.int (nI c), .ref (A + 1)]) (w3 := w) rfl rfl ?_
    refine sx_RP.ild (c := c) rfl (hI.1.aS hA).1 (hI.1.aS hA).2 (sx_in_nI (show c < 48 by omega) (by decide)) (show (nI c).toNatClampNeg = c from nI_clamp (by omega)) (show _ = 6 from rfl) ?_
    obtain ⟨x1, hx2, ex3⟩ : inR ((ia w (A + 1)).getD c 0) 3 := hI.st hA (show c < 48 by omega)
    rw [ex3]
    refine sx_RP.step (pc2 := 7) (ls2 := [(0, .ref A), (1, .int (nI k)), (2, .int (nI c))]) (st2 := [.int 3, .int (nI x1)]) (w3 := w) rfl rfl ?_
    refine sx_RP.br (p1 := 23) (l1 := [(0, .ref A), (1, .int (nI k)), (2, .int (nI c))]) (s1 := []) (v1 := w) (p2 := 10) (l2 := [(0, .ref A), (1, .int (nI k)), (2, .int (nI c))]) (s2 := []) (v2 := w) rfl rfl (fun q4 => ?_) (fun q4 => ?_)
    · replace q4 := of_decide_eq_true q4
      replace q4 := (nI_eq (a := x1) (b := 3) (by omega) (by omega)).mp q4
      refine sx_RP.step (pc2 := 24) (ls2 := [(0, .ref A), (1, .int (nI k)), (2, .int (nI c))]) (st2 := [.int 0]) (w3 := w) rfl rfl ?_
      refine sx_RP.ret (r := (some (.int 0))) rfl rfl ?_
      exact ⟨⟨0, by decide, rfl⟩, rfl⟩
    · replace q4 := of_decide_eq_false q4
      replace q4 := mt (nI_eq (a := x1) (b := 3) (by omega) (by omega)).mpr q4
      refine sx_RP.step (pc2 := 11) (ls2 := [(0, .ref A), (1, .int (nI k)), (2, .int (nI c))]) (st2 := [.ref A]) (w3 := w) rfl rfl ?_
      refine sx_RP.step (pc2 := 12) (ls2 := [(0, .ref A), (1, .int (nI k)), (2, .int (nI c))]) (st2 := [.int (nI k), .ref A]) (w3 := w) rfl rfl ?_
      refine sx_RP.step (pc2 := 13) (ls2 := [(0, .ref A), (1, .int (nI k)), (2, .int (nI c))]) (st2 := [.int (nI c), .int (nI k), .ref A]) (w3 := w) rfl rfl ?_
      obtain ⟨x5, hx6, c7⟩ := p37 hI hA (show k ≤ 5 by omega) (show c < 48 by omega)
      refine sx_RP.cu (as := [.ref A, .int (nI k), .int (nI c)]) (rest2 := []) (st3 := [.int (nI x5)]) rfl rfl (sx_inv_v2 (mi := 57) (k := 103) (st := [.int (nI c), .int (nI k), .ref A]) (w := w) rfl rfl (hI.1.oC hA) rfl rfl rfl) rfl rfl (c7) rfl ?_
      refine sx_RP.br (p1 := 23) (l1 := [(0, .ref A), (1, .int (nI k)), (2, .int (nI c))]) (s1 := []) (v1 := w) (p2 := 19) (l2 := [(0, .ref A), (1, .int (nI k)), (2, .int (nI c))]) (s2 := []) (v2 := w) rfl rfl (fun q8 => ?_) (fun q8 => ?_)
      · replace q8 := of_decide_eq_true q8
        replace q8 := (nI_eq (a := x5) (b := 0) (by omega) (by omega)).mp q8
        refine sx_RP.step (pc2 := 24) (ls2 := [(0, .ref A), (1, .int (nI k)), (2, .int (nI c))]) (st2 := [.int 0]) (w3 := w) rfl rfl ?_
        refine sx_RP.ret (r := (some (.int 0))) rfl rfl ?_
        exact ⟨⟨0, by decide, rfl⟩, rfl⟩
      · replace q8 := of_decide_eq_false q8
        replace q8 := mt (nI_eq (a := x5) (b := 0) (by omega) (by omega)).mpr q8
        refine sx_RP.step (pc2 := 20) (ls2 := [(0, .ref A), (1, .int (nI k)), (2, .int (nI c))]) (st2 := [.int 1]) (w3 := w) rfl rfl ?_
        refine sx_RP.step (pc2 := 24) (ls2 := [(0, .ref A), (1, .int (nI k)), (2, .int (nI c))]) (st2 := [.int 1]) (w3 := w) rfl rfl ?_
        refine sx_RP.ret (r := (some (.int 1))) rfl rfl ?_
        exact ⟨⟨1, by decide, rfl⟩, rfl⟩
  obtain ⟨r, w2, h1, ⟨j, hj, rfl⟩, rfl⟩ := h
  exact ⟨j, hj, h1⟩
end
-- 46z.copy.lean.txt
section
-- copying of rows
theorem cpy_all {α : Type} {f g : List α} {n : Nat} (hf : f.length = n) (hg : g.length = n) : sx_cpy f g 0 0 n = f := by
  unfold sx_cpy
  subst hf
  rw [List.take_zero, List.drop_zero, List.take_length, Nat.zero_add, ← hg, List.drop_length, List.append_nil, List.nil_append]
section SXK
variable {xs : Option (List Int32)} {d mi pc pc2 idx p : Nat} {ls : sx_L} {r : List Value} {w w0 : List sx_C} {P : Option Value → List sx_C → Prop}
theorem sx_RP.acI {a b n : Nat} {x : Int32} {f g : List Int32} (hi : sx_ins mi pc = some (.invokestatic idx, 3)) (hq : sx_lk (sx_ac (sx_own mi)) idx = some p) (hr : Nat.ble (r.map (fun v => v.category)).sum 8 = true) (hx : x = nI n) (hn : n < 2 ^ 31) (hb : w[b]? = some (.inl (0, f))) (ha : w[a]? = some (.inl (0, g))) (hf : f.length = n) (hg : g.length = n) (hp : pc + 3 = pc2) (kk : sx_RP xs d mi pc2 ls r (w.set a (.inl (0, f))) P) : sx_RP xs d mi pc ls (.int x :: .int 0 :: .ref a :: .int 0 :: .ref b :: r) w P := by
  subst hp
  subst hx
  refine sx_RP.step hi (show sx_acp (sx_own mi) idx ls pc (.int (nI n) :: .int 0 :: .ref a :: .int 0 :: .ref b :: r) w = some (pc + 3, ls, r, w.set a (.inl (0, f))) from ?_) kk
  unfold sx_acp
  simp only
  rw [hq]
  simp only
  rw [decide_eq_false (show ¬ nI n < 0 from nI_pos hn), hr, hb, ha]
  simp only [show decide ((0 : Int32) < 0) = false from rfl, Bool.not_false, Bool.and_self, cond_true]
  rw [nI_clamp hn, show (0 : Int32).toNatClampNeg = 0 from rfl, cpy_all hf hg, Nat.zero_add, hf, hg]
  simp only [show Nat.ble n n = true from Nat.ble_self_eq_true n, Bool.and_self, cond_true]
theorem sx_RP.acS {A B : Nat} (hI : WI w) (hE : EC w0 w) (hA : isA A) (hB : isA B) (hi : sx_ins mi pc = some (.invokestatic idx, 3)) (hq : sx_lk (sx_ac (sx_own mi)) idx = some p) (hr : Nat.ble (r.map (fun v => v.category)).sum 8 = true) (hp : pc + 3 = pc2) (kk : ∀ w2, WI w2 → EC w0 w2 → sx_RP xs d mi pc2 ls r w2 P) : sx_RP xs d mi pc ls (.int 48 :: .int 0 :: .ref (A + 1) :: .int 0 :: .ref (B + 1) :: r) w P := by
  have h1 := hI.1.aS hA
  have h2 := hI.1.aS hB
  have h3 : A + 1 < 111 ∧ A + 1 ≠ 0 ∧ A + 1 ≠ 96 ∧ A + 1 ≠ 103 ∧ A + 1 ≠ 105 ∧ A + 1 ≠ 107 ∧ A + 1 ≠ 109 ∧ A + 1 ≠ 111 ∧ A + 1 ≠ 122 ∧ A + 1 ≠ 123 := by unfold isA at hA; omega
  refine sx_RP.acI (n := 48) hi hq hr rfl (by decide) h2.1 h1.1 h2.2 h1.2 hp (kk _ (hI.set h1.1 ?_ (cOK.st hA (fun k hk => hI.st hB hk))) (hE.set h1.1 h3.1 (kp_n h3.2)))
  show (.inl (0, List.replicate (ia w (B + 1)).length 0) : sx_C) = .inl (0, List.replicate (ia w (A + 1)).length 0)
  rw [h1.2, h2.2]
theorem sx_RP.acD {A B : Nat} (hI : WI w) (hE : EC w0 w) (hA : isA A) (hB : isA B) (hi : sx_ins mi pc = some (.invokestatic idx, 3)) (hq : sx_lk (sx_ac (sx_own mi)) idx = some p) (hr : Nat.ble (r.map (fun v => v.category)).sum 8 = true) (hp : pc + 3 = pc2) (kk : ∀ w2, WI w2 → EC w0 w2 → sx_RP xs d mi pc2 ls r w2 P) : sx_RP xs d mi pc ls (.int 9 :: .int 0 :: .ref (A + 3) :: .int 0 :: .ref (B + 3) :: r) w P := by
  have h1 := hI.1.aD hA
  have h2 := hI.1.aD hB
  have h3 : A + 3 < 111 ∧ A + 3 ≠ 0 ∧ A + 3 ≠ 96 ∧ A + 3 ≠ 103 ∧ A + 3 ≠ 105 ∧ A + 3 ≠ 107 ∧ A + 3 ≠ 109 ∧ A + 3 ≠ 111 ∧ A + 3 ≠ 122 ∧ A + 3 ≠ 123 := by unfold isA at hA; omega
  refine sx_RP.acI (n := 9) hi hq hr rfl (by decide) h2.1 h1.1 h2.2 h1.2 hp (kk _ (hI.set h1.1 ?_ (cOK.di hA (fun k hk => hI.di hB hk))) (hE.set h1.1 h3.1 (kp_n h3.2)))
  show (.inl (0, List.replicate (ia w (B + 3)).length 0) : sx_C) = .inl (0, List.replicate (ia w (A + 3)).length 0)
  rw [h1.2, h2.2]
end SXK
-- the sound's own rows: what they leave
theorem WI.st4 {w : List sx_C} (h : WI w) {A : Nat} (hA : isA A) : st4 (ia w (A + 1)) := fun c hc => by
  obtain ⟨j, hj, e⟩ := h.st hA hc
  exact ⟨j, by omega, e⟩
theorem sh_len {t : Nat} {l l2 : List Int32} (h : l2.length = l.length) : sx_sh (.inl (t, l2)) = sx_sh (.inl (t, l)) := by
  show (.inl (t, List.replicate l2.length 0) : sx_C) = .inl (t, List.replicate l.length 0)
  rw [h]
theorem WI.fr {w : List sx_C} (h : WI w) {a t : Nat} {l l2 : List Int32} (hw : w[a]? = some (.inl (t, l))) (hl : l2.length = l.length) (hf : (44 ≤ a ∧ a ≤ 95) ∨ (97 ≤ a ∧ a ≤ 102)) : WI (w.set a (.inl (t, l2))) := h.set hw (sh_len hl) (cOK.free (by omega))
theorem EC.fr {w0 w : List sx_C} (h : EC w0 w) {a : Nat} {c c2 : sx_C} (hw : w[a]? = some c) (hf : (44 ≤ a ∧ a ≤ 95) ∨ (97 ≤ a ∧ a ≤ 102)) : EC w0 (w.set a c2) := h.set hw (by omega) (kp_n (by omega))
theorem flF_l {v : Int32} {l : List Int32} {n : Nat} (h : l.length = n) : (flF v n 0 l).length = n := flF_len n 0 l h
theorem knF_len {sm : Int32} {kn : List Int32} (h : kn.length = 48) : (knF sm kn).length = 48 := by
  unfold knF
  split
  · exact flF_len 48 0 _ h
  · exact h
theorem s16 {xs : Option (List Int32)} {d : Nat} {w : List sx_C} (hI : WI w) {A : Nat} (hA : isA A) : sx_RP xs d 16 0 (lv_args 0 [.ref 44, .ref (A + 1)]) [] w (fun r w2 => r = none ∧ WI w2 ∧ EC w w2) := by
  have h45 := hI.1.a45
  have h95 := hI.1.a95
  have hS := hI.1.aS hA
  have h1 : A + 1 ≠ 45 ∧ A + 1 ≠ 95 := by unfold isA at hA; omega
  have c := cp_16 (xs := xs) (d := d) hI.1.o44 h45.1 h95.1 hS.1 h1.1 h1.2 hS.2 (hI.st4 hA) h45.2 h95.2
  have e1 : (ftF (ia w (A + 1)) 48 0 (ia w 45, 1)).1.length = 48 := ftF_len 48 0 (ia w 45, 1) h45.2
  refine c.rp ⟨rfl, ?_, ?_⟩
  · refine (hI.fr h45.1 (by rw [e1, h45.2]) (by decide)).fr (sx_gn2 (by decide) h95.1) (by rw [knF_len h95.2, h95.2]) (by decide)
  · exact (EC.rf.fr h45.1 (by decide)).fr (sx_gn2 (by decide) h95.1) (by decide)
theorem s17 {xs : Option (List Int32)} {d : Nat} {w : List sx_C} (hI : WI w) {t : Nat} (ht : t < 48) : sx_RP xs (d + 3) 17 0 (lv_args 0 [.ref 44, .int (nI t)]) [] w (fun r w2 => r = some (.ref (47 + t)) ∧ WI w2 ∧ EC w w2) := by
  have h45 := hI.1.a45
  have h95 := hI.1.a95
  have hR := hI.1.aR ht
  by_cases hk : (ia w 95).getD t 0 = 0
  · have c := cp_17 (xs := xs) (d := d) hI.1.o44 h45.1 hI.1.a46 h95.1 hR.1 h45.2 h95.2 ht hR.2 hk
    refine c.rp ⟨rfl, ?_, ?_⟩
    · exact (hI.fr h95.1 (List.length_set ..) (by decide)).fr (sx_gn2 (by omega) hR.1) (by rw [adF_len 48 0 _ (spF_len hR.2), hR.2]) (by omega)
    · exact (EC.rf.fr h95.1 (by decide)).fr (sx_gn2 (by omega) hR.1) (by omega)
  · have c := cp_17k (xs := xs) (d := d + 3) hI.1.o44 h45.1 hI.1.a46 h95.1 hR.1 h45.2 h95.2 ht hk
    exact c.rp ⟨rfl, hI, EC.rf⟩
theorem s18 {xs : Option (List Int32)} {d : Nat} {w : List sx_C} (hI : WI w) {t : Nat} (ht : t < 48) : sx_RP xs (d + 2) 18 0 (lv_args 0 [.int (nI t), .ref 100, .ref 101]) [] w (fun r w2 => r = none ∧ WI w2 ∧ EC w w2) := by
  have h1 := hI.1.a100
  have h2 := hI.1.a101
  have c := cp_18 (xs := xs) (d := d) h1.1 h2.1 (by decide) h1.2 h2.2 ht
  refine c.rp ⟨rfl, ?_, ?_⟩
  · exact hI.fr h2.1 (by rw [spF_len h2.2, h2.2]) (by decide)
  · exact EC.rf.fr h2.1 (by decide)
end
-- 47.campC.lean.txt
section
-- safety: what the class writes
set_option maxRecDepth 20000 in
set_option maxHeartbeats 4000000 in
theorem s9_0 {xs : Option (List Int32)} {d : Nat} {w : List sx_C} (hI : WI w) : sx_RP xs (d + 1) 9 0 (lv_args 0 [.ref 0, .int (-1000000001)]) [] w (fun r w2 => (r = some (.int (-1000000001))) ∧ WI w2 ∧ EC w w2) := by
  have hE : EC w w := EC.rf
  refine sx_RP.step (pc2 := 2) (ls2 := [(0, .ref 0), (1, .int (-1000000001))]) (st2 := [.int (-1000000001)]) (w3 := w) rfl rfl ?_
  refine sx_RP.step (pc2 := 3) (ls2 := [(0, .ref 0), (1, .int (-1000000001))]) (st2 := [.int (-1000000001), .int (-1000000001)]) (w3 := w) rfl rfl ?_
  refine sx_RP.step (pc2 := 4) (ls2 := [(0, .ref 0), (1, .int (-1000000001))]) (st2 := [.int 0]) (w3 := w) rfl rfl ?_
  refine sx_RP.step (pc2 := 5) (ls2 := [(2, .int 0), (0, .ref 0), (1, .int (-1000000001))]) (st2 := []) (w3 := w) rfl rfl ?_
  refine sx_RP.step (pc2 := 6) (ls2 := [(2, .int 0), (0, .ref 0), (1, .int (-1000000001))]) (st2 := [.int 0]) (w3 := w) rfl rfl ?_
  refine sx_RP.step (pc2 := 7) (ls2 := [(2, .int 0), (0, .ref 0), (1, .int (-1000000001))]) (st2 := [.int 0, .int 0]) (w3 := w) rfl rfl ?_
  refine sx_RP.step (pc2 := 9) (ls2 := [(2, .int 0), (0, .ref 0), (1, .int (-1000000001))]) (st2 := [.int 6, .int 0, .int 0]) (w3 := w) rfl rfl ?_
  refine sx_RP.cu (as := [.int 0, .int 0, .int 6]) (rest2 := []) (st3 := [.int 1]) rfl rfl rfl rfl rfl (cx_8p (by decide)) rfl ?_
  refine sx_RP.step (pc2 := 15) (ls2 := [(2, .int 0), (0, .ref 0), (1, .int (-1000000001))]) (st2 := []) (w3 := w) rfl rfl ?_
  refine sx_RP.step (pc2 := 16) (ls2 := [(2, .int 0), (0, .ref 0), (1, .int (-1000000001))]) (st2 := [.ref 0]) (w3 := w) rfl rfl ?_
  refine sx_RP.gf (v := .ref 99) rfl rfl hI.1.o0 rfl rfl (show _ = 19 from rfl) ?_
  refine sx_RP.step (pc2 := 20) (ls2 := [(2, .int 0), (0, .ref 0), (1, .int (-1000000001))]) (st2 := [.int 0, .ref 99]) (w3 := w) rfl rfl ?_
  refine sx_RP.step (pc2 := 21) (ls2 := [(2, .int 0), (0, .ref 0), (1, .int (-1000000001))]) (st2 := [.int 0, .ref 99, .int 0, .ref 99]) (w3 := w) rfl rfl ?_
  refine sx_RP.ild (c := 0) rfl hI.1.a99.1 hI.1.a99.2 (sx_in_nI (show 0 < 7 by omega) (by decide)) (show (nI 0).toNatClampNeg = 0 from nI_clamp (by omega)) (show _ = 22 from rfl) ?_
  refine sx_RP.step (pc2 := 23) (ls2 := [(2, .int 0), (0, .ref 0), (1, .int (-1000000001))]) (st2 := [.int 1, .int ((ia w 99).getD 0 0), .int 0, .ref 99]) (w3 := w) rfl rfl ?_
  refine sx_RP.step (pc2 := 24) (ls2 := [(2, .int 0), (0, .ref 0), (1, .int (-1000000001))]) (st2 := [.int (((ia w 99).getD 0 0) + 1), .int 0, .ref 99]) (w3 := w) rfl rfl ?_
  refine sx_RP.stF hI hE rfl hI.1.a99 (sx_in_nI (show 0 < 7 by omega) (by decide)) (by omega) (show _ = 25 from rfl) (fun w1 hI2 hE3 => ?_)
  refine sx_RP.step (pc2 := 26) (ls2 := [(2, .int 0), (0, .ref 0), (1, .int (-1000000001))]) (st2 := [.int (-1000000001)]) (w3 := w1) rfl rfl ?_
  refine sx_RP.ret (r := (some (.int (-1000000001)))) rfl rfl ?_
  exact ⟨rfl, hI2, hE3⟩
set_option maxRecDepth 20000 in
set_option maxHeartbeats 4000000 in
theorem s9_1 {xs : Option (List Int32)} {d : Nat} {w : List sx_C} (hI : WI w) : sx_RP xs (d + 1) 9 0 (lv_args 0 [.ref 0, .int (-1000000002)]) [] w (fun r w2 => (r = some (.int (-1000000002))) ∧ WI w2 ∧ EC w w2) := by
  have hE : EC w w := EC.rf
  refine sx_RP.step (pc2 := 2) (ls2 := [(0, .ref 0), (1, .int (-1000000002))]) (st2 := [.int (-1000000001)]) (w3 := w) rfl rfl ?_
  refine sx_RP.step (pc2 := 3) (ls2 := [(0, .ref 0), (1, .int (-1000000002))]) (st2 := [.int (-1000000002), .int (-1000000001)]) (w3 := w) rfl rfl ?_
  refine sx_RP.step (pc2 := 4) (ls2 := [(0, .ref 0), (1, .int (-1000000002))]) (st2 := [.int 1]) (w3 := w) rfl rfl ?_
  refine sx_RP.step (pc2 := 5) (ls2 := [(2, .int 1), (0, .ref 0), (1, .int (-1000000002))]) (st2 := []) (w3 := w) rfl rfl ?_
  refine sx_RP.step (pc2 := 6) (ls2 := [(2, .int 1), (0, .ref 0), (1, .int (-1000000002))]) (st2 := [.int 1]) (w3 := w) rfl rfl ?_
  refine sx_RP.step (pc2 := 7) (ls2 := [(2, .int 1), (0, .ref 0), (1, .int (-1000000002))]) (st2 := [.int 0, .int 1]) (w3 := w) rfl rfl ?_
  refine sx_RP.step (pc2 := 9) (ls2 := [(2, .int 1), (0, .ref 0), (1, .int (-1000000002))]) (st2 := [.int 6, .int 0, .int 1]) (w3 := w) rfl rfl ?_
  refine sx_RP.cu (as := [.int 1, .int 0, .int 6]) (rest2 := []) (st3 := [.int 1]) rfl rfl rfl rfl rfl (cx_8p (by decide)) rfl ?_
  refine sx_RP.step (pc2 := 15) (ls2 := [(2, .int 1), (0, .ref 0), (1, .int (-1000000002))]) (st2 := []) (w3 := w) rfl rfl ?_
  refine sx_RP.step (pc2 := 16) (ls2 := [(2, .int 1), (0, .ref 0), (1, .int (-1000000002))]) (st2 := [.ref 0]) (w3 := w) rfl rfl ?_
  refine sx_RP.gf (v := .ref 99) rfl rfl hI.1.o0 rfl rfl (show _ = 19 from rfl) ?_
  refine sx_RP.step (pc2 := 20) (ls2 := [(2, .int 1), (0, .ref 0), (1, .int (-1000000002))]) (st2 := [.int 1, .ref 99]) (w3 := w) rfl rfl ?_
  refine sx_RP.step (pc2 := 21) (ls2 := [(2, .int 1), (0, .ref 0), (1, .int (-1000000002))]) (st2 := [.int 1, .ref 99, .int 1, .ref 99]) (w3 := w) rfl rfl ?_
  refine sx_RP.ild (c := 1) rfl hI.1.a99.1 hI.1.a99.2 (sx_in_nI (show 1 < 7 by omega) (by decide)) (show (nI 1).toNatClampNeg = 1 from nI_clamp (by omega)) (show _ = 22 from rfl) ?_
  refine sx_RP.step (pc2 := 23) (ls2 := [(2, .int 1), (0, .ref 0), (1, .int (-1000000002))]) (st2 := [.int 1, .int ((ia w 99).getD 1 0), .int 1, .ref 99]) (w3 := w) rfl rfl ?_
  refine sx_RP.step (pc2 := 24) (ls2 := [(2, .int 1), (0, .ref 0), (1, .int (-1000000002))]) (st2 := [.int (((ia w 99).getD 1 0) + 1), .int 1, .ref 99]) (w3 := w) rfl rfl ?_
  refine sx_RP.stF hI hE rfl hI.1.a99 (sx_in_nI (show 1 < 7 by omega) (by decide)) (by omega) (show _ = 25 from rfl) (fun w1 hI2 hE3 => ?_)
  refine sx_RP.step (pc2 := 26) (ls2 := [(2, .int 1), (0, .ref 0), (1, .int (-1000000002))]) (st2 := [.int (-1000000002)]) (w3 := w1) rfl rfl ?_
  refine sx_RP.ret (r := (some (.int (-1000000002)))) rfl rfl ?_
  exact ⟨rfl, hI2, hE3⟩
set_option maxRecDepth 20000 in
set_option maxHeartbeats 4000000 in
theorem s9_2 {xs : Option (List Int32)} {d : Nat} {w : List sx_C} (hI : WI w) : sx_RP xs (d + 1) 9 0 (lv_args 0 [.ref 0, .int (-1000000003)]) [] w (fun r w2 => (r = some (.int (-1000000003))) ∧ WI w2 ∧ EC w w2) := by
  have hE : EC w w := EC.rf
  refine sx_RP.step (pc2 := 2) (ls2 := [(0, .ref 0), (1, .int (-1000000003))]) (st2 := [.int (-1000000001)]) (w3 := w) rfl rfl ?_
  refine sx_RP.step (pc2 := 3) (ls2 := [(0, .ref 0), (1, .int (-1000000003))]) (st2 := [.int (-1000000003), .int (-1000000001)]) (w3 := w) rfl rfl ?_
  refine sx_RP.step (pc2 := 4) (ls2 := [(0, .ref 0), (1, .int (-1000000003))]) (st2 := [.int 2]) (w3 := w) rfl rfl ?_
  refine sx_RP.step (pc2 := 5) (ls2 := [(2, .int 2), (0, .ref 0), (1, .int (-1000000003))]) (st2 := []) (w3 := w) rfl rfl ?_
  refine sx_RP.step (pc2 := 6) (ls2 := [(2, .int 2), (0, .ref 0), (1, .int (-1000000003))]) (st2 := [.int 2]) (w3 := w) rfl rfl ?_
  refine sx_RP.step (pc2 := 7) (ls2 := [(2, .int 2), (0, .ref 0), (1, .int (-1000000003))]) (st2 := [.int 0, .int 2]) (w3 := w) rfl rfl ?_
  refine sx_RP.step (pc2 := 9) (ls2 := [(2, .int 2), (0, .ref 0), (1, .int (-1000000003))]) (st2 := [.int 6, .int 0, .int 2]) (w3 := w) rfl rfl ?_
  refine sx_RP.cu (as := [.int 2, .int 0, .int 6]) (rest2 := []) (st3 := [.int 1]) rfl rfl rfl rfl rfl (cx_8p (by decide)) rfl ?_
  refine sx_RP.step (pc2 := 15) (ls2 := [(2, .int 2), (0, .ref 0), (1, .int (-1000000003))]) (st2 := []) (w3 := w) rfl rfl ?_
  refine sx_RP.step (pc2 := 16) (ls2 := [(2, .int 2), (0, .ref 0), (1, .int (-1000000003))]) (st2 := [.ref 0]) (w3 := w) rfl rfl ?_
  refine sx_RP.gf (v := .ref 99) rfl rfl hI.1.o0 rfl rfl (show _ = 19 from rfl) ?_
  refine sx_RP.step (pc2 := 20) (ls2 := [(2, .int 2), (0, .ref 0), (1, .int (-1000000003))]) (st2 := [.int 2, .ref 99]) (w3 := w) rfl rfl ?_
  refine sx_RP.step (pc2 := 21) (ls2 := [(2, .int 2), (0, .ref 0), (1, .int (-1000000003))]) (st2 := [.int 2, .ref 99, .int 2, .ref 99]) (w3 := w) rfl rfl ?_
  refine sx_RP.ild (c := 2) rfl hI.1.a99.1 hI.1.a99.2 (sx_in_nI (show 2 < 7 by omega) (by decide)) (show (nI 2).toNatClampNeg = 2 from nI_clamp (by omega)) (show _ = 22 from rfl) ?_
  refine sx_RP.step (pc2 := 23) (ls2 := [(2, .int 2), (0, .ref 0), (1, .int (-1000000003))]) (st2 := [.int 1, .int ((ia w 99).getD 2 0), .int 2, .ref 99]) (w3 := w) rfl rfl ?_
  refine sx_RP.step (pc2 := 24) (ls2 := [(2, .int 2), (0, .ref 0), (1, .int (-1000000003))]) (st2 := [.int (((ia w 99).getD 2 0) + 1), .int 2, .ref 99]) (w3 := w) rfl rfl ?_
  refine sx_RP.stF hI hE rfl hI.1.a99 (sx_in_nI (show 2 < 7 by omega) (by decide)) (by omega) (show _ = 25 from rfl) (fun w1 hI2 hE3 => ?_)
  refine sx_RP.step (pc2 := 26) (ls2 := [(2, .int 2), (0, .ref 0), (1, .int (-1000000003))]) (st2 := [.int (-1000000003)]) (w3 := w1) rfl rfl ?_
  refine sx_RP.ret (r := (some (.int (-1000000003)))) rfl rfl ?_
  exact ⟨rfl, hI2, hE3⟩
set_option maxRecDepth 20000 in
set_option maxHeartbeats 4000000 in
theorem s9_3 {xs : Option (List Int32)} {d : Nat} {w : List sx_C} (hI : WI w) : sx_RP xs (d + 1) 9 0 (lv_args 0 [.ref 0, .int (-1000000004)]) [] w (fun r w2 => (r = some (.int (-1000000004))) ∧ WI w2 ∧ EC w w2) := by
  have hE : EC w w := EC.rf
  refine sx_RP.step (pc2 := 2) (ls2 := [(0, .ref 0), (1, .int (-1000000004))]) (st2 := [.int (-1000000001)]) (w3 := w) rfl rfl ?_
  refine sx_RP.step (pc2 := 3) (ls2 := [(0, .ref 0), (1, .int (-1000000004))]) (st2 := [.int (-1000000004), .int (-1000000001)]) (w3 := w) rfl rfl ?_
  refine sx_RP.step (pc2 := 4) (ls2 := [(0, .ref 0), (1, .int (-1000000004))]) (st2 := [.int 3]) (w3 := w) rfl rfl ?_
  refine sx_RP.step (pc2 := 5) (ls2 := [(2, .int 3), (0, .ref 0), (1, .int (-1000000004))]) (st2 := []) (w3 := w) rfl rfl ?_
  refine sx_RP.step (pc2 := 6) (ls2 := [(2, .int 3), (0, .ref 0), (1, .int (-1000000004))]) (st2 := [.int 3]) (w3 := w) rfl rfl ?_
  refine sx_RP.step (pc2 := 7) (ls2 := [(2, .int 3), (0, .ref 0), (1, .int (-1000000004))]) (st2 := [.int 0, .int 3]) (w3 := w) rfl rfl ?_
  refine sx_RP.step (pc2 := 9) (ls2 := [(2, .int 3), (0, .ref 0), (1, .int (-1000000004))]) (st2 := [.int 6, .int 0, .int 3]) (w3 := w) rfl rfl ?_
  refine sx_RP.cu (as := [.int 3, .int 0, .int 6]) (rest2 := []) (st3 := [.int 1]) rfl rfl rfl rfl rfl (cx_8p (by decide)) rfl ?_
  refine sx_RP.step (pc2 := 15) (ls2 := [(2, .int 3), (0, .ref 0), (1, .int (-1000000004))]) (st2 := []) (w3 := w) rfl rfl ?_
  refine sx_RP.step (pc2 := 16) (ls2 := [(2, .int 3), (0, .ref 0), (1, .int (-1000000004))]) (st2 := [.ref 0]) (w3 := w) rfl rfl ?_
  refine sx_RP.gf (v := .ref 99) rfl rfl hI.1.o0 rfl rfl (show _ = 19 from rfl) ?_
  refine sx_RP.step (pc2 := 20) (ls2 := [(2, .int 3), (0, .ref 0), (1, .int (-1000000004))]) (st2 := [.int 3, .ref 99]) (w3 := w) rfl rfl ?_
  refine sx_RP.step (pc2 := 21) (ls2 := [(2, .int 3), (0, .ref 0), (1, .int (-1000000004))]) (st2 := [.int 3, .ref 99, .int 3, .ref 99]) (w3 := w) rfl rfl ?_
  refine sx_RP.ild (c := 3) rfl hI.1.a99.1 hI.1.a99.2 (sx_in_nI (show 3 < 7 by omega) (by decide)) (show (nI 3).toNatClampNeg = 3 from nI_clamp (by omega)) (show _ = 22 from rfl) ?_
  refine sx_RP.step (pc2 := 23) (ls2 := [(2, .int 3), (0, .ref 0), (1, .int (-1000000004))]) (st2 := [.int 1, .int ((ia w 99).getD 3 0), .int 3, .ref 99]) (w3 := w) rfl rfl ?_
  refine sx_RP.step (pc2 := 24) (ls2 := [(2, .int 3), (0, .ref 0), (1, .int (-1000000004))]) (st2 := [.int (((ia w 99).getD 3 0) + 1), .int 3, .ref 99]) (w3 := w) rfl rfl ?_
  refine sx_RP.stF hI hE rfl hI.1.a99 (sx_in_nI (show 3 < 7 by omega) (by decide)) (by omega) (show _ = 25 from rfl) (fun w1 hI2 hE3 => ?_)
  refine sx_RP.step (pc2 := 26) (ls2 := [(2, .int 3), (0, .ref 0), (1, .int (-1000000004))]) (st2 := [.int (-1000000004)]) (w3 := w1) rfl rfl ?_
  refine sx_RP.ret (r := (some (.int (-1000000004)))) rfl rfl ?_
  exact ⟨rfl, hI2, hE3⟩
set_option maxRecDepth 20000 in
set_option maxHeartbeats 4000000 in
theorem s9_4 {xs : Option (List Int32)} {d : Nat} {w : List sx_C} (hI : WI w) : sx_RP xs (d + 1) 9 0 (lv_args 0 [.ref 0, .int (-1000000005)]) [] w (fun r w2 => (r = some (.int (-1000000005))) ∧ WI w2 ∧ EC w w2) := by
  have hE : EC w w := EC.rf
  refine sx_RP.step (pc2 := 2) (ls2 := [(0, .ref 0), (1, .int (-1000000005))]) (st2 := [.int (-1000000001)]) (w3 := w) rfl rfl ?_
  refine sx_RP.step (pc2 := 3) (ls2 := [(0, .ref 0), (1, .int (-1000000005))]) (st2 := [.int (-1000000005), .int (-1000000001)]) (w3 := w) rfl rfl ?_
  refine sx_RP.step (pc2 := 4) (ls2 := [(0, .ref 0), (1, .int (-1000000005))]) (st2 := [.int 4]) (w3 := w) rfl rfl ?_
  refine sx_RP.step (pc2 := 5) (ls2 := [(2, .int 4), (0, .ref 0), (1, .int (-1000000005))]) (st2 := []) (w3 := w) rfl rfl ?_
  refine sx_RP.step (pc2 := 6) (ls2 := [(2, .int 4), (0, .ref 0), (1, .int (-1000000005))]) (st2 := [.int 4]) (w3 := w) rfl rfl ?_
  refine sx_RP.step (pc2 := 7) (ls2 := [(2, .int 4), (0, .ref 0), (1, .int (-1000000005))]) (st2 := [.int 0, .int 4]) (w3 := w) rfl rfl ?_
  refine sx_RP.step (pc2 := 9) (ls2 := [(2, .int 4), (0, .ref 0), (1, .int (-1000000005))]) (st2 := [.int 6, .int 0, .int 4]) (w3 := w) rfl rfl ?_
  refine sx_RP.cu (as := [.int 4, .int 0, .int 6]) (rest2 := []) (st3 := [.int 1]) rfl rfl rfl rfl rfl (cx_8p (by decide)) rfl ?_
  refine sx_RP.step (pc2 := 15) (ls2 := [(2, .int 4), (0, .ref 0), (1, .int (-1000000005))]) (st2 := []) (w3 := w) rfl rfl ?_
  refine sx_RP.step (pc2 := 16) (ls2 := [(2, .int 4), (0, .ref 0), (1, .int (-1000000005))]) (st2 := [.ref 0]) (w3 := w) rfl rfl ?_
  refine sx_RP.gf (v := .ref 99) rfl rfl hI.1.o0 rfl rfl (show _ = 19 from rfl) ?_
  refine sx_RP.step (pc2 := 20) (ls2 := [(2, .int 4), (0, .ref 0), (1, .int (-1000000005))]) (st2 := [.int 4, .ref 99]) (w3 := w) rfl rfl ?_
  refine sx_RP.step (pc2 := 21) (ls2 := [(2, .int 4), (0, .ref 0), (1, .int (-1000000005))]) (st2 := [.int 4, .ref 99, .int 4, .ref 99]) (w3 := w) rfl rfl ?_
  refine sx_RP.ild (c := 4) rfl hI.1.a99.1 hI.1.a99.2 (sx_in_nI (show 4 < 7 by omega) (by decide)) (show (nI 4).toNatClampNeg = 4 from nI_clamp (by omega)) (show _ = 22 from rfl) ?_
  refine sx_RP.step (pc2 := 23) (ls2 := [(2, .int 4), (0, .ref 0), (1, .int (-1000000005))]) (st2 := [.int 1, .int ((ia w 99).getD 4 0), .int 4, .ref 99]) (w3 := w) rfl rfl ?_
  refine sx_RP.step (pc2 := 24) (ls2 := [(2, .int 4), (0, .ref 0), (1, .int (-1000000005))]) (st2 := [.int (((ia w 99).getD 4 0) + 1), .int 4, .ref 99]) (w3 := w) rfl rfl ?_
  refine sx_RP.stF hI hE rfl hI.1.a99 (sx_in_nI (show 4 < 7 by omega) (by decide)) (by omega) (show _ = 25 from rfl) (fun w1 hI2 hE3 => ?_)
  refine sx_RP.step (pc2 := 26) (ls2 := [(2, .int 4), (0, .ref 0), (1, .int (-1000000005))]) (st2 := [.int (-1000000005)]) (w3 := w1) rfl rfl ?_
  refine sx_RP.ret (r := (some (.int (-1000000005)))) rfl rfl ?_
  exact ⟨rfl, hI2, hE3⟩
set_option maxRecDepth 20000 in
set_option maxHeartbeats 4000000 in
theorem s9_5 {xs : Option (List Int32)} {d : Nat} {w : List sx_C} (hI : WI w) : sx_RP xs (d + 1) 9 0 (lv_args 0 [.ref 0, .int (-1000000006)]) [] w (fun r w2 => (r = some (.int (-1000000006))) ∧ WI w2 ∧ EC w w2) := by
  have hE : EC w w := EC.rf
  refine sx_RP.step (pc2 := 2) (ls2 := [(0, .ref 0), (1, .int (-1000000006))]) (st2 := [.int (-1000000001)]) (w3 := w) rfl rfl ?_
  refine sx_RP.step (pc2 := 3) (ls2 := [(0, .ref 0), (1, .int (-1000000006))]) (st2 := [.int (-1000000006), .int (-1000000001)]) (w3 := w) rfl rfl ?_
  refine sx_RP.step (pc2 := 4) (ls2 := [(0, .ref 0), (1, .int (-1000000006))]) (st2 := [.int 5]) (w3 := w) rfl rfl ?_
  refine sx_RP.step (pc2 := 5) (ls2 := [(2, .int 5), (0, .ref 0), (1, .int (-1000000006))]) (st2 := []) (w3 := w) rfl rfl ?_
  refine sx_RP.step (pc2 := 6) (ls2 := [(2, .int 5), (0, .ref 0), (1, .int (-1000000006))]) (st2 := [.int 5]) (w3 := w) rfl rfl ?_
  refine sx_RP.step (pc2 := 7) (ls2 := [(2, .int 5), (0, .ref 0), (1, .int (-1000000006))]) (st2 := [.int 0, .int 5]) (w3 := w) rfl rfl ?_
  refine sx_RP.step (pc2 := 9) (ls2 := [(2, .int 5), (0, .ref 0), (1, .int (-1000000006))]) (st2 := [.int 6, .int 0, .int 5]) (w3 := w) rfl rfl ?_
  refine sx_RP.cu (as := [.int 5, .int 0, .int 6]) (rest2 := []) (st3 := [.int 1]) rfl rfl rfl rfl rfl (cx_8p (by decide)) rfl ?_
  refine sx_RP.step (pc2 := 15) (ls2 := [(2, .int 5), (0, .ref 0), (1, .int (-1000000006))]) (st2 := []) (w3 := w) rfl rfl ?_
  refine sx_RP.step (pc2 := 16) (ls2 := [(2, .int 5), (0, .ref 0), (1, .int (-1000000006))]) (st2 := [.ref 0]) (w3 := w) rfl rfl ?_
  refine sx_RP.gf (v := .ref 99) rfl rfl hI.1.o0 rfl rfl (show _ = 19 from rfl) ?_
  refine sx_RP.step (pc2 := 20) (ls2 := [(2, .int 5), (0, .ref 0), (1, .int (-1000000006))]) (st2 := [.int 5, .ref 99]) (w3 := w) rfl rfl ?_
  refine sx_RP.step (pc2 := 21) (ls2 := [(2, .int 5), (0, .ref 0), (1, .int (-1000000006))]) (st2 := [.int 5, .ref 99, .int 5, .ref 99]) (w3 := w) rfl rfl ?_
  refine sx_RP.ild (c := 5) rfl hI.1.a99.1 hI.1.a99.2 (sx_in_nI (show 5 < 7 by omega) (by decide)) (show (nI 5).toNatClampNeg = 5 from nI_clamp (by omega)) (show _ = 22 from rfl) ?_
  refine sx_RP.step (pc2 := 23) (ls2 := [(2, .int 5), (0, .ref 0), (1, .int (-1000000006))]) (st2 := [.int 1, .int ((ia w 99).getD 5 0), .int 5, .ref 99]) (w3 := w) rfl rfl ?_
  refine sx_RP.step (pc2 := 24) (ls2 := [(2, .int 5), (0, .ref 0), (1, .int (-1000000006))]) (st2 := [.int (((ia w 99).getD 5 0) + 1), .int 5, .ref 99]) (w3 := w) rfl rfl ?_
  refine sx_RP.stF hI hE rfl hI.1.a99 (sx_in_nI (show 5 < 7 by omega) (by decide)) (by omega) (show _ = 25 from rfl) (fun w1 hI2 hE3 => ?_)
  refine sx_RP.step (pc2 := 26) (ls2 := [(2, .int 5), (0, .ref 0), (1, .int (-1000000006))]) (st2 := [.int (-1000000006)]) (w3 := w1) rfl rfl ?_
  refine sx_RP.ret (r := (some (.int (-1000000006)))) rfl rfl ?_
  exact ⟨rfl, hI2, hE3⟩
set_option maxRecDepth 20000 in
set_option maxHeartbeats 4000000 in
theorem s9_6 {xs : Option (List Int32)} {d : Nat} {w : List sx_C} (hI : WI w) : sx_RP xs (d + 1) 9 0 (lv_args 0 [.ref 0, .int (-1000000007)]) [] w (fun r w2 => (r = some (.int (-1000000007))) ∧ WI w2 ∧ EC w w2) := by
  have hE : EC w w := EC.rf
  refine sx_RP.step (pc2 := 2) (ls2 := [(0, .ref 0), (1, .int (-1000000007))]) (st2 := [.int (-1000000001)]) (w3 := w) rfl rfl ?_
  refine sx_RP.step (pc2 := 3) (ls2 := [(0, .ref 0), (1, .int (-1000000007))]) (st2 := [.int (-1000000007), .int (-1000000001)]) (w3 := w) rfl rfl ?_
  refine sx_RP.step (pc2 := 4) (ls2 := [(0, .ref 0), (1, .int (-1000000007))]) (st2 := [.int 6]) (w3 := w) rfl rfl ?_
  refine sx_RP.step (pc2 := 5) (ls2 := [(2, .int 6), (0, .ref 0), (1, .int (-1000000007))]) (st2 := []) (w3 := w) rfl rfl ?_
  refine sx_RP.step (pc2 := 6) (ls2 := [(2, .int 6), (0, .ref 0), (1, .int (-1000000007))]) (st2 := [.int 6]) (w3 := w) rfl rfl ?_
  refine sx_RP.step (pc2 := 7) (ls2 := [(2, .int 6), (0, .ref 0), (1, .int (-1000000007))]) (st2 := [.int 0, .int 6]) (w3 := w) rfl rfl ?_
  refine sx_RP.step (pc2 := 9) (ls2 := [(2, .int 6), (0, .ref 0), (1, .int (-1000000007))]) (st2 := [.int 6, .int 0, .int 6]) (w3 := w) rfl rfl ?_
  refine sx_RP.cu (as := [.int 6, .int 0, .int 6]) (rest2 := []) (st3 := [.int 1]) rfl rfl rfl rfl rfl (cx_8p (by decide)) rfl ?_
  refine sx_RP.step (pc2 := 15) (ls2 := [(2, .int 6), (0, .ref 0), (1, .int (-1000000007))]) (st2 := []) (w3 := w) rfl rfl ?_
  refine sx_RP.step (pc2 := 16) (ls2 := [(2, .int 6), (0, .ref 0), (1, .int (-1000000007))]) (st2 := [.ref 0]) (w3 := w) rfl rfl ?_
  refine sx_RP.gf (v := .ref 99) rfl rfl hI.1.o0 rfl rfl (show _ = 19 from rfl) ?_
  refine sx_RP.step (pc2 := 20) (ls2 := [(2, .int 6), (0, .ref 0), (1, .int (-1000000007))]) (st2 := [.int 6, .ref 99]) (w3 := w) rfl rfl ?_
  refine sx_RP.step (pc2 := 21) (ls2 := [(2, .int 6), (0, .ref 0), (1, .int (-1000000007))]) (st2 := [.int 6, .ref 99, .int 6, .ref 99]) (w3 := w) rfl rfl ?_
  refine sx_RP.ild (c := 6) rfl hI.1.a99.1 hI.1.a99.2 (sx_in_nI (show 6 < 7 by omega) (by decide)) (show (nI 6).toNatClampNeg = 6 from nI_clamp (by omega)) (show _ = 22 from rfl) ?_
  refine sx_RP.step (pc2 := 23) (ls2 := [(2, .int 6), (0, .ref 0), (1, .int (-1000000007))]) (st2 := [.int 1, .int ((ia w 99).getD 6 0), .int 6, .ref 99]) (w3 := w) rfl rfl ?_
  refine sx_RP.step (pc2 := 24) (ls2 := [(2, .int 6), (0, .ref 0), (1, .int (-1000000007))]) (st2 := [.int (((ia w 99).getD 6 0) + 1), .int 6, .ref 99]) (w3 := w) rfl rfl ?_
  refine sx_RP.stF hI hE rfl hI.1.a99 (sx_in_nI (show 6 < 7 by omega) (by decide)) (by omega) (show _ = 25 from rfl) (fun w1 hI2 hE3 => ?_)
  refine sx_RP.step (pc2 := 26) (ls2 := [(2, .int 6), (0, .ref 0), (1, .int (-1000000007))]) (st2 := [.int (-1000000007)]) (w3 := w1) rfl rfl ?_
  refine sx_RP.ret (r := (some (.int (-1000000007)))) rfl rfl ?_
  exact ⟨rfl, hI2, hE3⟩
set_option maxRecDepth 20000 in
set_option maxHeartbeats 4000000 in
theorem s51 {xs : Option (List Int32)} {d : Nat} {w : List sx_C} (hI : WI w) {ga gb : Nat} (hg : gAd ga) (hb : gAd gb) : sx_RP xs d 51 0 (lv_args 0 [.ref ga, .ref gb]) [] w (fun r w2 => (r = none) ∧ WI w2 ∧ EC w w2) := by
  have hE : EC w w := EC.rf
  refine sx_RP.step (pc2 := 1) (ls2 := [(0, .ref ga), (1, .ref gb)]) (st2 := [.ref ga]) (w3 := w) rfl rfl ?_
  refine sx_RP.step (pc2 := 2) (ls2 := [(0, .ref ga), (1, .ref gb)]) (st2 := [.ref gb, .ref ga]) (w3 := w) rfl rfl ?_
  refine sx_RP.gg (k := 0) hI hb rfl rfl (by decide) (show _ = 5 from rfl) ?_
  obtain ⟨x1, hx2, ex3⟩ : inR (fi w gb 0) 5 := hI.gk (k := 0) hb (by decide)
  rw [ex3]
  refine sx_RP.pg (k := 0) hI hE hg rfl rfl (by decide) rfl (inR.n (show x1 ≤ 5 by omega)) (show _ = 8 from rfl) (fun w4 hI5 hE6 hk7 => ?_)
  refine sx_RP.step (pc2 := 9) (ls2 := [(0, .ref ga), (1, .ref gb)]) (st2 := [.ref ga]) (w3 := w4) rfl rfl ?_
  refine sx_RP.step (pc2 := 10) (ls2 := [(0, .ref ga), (1, .ref gb)]) (st2 := [.ref gb, .ref ga]) (w3 := w4) rfl rfl ?_
  refine sx_RP.gg (k := 1) hI5 hb rfl rfl (by decide) (show _ = 13 from rfl) ?_
  obtain ⟨x8, hx9, ex10⟩ : inR (fi w4 gb 1) 1 := hI5.gk (k := 1) hb (by decide)
  rw [ex10]
  refine sx_RP.pg (k := 1) hI5 hE6 hg rfl rfl (by decide) rfl (inR.n (show x8 ≤ 1 by omega)) (show _ = 16 from rfl) (fun w11 hI12 hE13 hk14 => ?_)
  refine sx_RP.step (pc2 := 17) (ls2 := [(0, .ref ga), (1, .ref gb)]) (st2 := [.ref ga]) (w3 := w11) rfl rfl ?_
  refine sx_RP.step (pc2 := 18) (ls2 := [(0, .ref ga), (1, .ref gb)]) (st2 := [.ref gb, .ref ga]) (w3 := w11) rfl rfl ?_
  refine sx_RP.gg (k := 2) hI12 hb rfl rfl (by decide) (show _ = 21 from rfl) ?_
  obtain ⟨x15, hx16, ex17⟩ : inR (fi w11 gb 2) 47 := hI12.gk (k := 2) hb (by decide)
  rw [ex17]
  refine sx_RP.pg (k := 2) hI12 hE13 hg rfl rfl (by decide) rfl (inR.n (show x15 ≤ 47 by omega)) (show _ = 24 from rfl) (fun w18 hI19 hE20 hk21 => ?_)
  refine sx_RP.step (pc2 := 25) (ls2 := [(0, .ref ga), (1, .ref gb)]) (st2 := [.ref ga]) (w3 := w18) rfl rfl ?_
  refine sx_RP.step (pc2 := 26) (ls2 := [(0, .ref ga), (1, .ref gb)]) (st2 := [.ref gb, .ref ga]) (w3 := w18) rfl rfl ?_
  refine sx_RP.gg (k := 3) hI19 hb rfl rfl (by decide) (show _ = 29 from rfl) ?_
  obtain ⟨x22, hx23, ex24⟩ : inR (fi w18 gb 3) 3 := hI19.gk (k := 3) hb (by decide)
  rw [ex24]
  refine sx_RP.pg (k := 3) hI19 hE20 hg rfl rfl (by decide) rfl (inR.n (show x22 ≤ 3 by omega)) (show _ = 32 from rfl) (fun w25 hI26 hE27 hk28 => ?_)
  refine sx_RP.step (pc2 := 33) (ls2 := [(0, .ref ga), (1, .ref gb)]) (st2 := [.ref ga]) (w3 := w25) rfl rfl ?_
  refine sx_RP.step (pc2 := 34) (ls2 := [(0, .ref ga), (1, .ref gb)]) (st2 := [.ref gb, .ref ga]) (w3 := w25) rfl rfl ?_
  refine sx_RP.gg (k := 4) hI26 hb rfl rfl (by decide) (show _ = 37 from rfl) ?_
  refine sx_RP.pg (k := 4) hI26 hE27 hg rfl rfl (by decide) rfl trivial (show _ = 40 from rfl) (fun w29 hI30 hE31 hk32 => ?_)
  refine sx_RP.step (pc2 := 41) (ls2 := [(0, .ref ga), (1, .ref gb)]) (st2 := [.ref ga]) (w3 := w29) rfl rfl ?_
  refine sx_RP.step (pc2 := 42) (ls2 := [(0, .ref ga), (1, .ref gb)]) (st2 := [.ref gb, .ref ga]) (w3 := w29) rfl rfl ?_
  refine sx_RP.gg (k := 5) hI30 hb rfl rfl (by decide) (show _ = 45 from rfl) ?_
  obtain ⟨x33, hx34, ex35⟩ : inR (fi w29 gb 5) 1 := hI30.gk (k := 5) hb (by decide)
  rw [ex35]
  refine sx_RP.pg (k := 5) hI30 hE31 hg rfl rfl (by decide) rfl (inR.n (show x33 ≤ 1 by omega)) (show _ = 48 from rfl) (fun w36 hI37 hE38 hk39 => ?_)
  refine sx_RP.ret (r := none) rfl rfl ?_
  exact ⟨rfl, hI37, hE38⟩
set_option maxRecDepth 20000 in
set_option maxHeartbeats 4000000 in
theorem s44 {xs : Option (List Int32)} {d : Nat} {w : List sx_C} (hI : WI w) {A : Nat} (hA : isA A) {ga : Nat} (hg : gAd ga) : sx_RP xs (d + 4) 44 0 (lv_args 0 [.ref A, .ref ga]) [] w (fun r w2 => (r = none) ∧ WI w2 ∧ EC w w2) := by
  have hE : EC w w := EC.rf
  refine sx_RP.step (pc2 := 1) (ls2 := [(0, .ref A), (1, .ref ga)]) (st2 := [.ref ga]) (w3 := w) rfl rfl ?_
  refine sx_RP.gg (k := 2) hI hg rfl rfl (by decide) (show _ = 4 from rfl) ?_
  obtain ⟨x1, hx2, ex3⟩ : inR (fi w ga 2) 47 := hI.gk (k := 2) hg (by decide)
  rw [ex3]
  refine sx_RP.step (pc2 := 5) (ls2 := [(0, .ref A), (1, .ref ga)]) (st2 := [.ref ga, .int (nI x1)]) (w3 := w) rfl rfl ?_
  refine sx_RP.gg (k := 3) hI hg rfl rfl (by decide) (show _ = 8 from rfl) ?_
  obtain ⟨x4, hx5, ex6⟩ : inR (fi w ga 3) 3 := hI.gk (k := 3) hg (by decide)
  rw [ex6]
  rcases bes_cases (c := x1) (j := x4) (by omega) (by omega) with q7 | ⟨x8, hx9, q7⟩
  · refine sx_RP.cu (as := [.int (nI x1), .int (nI x4)]) (rest2 := []) (st3 := [.int (-1)]) rfl rfl rfl rfl rfl (cb_20e (by omega) (by omega) q7) rfl ?_
    refine sx_RP.step (pc2 := 12) (ls2 := [(2, .int (-1)), (0, .ref A), (1, .ref ga)]) (st2 := []) (w3 := w) rfl rfl ?_
    refine sx_RP.step (pc2 := 13) (ls2 := [(2, .int (-1)), (0, .ref A), (1, .ref ga)]) (st2 := [.int (-1)]) (w3 := w) rfl rfl ?_
    refine sx_RP.step (pc2 := 14) (ls2 := [(2, .int (-1)), (0, .ref A), (1, .ref ga)]) (st2 := [.int (-1), .int (-1)]) (w3 := w) rfl rfl ?_
    refine sx_RP.step (pc2 := 17) (ls2 := [(2, .int (-1)), (0, .ref A), (1, .ref ga)]) (st2 := []) (w3 := w) rfl rfl ?_
    refine sx_RP.ret (r := none) rfl rfl ?_
    exact ⟨rfl, hI, hE⟩
  · refine sx_RP.cu (as := [.int (nI x1), .int (nI x4)]) (rest2 := []) (st3 := [.int (nI x8)]) rfl rfl rfl rfl rfl (cb_20e (by omega) (by omega) q7) rfl ?_
    refine sx_RP.step (pc2 := 12) (ls2 := [(2, .int (nI x8)), (0, .ref A), (1, .ref ga)]) (st2 := []) (w3 := w) rfl rfl ?_
    refine sx_RP.step (pc2 := 13) (ls2 := [(2, .int (nI x8)), (0, .ref A), (1, .ref ga)]) (st2 := [.int (nI x8)]) (w3 := w) rfl rfl ?_
    refine sx_RP.step (pc2 := 14) (ls2 := [(2, .int (nI x8)), (0, .ref A), (1, .ref ga)]) (st2 := [.int (-1), .int (nI x8)]) (w3 := w) rfl rfl ?_
    refine sx_RP.br (p1 := 18) (l1 := [(2, .int (nI x8)), (0, .ref A), (1, .ref ga)]) (s1 := []) (v1 := w) rfl rfl (fun _ => ?_) (fun q => absurd (nI_ne1 (by omega)) (of_decide_eq_false q))
    refine sx_RP.step (pc2 := 19) (ls2 := [(2, .int (nI x8)), (0, .ref A), (1, .ref ga)]) (st2 := [.ref A]) (w3 := w) rfl rfl ?_
    refine sx_RP.gref (k := 0) (b := A + 1) hI hA rfl rfl (by omega) (show _ = 22 from rfl) ?_
    refine sx_RP.step (pc2 := 23) (ls2 := [(2, .int (nI x8)), (0, .ref A), (1, .ref ga)]) (st2 := [.int (nI x8), .ref (A + 1)]) (w3 := w) rfl rfl ?_
    refine sx_RP.ild (c := x8) rfl (hI.1.aS hA).1 (hI.1.aS hA).2 (sx_in_nI (show x8 < 48 by omega) (by decide)) (show (nI x8).toNatClampNeg = x8 from nI_clamp (by omega)) (show _ = 24 from rfl) ?_
    obtain ⟨x10, hx11, ex12⟩ : inR ((ia w (A + 1)).getD x8 0) 3 := hI.st hA (show x8 < 48 by omega)
    rw [ex12]
    refine sx_RP.step (pc2 := 25) (ls2 := [(2, .int (nI x8)), (0, .ref A), (1, .ref ga)]) (st2 := [.int 3, .int (nI x10)]) (w3 := w) rfl rfl ?_
    refine sx_RP.br (p1 := 34) (l1 := [(2, .int (nI x8)), (0, .ref A), (1, .ref ga)]) (s1 := []) (v1 := w) (p2 := 28) (l2 := [(2, .int (nI x8)), (0, .ref A), (1, .ref ga)]) (s2 := []) (v2 := w) rfl rfl (fun q13 => ?_) (fun q13 => ?_)
    · replace q13 := of_decide_eq_true q13
      replace q13 := mt (nI_eq (a := x10) (b := 3) (by omega) (by omega)).mpr q13
      refine sx_RP.step (pc2 := 35) (ls2 := [(2, .int (nI x8)), (0, .ref A), (1, .ref ga)]) (st2 := [.ref ga]) (w3 := w) rfl rfl ?_
      refine sx_RP.step (pc2 := 36) (ls2 := [(2, .int (nI x8)), (0, .ref A), (1, .ref ga)]) (st2 := [.ref ga, .ref ga]) (w3 := w) rfl rfl ?_
      refine sx_RP.gg (k := 4) hI hg rfl rfl (by decide) (show _ = 39 from rfl) ?_
      refine sx_RP.step (pc2 := 40) (ls2 := [(2, .int (nI x8)), (0, .ref A), (1, .ref ga)]) (st2 := [.int 1, .int (fi w ga 4), .ref ga]) (w3 := w) rfl rfl ?_
      refine sx_RP.step (pc2 := 41) (ls2 := [(2, .int (nI x8)), (0, .ref A), (1, .ref ga)]) (st2 := [.int ((fi w ga 4) + 1), .ref ga]) (w3 := w) rfl rfl ?_
      refine sx_RP.pg (k := 4) hI hE hg rfl rfl (by decide) rfl trivial (show _ = 44 from rfl) (fun w14 hI15 hE16 hk17 => ?_)
      refine sx_RP.step (pc2 := 45) (ls2 := [(2, .int (nI x8)), (0, .ref A), (1, .ref ga)]) (st2 := [.ref ga]) (w3 := w14) rfl rfl ?_
      refine sx_RP.gg (k := 4) hI15 hg rfl rfl (by decide) (show _ = 48 from rfl) ?_
      refine sx_RP.step (pc2 := 49) (ls2 := [(2, .int (nI x8)), (0, .ref A), (1, .ref ga)]) (st2 := [.ref A, .int (fi w14 ga 4)]) (w3 := w14) rfl rfl ?_
      refine sx_RP.step (pc2 := 50) (ls2 := [(2, .int (nI x8)), (0, .ref A), (1, .ref ga)]) (st2 := [.ref ga, .ref A, .int (fi w14 ga 4)]) (w3 := w14) rfl rfl ?_
      refine sx_RP.gg (k := 0) hI15 hg rfl rfl (by decide) (show _ = 53 from rfl) ?_
      obtain ⟨x18, hx19, ex20⟩ : inR (fi w14 ga 0) 5 := hI15.gk (k := 0) hg (by decide)
      rw [ex20]
      refine sx_RP.step (pc2 := 54) (ls2 := [(2, .int (nI x8)), (0, .ref A), (1, .ref ga)]) (st2 := [.int (nI x8), .int (nI x18), .ref A, .int (fi w14 ga 4)]) (w3 := w14) rfl rfl ?_
      obtain ⟨v21, c22⟩ := p33 hI15 hA (show x18 ≤ 5 by omega) (show x8 < 48 by omega)
      refine sx_RP.cu (as := [.ref A, .int (nI x18), .int (nI x8)]) (rest2 := [.int (fi w14 ga 4)]) (st3 := [.int v21, .int (fi w14 ga 4)]) rfl rfl (sx_inv_v2 (mi := 44) (k := 119) (st := [.int (nI x8), .int (nI x18), .ref A, .int (fi w14 ga 4)]) (w := w14) rfl rfl (hI15.1.oC hA) rfl rfl rfl) rfl rfl (c22) rfl ?_
      refine sx_RP.br (p1 := 91) (l1 := [(2, .int (nI x8)), (0, .ref A), (1, .ref ga)]) (s1 := []) (v1 := w14) (p2 := 60) (l2 := [(2, .int (nI x8)), (0, .ref A), (1, .ref ga)]) (s2 := []) (v2 := w14) rfl rfl (fun q23 => ?_) (fun q23 => ?_)
      · replace q23 := of_decide_eq_true q23
        refine sx_RP.ret (r := none) rfl rfl ?_
        exact ⟨rfl, hI15, hE16⟩
      · replace q23 := of_decide_eq_false q23
        refine sx_RP.step (pc2 := 61) (ls2 := [(2, .int (nI x8)), (0, .ref A), (1, .ref ga)]) (st2 := [.ref ga]) (w3 := w14) rfl rfl ?_
        refine sx_RP.step (pc2 := 62) (ls2 := [(2, .int (nI x8)), (0, .ref A), (1, .ref ga)]) (st2 := [.int (nI x8), .ref ga]) (w3 := w14) rfl rfl ?_
        refine sx_RP.pg (k := 2) hI15 hE16 hg rfl rfl (by decide) rfl (inR.n (show x8 ≤ 47 by omega)) (show _ = 65 from rfl) (fun w24 hI25 hE26 hk27 => ?_)
        refine sx_RP.step (pc2 := 66) (ls2 := [(2, .int (nI x8)), (0, .ref A), (1, .ref ga)]) (st2 := [.ref ga]) (w3 := w24) rfl rfl ?_
        refine sx_RP.step (pc2 := 67) (ls2 := [(2, .int (nI x8)), (0, .ref A), (1, .ref ga)]) (st2 := [.int 0, .ref ga]) (w3 := w24) rfl rfl ?_
        refine sx_RP.pg (k := 4) hI25 hE26 hg rfl rfl (by decide) rfl trivial (show _ = 70 from rfl) (fun w28 hI29 hE30 hk31 => ?_)
        refine sx_RP.step (pc2 := 71) (ls2 := [(2, .int (nI x8)), (0, .ref A), (1, .ref ga)]) (st2 := [.ref ga]) (w3 := w28) rfl rfl ?_
        refine sx_RP.step (pc2 := 72) (ls2 := [(2, .int (nI x8)), (0, .ref A), (1, .ref ga)]) (st2 := [.ref A, .ref ga]) (w3 := w28) rfl rfl ?_
        refine sx_RP.step (pc2 := 73) (ls2 := [(2, .int (nI x8)), (0, .ref A), (1, .ref ga)]) (st2 := [.ref ga, .ref A, .ref ga]) (w3 := w28) rfl rfl ?_
        refine sx_RP.gg (k := 0) hI29 hg rfl rfl (by decide) (show _ = 76 from rfl) ?_
        obtain ⟨x32, hx33, ex34⟩ : inR (fi w28 ga 0) 5 := hI29.gk (k := 0) hg (by decide)
        rw [ex34]
        refine sx_RP.step (pc2 := 77) (ls2 := [(2, .int (nI x8)), (0, .ref A), (1, .ref ga)]) (st2 := [.int (nI x8), .int (nI x32), .ref A, .ref ga]) (w3 := w28) rfl rfl ?_
        obtain ⟨x35, hx36, c37⟩ := p37 hI29 hA (show x32 ≤ 5 by omega) (show x8 < 48 by omega)
        refine sx_RP.cu (as := [.ref A, .int (nI x32), .int (nI x8)]) (rest2 := [.ref ga]) (st3 := [.int (nI x35), .ref ga]) rfl rfl (sx_inv_v2 (mi := 44) (k := 103) (st := [.int (nI x8), .int (nI x32), .ref A, .ref ga]) (w := w28) rfl rfl (hI29.1.oC hA) rfl rfl rfl) rfl rfl (c37) rfl ?_
        refine sx_RP.br (p1 := 87) (l1 := [(2, .int (nI x8)), (0, .ref A), (1, .ref ga)]) (s1 := [.ref ga]) (v1 := w28) (p2 := 83) (l2 := [(2, .int (nI x8)), (0, .ref A), (1, .ref ga)]) (s2 := [.ref ga]) (v2 := w28) rfl rfl (fun q38 => ?_) (fun q38 => ?_)
        · replace q38 := of_decide_eq_true q38
          replace q38 := mt (nI_eq (a := x35) (b := 0) (by omega) (by omega)).mpr q38
          refine sx_RP.step (pc2 := 88) (ls2 := [(2, .int (nI x8)), (0, .ref A), (1, .ref ga)]) (st2 := [.int 0, .ref ga]) (w3 := w28) rfl rfl ?_
          refine sx_RP.pg (k := 5) hI29 hE30 hg rfl rfl (by decide) rfl (show inR 0 1 from ⟨0, by decide, rfl⟩) (show _ = 91 from rfl) (fun w39 hI40 hE41 hk42 => ?_)
          refine sx_RP.ret (r := none) rfl rfl ?_
          exact ⟨rfl, hI40, hE41⟩
        · replace q38 := Decidable.not_not.mp (of_decide_eq_false q38)
          replace q38 := (nI_eq (a := x35) (b := 0) (by omega) (by omega)).mp q38
          refine sx_RP.step (pc2 := 84) (ls2 := [(2, .int (nI x8)), (0, .ref A), (1, .ref ga)]) (st2 := [.int 1, .ref ga]) (w3 := w28) rfl rfl ?_
          refine sx_RP.step (pc2 := 88) (ls2 := [(2, .int (nI x8)), (0, .ref A), (1, .ref ga)]) (st2 := [.int 1, .ref ga]) (w3 := w28) rfl rfl ?_
          refine sx_RP.pg (k := 5) hI29 hE30 hg rfl rfl (by decide) rfl (show inR 1 1 from ⟨1, by decide, rfl⟩) (show _ = 91 from rfl) (fun w43 hI44 hE45 hk46 => ?_)
          refine sx_RP.ret (r := none) rfl rfl ?_
          exact ⟨rfl, hI44, hE45⟩
    · replace q13 := Decidable.not_not.mp (of_decide_eq_false q13)
      replace q13 := (nI_eq (a := x10) (b := 3) (by omega) (by omega)).mp q13
      refine sx_RP.step (pc2 := 29) (ls2 := [(2, .int (nI x8)), (0, .ref A), (1, .ref ga)]) (st2 := [.ref ga]) (w3 := w) rfl rfl ?_
      refine sx_RP.step (pc2 := 30) (ls2 := [(2, .int (nI x8)), (0, .ref A), (1, .ref ga)]) (st2 := [.int 1, .ref ga]) (w3 := w) rfl rfl ?_
      refine sx_RP.pg (k := 5) hI hE hg rfl rfl (by decide) rfl (show inR 1 1 from ⟨1, by decide, rfl⟩) (show _ = 33 from rfl) (fun w47 hI48 hE49 hk50 => ?_)
      refine sx_RP.ret (r := none) rfl rfl ?_
      exact ⟨rfl, hI48, hE49⟩
set_option maxRecDepth 20000 in
set_option maxHeartbeats 4000000 in
theorem s50B {xs : Option (List Int32)} {d : Nat} {w w0 : List sx_C} {A B : Nat} (hA : isA A) (hB : isA B) (hI : WI w) (hE : EC w0 w) {j : Nat} (hj : j ≤ 10) (kk : ∀ (w4 : List sx_C), WI w4 → EC w0 w4 → j + 1 ≤ 10 → sx_RP xs (d + 1) 50 33 [(0, .ref A), (1, .ref B), (2, .int (nI (j + 1)))] [] w4 (fun r w2 => (r = none) ∧ WI w2 ∧ EC w0 w2)) : sx_RP xs (d + 1) 50 33 [(0, .ref A), (1, .ref B), (2, .int (nI j))] [] w (fun r w2 => (r = none) ∧ WI w2 ∧ EC w0 w2) := by
  refine sx_RP.step (pc2 := 34) (ls2 := [(0, .ref A), (1, .ref B), (2, .int (nI j))]) (st2 := [.int (nI j)]) (w3 := w) rfl rfl ?_
  refine sx_RP.step (pc2 := 35) (ls2 := [(0, .ref A), (1, .ref B), (2, .int (nI j))]) (st2 := [.ref A, .int (nI j)]) (w3 := w) rfl rfl ?_
  refine sx_RP.gc (k := 3) hI hA rfl rfl (by omega) (show _ = 38 from rfl) ?_
  obtain ⟨x1, hx2, ex3⟩ : inR (fi w A 3) 10 := (hI.c hA).1
  rw [ex3]
  refine sx_RP.br (p1 := 62) (l1 := [(0, .ref A), (1, .ref B), (2, .int (nI j))]) (s1 := []) (v1 := w) (p2 := 41) (l2 := [(0, .ref A), (1, .ref B), (2, .int (nI j))]) (s2 := []) (v2 := w) rfl rfl (fun q4 => ?_) (fun q4 => ?_)
  · replace q4 := of_decide_eq_true q4
    replace q4 := (nI_leI (a := x1) (b := j) (by omega) (by omega)).mp q4
    refine sx_RP.step (pc2 := 63) (ls2 := [(0, .ref A), (1, .ref B), (2, .int (nI j))]) (st2 := [.ref B]) (w3 := w) rfl rfl ?_
    refine sx_RP.gref (k := 4) (b := B + 3) hI hB rfl rfl (by omega) (show _ = 66 from rfl) ?_
    refine sx_RP.step (pc2 := 67) (ls2 := [(0, .ref A), (1, .ref B), (2, .int (nI j))]) (st2 := [.int 0, .ref (B + 3)]) (w3 := w) rfl rfl ?_
    refine sx_RP.step (pc2 := 68) (ls2 := [(0, .ref A), (1, .ref B), (2, .int (nI j))]) (st2 := [.ref A, .int 0, .ref (B + 3)]) (w3 := w) rfl rfl ?_
    refine sx_RP.gref (k := 4) (b := A + 3) hI hA rfl rfl (by omega) (show _ = 71 from rfl) ?_
    refine sx_RP.step (pc2 := 72) (ls2 := [(0, .ref A), (1, .ref B), (2, .int (nI j))]) (st2 := [.int 0, .ref (A + 3), .int 0, .ref (B + 3)]) (w3 := w) rfl rfl ?_
    refine sx_RP.step (pc2 := 74) (ls2 := [(0, .ref A), (1, .ref B), (2, .int (nI j))]) (st2 := [.int 9, .int 0, .ref (A + 3), .int 0, .ref (B + 3)]) (w3 := w) rfl rfl ?_
    refine sx_RP.acD hI hE hA hB rfl rfl rfl (show _ = 77 from rfl) (fun w5 hI6 hE7 => ?_)
    refine sx_RP.step (pc2 := 78) (ls2 := [(0, .ref A), (1, .ref B), (2, .int (nI j))]) (st2 := [.ref A]) (w3 := w5) rfl rfl ?_
    refine sx_RP.step (pc2 := 79) (ls2 := [(0, .ref A), (1, .ref B), (2, .int (nI j))]) (st2 := [.ref B, .ref A]) (w3 := w5) rfl rfl ?_
    refine sx_RP.gc (k := 5) hI6 hB rfl rfl (by omega) (show _ = 82 from rfl) ?_
    obtain ⟨x8, hx9, ex10⟩ : inR (fi w5 B 5) 9 := (hI6.c hB).2
    rw [ex10]
    refine sx_RP.putc (k := 5) hI6 hE7 hA rfl rfl (by omega) rfl (inR.n (show x8 ≤ 9 by omega)) (show _ = 85 from rfl) (fun w11 hI12 hE13 => ?_)
    refine sx_RP.step (pc2 := 86) (ls2 := [(0, .ref A), (1, .ref B), (2, .int (nI j))]) (st2 := [.ref A]) (w3 := w11) rfl rfl ?_
    refine sx_RP.step (pc2 := 87) (ls2 := [(0, .ref A), (1, .ref B), (2, .int (nI j))]) (st2 := [.ref B, .ref A]) (w3 := w11) rfl rfl ?_
    refine sx_RP.gc (k := 6) hI12 hB rfl rfl (by omega) (show _ = 90 from rfl) ?_
    refine sx_RP.putc (k := 6) hI12 hE13 hA rfl rfl (by omega) rfl trivial (show _ = 93 from rfl) (fun w14 hI15 hE16 => ?_)
    refine sx_RP.step (pc2 := 94) (ls2 := [(0, .ref A), (1, .ref B), (2, .int (nI j))]) (st2 := [.ref A]) (w3 := w14) rfl rfl ?_
    refine sx_RP.step (pc2 := 95) (ls2 := [(0, .ref A), (1, .ref B), (2, .int (nI j))]) (st2 := [.ref B, .ref A]) (w3 := w14) rfl rfl ?_
    refine sx_RP.gc (k := 7) hI15 hB rfl rfl (by omega) (show _ = 98 from rfl) ?_
    refine sx_RP.putc (k := 7) hI15 hE16 hA rfl rfl (by omega) rfl trivial (show _ = 101 from rfl) (fun w17 hI18 hE19 => ?_)
    refine sx_RP.step (pc2 := 102) (ls2 := [(0, .ref A), (1, .ref B), (2, .int (nI j))]) (st2 := [.ref A]) (w3 := w17) rfl rfl ?_
    refine sx_RP.step (pc2 := 103) (ls2 := [(0, .ref A), (1, .ref B), (2, .int (nI j))]) (st2 := [.ref B, .ref A]) (w3 := w17) rfl rfl ?_
    refine sx_RP.gc (k := 8) hI18 hB rfl rfl (by omega) (show _ = 106 from rfl) ?_
    refine sx_RP.putc (k := 8) hI18 hE19 hA rfl rfl (by omega) rfl trivial (show _ = 109 from rfl) (fun w20 hI21 hE22 => ?_)
    refine sx_RP.step (pc2 := 110) (ls2 := [(0, .ref A), (1, .ref B), (2, .int (nI j))]) (st2 := [.ref A]) (w3 := w20) rfl rfl ?_
    refine sx_RP.step (pc2 := 111) (ls2 := [(0, .ref A), (1, .ref B), (2, .int (nI j))]) (st2 := [.ref B, .ref A]) (w3 := w20) rfl rfl ?_
    refine sx_RP.gc (k := 9) hI21 hB rfl rfl (by omega) (show _ = 114 from rfl) ?_
    refine sx_RP.putc (k := 9) hI21 hE22 hA rfl rfl (by omega) rfl trivial (show _ = 117 from rfl) (fun w23 hI24 hE25 => ?_)
    refine sx_RP.step (pc2 := 118) (ls2 := [(0, .ref A), (1, .ref B), (2, .int (nI j))]) (st2 := [.ref A]) (w3 := w23) rfl rfl ?_
    refine sx_RP.step (pc2 := 119) (ls2 := [(0, .ref A), (1, .ref B), (2, .int (nI j))]) (st2 := [.ref B, .ref A]) (w3 := w23) rfl rfl ?_
    refine sx_RP.gc (k := 10) hI24 hB rfl rfl (by omega) (show _ = 122 from rfl) ?_
    refine sx_RP.putc (k := 10) hI24 hE25 hA rfl rfl (by omega) rfl trivial (show _ = 125 from rfl) (fun w26 hI27 hE28 => ?_)
    refine sx_RP.ret (r := none) rfl rfl ?_
    exact ⟨rfl, hI27, hE28⟩
  · replace q4 := of_decide_eq_false q4
    replace q4 := mt (nI_leI (a := x1) (b := j) (by omega) (by omega)).mpr q4
    refine sx_RP.step (pc2 := 42) (ls2 := [(0, .ref A), (1, .ref B), (2, .int (nI j))]) (st2 := [.ref A]) (w3 := w) rfl rfl ?_
    refine sx_RP.gref (k := 2) (b := A + 2) hI hA rfl rfl (by omega) (show _ = 45 from rfl) ?_
    refine sx_RP.step (pc2 := 46) (ls2 := [(0, .ref A), (1, .ref B), (2, .int (nI j))]) (st2 := [.int (nI j), .ref (A + 2)]) (w3 := w) rfl rfl ?_
    refine sx_RP.ald (v := .ref (A + 4 + j)) rfl (hI.1.aG hA) rfl (grA_at (show j < 10 by omega)) (show _ = 47 from rfl) ?_
    refine sx_RP.step (pc2 := 48) (ls2 := [(0, .ref A), (1, .ref B), (2, .int (nI j))]) (st2 := [.ref B, .ref (A + 4 + j)]) (w3 := w) rfl rfl ?_
    refine sx_RP.gref (k := 2) (b := B + 2) hI hB rfl rfl (by omega) (show _ = 51 from rfl) ?_
    refine sx_RP.step (pc2 := 52) (ls2 := [(0, .ref A), (1, .ref B), (2, .int (nI j))]) (st2 := [.int (nI j), .ref (B + 2), .ref (A + 4 + j)]) (w3 := w) rfl rfl ?_
    refine sx_RP.ald (v := .ref (B + 4 + j)) rfl (hI.1.aG hB) rfl (grA_at (show j < 10 by omega)) (show _ = 53 from rfl) ?_
    refine sx_RP.callp (as2 := [.ref (A + 4 + j), .ref (B + 4 + j)]) (rest2 := []) rfl rfl (sx_inv_v2 (mi := 50) (k := 59) (st := [.ref (B + 4 + j), .ref (A + 4 + j)]) (w := w) rfl rfl (hI.1.oG (gAd.of hA (show j < 10 by omega))) rfl rfl rfl) rfl rfl rfl (s51 hI (gAd.of hA (show j < 10 by omega)) (gAd.of hB (show j < 10 by omega))) (show _ = 56 from rfl) ?_
    rintro r4 w29 ⟨rfl, hI30, hE32⟩
    have hE31 := hE.tr hE32
    show sx_RP _ _ _ _ _ [] _ _
    refine sx_RP.step (pc2 := 59) (ls2 := [(2, .int ((nI j) + 1)), (0, .ref A), (1, .ref B)]) (st2 := []) (w3 := w29) rfl rfl ?_
    rw [nI_1 j]
    refine sx_RP.step (pc2 := 33) (ls2 := [(2, .int (nI (j + 1))), (0, .ref A), (1, .ref B)]) (st2 := []) (w3 := w29) rfl rfl ?_
    exact sx_RP.ls (sx_lr.cons rfl (sx_lr.cons rfl (sx_lr.cons rfl sx_lr.nil))) (kk w29 hI30 hE31 (by omega))
set_option maxRecDepth 20000 in
set_option maxHeartbeats 4000000 in
theorem s50L {xs : Option (List Int32)} {d : Nat} {w0 : List sx_C} {A B : Nat} (hA : isA A) (hB : isA B) : ∀ (fz j : Nat) (w : List sx_C) , 10 ≤ j + fz * 1 → j ≤ 10 → WI w → EC w0 w → sx_RP xs (d + 1) 50 33 [(0, .ref A), (1, .ref B), (2, .int (nI j))] [] w (fun r w2 => (r = none) ∧ WI w2 ∧ EC w0 w2)
  | 0, j, w, h, hj, hI, hE => s50B hA hB hI hE hj   (fun w4  hI4 hE4 hlt  => absurd hlt (by omega)) 
  | fz + 1, j, w, h, hj, hI, hE => s50B hA hB hI hE hj   (fun w4  hI4 hE4 hlt  => s50L hA hB  fz (j + 1) w4  (by omega) hlt hI4 hE4 ) 
set_option maxRecDepth 20000 in
set_option maxHeartbeats 4000000 in
theorem s50 {xs : Option (List Int32)} {d : Nat} {w : List sx_C} (hI : WI w) {A B : Nat} (hA : isA A) (hB : isA B) : sx_RP xs (d + 1) 50 0 (lv_args 0 [.ref A, .ref B]) [] w (fun r w2 => (r = none) ∧ WI w2 ∧ EC w w2) := by
  have hE : EC w w := EC.rf
  refine sx_RP.step (pc2 := 1) (ls2 := [(0, .ref A), (1, .ref B)]) (st2 := [.ref B]) (w3 := w) rfl rfl ?_
  refine sx_RP.gref (k := 0) (b := B + 1) hI hB rfl rfl (by omega) (show _ = 4 from rfl) ?_
  refine sx_RP.step (pc2 := 5) (ls2 := [(0, .ref A), (1, .ref B)]) (st2 := [.int 0, .ref (B + 1)]) (w3 := w) rfl rfl ?_
  refine sx_RP.step (pc2 := 6) (ls2 := [(0, .ref A), (1, .ref B)]) (st2 := [.ref A, .int 0, .ref (B + 1)]) (w3 := w) rfl rfl ?_
  refine sx_RP.gref (k := 0) (b := A + 1) hI hA rfl rfl (by omega) (show _ = 9 from rfl) ?_
  refine sx_RP.step (pc2 := 10) (ls2 := [(0, .ref A), (1, .ref B)]) (st2 := [.int 0, .ref (A + 1), .int 0, .ref (B + 1)]) (w3 := w) rfl rfl ?_
  refine sx_RP.step (pc2 := 12) (ls2 := [(0, .ref A), (1, .ref B)]) (st2 := [.int 48, .int 0, .ref (A + 1), .int 0, .ref (B + 1)]) (w3 := w) rfl rfl ?_
  refine sx_RP.acS hI hE hA hB rfl rfl rfl (show _ = 15 from rfl) (fun w1 hI2 hE3 => ?_)
  refine sx_RP.step (pc2 := 16) (ls2 := [(0, .ref A), (1, .ref B)]) (st2 := [.ref A]) (w3 := w1) rfl rfl ?_
  refine sx_RP.step (pc2 := 17) (ls2 := [(0, .ref A), (1, .ref B)]) (st2 := [.ref B, .ref A]) (w3 := w1) rfl rfl ?_
  refine sx_RP.gw hI2 hB rfl rfl (show _ = 20 from rfl) ?_
  refine sx_RP.pw hI2 hE3 hA rfl rfl rfl (show _ = 23 from rfl) (fun w4 hI5 hE6 => ?_)
  refine sx_RP.step (pc2 := 24) (ls2 := [(0, .ref A), (1, .ref B)]) (st2 := [.ref A]) (w3 := w4) rfl rfl ?_
  refine sx_RP.step (pc2 := 25) (ls2 := [(0, .ref A), (1, .ref B)]) (st2 := [.ref B, .ref A]) (w3 := w4) rfl rfl ?_
  refine sx_RP.gc (k := 3) hI5 hB rfl rfl (by omega) (show _ = 28 from rfl) ?_
  obtain ⟨x7, hx8, ex9⟩ : inR (fi w4 B 3) 10 := (hI5.c hB).1
  rw [ex9]
  refine sx_RP.putc (k := 3) hI5 hE6 hA rfl rfl (by omega) rfl (inR.n (show x7 ≤ 10 by omega)) (show _ = 31 from rfl) (fun w10 hI11 hE12 => ?_)
  refine sx_RP.step (pc2 := 32) (ls2 := [(0, .ref A), (1, .ref B)]) (st2 := [.int 0]) (w3 := w10) rfl rfl ?_
  refine sx_RP.step (pc2 := 33) (ls2 := [(2, .int 0), (0, .ref A), (1, .ref B)]) (st2 := []) (w3 := w10) rfl rfl ?_
  exact sx_RP.ls (sx_lr.cons rfl (sx_lr.cons rfl (sx_lr.cons rfl sx_lr.nil))) (s50L hA hB 10 0 w10  (by omega) (by omega) hI11 hE12 )
set_option maxRecDepth 20000 in
set_option maxHeartbeats 4000000 in
theorem s41bB {xs : Option (List Int32)} {d : Nat} {w w0 : List sx_C} {A : Nat} (hA : isA A) (hI : WI w) (hE : EC w0 w) {j : Nat} (hj : j ≤ 10) (l : Int32) (kk : ∀ (w4 : List sx_C) (ul : Int32), WI w4 → EC w0 w4 → j + 1 ≤ 10 → sx_RP xs (d + 5) 41 52 [(0, .ref A), (1, .int ul), (2, .int (nI (j + 1)))] [] w4 (fun r w2 => (∃ v : Int32, r = some (.int v)) ∧ WI w2 ∧ EC w0 w2)) : sx_RP xs (d + 5) 41 52 [(0, .ref A), (1, .int l), (2, .int (nI j))] [] w (fun r w2 => (∃ v : Int32, r = some (.int v)) ∧ WI w2 ∧ EC w0 w2) := by
  refine sx_RP.step (pc2 := 53) (ls2 := [(0, .ref A), (1, .int l), (2, .int (nI j))]) (st2 := [.int (nI j)]) (w3 := w) rfl rfl ?_
  refine sx_RP.step (pc2 := 54) (ls2 := [(0, .ref A), (1, .int l), (2, .int (nI j))]) (st2 := [.ref A, .int (nI j)]) (w3 := w) rfl rfl ?_
  refine sx_RP.gc (k := 3) hI hA rfl rfl (by omega) (show _ = 57 from rfl) ?_
  obtain ⟨x1, hx2, ex3⟩ : inR (fi w A 3) 10 := (hI.c hA).1
  rw [ex3]
  refine sx_RP.br (p1 := 115) (l1 := [(0, .ref A), (1, .int l), (2, .int (nI j))]) (s1 := []) (v1 := w) (p2 := 60) (l2 := [(0, .ref A), (1, .int l), (2, .int (nI j))]) (s2 := []) (v2 := w) rfl rfl (fun q4 => ?_) (fun q4 => ?_)
  · replace q4 := of_decide_eq_true q4
    replace q4 := (nI_leI (a := x1) (b := j) (by omega) (by omega)).mp q4
    refine sx_RP.step (pc2 := 116) (ls2 := [(0, .ref A), (1, .int l), (2, .int (nI j))]) (st2 := [.ref A]) (w3 := w) rfl rfl ?_
    refine sx_RP.step (pc2 := 117) (ls2 := [(0, .ref A), (1, .int l), (2, .int (nI j))]) (st2 := [.ref A, .ref A]) (w3 := w) rfl rfl ?_
    refine sx_RP.gc (k := 6) hI hA rfl rfl (by omega) (show _ = 120 from rfl) ?_
    refine sx_RP.step (pc2 := 121) (ls2 := [(0, .ref A), (1, .int l), (2, .int (nI j))]) (st2 := [.int 1, .int (fi w A 6), .ref A]) (w3 := w) rfl rfl ?_
    refine sx_RP.step (pc2 := 122) (ls2 := [(0, .ref A), (1, .int l), (2, .int (nI j))]) (st2 := [.int ((fi w A 6) + 1), .ref A]) (w3 := w) rfl rfl ?_
    refine sx_RP.putc (k := 6) hI hE hA rfl rfl (by omega) rfl trivial (show _ = 125 from rfl) (fun w5 hI6 hE7 => ?_)
    refine sx_RP.step (pc2 := 126) (ls2 := [(0, .ref A), (1, .int l), (2, .int (nI j))]) (st2 := [.int l]) (w3 := w5) rfl rfl ?_
    refine sx_RP.step (pc2 := 127) (ls2 := [(0, .ref A), (1, .int l), (2, .int (nI j))]) (st2 := [.ref A, .int l]) (w3 := w5) rfl rfl ?_
    refine sx_RP.step (pc2 := 128) (ls2 := [(0, .ref A), (1, .int l), (2, .int (nI j))]) (st2 := [.int 0, .ref A, .int l]) (w3 := w5) rfl rfl ?_
    obtain ⟨v8, c9⟩ := p42 hI6 hA 0
    refine sx_RP.cu (as := [.ref A, .int 0]) (rest2 := [.int l]) (st3 := [.int v8, .int l]) rfl rfl (sx_inv_v2 (mi := 41) (k := 106) (st := [.int 0, .ref A, .int l]) (w := w5) rfl rfl (hI6.1.oC hA) rfl rfl rfl) rfl rfl (c9) rfl ?_
    refine sx_RP.step (pc2 := 132) (ls2 := [(0, .ref A), (1, .int l), (2, .int (nI j))]) (st2 := [.int (l - v8)]) (w3 := w5) rfl rfl ?_
    refine sx_RP.step (pc2 := 133) (ls2 := [(0, .ref A), (1, .int l), (2, .int (nI j))]) (st2 := [.ref A, .int (l - v8)]) (w3 := w5) rfl rfl ?_
    refine sx_RP.step (pc2 := 134) (ls2 := [(0, .ref A), (1, .int l), (2, .int (nI j))]) (st2 := [.int 1, .ref A, .int (l - v8)]) (w3 := w5) rfl rfl ?_
    obtain ⟨v10, c11⟩ := p42 hI6 hA 1
    refine sx_RP.cu (as := [.ref A, .int 1]) (rest2 := [.int (l - v8)]) (st3 := [.int v10, .int (l - v8)]) rfl rfl (sx_inv_v2 (mi := 41) (k := 106) (st := [.int 1, .ref A, .int (l - v8)]) (w := w5) rfl rfl (hI6.1.oC hA) rfl rfl rfl) rfl rfl (c11) rfl ?_
    refine sx_RP.step (pc2 := 138) (ls2 := [(0, .ref A), (1, .int l), (2, .int (nI j))]) (st2 := [.int ((l - v8) - v10)]) (w3 := w5) rfl rfl ?_
    refine sx_RP.ret (r := (some (.int ((l - v8) - v10)))) rfl rfl ?_
    exact ⟨⟨_, rfl⟩, hI6, hE7⟩
  · replace q4 := of_decide_eq_false q4
    replace q4 := mt (nI_leI (a := x1) (b := j) (by omega) (by omega)).mpr q4
    refine sx_RP.step (pc2 := 61) (ls2 := [(0, .ref A), (1, .int l), (2, .int (nI j))]) (st2 := [.ref A]) (w3 := w) rfl rfl ?_
    refine sx_RP.gref (k := 2) (b := A + 2) hI hA rfl rfl (by omega) (show _ = 64 from rfl) ?_
    refine sx_RP.step (pc2 := 65) (ls2 := [(0, .ref A), (1, .int l), (2, .int (nI j))]) (st2 := [.int (nI j), .ref (A + 2)]) (w3 := w) rfl rfl ?_
    refine sx_RP.ald (v := .ref (A + 4 + j)) rfl (hI.1.aG hA) rfl (grA_at (show j < 10 by omega)) (show _ = 66 from rfl) ?_
    refine sx_RP.step (pc2 := 67) (ls2 := [(0, .ref A), (1, .int l), (2, .int (nI j))]) (st2 := [.int 0, .ref (A + 4 + j)]) (w3 := w) rfl rfl ?_
    obtain ⟨x12, hx13, c14⟩ := p43 hI (gAd.of hA (show j < 10 by omega)) 0
    refine sx_RP.cu (as := [.ref (A + 4 + j), .int 0]) (rest2 := []) (st3 := [.int (nI x12)]) rfl rfl (sx_inv_v2 (mi := 41) (k := 82) (st := [.int 0, .ref (A + 4 + j)]) (w := w) rfl rfl (hI.1.oG (gAd.of hA (show j < 10 by omega))) rfl rfl rfl) rfl rfl (c14) rfl ?_
    refine sx_RP.br (p1 := 109) (l1 := [(0, .ref A), (1, .int l), (2, .int (nI j))]) (s1 := []) (v1 := w) (p2 := 73) (l2 := [(0, .ref A), (1, .int l), (2, .int (nI j))]) (s2 := []) (v2 := w) rfl rfl (fun q15 => ?_) (fun q15 => ?_)
    · replace q15 := of_decide_eq_true q15
      replace q15 := (nI_eq (a := x12) (b := 0) (by omega) (by omega)).mp q15
      refine sx_RP.step (pc2 := 112) (ls2 := [(2, .int ((nI j) + 1)), (0, .ref A), (1, .int l)]) (st2 := []) (w3 := w) rfl rfl ?_
      rw [nI_1 j]
      refine sx_RP.step (pc2 := 52) (ls2 := [(2, .int (nI (j + 1))), (0, .ref A), (1, .int l)]) (st2 := []) (w3 := w) rfl rfl ?_
      exact sx_RP.ls (sx_lr.cons rfl (sx_lr.cons rfl (sx_lr.cons rfl sx_lr.nil))) (kk w l hI hE (by omega))
    · replace q15 := of_decide_eq_false q15
      replace q15 := mt (nI_eq (a := x12) (b := 0) (by omega) (by omega)).mpr q15
      refine sx_RP.step (pc2 := 74) (ls2 := [(0, .ref A), (1, .int l), (2, .int (nI j))]) (st2 := [.ref A]) (w3 := w) rfl rfl ?_
      refine sx_RP.step (pc2 := 75) (ls2 := [(0, .ref A), (1, .int l), (2, .int (nI j))]) (st2 := [.ref A, .ref A]) (w3 := w) rfl rfl ?_
      refine sx_RP.gref (k := 2) (b := A + 2) hI hA rfl rfl (by omega) (show _ = 78 from rfl) ?_
      refine sx_RP.step (pc2 := 79) (ls2 := [(0, .ref A), (1, .int l), (2, .int (nI j))]) (st2 := [.int (nI j), .ref (A + 2), .ref A]) (w3 := w) rfl rfl ?_
      refine sx_RP.ald (v := .ref (A + 4 + j)) rfl (hI.1.aG hA) rfl (grA_at (show j < 10 by omega)) (show _ = 80 from rfl) ?_
      refine sx_RP.gg (k := 2) hI (gAd.of hA (show j < 10 by omega)) rfl rfl (by decide) (show _ = 83 from rfl) ?_
      obtain ⟨x16, hx17, ex18⟩ : inR (fi w (A + 4 + j) 2) 47 := hI.gk (k := 2) (gAd.of hA (show j < 10 by omega)) (by decide)
      rw [ex18]
      obtain ⟨x19, hx20, c21⟩ := p45 hI hA (nI x16)
      refine sx_RP.cu (as := [.ref A, .int (nI x16)]) (rest2 := []) (st3 := [.int (nI x19)]) rfl rfl (sx_inv_v2 (mi := 41) (k := 113) (st := [.int (nI x16), .ref A]) (w := w) rfl rfl (hI.1.oC hA) rfl rfl rfl) rfl rfl (c21) rfl ?_
      refine sx_RP.br (p1 := 109) (l1 := [(0, .ref A), (1, .int l), (2, .int (nI j))]) (s1 := []) (v1 := w) (p2 := 89) (l2 := [(0, .ref A), (1, .int l), (2, .int (nI j))]) (s2 := []) (v2 := w) rfl rfl (fun q22 => ?_) (fun q22 => ?_)
      · replace q22 := of_decide_eq_true q22
        replace q22 := (nI_eq (a := x19) (b := 0) (by omega) (by omega)).mp q22
        refine sx_RP.step (pc2 := 112) (ls2 := [(2, .int ((nI j) + 1)), (0, .ref A), (1, .int l)]) (st2 := []) (w3 := w) rfl rfl ?_
        rw [nI_1 j]
        refine sx_RP.step (pc2 := 52) (ls2 := [(2, .int (nI (j + 1))), (0, .ref A), (1, .int l)]) (st2 := []) (w3 := w) rfl rfl ?_
        exact sx_RP.ls (sx_lr.cons rfl (sx_lr.cons rfl (sx_lr.cons rfl sx_lr.nil))) (kk w l hI hE (by omega))
      · replace q22 := of_decide_eq_false q22
        replace q22 := mt (nI_eq (a := x19) (b := 0) (by omega) (by omega)).mpr q22
        refine sx_RP.step (pc2 := 90) (ls2 := [(0, .ref A), (1, .int l), (2, .int (nI j))]) (st2 := [.ref A]) (w3 := w) rfl rfl ?_
        refine sx_RP.gref (k := 2) (b := A + 2) hI hA rfl rfl (by omega) (show _ = 93 from rfl) ?_
        refine sx_RP.step (pc2 := 94) (ls2 := [(0, .ref A), (1, .int l), (2, .int (nI j))]) (st2 := [.int (nI j), .ref (A + 2)]) (w3 := w) rfl rfl ?_
        refine sx_RP.ald (v := .ref (A + 4 + j)) rfl (hI.1.aG hA) rfl (grA_at (show j < 10 by omega)) (show _ = 95 from rfl) ?_
        refine sx_RP.step (pc2 := 96) (ls2 := [(0, .ref A), (1, .int l), (2, .int (nI j))]) (st2 := [.int 1, .ref (A + 4 + j)]) (w3 := w) rfl rfl ?_
        refine sx_RP.pg (k := 5) hI hE (gAd.of hA (show j < 10 by omega)) rfl rfl (by decide) rfl (show inR 1 1 from ⟨1, by decide, rfl⟩) (show _ = 99 from rfl) (fun w23 hI24 hE25 hk26 => ?_)
        have ex27 := (hk26 A 3 hA).trans ex3
        refine sx_RP.step (pc2 := 100) (ls2 := [(0, .ref A), (1, .int l), (2, .int (nI j))]) (st2 := [.ref A]) (w3 := w23) rfl rfl ?_
        refine sx_RP.step (pc2 := 101) (ls2 := [(0, .ref A), (1, .int l), (2, .int (nI j))]) (st2 := [.ref A, .ref A]) (w3 := w23) rfl rfl ?_
        refine sx_RP.gc (k := 7) hI24 hA rfl rfl (by omega) (show _ = 104 from rfl) ?_
        refine sx_RP.step (pc2 := 105) (ls2 := [(0, .ref A), (1, .int l), (2, .int (nI j))]) (st2 := [.int 1, .int (fi w23 A 7), .ref A]) (w3 := w23) rfl rfl ?_
        refine sx_RP.step (pc2 := 106) (ls2 := [(0, .ref A), (1, .int l), (2, .int (nI j))]) (st2 := [.int ((fi w23 A 7) + 1), .ref A]) (w3 := w23) rfl rfl ?_
        refine sx_RP.putc (k := 7) hI24 hE25 hA rfl rfl (by omega) rfl trivial (show _ = 109 from rfl) (fun w28 hI29 hE30 => ?_)
        refine sx_RP.step (pc2 := 112) (ls2 := [(2, .int ((nI j) + 1)), (0, .ref A), (1, .int l)]) (st2 := []) (w3 := w28) rfl rfl ?_
        rw [nI_1 j]
        refine sx_RP.step (pc2 := 52) (ls2 := [(2, .int (nI (j + 1))), (0, .ref A), (1, .int l)]) (st2 := []) (w3 := w28) rfl rfl ?_
        exact sx_RP.ls (sx_lr.cons rfl (sx_lr.cons rfl (sx_lr.cons rfl sx_lr.nil))) (kk w28 l hI29 hE30 (by omega))
set_option maxRecDepth 20000 in
set_option maxHeartbeats 4000000 in
theorem s41bL {xs : Option (List Int32)} {d : Nat} {w0 : List sx_C} {A : Nat} (hA : isA A) : ∀ (fz j : Nat) (w : List sx_C) (l : Int32) , 10 ≤ j + fz * 1 → j ≤ 10 → WI w → EC w0 w → sx_RP xs (d + 5) 41 52 [(0, .ref A), (1, .int l), (2, .int (nI j))] [] w (fun r w2 => (∃ v : Int32, r = some (.int v)) ∧ WI w2 ∧ EC w0 w2)
  | 0, j, w, l, h, hj, hI, hE => s41bB hA hI hE hj l  (fun w4 ul hI4 hE4 hlt  => absurd hlt (by omega)) 
  | fz + 1, j, w, l, h, hj, hI, hE => s41bB hA hI hE hj l  (fun w4 ul hI4 hE4 hlt  => s41bL hA  fz (j + 1) w4 ul (by omega) hlt hI4 hE4 ) 
set_option maxRecDepth 20000 in
set_option maxHeartbeats 4000000 in
theorem s41aB {xs : Option (List Int32)} {d : Nat} {w w0 : List sx_C} {A : Nat} (hA : isA A) (hI : WI w) (hE : EC w0 w) {j : Nat} (hj : j ≤ 10) (l : Int32) (kk : ∀ (w4 : List sx_C) (ul : Int32), WI w4 → EC w0 w4 → j + 1 ≤ 10 → sx_RP xs (d + 5) 41 14 [(0, .ref A), (1, .int ul), (2, .int (nI (j + 1)))] [] w4 (fun r w2 => (∃ v : Int32, r = some (.int v)) ∧ WI w2 ∧ EC w0 w2)) (kx50 : ∀ (w4 : List sx_C) (ul : Int32), WI w4 → EC w0 w4 → sx_RP xs (d + 5) 41 50 [(0, .ref A), (1, .int ul)] [] w4 (fun r w2 => (∃ v : Int32, r = some (.int v)) ∧ WI w2 ∧ EC w0 w2)) : sx_RP xs (d + 5) 41 14 [(0, .ref A), (1, .int l), (2, .int (nI j))] [] w (fun r w2 => (∃ v : Int32, r = some (.int v)) ∧ WI w2 ∧ EC w0 w2) := by
  refine sx_RP.step (pc2 := 15) (ls2 := [(0, .ref A), (1, .int l), (2, .int (nI j))]) (st2 := [.int (nI j)]) (w3 := w) rfl rfl ?_
  refine sx_RP.step (pc2 := 16) (ls2 := [(0, .ref A), (1, .int l), (2, .int (nI j))]) (st2 := [.ref A, .int (nI j)]) (w3 := w) rfl rfl ?_
  refine sx_RP.gc (k := 3) hI hA rfl rfl (by omega) (show _ = 19 from rfl) ?_
  obtain ⟨x1, hx2, ex3⟩ : inR (fi w A 3) 10 := (hI.c hA).1
  rw [ex3]
  refine sx_RP.br (p1 := 50) (l1 := [(0, .ref A), (1, .int l), (2, .int (nI j))]) (s1 := []) (v1 := w) (p2 := 22) (l2 := [(0, .ref A), (1, .int l), (2, .int (nI j))]) (s2 := []) (v2 := w) rfl rfl (fun q4 => ?_) (fun q4 => ?_)
  · replace q4 := of_decide_eq_true q4
    replace q4 := (nI_leI (a := x1) (b := j) (by omega) (by omega)).mp q4
    exact sx_RP.ls (sx_lr.cons rfl (sx_lr.cons rfl sx_lr.nil)) (kx50 w l hI hE)
  · replace q4 := of_decide_eq_false q4
    replace q4 := mt (nI_leI (a := x1) (b := j) (by omega) (by omega)).mpr q4
    refine sx_RP.step (pc2 := 23) (ls2 := [(0, .ref A), (1, .int l), (2, .int (nI j))]) (st2 := [.ref A]) (w3 := w) rfl rfl ?_
    refine sx_RP.gref (k := 2) (b := A + 2) hI hA rfl rfl (by omega) (show _ = 26 from rfl) ?_
    refine sx_RP.step (pc2 := 27) (ls2 := [(0, .ref A), (1, .int l), (2, .int (nI j))]) (st2 := [.int (nI j), .ref (A + 2)]) (w3 := w) rfl rfl ?_
    refine sx_RP.ald (v := .ref (A + 4 + j)) rfl (hI.1.aG hA) rfl (grA_at (show j < 10 by omega)) (show _ = 28 from rfl) ?_
    refine sx_RP.gg (k := 5) hI (gAd.of hA (show j < 10 by omega)) rfl rfl (by decide) (show _ = 31 from rfl) ?_
    obtain ⟨x5, hx6, ex7⟩ : inR (fi w (A + 4 + j) 5) 1 := hI.gk (k := 5) (gAd.of hA (show j < 10 by omega)) (by decide)
    rw [ex7]
    refine sx_RP.br (p1 := 44) (l1 := [(0, .ref A), (1, .int l), (2, .int (nI j))]) (s1 := []) (v1 := w) (p2 := 34) (l2 := [(0, .ref A), (1, .int l), (2, .int (nI j))]) (s2 := []) (v2 := w) rfl rfl (fun q8 => ?_) (fun q8 => ?_)
    · replace q8 := of_decide_eq_true q8
      replace q8 := mt (nI_eq (a := x5) (b := 0) (by omega) (by omega)).mpr q8
      refine sx_RP.step (pc2 := 47) (ls2 := [(2, .int ((nI j) + 1)), (0, .ref A), (1, .int l)]) (st2 := []) (w3 := w) rfl rfl ?_
      rw [nI_1 j]
      refine sx_RP.step (pc2 := 14) (ls2 := [(2, .int (nI (j + 1))), (0, .ref A), (1, .int l)]) (st2 := []) (w3 := w) rfl rfl ?_
      exact sx_RP.ls (sx_lr.cons rfl (sx_lr.cons rfl (sx_lr.cons rfl sx_lr.nil))) (kk w l hI hE (by omega))
    · replace q8 := Decidable.not_not.mp (of_decide_eq_false q8)
      replace q8 := (nI_eq (a := x5) (b := 0) (by omega) (by omega)).mp q8
      refine sx_RP.step (pc2 := 35) (ls2 := [(0, .ref A), (1, .int l), (2, .int (nI j))]) (st2 := [.ref A]) (w3 := w) rfl rfl ?_
      refine sx_RP.step (pc2 := 36) (ls2 := [(0, .ref A), (1, .int l), (2, .int (nI j))]) (st2 := [.ref A, .ref A]) (w3 := w) rfl rfl ?_
      refine sx_RP.gref (k := 2) (b := A + 2) hI hA rfl rfl (by omega) (show _ = 39 from rfl) ?_
      refine sx_RP.step (pc2 := 40) (ls2 := [(0, .ref A), (1, .int l), (2, .int (nI j))]) (st2 := [.int (nI j), .ref (A + 2), .ref A]) (w3 := w) rfl rfl ?_
      refine sx_RP.ald (v := .ref (A + 4 + j)) rfl (hI.1.aG hA) rfl (grA_at (show j < 10 by omega)) (show _ = 41 from rfl) ?_
      refine sx_RP.callp (as2 := [.ref A, .ref (A + 4 + j)]) (rest2 := []) rfl rfl (sx_inv_v2 (mi := 41) (k := 110) (st := [.ref (A + 4 + j), .ref A]) (w := w) rfl rfl (hI.1.oC hA) rfl rfl rfl) rfl rfl rfl (s44 hI hA (gAd.of hA (show j < 10 by omega))) (show _ = 44 from rfl) ?_
      rintro r4 w9 ⟨rfl, hI10, hE12⟩
      have hE11 := hE.tr hE12
      show sx_RP _ _ _ _ _ [] _ _
      refine sx_RP.step (pc2 := 47) (ls2 := [(2, .int ((nI j) + 1)), (0, .ref A), (1, .int l)]) (st2 := []) (w3 := w9) rfl rfl ?_
      rw [nI_1 j]
      refine sx_RP.step (pc2 := 14) (ls2 := [(2, .int (nI (j + 1))), (0, .ref A), (1, .int l)]) (st2 := []) (w3 := w9) rfl rfl ?_
      exact sx_RP.ls (sx_lr.cons rfl (sx_lr.cons rfl (sx_lr.cons rfl sx_lr.nil))) (kk w9 l hI10 hE11 (by omega))
set_option maxRecDepth 20000 in
set_option maxHeartbeats 4000000 in
theorem s41aL {xs : Option (List Int32)} {d : Nat} {w0 : List sx_C} {A : Nat} (hA : isA A) (kx50 : ∀ (w4 : List sx_C) (ul : Int32), WI w4 → EC w0 w4 → sx_RP xs (d + 5) 41 50 [(0, .ref A), (1, .int ul)] [] w4 (fun r w2 => (∃ v : Int32, r = some (.int v)) ∧ WI w2 ∧ EC w0 w2)) : ∀ (fz j : Nat) (w : List sx_C) (l : Int32) , 10 ≤ j + fz * 1 → j ≤ 10 → WI w → EC w0 w → sx_RP xs (d + 5) 41 14 [(0, .ref A), (1, .int l), (2, .int (nI j))] [] w (fun r w2 => (∃ v : Int32, r = some (.int v)) ∧ WI w2 ∧ EC w0 w2)
  | 0, j, w, l, h, hj, hI, hE => s41aB hA hI hE hj l  (fun w4 ul hI4 hE4 hlt  => absurd hlt (by omega)) kx50
  | fz + 1, j, w, l, h, hj, hI, hE => s41aB hA hI hE hj l  (fun w4 ul hI4 hE4 hlt  => s41aL hA kx50 fz (j + 1) w4 ul (by omega) hlt hI4 hE4 ) kx50
set_option maxRecDepth 20000 in
set_option maxHeartbeats 4000000 in
theorem s41 {xs : Option (List Int32)} {d : Nat} {w : List sx_C} (hI : WI w) {A : Nat} (hA : isA A) : sx_RP xs (d + 5) 41 0 (lv_args 0 [.ref A]) [] w (fun r w2 => (∃ v : Int32, r = some (.int v)) ∧ WI w2 ∧ EC w w2) := by
  have hE : EC w w := EC.rf
  refine sx_RP.step (pc2 := 1) (ls2 := [(0, .ref A)]) (st2 := [.ref A]) (w3 := w) rfl rfl ?_
  refine sx_RP.step (pc2 := 2) (ls2 := [(0, .ref A)]) (st2 := [.int 0, .ref A]) (w3 := w) rfl rfl ?_
  obtain ⟨v1, c2⟩ := p42 hI hA 0
  refine sx_RP.cu (as := [.ref A, .int 0]) (rest2 := []) (st3 := [.int v1]) rfl rfl (sx_inv_v2 (mi := 41) (k := 106) (st := [.int 0, .ref A]) (w := w) rfl rfl (hI.1.oC hA) rfl rfl rfl) rfl rfl (c2) rfl ?_
  refine sx_RP.step (pc2 := 6) (ls2 := [(0, .ref A)]) (st2 := [.ref A, .int v1]) (w3 := w) rfl rfl ?_
  refine sx_RP.step (pc2 := 7) (ls2 := [(0, .ref A)]) (st2 := [.int 1, .ref A, .int v1]) (w3 := w) rfl rfl ?_
  obtain ⟨v3, c4⟩ := p42 hI hA 1
  refine sx_RP.cu (as := [.ref A, .int 1]) (rest2 := [.int v1]) (st3 := [.int v3, .int v1]) rfl rfl (sx_inv_v2 (mi := 41) (k := 106) (st := [.int 1, .ref A, .int v1]) (w := w) rfl rfl (hI.1.oC hA) rfl rfl rfl) rfl rfl (c4) rfl ?_
  refine sx_RP.step (pc2 := 11) (ls2 := [(0, .ref A)]) (st2 := [.int (v1 + v3)]) (w3 := w) rfl rfl ?_
  refine sx_RP.step (pc2 := 12) (ls2 := [(1, .int (v1 + v3)), (0, .ref A)]) (st2 := []) (w3 := w) rfl rfl ?_
  refine sx_RP.step (pc2 := 13) (ls2 := [(1, .int (v1 + v3)), (0, .ref A)]) (st2 := [.int 0]) (w3 := w) rfl rfl ?_
  refine sx_RP.step (pc2 := 14) (ls2 := [(2, .int 0), (1, .int (v1 + v3)), (0, .ref A)]) (st2 := []) (w3 := w) rfl rfl ?_
  refine sx_RP.ls (sx_lr.cons rfl (sx_lr.cons rfl (sx_lr.cons rfl sx_lr.nil))) (s41aL hA (fun w5 u8 hI6 hE7 => ?_) 10 0 w (v1 + v3) (by omega) (by omega) hI hE )
  refine sx_RP.step (pc2 := 51) (ls2 := [(0, .ref A), (1, .int u8)]) (st2 := [.int 0]) (w3 := w5) rfl rfl ?_
  refine sx_RP.step (pc2 := 52) (ls2 := [(2, .int 0), (0, .ref A), (1, .int u8)]) (st2 := []) (w3 := w5) rfl rfl ?_
  exact sx_RP.ls (sx_lr.cons rfl (sx_lr.cons rfl (sx_lr.cons rfl sx_lr.nil))) (s41bL hA 10 0 w5 u8 (by omega) (by omega) hI6 hE7 )
end
