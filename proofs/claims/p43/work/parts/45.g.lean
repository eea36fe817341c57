-- 45.loopC.lean.txt
section
set_option maxRecDepth 20000 in
set_option maxHeartbeats 4000000 in
theorem p13B {xs : Option (List Int32)} {d : Nat} {w : List sx_C} {A : Nat} (hA : isA A) (x : Int32) (hI : WI w) {j : Nat} (hj : j ≤ 10) (n : Int32) (kk : ∀ (un : Int32), j + 1 ≤ 10 → sx_RP xs d 13 4 [(0, .ref A), (1, .int x), (2, .int un), (3, .int (nI (j + 1)))] [] w (fun r w2 => (∃ v : Int32, r = some (.int v)) ∧ w2 = w)) : sx_RP xs d 13 4 [(0, .ref A), (1, .int x), (2, .int n), (3, .int (nI j))] [] w (fun r w2 => (∃ v : Int32, r = some (.int v)) ∧ w2 = w) := by
  refine sx_RP.step (pc2 := 5) (ls2 := [(0, .ref A), (1, .int x), (2, .int n), (3, .int (nI j))]) (st2 := [.int (nI j)]) (w3 := w) rfl rfl ?_
  refine sx_RP.step (pc2 := 6) (ls2 := [(0, .ref A), (1, .int x), (2, .int n), (3, .int (nI j))]) (st2 := [.ref A, .int (nI j)]) (w3 := w) rfl rfl ?_
  refine sx_RP.gc (k := 3) hI hA rfl rfl (by omega) (show _ = 9 from rfl) ?_
  obtain ⟨x1, hx2, ex3⟩ : inR (fi w A 3) 10 := (hI.c hA).1
  rw [ex3]
  refine sx_RP.br (p1 := 46) (l1 := [(0, .ref A), (1, .int x), (2, .int n), (3, .int (nI j))]) (s1 := []) (v1 := w) (p2 := 12) (l2 := [(0, .ref A), (1, .int x), (2, .int n), (3, .int (nI j))]) (s2 := []) (v2 := w) rfl rfl (fun q4 => ?_) (fun q4 => ?_)
  · replace q4 := of_decide_eq_true q4
    replace q4 := (nI_leI (a := x1) (b := j) (by omega) (by omega)).mp q4
    refine sx_RP.step (pc2 := 47) (ls2 := [(0, .ref A), (1, .int x), (2, .int n), (3, .int (nI j))]) (st2 := [.int n]) (w3 := w) rfl rfl ?_
    refine sx_RP.ret (r := (some (.int n))) rfl rfl ?_
    exact ⟨⟨_, rfl⟩, rfl⟩
  · replace q4 := of_decide_eq_false q4
    replace q4 := mt (nI_leI (a := x1) (b := j) (by omega) (by omega)).mpr q4
    refine sx_RP.step (pc2 := 13) (ls2 := [(0, .ref A), (1, .int x), (2, .int n), (3, .int (nI j))]) (st2 := [.ref A]) (w3 := w) rfl rfl ?_
    refine sx_RP.gref (k := 2) (b := A + 2) hI hA rfl rfl (by omega) (show _ = 16 from rfl) ?_
    refine sx_RP.step (pc2 := 17) (ls2 := [(0, .ref A), (1, .int x), (2, .int n), (3, .int (nI j))]) (st2 := [.int (nI j), .ref (A + 2)]) (w3 := w) rfl rfl ?_
    refine sx_RP.ald (v := .ref (A + 4 + j)) rfl (hI.1.aG hA) rfl (grA_at (show j < 10 by omega)) (show _ = 18 from rfl) ?_
    refine sx_RP.gg (k := 5) hI (gAd.of hA (show j < 10 by omega)) rfl rfl (by decide) (show _ = 21 from rfl) ?_
    obtain ⟨x5, hx6, ex7⟩ : inR (fi w (A + 4 + j) 5) 1 := hI.gk (k := 5) (gAd.of hA (show j < 10 by omega)) (by decide)
    rw [ex7]
    refine sx_RP.br (p1 := 40) (l1 := [(0, .ref A), (1, .int x), (2, .int n), (3, .int (nI j))]) (s1 := []) (v1 := w) (p2 := 24) (l2 := [(0, .ref A), (1, .int x), (2, .int n), (3, .int (nI j))]) (s2 := []) (v2 := w) rfl rfl (fun q8 => ?_) (fun q8 => ?_)
    · replace q8 := of_decide_eq_true q8
      replace q8 := mt (nI_eq (a := x5) (b := 0) (by omega) (by omega)).mpr q8
      refine sx_RP.step (pc2 := 43) (ls2 := [(3, .int ((nI j) + 1)), (0, .ref A), (1, .int x), (2, .int n)]) (st2 := []) (w3 := w) rfl rfl ?_
      rw [nI_1 j]
      refine sx_RP.step (pc2 := 4) (ls2 := [(3, .int (nI (j + 1))), (0, .ref A), (1, .int x), (2, .int n)]) (st2 := []) (w3 := w) rfl rfl ?_
      exact sx_RP.ls (sx_lr.cons rfl (sx_lr.cons rfl (sx_lr.cons rfl (sx_lr.cons rfl sx_lr.nil)))) (kk n (by omega))
    · replace q8 := Decidable.not_not.mp (of_decide_eq_false q8)
      replace q8 := (nI_eq (a := x5) (b := 0) (by omega) (by omega)).mp q8
      refine sx_RP.step (pc2 := 25) (ls2 := [(0, .ref A), (1, .int x), (2, .int n), (3, .int (nI j))]) (st2 := [.ref A]) (w3 := w) rfl rfl ?_
      refine sx_RP.gref (k := 2) (b := A + 2) hI hA rfl rfl (by omega) (show _ = 28 from rfl) ?_
      refine sx_RP.step (pc2 := 29) (ls2 := [(0, .ref A), (1, .int x), (2, .int n), (3, .int (nI j))]) (st2 := [.int (nI j), .ref (A + 2)]) (w3 := w) rfl rfl ?_
      refine sx_RP.ald (v := .ref (A + 4 + j)) rfl (hI.1.aG hA) rfl (grA_at (show j < 10 by omega)) (show _ = 30 from rfl) ?_
      refine sx_RP.gg (k := 2) hI (gAd.of hA (show j < 10 by omega)) rfl rfl (by decide) (show _ = 33 from rfl) ?_
      obtain ⟨x9, hx10, ex11⟩ : inR (fi w (A + 4 + j) 2) 47 := hI.gk (k := 2) (gAd.of hA (show j < 10 by omega)) (by decide)
      rw [ex11]
      refine sx_RP.step (pc2 := 34) (ls2 := [(0, .ref A), (1, .int x), (2, .int n), (3, .int (nI j))]) (st2 := [.int x, .int (nI x9)]) (w3 := w) rfl rfl ?_
      refine sx_RP.br (p1 := 40) (l1 := [(0, .ref A), (1, .int x), (2, .int n), (3, .int (nI j))]) (s1 := []) (v1 := w) (p2 := 37) (l2 := [(0, .ref A), (1, .int x), (2, .int n), (3, .int (nI j))]) (s2 := []) (v2 := w) rfl rfl (fun q12 => ?_) (fun q12 => ?_)
      · replace q12 := of_decide_eq_true q12
        refine sx_RP.step (pc2 := 43) (ls2 := [(3, .int ((nI j) + 1)), (0, .ref A), (1, .int x), (2, .int n)]) (st2 := []) (w3 := w) rfl rfl ?_
        rw [nI_1 j]
        refine sx_RP.step (pc2 := 4) (ls2 := [(3, .int (nI (j + 1))), (0, .ref A), (1, .int x), (2, .int n)]) (st2 := []) (w3 := w) rfl rfl ?_
        exact sx_RP.ls (sx_lr.cons rfl (sx_lr.cons rfl (sx_lr.cons rfl (sx_lr.cons rfl sx_lr.nil)))) (kk n (by omega))
      · replace q12 := Decidable.not_not.mp (of_decide_eq_false q12)
        refine sx_RP.step (pc2 := 40) (ls2 := [(2, .int (n + 1)), (0, .ref A), (1, .int x), (3, .int (nI j))]) (st2 := []) (w3 := w) rfl rfl ?_
        refine sx_RP.step (pc2 := 43) (ls2 := [(3, .int ((nI j) + 1)), (2, .int (n + 1)), (0, .ref A), (1, .int x)]) (st2 := []) (w3 := w) rfl rfl ?_
        rw [nI_1 j]
        refine sx_RP.step (pc2 := 4) (ls2 := [(3, .int (nI (j + 1))), (2, .int (n + 1)), (0, .ref A), (1, .int x)]) (st2 := []) (w3 := w) rfl rfl ?_
        exact sx_RP.ls (sx_lr.cons rfl (sx_lr.cons rfl (sx_lr.cons rfl (sx_lr.cons rfl sx_lr.nil)))) (kk (n + 1) (by omega))
set_option maxRecDepth 20000 in
set_option maxHeartbeats 4000000 in
theorem p13L {xs : Option (List Int32)} {d : Nat} {w : List sx_C} {A : Nat} (hA : isA A) (x : Int32) (hI : WI w) : ∀ (fz j : Nat) (n : Int32) , 10 ≤ j + fz * 1 → j ≤ 10 → sx_RP xs d 13 4 [(0, .ref A), (1, .int x), (2, .int n), (3, .int (nI j))] [] w (fun r w2 => (∃ v : Int32, r = some (.int v)) ∧ w2 = w)
  | 0, j, n, h, hj => p13B hA x hI hj n  (fun un  hlt  => absurd hlt (by omega)) 
  | fz + 1, j, n, h, hj => p13B hA x hI hj n  (fun un  hlt  => p13L hA x hI  fz (j + 1) un (by omega) hlt ) 
set_option maxRecDepth 20000 in
set_option maxHeartbeats 4000000 in
theorem p13 {xs : Option (List Int32)} {d : Nat} {w : List sx_C} (hI : WI w) {A : Nat} (hA : isA A) (x : Int32) : ∃ v : Int32, sx_RU xs d 13 0 (lv_args 0 [.ref A, .int x]) [] w (some (.int v)) w := by
  have h : sx_RP xs d 13 0 (lv_args 0 [.ref A, .int x]) [] w (fun r w2 => (∃ v : Int32, r = some (.int v)) ∧ w2 = w) := by
    refine sx_RP.step (pc2 := 1) (ls2 := [(0, .ref A), (1, .int x)]) (st2 := [.int 0]) (w3 := w) rfl rfl ?_
    refine sx_RP.step (pc2 := 2) (ls2 := [(2, .int 0), (0, .ref A), (1, .int x)]) (st2 := []) (w3 := w) rfl rfl ?_
    refine sx_RP.step (pc2 := 3) (ls2 := [(2, .int 0), (0, .ref A), (1, .int x)]) (st2 := [.int 0]) (w3 := w) rfl rfl ?_
    refine sx_RP.step (pc2 := 4) (ls2 := [(3, .int 0), (2, .int 0), (0, .ref A), (1, .int x)]) (st2 := []) (w3 := w) rfl rfl ?_
    exact sx_RP.ls (sx_lr.cons rfl (sx_lr.cons rfl (sx_lr.cons rfl (sx_lr.cons rfl sx_lr.nil)))) (p13L hA x hI 10 0 0 (by omega) (by omega) )
  obtain ⟨r, w2, h1, ⟨v, rfl⟩, rfl⟩ := h
  exact ⟨v, h1⟩
set_option maxRecDepth 20000 in
set_option maxHeartbeats 4000000 in
theorem p42B {xs : Option (List Int32)} {d : Nat} {w : List sx_C} {A : Nat} (hA : isA A) (x : Int32) (hI : WI w) {j : Nat} (hj : j ≤ 10) (n : Int32) (kk : ∀ (un : Int32), j + 1 ≤ 10 → sx_RP xs (d + 1) 42 4 [(0, .ref A), (1, .int x), (2, .int un), (3, .int (nI (j + 1)))] [] w (fun r w2 => (∃ v : Int32, r = some (.int v)) ∧ w2 = w)) : sx_RP xs (d + 1) 42 4 [(0, .ref A), (1, .int x), (2, .int n), (3, .int (nI j))] [] w (fun r w2 => (∃ v : Int32, r = some (.int v)) ∧ w2 = w) := by
  refine sx_RP.step (pc2 := 5) (ls2 := [(0, .ref A), (1, .int x), (2, .int n), (3, .int (nI j))]) (st2 := [.int (nI j)]) (w3 := w) rfl rfl ?_
  refine sx_RP.step (pc2 := 6) (ls2 := [(0, .ref A), (1, .int x), (2, .int n), (3, .int (nI j))]) (st2 := [.ref A, .int (nI j)]) (w3 := w) rfl rfl ?_
  refine sx_RP.gc (k := 3) hI hA rfl rfl (by omega) (show _ = 9 from rfl) ?_
  obtain ⟨x1, hx2, ex3⟩ : inR (fi w A 3) 10 := (hI.c hA).1
  rw [ex3]
  refine sx_RP.br (p1 := 34) (l1 := [(0, .ref A), (1, .int x), (2, .int n), (3, .int (nI j))]) (s1 := []) (v1 := w) (p2 := 12) (l2 := [(0, .ref A), (1, .int x), (2, .int n), (3, .int (nI j))]) (s2 := []) (v2 := w) rfl rfl (fun q4 => ?_) (fun q4 => ?_)
  · replace q4 := of_decide_eq_true q4
    replace q4 := (nI_leI (a := x1) (b := j) (by omega) (by omega)).mp q4
    refine sx_RP.step (pc2 := 35) (ls2 := [(0, .ref A), (1, .int x), (2, .int n), (3, .int (nI j))]) (st2 := [.int n]) (w3 := w) rfl rfl ?_
    refine sx_RP.ret (r := (some (.int n))) rfl rfl ?_
    exact ⟨⟨_, rfl⟩, rfl⟩
  · replace q4 := of_decide_eq_false q4
    replace q4 := mt (nI_leI (a := x1) (b := j) (by omega) (by omega)).mpr q4
    refine sx_RP.step (pc2 := 13) (ls2 := [(0, .ref A), (1, .int x), (2, .int n), (3, .int (nI j))]) (st2 := [.ref A]) (w3 := w) rfl rfl ?_
    refine sx_RP.gref (k := 2) (b := A + 2) hI hA rfl rfl (by omega) (show _ = 16 from rfl) ?_
    refine sx_RP.step (pc2 := 17) (ls2 := [(0, .ref A), (1, .int x), (2, .int n), (3, .int (nI j))]) (st2 := [.int (nI j), .ref (A + 2)]) (w3 := w) rfl rfl ?_
    refine sx_RP.ald (v := .ref (A + 4 + j)) rfl (hI.1.aG hA) rfl (grA_at (show j < 10 by omega)) (show _ = 18 from rfl) ?_
    refine sx_RP.step (pc2 := 19) (ls2 := [(0, .ref A), (1, .int x), (2, .int n), (3, .int (nI j))]) (st2 := [.int x, .ref (A + 4 + j)]) (w3 := w) rfl rfl ?_
    obtain ⟨x5, hx6, c7⟩ := p43 hI (gAd.of hA (show j < 10 by omega)) x
    refine sx_RP.cu (as := [.ref (A + 4 + j), .int x]) (rest2 := []) (st3 := [.int (nI x5)]) rfl rfl (sx_inv_v2 (mi := 42) (k := 82) (st := [.int x, .ref (A + 4 + j)]) (w := w) rfl rfl (hI.1.oG (gAd.of hA (show j < 10 by omega))) rfl rfl rfl) rfl rfl (c7) rfl ?_
    refine sx_RP.br (p1 := 28) (l1 := [(0, .ref A), (1, .int x), (2, .int n), (3, .int (nI j))]) (s1 := []) (v1 := w) (p2 := 25) (l2 := [(0, .ref A), (1, .int x), (2, .int n), (3, .int (nI j))]) (s2 := []) (v2 := w) rfl rfl (fun q8 => ?_) (fun q8 => ?_)
    · replace q8 := of_decide_eq_true q8
      replace q8 := (nI_eq (a := x5) (b := 0) (by omega) (by omega)).mp q8
      refine sx_RP.step (pc2 := 31) (ls2 := [(3, .int ((nI j) + 1)), (0, .ref A), (1, .int x), (2, .int n)]) (st2 := []) (w3 := w) rfl rfl ?_
      rw [nI_1 j]
      refine sx_RP.step (pc2 := 4) (ls2 := [(3, .int (nI (j + 1))), (0, .ref A), (1, .int x), (2, .int n)]) (st2 := []) (w3 := w) rfl rfl ?_
      exact sx_RP.ls (sx_lr.cons rfl (sx_lr.cons rfl (sx_lr.cons rfl (sx_lr.cons rfl sx_lr.nil)))) (kk n (by omega))
    · replace q8 := of_decide_eq_false q8
      replace q8 := mt (nI_eq (a := x5) (b := 0) (by omega) (by omega)).mpr q8
      refine sx_RP.step (pc2 := 28) (ls2 := [(2, .int (n + 1)), (0, .ref A), (1, .int x), (3, .int (nI j))]) (st2 := []) (w3 := w) rfl rfl ?_
      refine sx_RP.step (pc2 := 31) (ls2 := [(3, .int ((nI j) + 1)), (2, .int (n + 1)), (0, .ref A), (1, .int x)]) (st2 := []) (w3 := w) rfl rfl ?_
      rw [nI_1 j]
      refine sx_RP.step (pc2 := 4) (ls2 := [(3, .int (nI (j + 1))), (2, .int (n + 1)), (0, .ref A), (1, .int x)]) (st2 := []) (w3 := w) rfl rfl ?_
      exact sx_RP.ls (sx_lr.cons rfl (sx_lr.cons rfl (sx_lr.cons rfl (sx_lr.cons rfl sx_lr.nil)))) (kk (n + 1) (by omega))
set_option maxRecDepth 20000 in
set_option maxHeartbeats 4000000 in
theorem p42L {xs : Option (List Int32)} {d : Nat} {w : List sx_C} {A : Nat} (hA : isA A) (x : Int32) (hI : WI w) : ∀ (fz j : Nat) (n : Int32) , 10 ≤ j + fz * 1 → j ≤ 10 → sx_RP xs (d + 1) 42 4 [(0, .ref A), (1, .int x), (2, .int n), (3, .int (nI j))] [] w (fun r w2 => (∃ v : Int32, r = some (.int v)) ∧ w2 = w)
  | 0, j, n, h, hj => p42B hA x hI hj n  (fun un  hlt  => absurd hlt (by omega)) 
  | fz + 1, j, n, h, hj => p42B hA x hI hj n  (fun un  hlt  => p42L hA x hI  fz (j + 1) un (by omega) hlt ) 
set_option maxRecDepth 20000 in
set_option maxHeartbeats 4000000 in
theorem p42 {xs : Option (List Int32)} {d : Nat} {w : List sx_C} (hI : WI w) {A : Nat} (hA : isA A) (x : Int32) : ∃ v : Int32, sx_RU xs (d + 1) 42 0 (lv_args 0 [.ref A, .int x]) [] w (some (.int v)) w := by
  have h : sx_RP xs (d + 1) 42 0 (lv_args 0 [.ref A, .int x]) [] w (fun r w2 => (∃ v : Int32, r = some (.int v)) ∧ w2 = w) := by
    refine sx_RP.step (pc2 := 1) (ls2 := [(0, .ref A), (1, .int x)]) (st2 := [.int 0]) (w3 := w) rfl rfl ?_
    refine sx_RP.step (pc2 := 2) (ls2 := [(2, .int 0), (0, .ref A), (1, .int x)]) (st2 := []) (w3 := w) rfl rfl ?_
    refine sx_RP.step (pc2 := 3) (ls2 := [(2, .int 0), (0, .ref A), (1, .int x)]) (st2 := [.int 0]) (w3 := w) rfl rfl ?_
    refine sx_RP.step (pc2 := 4) (ls2 := [(3, .int 0), (2, .int 0), (0, .ref A), (1, .int x)]) (st2 := []) (w3 := w) rfl rfl ?_
    exact sx_RP.ls (sx_lr.cons rfl (sx_lr.cons rfl (sx_lr.cons rfl (sx_lr.cons rfl sx_lr.nil)))) (p42L hA x hI 10 0 0 (by omega) (by omega) )
  obtain ⟨r, w2, h1, ⟨v, rfl⟩, rfl⟩ := h
  exact ⟨v, h1⟩
set_option maxRecDepth 20000 in
set_option maxHeartbeats 4000000 in
theorem p45B {xs : Option (List Int32)} {d : Nat} {w : List sx_C} {A : Nat} (hA : isA A) (x : Int32) (hI : WI w) {j : Nat} (hj : j ≤ 10) (kk : j + 1 ≤ 10 → sx_RP xs (d + 2) 45 2 [(0, .ref A), (1, .int x), (2, .int (nI (j + 1)))] [] w (fun r w2 => (∃ j, j ≤ 1 ∧ r = some (.int (nI j))) ∧ w2 = w)) : sx_RP xs (d + 2) 45 2 [(0, .ref A), (1, .int x), (2, .int (nI j))] [] w (fun r w2 => (∃ j, j ≤ 1 ∧ r = some (.int (nI j))) ∧ w2 = w) := by
  refine sx_RP.step (pc2 := 3) (ls2 := [(0, .ref A), (1, .int x), (2, .int (nI j))]) (st2 := [.int (nI j)]) (w3 := w) rfl rfl ?_
  refine sx_RP.step (pc2 := 4) (ls2 := [(0, .ref A), (1, .int x), (2, .int (nI j))]) (st2 := [.ref A, .int (nI j)]) (w3 := w) rfl rfl ?_
  refine sx_RP.gc (k := 3) hI hA rfl rfl (by omega) (show _ = 7 from rfl) ?_
  obtain ⟨x1, hx2, ex3⟩ : inR (fi w A 3) 10 := (hI.c hA).1
  rw [ex3]
  refine sx_RP.br (p1 := 48) (l1 := [(0, .ref A), (1, .int x), (2, .int (nI j))]) (s1 := []) (v1 := w) (p2 := 10) (l2 := [(0, .ref A), (1, .int x), (2, .int (nI j))]) (s2 := []) (v2 := w) rfl rfl (fun q4 => ?_) (fun q4 => ?_)
  · replace q4 := of_decide_eq_true q4
    replace q4 := (nI_leI (a := x1) (b := j) (by omega) (by omega)).mp q4
    refine sx_RP.step (pc2 := 49) (ls2 := [(0, .ref A), (1, .int x), (2, .int (nI j))]) (st2 := [.int 0]) (w3 := w) rfl rfl ?_
    refine sx_RP.ret (r := (some (.int 0))) rfl rfl ?_
    exact ⟨⟨0, by decide, rfl⟩, rfl⟩
  · replace q4 := of_decide_eq_false q4
    replace q4 := mt (nI_leI (a := x1) (b := j) (by omega) (by omega)).mpr q4
    refine sx_RP.step (pc2 := 11) (ls2 := [(0, .ref A), (1, .int x), (2, .int (nI j))]) (st2 := [.ref A]) (w3 := w) rfl rfl ?_
    refine sx_RP.gref (k := 2) (b := A + 2) hI hA rfl rfl (by omega) (show _ = 14 from rfl) ?_
    refine sx_RP.step (pc2 := 15) (ls2 := [(0, .ref A), (1, .int x), (2, .int (nI j))]) (st2 := [.int (nI j), .ref (A + 2)]) (w3 := w) rfl rfl ?_
    refine sx_RP.ald (v := .ref (A + 4 + j)) rfl (hI.1.aG hA) rfl (grA_at (show j < 10 by omega)) (show _ = 16 from rfl) ?_
    refine sx_RP.step (pc2 := 17) (ls2 := [(0, .ref A), (1, .int x), (2, .int (nI j))]) (st2 := [.int 1, .ref (A + 4 + j)]) (w3 := w) rfl rfl ?_
    obtain ⟨x5, hx6, c7⟩ := p43 hI (gAd.of hA (show j < 10 by omega)) 1
    refine sx_RP.cu (as := [.ref (A + 4 + j), .int 1]) (rest2 := []) (st3 := [.int (nI x5)]) rfl rfl (sx_inv_v2 (mi := 45) (k := 82) (st := [.int 1, .ref (A + 4 + j)]) (w := w) rfl rfl (hI.1.oG (gAd.of hA (show j < 10 by omega))) rfl rfl rfl) rfl rfl (c7) rfl ?_
    refine sx_RP.br (p1 := 42) (l1 := [(0, .ref A), (1, .int x), (2, .int (nI j))]) (s1 := []) (v1 := w) (p2 := 23) (l2 := [(0, .ref A), (1, .int x), (2, .int (nI j))]) (s2 := []) (v2 := w) rfl rfl (fun q8 => ?_) (fun q8 => ?_)
    · replace q8 := of_decide_eq_true q8
      replace q8 := (nI_eq (a := x5) (b := 0) (by omega) (by omega)).mp q8
      refine sx_RP.step (pc2 := 45) (ls2 := [(2, .int ((nI j) + 1)), (0, .ref A), (1, .int x)]) (st2 := []) (w3 := w) rfl rfl ?_
      rw [nI_1 j]
      refine sx_RP.step (pc2 := 2) (ls2 := [(2, .int (nI (j + 1))), (0, .ref A), (1, .int x)]) (st2 := []) (w3 := w) rfl rfl ?_
      exact sx_RP.ls (sx_lr.cons rfl (sx_lr.cons rfl (sx_lr.cons rfl sx_lr.nil))) (kk (by omega))
    · replace q8 := of_decide_eq_false q8
      replace q8 := mt (nI_eq (a := x5) (b := 0) (by omega) (by omega)).mpr q8
      refine sx_RP.step (pc2 := 24) (ls2 := [(0, .ref A), (1, .int x), (2, .int (nI j))]) (st2 := [.ref A]) (w3 := w) rfl rfl ?_
      refine sx_RP.gref (k := 2) (b := A + 2) hI hA rfl rfl (by omega) (show _ = 27 from rfl) ?_
      refine sx_RP.step (pc2 := 28) (ls2 := [(0, .ref A), (1, .int x), (2, .int (nI j))]) (st2 := [.int (nI j), .ref (A + 2)]) (w3 := w) rfl rfl ?_
      refine sx_RP.ald (v := .ref (A + 4 + j)) rfl (hI.1.aG hA) rfl (grA_at (show j < 10 by omega)) (show _ = 29 from rfl) ?_
      refine sx_RP.gg (k := 2) hI (gAd.of hA (show j < 10 by omega)) rfl rfl (by decide) (show _ = 32 from rfl) ?_
      obtain ⟨x9, hx10, ex11⟩ : inR (fi w (A + 4 + j) 2) 47 := hI.gk (k := 2) (gAd.of hA (show j < 10 by omega)) (by decide)
      rw [ex11]
      refine sx_RP.step (pc2 := 33) (ls2 := [(0, .ref A), (1, .int x), (2, .int (nI j))]) (st2 := [.int x, .int (nI x9)]) (w3 := w) rfl rfl ?_
      obtain ⟨v12, c13⟩ := p46 hI (nI x9) x
      refine sx_RP.cu (as := [.int (nI x9), .int x]) (rest2 := []) (st3 := [.int v12]) rfl rfl rfl rfl rfl (c13) rfl ?_
      refine sx_RP.step (pc2 := 37) (ls2 := [(0, .ref A), (1, .int x), (2, .int (nI j))]) (st2 := [.int 1, .int v12]) (w3 := w) rfl rfl ?_
      refine sx_RP.br (p1 := 42) (l1 := [(0, .ref A), (1, .int x), (2, .int (nI j))]) (s1 := []) (v1 := w) (p2 := 40) (l2 := [(0, .ref A), (1, .int x), (2, .int (nI j))]) (s2 := []) (v2 := w) rfl rfl (fun q14 => ?_) (fun q14 => ?_)
      · replace q14 := of_decide_eq_true q14
        refine sx_RP.step (pc2 := 45) (ls2 := [(2, .int ((nI j) + 1)), (0, .ref A), (1, .int x)]) (st2 := []) (w3 := w) rfl rfl ?_
        rw [nI_1 j]
        refine sx_RP.step (pc2 := 2) (ls2 := [(2, .int (nI (j + 1))), (0, .ref A), (1, .int x)]) (st2 := []) (w3 := w) rfl rfl ?_
        exact sx_RP.ls (sx_lr.cons rfl (sx_lr.cons rfl (sx_lr.cons rfl sx_lr.nil))) (kk (by omega))
      · replace q14 := of_decide_eq_false q14
        refine sx_RP.step (pc2 := 41) (ls2 := [(0, .ref A), (1, .int x), (2, .int (nI j))]) (st2 := [.int 1]) (w3 := w) rfl rfl ?_
        refine sx_RP.ret (r := (some (.int 1))) rfl rfl ?_
        exact ⟨⟨1, by decide, rfl⟩, rfl⟩
set_option maxRecDepth 20000 in
set_option maxHeartbeats 4000000 in
theorem p45L {xs : Option (List Int32)} {d : Nat} {w : List sx_C} {A : Nat} (hA : isA A) (x : Int32) (hI : WI w) : ∀ (fz j : Nat) , 10 ≤ j + fz * 1 → j ≤ 10 → sx_RP xs (d + 2) 45 2 [(0, .ref A), (1, .int x), (2, .int (nI j))] [] w (fun r w2 => (∃ j, j ≤ 1 ∧ r = some (.int (nI j))) ∧ w2 = w)
  | 0, j, h, hj => p45B hA x hI hj   (fun   hlt  => absurd hlt (by omega)) 
  | fz + 1, j, h, hj => p45B hA x hI hj   (fun   hlt  => p45L hA x hI  fz (j + 1)  (by omega) hlt ) 
set_option maxRecDepth 20000 in
set_option maxHeartbeats 4000000 in
theorem p45 {xs : Option (List Int32)} {d : Nat} {w : List sx_C} (hI : WI w) {A : Nat} (hA : isA A) (x : Int32) : ∃ j, j ≤ 1 ∧ sx_RU xs (d + 2) 45 0 (lv_args 0 [.ref A, .int x]) [] w (some (.int (nI j))) w := by
  have h : sx_RP xs (d + 2) 45 0 (lv_args 0 [.ref A, .int x]) [] w (fun r w2 => (∃ j, j ≤ 1 ∧ r = some (.int (nI j))) ∧ w2 = w) := by
    refine sx_RP.step (pc2 := 1) (ls2 := [(0, .ref A), (1, .int x)]) (st2 := [.int 0]) (w3 := w) rfl rfl ?_
    refine sx_RP.step (pc2 := 2) (ls2 := [(2, .int 0), (0, .ref A), (1, .int x)]) (st2 := []) (w3 := w) rfl rfl ?_
    exact sx_RP.ls (sx_lr.cons rfl (sx_lr.cons rfl (sx_lr.cons rfl sx_lr.nil))) (p45L hA x hI 10 0  (by omega) (by omega) )
  obtain ⟨r, w2, h1, ⟨j, hj, rfl⟩, rfl⟩ := h
  exact ⟨j, hj, h1⟩
set_option maxRecDepth 20000 in
set_option maxHeartbeats 4000000 in
theorem p54B {xs : Option (List Int32)} {d : Nat} {w : List sx_C} {A : Nat} (hA : isA A) (hI : WI w) {j : Nat} (hj : j ≤ 10) (kk : j + 1 ≤ 10 → sx_RP xs (d + 1) 54 2 [(0, .ref A), (1, .int (nI (j + 1)))] [] w (fun r w2 => (∃ v : Int32, r = some (.int v)) ∧ w2 = w)) : sx_RP xs (d + 1) 54 2 [(0, .ref A), (1, .int (nI j))] [] w (fun r w2 => (∃ v : Int32, r = some (.int v)) ∧ w2 = w) := by
  refine sx_RP.step (pc2 := 3) (ls2 := [(0, .ref A), (1, .int (nI j))]) (st2 := [.int (nI j)]) (w3 := w) rfl rfl ?_
  refine sx_RP.step (pc2 := 4) (ls2 := [(0, .ref A), (1, .int (nI j))]) (st2 := [.ref A, .int (nI j)]) (w3 := w) rfl rfl ?_
  refine sx_RP.gc (k := 3) hI hA rfl rfl (by omega) (show _ = 7 from rfl) ?_
  obtain ⟨x1, hx2, ex3⟩ : inR (fi w A 3) 10 := (hI.c hA).1
  rw [ex3]
  refine sx_RP.br (p1 := 46) (l1 := [(0, .ref A), (1, .int (nI j))]) (s1 := []) (v1 := w) (p2 := 10) (l2 := [(0, .ref A), (1, .int (nI j))]) (s2 := []) (v2 := w) rfl rfl (fun q4 => ?_) (fun q4 => ?_)
  · replace q4 := of_decide_eq_true q4
    replace q4 := (nI_leI (a := x1) (b := j) (by omega) (by omega)).mp q4
    refine sx_RP.step (pc2 := 47) (ls2 := [(0, .ref A), (1, .int (nI j))]) (st2 := [.int (-1)]) (w3 := w) rfl rfl ?_
    refine sx_RP.ret (r := (some (.int (-1)))) rfl rfl ?_
    exact ⟨⟨_, rfl⟩, rfl⟩
  · replace q4 := of_decide_eq_false q4
    replace q4 := mt (nI_leI (a := x1) (b := j) (by omega) (by omega)).mpr q4
    refine sx_RP.step (pc2 := 11) (ls2 := [(0, .ref A), (1, .int (nI j))]) (st2 := [.ref A]) (w3 := w) rfl rfl ?_
    refine sx_RP.gref (k := 2) (b := A + 2) hI hA rfl rfl (by omega) (show _ = 14 from rfl) ?_
    refine sx_RP.step (pc2 := 15) (ls2 := [(0, .ref A), (1, .int (nI j))]) (st2 := [.int (nI j), .ref (A + 2)]) (w3 := w) rfl rfl ?_
    refine sx_RP.ald (v := .ref (A + 4 + j)) rfl (hI.1.aG hA) rfl (grA_at (show j < 10 by omega)) (show _ = 16 from rfl) ?_
    refine sx_RP.gg (k := 1) hI (gAd.of hA (show j < 10 by omega)) rfl rfl (by decide) (show _ = 19 from rfl) ?_
    obtain ⟨x5, hx6, ex7⟩ : inR (fi w (A + 4 + j) 1) 1 := hI.gk (k := 1) (gAd.of hA (show j < 10 by omega)) (by decide)
    rw [ex7]
    refine sx_RP.br (p1 := 40) (l1 := [(0, .ref A), (1, .int (nI j))]) (s1 := []) (v1 := w) (p2 := 22) (l2 := [(0, .ref A), (1, .int (nI j))]) (s2 := []) (v2 := w) rfl rfl (fun q8 => ?_) (fun q8 => ?_)
    · replace q8 := of_decide_eq_true q8
      replace q8 := mt (nI_eq (a := x5) (b := 0) (by omega) (by omega)).mpr q8
      refine sx_RP.step (pc2 := 43) (ls2 := [(1, .int ((nI j) + 1)), (0, .ref A)]) (st2 := []) (w3 := w) rfl rfl ?_
      rw [nI_1 j]
      refine sx_RP.step (pc2 := 2) (ls2 := [(1, .int (nI (j + 1))), (0, .ref A)]) (st2 := []) (w3 := w) rfl rfl ?_
      exact sx_RP.ls (sx_lr.cons rfl (sx_lr.cons rfl sx_lr.nil)) (kk (by omega))
    · replace q8 := Decidable.not_not.mp (of_decide_eq_false q8)
      replace q8 := (nI_eq (a := x5) (b := 0) (by omega) (by omega)).mp q8
      refine sx_RP.step (pc2 := 23) (ls2 := [(0, .ref A), (1, .int (nI j))]) (st2 := [.ref A]) (w3 := w) rfl rfl ?_
      refine sx_RP.step (pc2 := 24) (ls2 := [(0, .ref A), (1, .int (nI j))]) (st2 := [.ref A, .ref A]) (w3 := w) rfl rfl ?_
      refine sx_RP.gref (k := 2) (b := A + 2) hI hA rfl rfl (by omega) (show _ = 27 from rfl) ?_
      refine sx_RP.step (pc2 := 28) (ls2 := [(0, .ref A), (1, .int (nI j))]) (st2 := [.int (nI j), .ref (A + 2), .ref A]) (w3 := w) rfl rfl ?_
      refine sx_RP.ald (v := .ref (A + 4 + j)) rfl (hI.1.aG hA) rfl (grA_at (show j < 10 by omega)) (show _ = 29 from rfl) ?_
      refine sx_RP.gg (k := 2) hI (gAd.of hA (show j < 10 by omega)) rfl rfl (by decide) (show _ = 32 from rfl) ?_
      obtain ⟨x9, hx10, ex11⟩ : inR (fi w (A + 4 + j) 2) 47 := hI.gk (k := 2) (gAd.of hA (show j < 10 by omega)) (by decide)
      rw [ex11]
      obtain ⟨x12, hx13, c14⟩ := p11 hI hA (nI x9)
      refine sx_RP.cu (as := [.ref A, .int (nI x9)]) (rest2 := []) (st3 := [.int (nI x12)]) rfl rfl (sx_inv_v2 (mi := 54) (k := 86) (st := [.int (nI x9), .ref A]) (w := w) rfl rfl (hI.1.oC hA) rfl rfl rfl) rfl rfl (c14) rfl ?_
      refine sx_RP.br (p1 := 40) (l1 := [(0, .ref A), (1, .int (nI j))]) (s1 := []) (v1 := w) (p2 := 38) (l2 := [(0, .ref A), (1, .int (nI j))]) (s2 := []) (v2 := w) rfl rfl (fun q15 => ?_) (fun q15 => ?_)
      · replace q15 := of_decide_eq_true q15
        replace q15 := (nI_eq (a := x12) (b := 0) (by omega) (by omega)).mp q15
        refine sx_RP.step (pc2 := 43) (ls2 := [(1, .int ((nI j) + 1)), (0, .ref A)]) (st2 := []) (w3 := w) rfl rfl ?_
        rw [nI_1 j]
        refine sx_RP.step (pc2 := 2) (ls2 := [(1, .int (nI (j + 1))), (0, .ref A)]) (st2 := []) (w3 := w) rfl rfl ?_
        exact sx_RP.ls (sx_lr.cons rfl (sx_lr.cons rfl sx_lr.nil)) (kk (by omega))
      · replace q15 := of_decide_eq_false q15
        replace q15 := mt (nI_eq (a := x12) (b := 0) (by omega) (by omega)).mpr q15
        refine sx_RP.step (pc2 := 39) (ls2 := [(0, .ref A), (1, .int (nI j))]) (st2 := [.int (nI j)]) (w3 := w) rfl rfl ?_
        refine sx_RP.ret (r := (some (.int (nI j)))) rfl rfl ?_
        exact ⟨⟨_, rfl⟩, rfl⟩
set_option maxRecDepth 20000 in
set_option maxHeartbeats 4000000 in
theorem p54L {xs : Option (List Int32)} {d : Nat} {w : List sx_C} {A : Nat} (hA : isA A) (hI : WI w) : ∀ (fz j : Nat) , 10 ≤ j + fz * 1 → j ≤ 10 → sx_RP xs (d + 1) 54 2 [(0, .ref A), (1, .int (nI j))] [] w (fun r w2 => (∃ v : Int32, r = some (.int v)) ∧ w2 = w)
  | 0, j, h, hj => p54B hA hI hj   (fun   hlt  => absurd hlt (by omega)) 
  | fz + 1, j, h, hj => p54B hA hI hj   (fun   hlt  => p54L hA hI  fz (j + 1)  (by omega) hlt ) 
set_option maxRecDepth 20000 in
set_option maxHeartbeats 4000000 in
theorem p54 {xs : Option (List Int32)} {d : Nat} {w : List sx_C} (hI : WI w) {A : Nat} (hA : isA A) : ∃ v : Int32, sx_RU xs (d + 1) 54 0 (lv_args 0 [.ref A]) [] w (some (.int v)) w := by
  have h : sx_RP xs (d + 1) 54 0 (lv_args 0 [.ref A]) [] w (fun r w2 => (∃ v : Int32, r = some (.int v)) ∧ w2 = w) := by
    refine sx_RP.step (pc2 := 1) (ls2 := [(0, .ref A)]) (st2 := [.int 0]) (w3 := w) rfl rfl ?_
    refine sx_RP.step (pc2 := 2) (ls2 := [(1, .int 0), (0, .ref A)]) (st2 := []) (w3 := w) rfl rfl ?_
    exact sx_RP.ls (sx_lr.cons rfl (sx_lr.cons rfl sx_lr.nil)) (p54L hA hI 10 0  (by omega) (by omega) )
  obtain ⟨r, w2, h1, ⟨v, rfl⟩, rfl⟩ := h
  exact ⟨v, h1⟩
set_option maxRecDepth 20000 in
set_option maxHeartbeats 4000000 in
theorem p77B {xs : Option (List Int32)} {d : Nat} {w : List sx_C} {A : Nat} (hA : isA A) (x y : Int32) (hI : WI w) {j : Nat} (hj : j ≤ 48) (s : Int64) (kk : ∀ (us : Int64), j + 1 ≤ 48 → sx_RP xs (d + 2) 77 5 [(0, .ref A), (1, .int x), (2, .int y), (3, .long us), (5, .int (nI (j + 1)))] [] w (fun r w2 => (∃ v : Int64, r = some (.long v)) ∧ w2 = w)) : sx_RP xs (d + 2) 77 5 [(0, .ref A), (1, .int x), (2, .int y), (3, .long s), (5, .int (nI j))] [] w (fun r w2 => (∃ v : Int64, r = some (.long v)) ∧ w2 = w) := by
  refine sx_RP.step (pc2 := 7) (ls2 := [(0, .ref A), (1, .int x), (2, .int y), (3, .long s), (5, .int (nI j))]) (st2 := [.int (nI j)]) (w3 := w) rfl rfl ?_
  refine sx_RP.step (pc2 := 9) (ls2 := [(0, .ref A), (1, .int x), (2, .int y), (3, .long s), (5, .int (nI j))]) (st2 := [.int 48, .int (nI j)]) (w3 := w) rfl rfl ?_
  refine sx_RP.br (p1 := 58) (l1 := [(0, .ref A), (1, .int x), (2, .int y), (3, .long s), (5, .int (nI j))]) (s1 := []) (v1 := w) (p2 := 12) (l2 := [(0, .ref A), (1, .int x), (2, .int y), (3, .long s), (5, .int (nI j))]) (s2 := []) (v2 := w) rfl rfl (fun q1 => ?_) (fun q1 => ?_)
  · replace q1 := of_decide_eq_true q1
    replace q1 := (nI_leI (a := 48) (b := j) (by omega) (by omega)).mp q1
    refine sx_RP.step (pc2 := 59) (ls2 := [(0, .ref A), (1, .int x), (2, .int y), (3, .long s), (5, .int (nI j))]) (st2 := [.long s]) (w3 := w) rfl rfl ?_
    refine sx_RP.ret (r := (some (.long s))) rfl rfl ?_
    exact ⟨⟨_, rfl⟩, rfl⟩
  · replace q1 := of_decide_eq_false q1
    replace q1 := mt (nI_leI (a := 48) (b := j) (by omega) (by omega)).mpr q1
    refine sx_RP.step (pc2 := 13) (ls2 := [(0, .ref A), (1, .int x), (2, .int y), (3, .long s), (5, .int (nI j))]) (st2 := [.int y]) (w3 := w) rfl rfl ?_
    refine sx_RP.step (pc2 := 14) (ls2 := [(0, .ref A), (1, .int x), (2, .int y), (3, .long s), (5, .int (nI j))]) (st2 := [.int 3, .int y]) (w3 := w) rfl rfl ?_
    refine sx_RP.step (pc2 := 15) (ls2 := [(0, .ref A), (1, .int x), (2, .int y), (3, .long s), (5, .int (nI j))]) (st2 := [.int x, .int 3, .int y]) (w3 := w) rfl rfl ?_
    refine sx_RP.step (pc2 := 17) (ls2 := [(0, .ref A), (1, .int x), (2, .int y), (3, .long s), (5, .int (nI j))]) (st2 := [.int (nI j), .int x, .int 3, .int y]) (w3 := w) rfl rfl ?_
    obtain ⟨v2, c3⟩ := p46 hI x (nI j)
    refine sx_RP.cu (as := [.int x, .int (nI j)]) (rest2 := [.int 3, .int y]) (st3 := [.int v2, .int 3, .int y]) rfl rfl rfl rfl rfl (c3) rfl ?_
    refine sx_RP.step (pc2 := 21) (ls2 := [(0, .ref A), (1, .int x), (2, .int y), (3, .long s), (5, .int (nI j))]) (st2 := [.int (3 * v2), .int y]) (w3 := w) rfl rfl ?_
    refine sx_RP.step (pc2 := 22) (ls2 := [(0, .ref A), (1, .int x), (2, .int y), (3, .long s), (5, .int (nI j))]) (st2 := [.int (y - (3 * v2))]) (w3 := w) rfl rfl ?_
    refine sx_RP.step (pc2 := 24) (ls2 := [(6, .int (y - (3 * v2))), (0, .ref A), (1, .int x), (2, .int y), (3, .long s), (5, .int (nI j))]) (st2 := []) (w3 := w) rfl rfl ?_
    refine sx_RP.step (pc2 := 26) (ls2 := [(6, .int (y - (3 * v2))), (0, .ref A), (1, .int x), (2, .int y), (3, .long s), (5, .int (nI j))]) (st2 := [.int (y - (3 * v2))]) (w3 := w) rfl rfl ?_
    refine sx_RP.step (pc2 := 27) (ls2 := [(6, .int (y - (3 * v2))), (0, .ref A), (1, .int x), (2, .int y), (3, .long s), (5, .int (nI j))]) (st2 := [.ref A, .int (y - (3 * v2))]) (w3 := w) rfl rfl ?_
    refine sx_RP.gref (k := 0) (b := A + 1) hI hA rfl rfl (by omega) (show _ = 30 from rfl) ?_
    refine sx_RP.step (pc2 := 32) (ls2 := [(6, .int (y - (3 * v2))), (0, .ref A), (1, .int x), (2, .int y), (3, .long s), (5, .int (nI j))]) (st2 := [.int (nI j), .ref (A + 1), .int (y - (3 * v2))]) (w3 := w) rfl rfl ?_
    refine sx_RP.ild (c := j) rfl (hI.1.aS hA).1 (hI.1.aS hA).2 (sx_in_nI (show j < 48 by omega) (by decide)) (show (nI j).toNatClampNeg = j from nI_clamp (by omega)) (show _ = 33 from rfl) ?_
    obtain ⟨x4, hx5, ex6⟩ : inR ((ia w (A + 1)).getD j 0) 3 := hI.st hA (show j < 48 by omega)
    rw [ex6]
    refine sx_RP.step (pc2 := 34) (ls2 := [(6, .int (y - (3 * v2))), (0, .ref A), (1, .int x), (2, .int y), (3, .long s), (5, .int (nI j))]) (st2 := [.int 2, .int (nI x4), .int (y - (3 * v2))]) (w3 := w) rfl rfl ?_
    refine sx_RP.br (p1 := 41) (l1 := [(6, .int (y - (3 * v2))), (0, .ref A), (1, .int x), (2, .int y), (3, .long s), (5, .int (nI j))]) (s1 := [.int (y - (3 * v2))]) (v1 := w) (p2 := 37) (l2 := [(6, .int (y - (3 * v2))), (0, .ref A), (1, .int x), (2, .int y), (3, .long s), (5, .int (nI j))]) (s2 := [.int (y - (3 * v2))]) (v2 := w) rfl rfl (fun q7 => ?_) (fun q7 => ?_)
    · replace q7 := of_decide_eq_true q7
      replace q7 := mt (nI_eq (a := x4) (b := 2) (by omega) (by omega)).mpr q7
      refine sx_RP.step (pc2 := 42) (ls2 := [(6, .int (y - (3 * v2))), (0, .ref A), (1, .int x), (2, .int y), (3, .long s), (5, .int (nI j))]) (st2 := [.int 0, .int (y - (3 * v2))]) (w3 := w) rfl rfl ?_
      refine sx_RP.br (p1 := 52) (l1 := [(6, .int (y - (3 * v2))), (0, .ref A), (1, .int x), (2, .int y), (3, .long s), (5, .int (nI j))]) (s1 := []) (v1 := w) (p2 := 45) (l2 := [(6, .int (y - (3 * v2))), (0, .ref A), (1, .int x), (2, .int y), (3, .long s), (5, .int (nI j))]) (s2 := []) (v2 := w) rfl rfl (fun q8 => ?_) (fun q8 => ?_)
      · replace q8 := of_decide_eq_true q8
        refine sx_RP.step (pc2 := 55) (ls2 := [(5, .int ((nI j) + 1)), (6, .int (y - (3 * v2))), (0, .ref A), (1, .int x), (2, .int y), (3, .long s)]) (st2 := []) (w3 := w) rfl rfl ?_
        rw [nI_1 j]
        refine sx_RP.step (pc2 := 5) (ls2 := [(5, .int (nI (j + 1))), (6, .int (y - (3 * v2))), (0, .ref A), (1, .int x), (2, .int y), (3, .long s)]) (st2 := []) (w3 := w) rfl rfl ?_
        exact sx_RP.ls (sx_lr.cons rfl (sx_lr.cons rfl (sx_lr.cons rfl (sx_lr.cons rfl (sx_lr.cons rfl sx_lr.nil))))) (kk s (by omega))
      · replace q8 := of_decide_eq_false q8
        refine sx_RP.step (pc2 := 46) (ls2 := [(6, .int (y - (3 * v2))), (0, .ref A), (1, .int x), (2, .int y), (3, .long s), (5, .int (nI j))]) (st2 := [.long s]) (w3 := w) rfl rfl ?_
        refine sx_RP.step (pc2 := 47) (ls2 := [(6, .int (y - (3 * v2))), (0, .ref A), (1, .int x), (2, .int y), (3, .long s), (5, .int (nI j))]) (st2 := [.long 1, .long s]) (w3 := w) rfl rfl ?_
        refine sx_RP.step (pc2 := 49) (ls2 := [(6, .int (y - (3 * v2))), (0, .ref A), (1, .int x), (2, .int y), (3, .long s), (5, .int (nI j))]) (st2 := [.int (nI j), .long 1, .long s]) (w3 := w) rfl rfl ?_
        refine sx_RP.step (pc2 := 50) (ls2 := [(6, .int (y - (3 * v2))), (0, .ref A), (1, .int x), (2, .int y), (3, .long s), (5, .int (nI j))]) (st2 := [.long ((1 : Int64) <<< ((nI j).toInt64 &&& 63)), .long s]) (w3 := w) rfl rfl ?_
        refine sx_RP.step (pc2 := 51) (ls2 := [(6, .int (y - (3 * v2))), (0, .ref A), (1, .int x), (2, .int y), (3, .long s), (5, .int (nI j))]) (st2 := [.long (s ||| ((1 : Int64) <<< ((nI j).toInt64 &&& 63)))]) (w3 := w) rfl rfl ?_
        refine sx_RP.step (pc2 := 52) (ls2 := [(3, .long (s ||| ((1 : Int64) <<< ((nI j).toInt64 &&& 63)))), (6, .int (y - (3 * v2))), (0, .ref A), (1, .int x), (2, .int y), (5, .int (nI j))]) (st2 := []) (w3 := w) rfl rfl ?_
        refine sx_RP.step (pc2 := 55) (ls2 := [(5, .int ((nI j) + 1)), (3, .long (s ||| ((1 : Int64) <<< ((nI j).toInt64 &&& 63)))), (6, .int (y - (3 * v2))), (0, .ref A), (1, .int x), (2, .int y)]) (st2 := []) (w3 := w) rfl rfl ?_
        rw [nI_1 j]
        refine sx_RP.step (pc2 := 5) (ls2 := [(5, .int (nI (j + 1))), (3, .long (s ||| ((1 : Int64) <<< ((nI j).toInt64 &&& 63)))), (6, .int (y - (3 * v2))), (0, .ref A), (1, .int x), (2, .int y)]) (st2 := []) (w3 := w) rfl rfl ?_
        exact sx_RP.ls (sx_lr.cons rfl (sx_lr.cons rfl (sx_lr.cons rfl (sx_lr.cons rfl (sx_lr.cons rfl sx_lr.nil))))) (kk (s ||| ((1 : Int64) <<< ((nI j).toInt64 &&& 63))) (by omega))
    · replace q7 := Decidable.not_not.mp (of_decide_eq_false q7)
      replace q7 := (nI_eq (a := x4) (b := 2) (by omega) (by omega)).mp q7
      refine sx_RP.step (pc2 := 38) (ls2 := [(6, .int (y - (3 * v2))), (0, .ref A), (1, .int x), (2, .int y), (3, .long s), (5, .int (nI j))]) (st2 := [.int 4, .int (y - (3 * v2))]) (w3 := w) rfl rfl ?_
      refine sx_RP.step (pc2 := 42) (ls2 := [(6, .int (y - (3 * v2))), (0, .ref A), (1, .int x), (2, .int y), (3, .long s), (5, .int (nI j))]) (st2 := [.int 4, .int (y - (3 * v2))]) (w3 := w) rfl rfl ?_
      refine sx_RP.br (p1 := 52) (l1 := [(6, .int (y - (3 * v2))), (0, .ref A), (1, .int x), (2, .int y), (3, .long s), (5, .int (nI j))]) (s1 := []) (v1 := w) (p2 := 45) (l2 := [(6, .int (y - (3 * v2))), (0, .ref A), (1, .int x), (2, .int y), (3, .long s), (5, .int (nI j))]) (s2 := []) (v2 := w) rfl rfl (fun q9 => ?_) (fun q9 => ?_)
      · replace q9 := of_decide_eq_true q9
        refine sx_RP.step (pc2 := 55) (ls2 := [(5, .int ((nI j) + 1)), (6, .int (y - (3 * v2))), (0, .ref A), (1, .int x), (2, .int y), (3, .long s)]) (st2 := []) (w3 := w) rfl rfl ?_
        rw [nI_1 j]
        refine sx_RP.step (pc2 := 5) (ls2 := [(5, .int (nI (j + 1))), (6, .int (y - (3 * v2))), (0, .ref A), (1, .int x), (2, .int y), (3, .long s)]) (st2 := []) (w3 := w) rfl rfl ?_
        exact sx_RP.ls (sx_lr.cons rfl (sx_lr.cons rfl (sx_lr.cons rfl (sx_lr.cons rfl (sx_lr.cons rfl sx_lr.nil))))) (kk s (by omega))
      · replace q9 := of_decide_eq_false q9
        refine sx_RP.step (pc2 := 46) (ls2 := [(6, .int (y - (3 * v2))), (0, .ref A), (1, .int x), (2, .int y), (3, .long s), (5, .int (nI j))]) (st2 := [.long s]) (w3 := w) rfl rfl ?_
        refine sx_RP.step (pc2 := 47) (ls2 := [(6, .int (y - (3 * v2))), (0, .ref A), (1, .int x), (2, .int y), (3, .long s), (5, .int (nI j))]) (st2 := [.long 1, .long s]) (w3 := w) rfl rfl ?_
        refine sx_RP.step (pc2 := 49) (ls2 := [(6, .int (y - (3 * v2))), (0, .ref A), (1, .int x), (2, .int y), (3, .long s), (5, .int (nI j))]) (st2 := [.int (nI j), .long 1, .long s]) (w3 := w) rfl rfl ?_
        refine sx_RP.step (pc2 := 50) (ls2 := [(6, .int (y - (3 * v2))), (0, .ref A), (1, .int x), (2, .int y), (3, .long s), (5, .int (nI j))]) (st2 := [.long ((1 : Int64) <<< ((nI j).toInt64 &&& 63)), .long s]) (w3 := w) rfl rfl ?_
        refine sx_RP.step (pc2 := 51) (ls2 := [(6, .int (y - (3 * v2))), (0, .ref A), (1, .int x), (2, .int y), (3, .long s), (5, .int (nI j))]) (st2 := [.long (s ||| ((1 : Int64) <<< ((nI j).toInt64 &&& 63)))]) (w3 := w) rfl rfl ?_
        refine sx_RP.step (pc2 := 52) (ls2 := [(3, .long (s ||| ((1 : Int64) <<< ((nI j).toInt64 &&& 63)))), (6, .int (y - (3 * v2))), (0, .ref A), (1, .int x), (2, .int y), (5, .int (nI j))]) (st2 := []) (w3 := w) rfl rfl ?_
        refine sx_RP.step (pc2 := 55) (ls2 := [(5, .int ((nI j) + 1)), (3, .long (s ||| ((1 : Int64) <<< ((nI j).toInt64 &&& 63)))), (6, .int (y - (3 * v2))), (0, .ref A), (1, .int x), (2, .int y)]) (st2 := []) (w3 := w) rfl rfl ?_
        rw [nI_1 j]
        refine sx_RP.step (pc2 := 5) (ls2 := [(5, .int (nI (j + 1))), (3, .long (s ||| ((1 : Int64) <<< ((nI j).toInt64 &&& 63)))), (6, .int (y - (3 * v2))), (0, .ref A), (1, .int x), (2, .int y)]) (st2 := []) (w3 := w) rfl rfl ?_
        exact sx_RP.ls (sx_lr.cons rfl (sx_lr.cons rfl (sx_lr.cons rfl (sx_lr.cons rfl (sx_lr.cons rfl sx_lr.nil))))) (kk (s ||| ((1 : Int64) <<< ((nI j).toInt64 &&& 63))) (by omega))
set_option maxRecDepth 20000 in
set_option maxHeartbeats 4000000 in
theorem p77L {xs : Option (List Int32)} {d : Nat} {w : List sx_C} {A : Nat} (hA : isA A) (x y : Int32) (hI : WI w) : ∀ (fz j : Nat) (s : Int64) , 48 ≤ j + fz * 1 → j ≤ 48 → sx_RP xs (d + 2) 77 5 [(0, .ref A), (1, .int x), (2, .int y), (3, .long s), (5, .int (nI j))] [] w (fun r w2 => (∃ v : Int64, r = some (.long v)) ∧ w2 = w)
  | 0, j, s, h, hj => p77B hA x y hI hj s  (fun us  hlt  => absurd hlt (by omega)) 
  | fz + 1, j, s, h, hj => p77B hA x y hI hj s  (fun us  hlt  => p77L hA x y hI  fz (j + 1) us (by omega) hlt ) 
set_option maxRecDepth 20000 in
set_option maxHeartbeats 4000000 in
theorem p77 {xs : Option (List Int32)} {d : Nat} {w : List sx_C} (hI : WI w) {A : Nat} (hA : isA A) (x y : Int32) : ∃ v : Int64, sx_RU xs (d + 2) 77 0 (lv_args 0 [.ref A, .int x, .int y]) [] w (some (.long v)) w := by
  have h : sx_RP xs (d + 2) 77 0 (lv_args 0 [.ref A, .int x, .int y]) [] w (fun r w2 => (∃ v : Int64, r = some (.long v)) ∧ w2 = w) := by
    refine sx_RP.step (pc2 := 1) (ls2 := [(0, .ref A), (1, .int x), (2, .int y)]) (st2 := [.long 0]) (w3 := w) rfl rfl ?_
    refine sx_RP.step (pc2 := 2) (ls2 := [(3, .long 0), (0, .ref A), (1, .int x), (2, .int y)]) (st2 := []) (w3 := w) rfl rfl ?_
    refine sx_RP.step (pc2 := 3) (ls2 := [(3, .long 0), (0, .ref A), (1, .int x), (2, .int y)]) (st2 := [.int 0]) (w3 := w) rfl rfl ?_
    refine sx_RP.step (pc2 := 5) (ls2 := [(5, .int 0), (3, .long 0), (0, .ref A), (1, .int x), (2, .int y)]) (st2 := []) (w3 := w) rfl rfl ?_
    exact sx_RP.ls (sx_lr.cons rfl (sx_lr.cons rfl (sx_lr.cons rfl (sx_lr.cons rfl (sx_lr.cons rfl sx_lr.nil))))) (p77L hA x y hI 48 0 0 (by omega) (by omega) )
  obtain ⟨r, w2, h1, ⟨v, rfl⟩, rfl⟩ := h
  exact ⟨v, h1⟩
end
-- 45z.tests.lean.txt
section
section SXN
variable {xs : Option (List Int32)} {d : Nat} {w : List sx_C} {x lo hi : Int32}
theorem cx_8n (q : ¬ (lo ≤ x ∧ x ≤ hi)) : sx_RU xs d 8 0 (lv_args 0 [.int x, .int lo, .int hi]) [] w (some (.int 0)) w := by
  have c := cx_8 xs d w x lo hi
  rw [if_neg q] at c
  exact c
theorem cx_8p (q : lo ≤ x ∧ x ≤ hi) : sx_RU xs d 8 0 (lv_args 0 [.int x, .int lo, .int hi]) [] w (some (.int 1)) w := by
  have c := cx_8 xs d w x lo hi
  rw [if_pos q] at c
  exact c
theorem cx_132o (q : ¬ (lo ≤ x ∧ x ≤ hi)) : sx_RU xs d 132 0 (lv_args 0 [.int x, .int lo, .int hi]) [] w (some (.int 0)) w := by
  have c := cx_132 xs d w x lo hi
  rw [if_neg q] at c
  exact c
theorem cx_132p (q : lo ≤ x ∧ x ≤ hi) : sx_RU xs d 132 0 (lv_args 0 [.int x, .int lo, .int hi]) [] w (some (.int 1)) w := by
  have c := cx_132 xs d w x lo hi
  rw [if_pos q] at c
  exact c
theorem cx_7n (q : ¬ (0 ≤ x ∧ x ≤ 47)) : sx_RU xs d 7 0 (lv_args 0 [.int x]) [] w (some (.int 0)) w := by
  have c := cx_7 xs d w x
  rw [if_neg q] at c
  exact c
theorem cx_7p (q : 0 ≤ x ∧ x ≤ 47) : sx_RU xs d 7 0 (lv_args 0 [.int x]) [] w (some (.int 1)) w := by
  have c := cx_7 xs d w x
  rw [if_pos q] at c
  exact c
theorem cx_22n (q : ¬ (0 ≤ x ∧ x ≤ 5)) : sx_RU xs d 22 0 (lv_args 0 [.int x]) [] w (some (.int 0)) w := by
  have c := cx_22 xs d w x
  rw [if_neg q] at c
  exact c
theorem cx_22p (q : 0 ≤ x ∧ x ≤ 5) : sx_RU xs d 22 0 (lv_args 0 [.int x]) [] w (some (.int 1)) w := by
  have c := cx_22 xs d w x
  rw [if_pos q] at c
  exact c
theorem cx_23n (q : ¬ (0 ≤ x ∧ x ≤ 3)) : sx_RU xs d 23 0 (lv_args 0 [.int x]) [] w (some (.int 0)) w := by
  have c := cx_23 xs d w x
  rw [if_neg q] at c
  exact c
theorem cx_23p (q : 0 ≤ x ∧ x ≤ 3) : sx_RU xs d 23 0 (lv_args 0 [.int x]) [] w (some (.int 1)) w := by
  have c := cx_23 xs d w x
  rw [if_pos q] at c
  exact c
theorem cx_112n (q : ¬ (0 ≤ x ∧ x ≤ 3)) : sx_RU xs (d + 1) 112 0 (lv_args 0 [.int x]) [] w (some (.int 0)) w := by
  refine sx_RU.step rfl rfl (sx_RU.step rfl rfl (sx_RU.step rfl rfl ?_))
  exact sx_RU.call rfl rfl rfl rfl (cx_8n q) (sx_RU.ret rfl rfl)
theorem cx_112p (q : 0 ≤ x ∧ x ≤ 3) : sx_RU xs (d + 1) 112 0 (lv_args 0 [.int x]) [] w (some (.int 1)) w := by
  refine sx_RU.step rfl rfl (sx_RU.step rfl rfl (sx_RU.step rfl rfl ?_))
  exact sx_RU.call rfl rfl rfl rfl (cx_8p q) (sx_RU.ret rfl rfl)
theorem bes_cases {c j : Nat} (hc : c < 48) (hj : j < 4) : bsd c j = -1 ∨ ∃ c2, c2 < 48 ∧ bsd c j = nI c2 := by
  rcases bsd_nat c hc j hj with h | ⟨h1, h2⟩
  · exact Or.inl h
  · exact Or.inr ⟨_, h1, h2⟩
theorem cb_20e {c j : Nat} {v : Int32} (hc : c < 48) (hj : j < 4) (h : bsd c j = v) : sx_RU xs d 20 0 (lv_args 0 [.int (nI c), .int (nI j)]) [] w (some (.int v)) w := by
  rw [← h]
  exact cb_20 hc j hj
theorem cb_142e {c j : Nat} {v : Int32} (hc : c < 48) (hj : j < 4) (h : bsd c j = v) : sx_RU xs d 142 0 (lv_args 0 [.int (nI c), .int (nI j)]) [] w (some (.int v)) w := by
  rw [← h]
  exact cb_142 hc j hj
end SXN
theorem idx_of {x : Int32} {n m : Nat} (q1 : ¬ x < 0) (q2 : ¬ nI n ≤ x) (hn : n ≤ m) (hm : m < 2 ^ 31) : ∃ j, j < m ∧ x = nI j := by
  obtain ⟨j, hj, rfl⟩ := nI_of q1
  refine ⟨j, ?_, rfl⟩
  have := mt (nI_leI (by omega) hj).mpr q2
  omega
end
-- 46.tests.lean.txt
section
theorem in_casesN {a m n : Nat} (ha : a < 2 ^ 31) (hm : m < 2 ^ 31) (hn : n < 2 ^ 31) : ¬ (nI m ≤ nI a ∧ nI a ≤ nI n) ∨ (m ≤ a ∧ a ≤ n) := by
  by_cases h : m ≤ a ∧ a ≤ n
  · exact Or.inr h
  · left
    rw [nI_leI hm ha, nI_leI ha hn]
    exact h
set_option maxRecDepth 20000 in
set_option maxHeartbeats 4000000 in
theorem p27 {xs : Option (List Int32)} {d : Nat} {w : List sx_C} (hI : WI w) {A : Nat} (hA : isA A) (x : Int32) : sx_RU xs d 27 0 (lv_args 0 [.ref A, .int x]) [] w (some (.int 0)) w ∨ ((∃ j, j < 10 ∧ x = nI j) ∧ sx_RU xs d 27 0 (lv_args 0 [.ref A, .int x]) [] w (some (.int 1)) w) := by
  have h : sx_RP xs d 27 0 (lv_args 0 [.ref A, .int x]) [] w (fun r w2 => (r = some (.int 0) ∨ ((∃ j, j < 10 ∧ x = nI j) ∧ r = some (.int 1))) ∧ w2 = w) := by
    refine sx_RP.step (pc2 := 1) (ls2 := [(0, .ref A), (1, .int x)]) (st2 := [.int x]) (w3 := w) rfl rfl ?_
    refine sx_RP.br (p1 := 16) (l1 := [(0, .ref A), (1, .int x)]) (s1 := []) (v1 := w) (p2 := 4) (l2 := [(0, .ref A), (1, .int x)]) (s2 := []) (v2 := w) rfl rfl (fun q1 => ?_) (fun q1 => ?_)
    · replace q1 := of_decide_eq_true q1
      refine sx_RP.step (pc2 := 17) (ls2 := [(0, .ref A), (1, .int x)]) (st2 := [.int 0]) (w3 := w) rfl rfl ?_
      refine sx_RP.ret (r := (some (.int 0))) rfl rfl ?_
      exact ⟨Or.inl rfl, rfl⟩
    · replace q1 := of_decide_eq_false q1
      refine sx_RP.step (pc2 := 5) (ls2 := [(0, .ref A), (1, .int x)]) (st2 := [.int x]) (w3 := w) rfl rfl ?_
      refine sx_RP.step (pc2 := 6) (ls2 := [(0, .ref A), (1, .int x)]) (st2 := [.ref A, .int x]) (w3 := w) rfl rfl ?_
      refine sx_RP.gc (k := 3) hI hA rfl rfl (by omega) (show _ = 9 from rfl) ?_
      obtain ⟨x2, hx3, ex4⟩ : inR (fi w A 3) 10 := (hI.c hA).1
      rw [ex4]
      refine sx_RP.br (p1 := 16) (l1 := [(0, .ref A), (1, .int x)]) (s1 := []) (v1 := w) (p2 := 12) (l2 := [(0, .ref A), (1, .int x)]) (s2 := []) (v2 := w) rfl rfl (fun q5 => ?_) (fun q5 => ?_)
      · replace q5 := of_decide_eq_true q5
        refine sx_RP.step (pc2 := 17) (ls2 := [(0, .ref A), (1, .int x)]) (st2 := [.int 0]) (w3 := w) rfl rfl ?_
        refine sx_RP.ret (r := (some (.int 0))) rfl rfl ?_
        exact ⟨Or.inl rfl, rfl⟩
      · replace q5 := of_decide_eq_false q5
        refine sx_RP.step (pc2 := 13) (ls2 := [(0, .ref A), (1, .int x)]) (st2 := [.int 1]) (w3 := w) rfl rfl ?_
        refine sx_RP.step (pc2 := 17) (ls2 := [(0, .ref A), (1, .int x)]) (st2 := [.int 1]) (w3 := w) rfl rfl ?_
        refine sx_RP.ret (r := (some (.int 1))) rfl rfl ?_
        exact ⟨Or.inr ⟨idx_of q1 q5 (by omega) (by decide), rfl⟩, rfl⟩
  obtain ⟨r, w2, h1, h2, rfl⟩ := h
  rcases h2 with rfl | ⟨hc, rfl⟩
  · exact Or.inl h1
  · exact Or.inr ⟨hc, h1⟩
set_option maxRecDepth 20000 in
set_option maxHeartbeats 4000000 in
theorem p66 {xs : Option (List Int32)} {d : Nat} {w : List sx_C} (hI : WI w) {A : Nat} (hA : isA A) (x : Int32) : sx_RU xs d 66 0 (lv_args 0 [.ref A, .int x]) [] w (some (.int 0)) w ∨ ((∃ j, j < 9 ∧ x = nI j) ∧ sx_RU xs d 66 0 (lv_args 0 [.ref A, .int x]) [] w (some (.int 1)) w) := by
  have h : sx_RP xs d 66 0 (lv_args 0 [.ref A, .int x]) [] w (fun r w2 => (r = some (.int 0) ∨ ((∃ j, j < 9 ∧ x = nI j) ∧ r = some (.int 1))) ∧ w2 = w) := by
    refine sx_RP.step (pc2 := 1) (ls2 := [(0, .ref A), (1, .int x)]) (st2 := [.int x]) (w3 := w) rfl rfl ?_
    refine sx_RP.br (p1 := 16) (l1 := [(0, .ref A), (1, .int x)]) (s1 := []) (v1 := w) (p2 := 4) (l2 := [(0, .ref A), (1, .int x)]) (s2 := []) (v2 := w) rfl rfl (fun q1 => ?_) (fun q1 => ?_)
    · replace q1 := of_decide_eq_true q1
      refine sx_RP.step (pc2 := 17) (ls2 := [(0, .ref A), (1, .int x)]) (st2 := [.int 0]) (w3 := w) rfl rfl ?_
      refine sx_RP.ret (r := (some (.int 0))) rfl rfl ?_
      exact ⟨Or.inl rfl, rfl⟩
    · replace q1 := of_decide_eq_false q1
      refine sx_RP.step (pc2 := 5) (ls2 := [(0, .ref A), (1, .int x)]) (st2 := [.int x]) (w3 := w) rfl rfl ?_
      refine sx_RP.step (pc2 := 6) (ls2 := [(0, .ref A), (1, .int x)]) (st2 := [.ref A, .int x]) (w3 := w) rfl rfl ?_
      refine sx_RP.gc (k := 5) hI hA rfl rfl (by omega) (show _ = 9 from rfl) ?_
      obtain ⟨x2, hx3, ex4⟩ : inR (fi w A 5) 9 := (hI.c hA).2
      rw [ex4]
      refine sx_RP.br (p1 := 16) (l1 := [(0, .ref A), (1, .int x)]) (s1 := []) (v1 := w) (p2 := 12) (l2 := [(0, .ref A), (1, .int x)]) (s2 := []) (v2 := w) rfl rfl (fun q5 => ?_) (fun q5 => ?_)
      · replace q5 := of_decide_eq_true q5
        refine sx_RP.step (pc2 := 17) (ls2 := [(0, .ref A), (1, .int x)]) (st2 := [.int 0]) (w3 := w) rfl rfl ?_
        refine sx_RP.ret (r := (some (.int 0))) rfl rfl ?_
        exact ⟨Or.inl rfl, rfl⟩
      · replace q5 := of_decide_eq_false q5
        refine sx_RP.step (pc2 := 13) (ls2 := [(0, .ref A), (1, .int x)]) (st2 := [.int 1]) (w3 := w) rfl rfl ?_
        refine sx_RP.step (pc2 := 17) (ls2 := [(0, .ref A), (1, .int x)]) (st2 := [.int 1]) (w3 := w) rfl rfl ?_
        refine sx_RP.ret (r := (some (.int 1))) rfl rfl ?_
        exact ⟨Or.inr ⟨idx_of q1 q5 (by omega) (by decide), rfl⟩, rfl⟩
  obtain ⟨r, w2, h1, h2, rfl⟩ := h
  rcases h2 with rfl | ⟨hc, rfl⟩
  · exact Or.inl h1
  · exact Or.inr ⟨hc, h1⟩
set_option maxRecDepth 20000 in
set_option maxHeartbeats 4000000 in
theorem p63 {xs : Option (List Int32)} {d : Nat} {w : List sx_C} (hI : WI w) {A : Nat} (hA : isA A) : sx_RU xs d 63 0 (lv_args 0 [.ref A]) [] w (some (.int 0)) w ∨ ((∃ j, j ≤ 8 ∧ fi w A 5 = nI j) ∧ sx_RU xs d 63 0 (lv_args 0 [.ref A]) [] w (some (.int 1)) w) := by
  have h : sx_RP xs d 63 0 (lv_args 0 [.ref A]) [] w (fun r w2 => (r = some (.int 0) ∨ ((∃ j, j ≤ 8 ∧ fi w A 5 = nI j) ∧ r = some (.int 1))) ∧ w2 = w) := by
    refine sx_RP.step (pc2 := 1) (ls2 := [(0, .ref A)]) (st2 := [.ref A]) (w3 := w) rfl rfl ?_
    refine sx_RP.gc (k := 5) hI hA rfl rfl (by omega) (show _ = 4 from rfl) ?_
    obtain ⟨x1, hx2, ex3⟩ : inR (fi w A 5) 9 := (hI.c hA).2
    rw [ex3]
    refine sx_RP.step (pc2 := 6) (ls2 := [(0, .ref A)]) (st2 := [.int 9, .int (nI x1)]) (w3 := w) rfl rfl ?_
    refine sx_RP.br (p1 := 13) (l1 := [(0, .ref A)]) (s1 := []) (v1 := w) (p2 := 9) (l2 := [(0, .ref A)]) (s2 := []) (v2 := w) rfl rfl (fun q4 => ?_) (fun q4 => ?_)
    · replace q4 := of_decide_eq_true q4
      replace q4 := (nI_leI (a := 9) (b := x1) (by omega) (by omega)).mp q4
      refine sx_RP.step (pc2 := 14) (ls2 := [(0, .ref A)]) (st2 := [.int 0]) (w3 := w) rfl rfl ?_
      refine sx_RP.ret (r := (some (.int 0))) rfl rfl ?_
      exact ⟨Or.inl rfl, rfl⟩
    · replace q4 := of_decide_eq_false q4
      replace q4 := mt (nI_leI (a := 9) (b := x1) (by omega) (by omega)).mpr q4
      refine sx_RP.step (pc2 := 10) (ls2 := [(0, .ref A)]) (st2 := [.int 1]) (w3 := w) rfl rfl ?_
      refine sx_RP.step (pc2 := 14) (ls2 := [(0, .ref A)]) (st2 := [.int 1]) (w3 := w) rfl rfl ?_
      refine sx_RP.ret (r := (some (.int 1))) rfl rfl ?_
      exact ⟨Or.inr ⟨⟨x1, by omega, rfl⟩, rfl⟩, rfl⟩
  obtain ⟨r, w2, h1, h2, rfl⟩ := h
  rcases h2 with rfl | ⟨hc, rfl⟩
  · exact Or.inl h1
  · exact Or.inr ⟨hc, h1⟩
set_option maxRecDepth 20000 in
set_option maxHeartbeats 4000000 in
theorem p31_0 {xs : Option (List Int32)} {d : Nat} {w : List sx_C} (hI : WI w) (x : Int32) : ∃ j, j ≤ 1 ∧ sx_RU xs d 31 0 (lv_args 0 [.int (nI 0), .int x]) [] w (some (.int (nI j))) w := by
  have h : sx_RP xs d 31 0 (lv_args 0 [.int (nI 0), .int x]) [] w (fun r w2 => (∃ j, j ≤ 1 ∧ r = some (.int (nI j))) ∧ w2 = w) := by
    refine sx_RP.step (pc2 := 1) (ls2 := [(0, .int (nI 0)), (1, .int x)]) (st2 := [.int (nI 0)]) (w3 := w) rfl rfl ?_
    refine sx_RP.step (pc2 := 2) (ls2 := [(2, .int (nI 0)), (0, .int (nI 0)), (1, .int x)]) (st2 := []) (w3 := w) rfl rfl ?_
    refine sx_RP.step (pc2 := 3) (ls2 := [(2, .int (nI 0)), (0, .int (nI 0)), (1, .int x)]) (st2 := [.int 0]) (w3 := w) rfl rfl ?_
    refine sx_RP.step (pc2 := 4) (ls2 := [(3, .int 0), (2, .int (nI 0)), (0, .int (nI 0)), (1, .int x)]) (st2 := []) (w3 := w) rfl rfl ?_
    refine sx_RP.step (pc2 := 5) (ls2 := [(3, .int 0), (2, .int (nI 0)), (0, .int (nI 0)), (1, .int x)]) (st2 := [.int 0]) (w3 := w) rfl rfl ?_
    refine sx_RP.step (pc2 := 7) (ls2 := [(3, .int 0), (2, .int (nI 0)), (0, .int (nI 0)), (1, .int x)]) (st2 := [.int 6, .int 0]) (w3 := w) rfl rfl ?_
    refine sx_RP.step (pc2 := 10) (ls2 := [(3, .int 0), (2, .int (nI 0)), (0, .int (nI 0)), (1, .int x)]) (st2 := []) (w3 := w) rfl rfl ?_
    refine sx_RP.step (pc2 := 11) (ls2 := [(3, .int 0), (2, .int (nI 0)), (0, .int (nI 0)), (1, .int x)]) (st2 := [.int (nI 0)]) (w3 := w) rfl rfl ?_
    refine sx_RP.step (pc2 := 12) (ls2 := [(3, .int 0), (2, .int (nI 0)), (0, .int (nI 0)), (1, .int x)]) (st2 := [.int (-1), .int (nI 0)]) (w3 := w) rfl rfl ?_
    refine sx_RP.step (pc2 := 15) (ls2 := [(3, .int 0), (2, .int (nI 0)), (0, .int (nI 0)), (1, .int x)]) (st2 := []) (w3 := w) rfl rfl ?_
    refine sx_RP.step (pc2 := 16) (ls2 := [(3, .int 0), (2, .int (nI 0)), (0, .int (nI 0)), (1, .int x)]) (st2 := [.int (nI 0)]) (w3 := w) rfl rfl ?_
    refine sx_RP.step (pc2 := 17) (ls2 := [(3, .int 0), (2, .int (nI 0)), (0, .int (nI 0)), (1, .int x)]) (st2 := [.int x, .int (nI 0)]) (w3 := w) rfl rfl ?_
    refine sx_RP.br (p1 := 22) (l1 := [(3, .int 0), (2, .int (nI 0)), (0, .int (nI 0)), (1, .int x)]) (s1 := []) (v1 := w) (p2 := 20) (l2 := [(3, .int 0), (2, .int (nI 0)), (0, .int (nI 0)), (1, .int x)]) (s2 := []) (v2 := w) rfl rfl (fun q1 => ?_) (fun q1 => ?_)
    · replace q1 := of_decide_eq_true q1
      refine sx_RP.step (pc2 := 25) (ls2 := [(3, .int 0), (2, .int (nI 0)), (0, .int (nI 0)), (1, .int x)]) (st2 := [.float 1]) (w3 := w) rfl rfl ?_
      refine sx_RP.step (pc2 := 26) (ls2 := [(3, .int 0), (2, .int (nI 0)), (0, .int (nI 0)), (1, .int x)]) (st2 := [.int (nI 0), .float 1]) (w3 := w) rfl rfl ?_
      refine sx_RP.step (pc2 := 27) (ls2 := [(3, .int 0), (2, .int (nI 0)), (0, .int (nI 0)), (1, .int x)]) (st2 := [.int (-1)]) (w3 := w) rfl rfl ?_
      refine sx_RP.step (pc2 := 28) (ls2 := [(2, .int (-1)), (3, .int 0), (0, .int (nI 0)), (1, .int x)]) (st2 := []) (w3 := w) rfl rfl ?_
      refine sx_RP.step (pc2 := 31) (ls2 := [(3, .int 1), (2, .int (-1)), (0, .int (nI 0)), (1, .int x)]) (st2 := []) (w3 := w) rfl rfl ?_
      refine sx_RP.step (pc2 := 4) (ls2 := [(3, .int 1), (2, .int (-1)), (0, .int (nI 0)), (1, .int x)]) (st2 := []) (w3 := w) rfl rfl ?_
      refine sx_RP.step (pc2 := 5) (ls2 := [(3, .int 1), (2, .int (-1)), (0, .int (nI 0)), (1, .int x)]) (st2 := [.int 1]) (w3 := w) rfl rfl ?_
      refine sx_RP.step (pc2 := 7) (ls2 := [(3, .int 1), (2, .int (-1)), (0, .int (nI 0)), (1, .int x)]) (st2 := [.int 6, .int 1]) (w3 := w) rfl rfl ?_
      refine sx_RP.step (pc2 := 10) (ls2 := [(3, .int 1), (2, .int (-1)), (0, .int (nI 0)), (1, .int x)]) (st2 := []) (w3 := w) rfl rfl ?_
      refine sx_RP.step (pc2 := 11) (ls2 := [(3, .int 1), (2, .int (-1)), (0, .int (nI 0)), (1, .int x)]) (st2 := [.int (-1)]) (w3 := w) rfl rfl ?_
      refine sx_RP.step (pc2 := 12) (ls2 := [(3, .int 1), (2, .int (-1)), (0, .int (nI 0)), (1, .int x)]) (st2 := [.int (-1), .int (-1)]) (w3 := w) rfl rfl ?_
      refine sx_RP.step (pc2 := 34) (ls2 := [(3, .int 1), (2, .int (-1)), (0, .int (nI 0)), (1, .int x)]) (st2 := []) (w3 := w) rfl rfl ?_
      refine sx_RP.step (pc2 := 35) (ls2 := [(3, .int 1), (2, .int (-1)), (0, .int (nI 0)), (1, .int x)]) (st2 := [.int 0]) (w3 := w) rfl rfl ?_
      refine sx_RP.ret (r := (some (.int 0))) rfl rfl ?_
      exact ⟨⟨0, by decide, rfl⟩, rfl⟩
    · replace q1 := Decidable.not_not.mp (of_decide_eq_false q1)
      refine sx_RP.step (pc2 := 21) (ls2 := [(3, .int 0), (2, .int (nI 0)), (0, .int (nI 0)), (1, .int x)]) (st2 := [.int 1]) (w3 := w) rfl rfl ?_
      refine sx_RP.ret (r := (some (.int 1))) rfl rfl ?_
      exact ⟨⟨1, by decide, rfl⟩, rfl⟩
  obtain ⟨r, w2, h1, ⟨j, hj, rfl⟩, rfl⟩ := h
  exact ⟨j, hj, h1⟩
set_option maxRecDepth 20000 in
set_option maxHeartbeats 4000000 in
theorem p31_1 {xs : Option (List Int32)} {d : Nat} {w : List sx_C} (hI : WI w) (x : Int32) : ∃ j, j ≤ 1 ∧ sx_RU xs d 31 0 (lv_args 0 [.int (nI 1), .int x]) [] w (some (.int (nI j))) w := by
  have h : sx_RP xs d 31 0 (lv_args 0 [.int (nI 1), .int x]) [] w (fun r w2 => (∃ j, j ≤ 1 ∧ r = some (.int (nI j))) ∧ w2 = w) := by
    refine sx_RP.step (pc2 := 1) (ls2 := [(0, .int (nI 1)), (1, .int x)]) (st2 := [.int (nI 1)]) (w3 := w) rfl rfl ?_
    refine sx_RP.step (pc2 := 2) (ls2 := [(2, .int (nI 1)), (0, .int (nI 1)), (1, .int x)]) (st2 := []) (w3 := w) rfl rfl ?_
    refine sx_RP.step (pc2 := 3) (ls2 := [(2, .int (nI 1)), (0, .int (nI 1)), (1, .int x)]) (st2 := [.int 0]) (w3 := w) rfl rfl ?_
    refine sx_RP.step (pc2 := 4) (ls2 := [(3, .int 0), (2, .int (nI 1)), (0, .int (nI 1)), (1, .int x)]) (st2 := []) (w3 := w) rfl rfl ?_
    refine sx_RP.step (pc2 := 5) (ls2 := [(3, .int 0), (2, .int (nI 1)), (0, .int (nI 1)), (1, .int x)]) (st2 := [.int 0]) (w3 := w) rfl rfl ?_
    refine sx_RP.step (pc2 := 7) (ls2 := [(3, .int 0), (2, .int (nI 1)), (0, .int (nI 1)), (1, .int x)]) (st2 := [.int 6, .int 0]) (w3 := w) rfl rfl ?_
    refine sx_RP.step (pc2 := 10) (ls2 := [(3, .int 0), (2, .int (nI 1)), (0, .int (nI 1)), (1, .int x)]) (st2 := []) (w3 := w) rfl rfl ?_
    refine sx_RP.step (pc2 := 11) (ls2 := [(3, .int 0), (2, .int (nI 1)), (0, .int (nI 1)), (1, .int x)]) (st2 := [.int (nI 1)]) (w3 := w) rfl rfl ?_
    refine sx_RP.step (pc2 := 12) (ls2 := [(3, .int 0), (2, .int (nI 1)), (0, .int (nI 1)), (1, .int x)]) (st2 := [.int (-1), .int (nI 1)]) (w3 := w) rfl rfl ?_
    refine sx_RP.step (pc2 := 15) (ls2 := [(3, .int 0), (2, .int (nI 1)), (0, .int (nI 1)), (1, .int x)]) (st2 := []) (w3 := w) rfl rfl ?_
    refine sx_RP.step (pc2 := 16) (ls2 := [(3, .int 0), (2, .int (nI 1)), (0, .int (nI 1)), (1, .int x)]) (st2 := [.int (nI 1)]) (w3 := w) rfl rfl ?_
    refine sx_RP.step (pc2 := 17) (ls2 := [(3, .int 0), (2, .int (nI 1)), (0, .int (nI 1)), (1, .int x)]) (st2 := [.int x, .int (nI 1)]) (w3 := w) rfl rfl ?_
    refine sx_RP.br (p1 := 22) (l1 := [(3, .int 0), (2, .int (nI 1)), (0, .int (nI 1)), (1, .int x)]) (s1 := []) (v1 := w) (p2 := 20) (l2 := [(3, .int 0), (2, .int (nI 1)), (0, .int (nI 1)), (1, .int x)]) (s2 := []) (v2 := w) rfl rfl (fun q1 => ?_) (fun q1 => ?_)
    · replace q1 := of_decide_eq_true q1
      refine sx_RP.step (pc2 := 25) (ls2 := [(3, .int 0), (2, .int (nI 1)), (0, .int (nI 1)), (1, .int x)]) (st2 := [.float 1]) (w3 := w) rfl rfl ?_
      refine sx_RP.step (pc2 := 26) (ls2 := [(3, .int 0), (2, .int (nI 1)), (0, .int (nI 1)), (1, .int x)]) (st2 := [.int (nI 1), .float 1]) (w3 := w) rfl rfl ?_
      refine sx_RP.step (pc2 := 27) (ls2 := [(3, .int 0), (2, .int (nI 1)), (0, .int (nI 1)), (1, .int x)]) (st2 := [.int 0]) (w3 := w) rfl rfl ?_
      refine sx_RP.step (pc2 := 28) (ls2 := [(2, .int 0), (3, .int 0), (0, .int (nI 1)), (1, .int x)]) (st2 := []) (w3 := w) rfl rfl ?_
      refine sx_RP.step (pc2 := 31) (ls2 := [(3, .int 1), (2, .int 0), (0, .int (nI 1)), (1, .int x)]) (st2 := []) (w3 := w) rfl rfl ?_
      refine sx_RP.step (pc2 := 4) (ls2 := [(3, .int 1), (2, .int 0), (0, .int (nI 1)), (1, .int x)]) (st2 := []) (w3 := w) rfl rfl ?_
      refine sx_RP.step (pc2 := 5) (ls2 := [(3, .int 1), (2, .int 0), (0, .int (nI 1)), (1, .int x)]) (st2 := [.int 1]) (w3 := w) rfl rfl ?_
      refine sx_RP.step (pc2 := 7) (ls2 := [(3, .int 1), (2, .int 0), (0, .int (nI 1)), (1, .int x)]) (st2 := [.int 6, .int 1]) (w3 := w) rfl rfl ?_
      refine sx_RP.step (pc2 := 10) (ls2 := [(3, .int 1), (2, .int 0), (0, .int (nI 1)), (1, .int x)]) (st2 := []) (w3 := w) rfl rfl ?_
      refine sx_RP.step (pc2 := 11) (ls2 := [(3, .int 1), (2, .int 0), (0, .int (nI 1)), (1, .int x)]) (st2 := [.int 0]) (w3 := w) rfl rfl ?_
      refine sx_RP.step (pc2 := 12) (ls2 := [(3, .int 1), (2, .int 0), (0, .int (nI 1)), (1, .int x)]) (st2 := [.int (-1), .int 0]) (w3 := w) rfl rfl ?_
      refine sx_RP.step (pc2 := 15) (ls2 := [(3, .int 1), (2, .int 0), (0, .int (nI 1)), (1, .int x)]) (st2 := []) (w3 := w) rfl rfl ?_
      refine sx_RP.step (pc2 := 16) (ls2 := [(3, .int 1), (2, .int 0), (0, .int (nI 1)), (1, .int x)]) (st2 := [.int 0]) (w3 := w) rfl rfl ?_
      refine sx_RP.step (pc2 := 17) (ls2 := [(3, .int 1), (2, .int 0), (0, .int (nI 1)), (1, .int x)]) (st2 := [.int x, .int 0]) (w3 := w) rfl rfl ?_
      refine sx_RP.br (p1 := 22) (l1 := [(3, .int 1), (2, .int 0), (0, .int (nI 1)), (1, .int x)]) (s1 := []) (v1 := w) (p2 := 20) (l2 := [(3, .int 1), (2, .int 0), (0, .int (nI 1)), (1, .int x)]) (s2 := []) (v2 := w) rfl rfl (fun q2 => ?_) (fun q2 => ?_)
      · replace q2 := of_decide_eq_true q2
        refine sx_RP.step (pc2 := 25) (ls2 := [(3, .int 1), (2, .int 0), (0, .int (nI 1)), (1, .int x)]) (st2 := [.float 1]) (w3 := w) rfl rfl ?_
        refine sx_RP.step (pc2 := 26) (ls2 := [(3, .int 1), (2, .int 0), (0, .int (nI 1)), (1, .int x)]) (st2 := [.int 0, .float 1]) (w3 := w) rfl rfl ?_
        refine sx_RP.step (pc2 := 27) (ls2 := [(3, .int 1), (2, .int 0), (0, .int (nI 1)), (1, .int x)]) (st2 := [.int (-1)]) (w3 := w) rfl rfl ?_
        refine sx_RP.step (pc2 := 28) (ls2 := [(2, .int (-1)), (3, .int 1), (0, .int (nI 1)), (1, .int x)]) (st2 := []) (w3 := w) rfl rfl ?_
        refine sx_RP.step (pc2 := 31) (ls2 := [(3, .int 2), (2, .int (-1)), (0, .int (nI 1)), (1, .int x)]) (st2 := []) (w3 := w) rfl rfl ?_
        refine sx_RP.step (pc2 := 4) (ls2 := [(3, .int 2), (2, .int (-1)), (0, .int (nI 1)), (1, .int x)]) (st2 := []) (w3 := w) rfl rfl ?_
        refine sx_RP.step (pc2 := 5) (ls2 := [(3, .int 2), (2, .int (-1)), (0, .int (nI 1)), (1, .int x)]) (st2 := [.int 2]) (w3 := w) rfl rfl ?_
        refine sx_RP.step (pc2 := 7) (ls2 := [(3, .int 2), (2, .int (-1)), (0, .int (nI 1)), (1, .int x)]) (st2 := [.int 6, .int 2]) (w3 := w) rfl rfl ?_
        refine sx_RP.step (pc2 := 10) (ls2 := [(3, .int 2), (2, .int (-1)), (0, .int (nI 1)), (1, .int x)]) (st2 := []) (w3 := w) rfl rfl ?_
        refine sx_RP.step (pc2 := 11) (ls2 := [(3, .int 2), (2, .int (-1)), (0, .int (nI 1)), (1, .int x)]) (st2 := [.int (-1)]) (w3 := w) rfl rfl ?_
        refine sx_RP.step (pc2 := 12) (ls2 := [(3, .int 2), (2, .int (-1)), (0, .int (nI 1)), (1, .int x)]) (st2 := [.int (-1), .int (-1)]) (w3 := w) rfl rfl ?_
        refine sx_RP.step (pc2 := 34) (ls2 := [(3, .int 2), (2, .int (-1)), (0, .int (nI 1)), (1, .int x)]) (st2 := []) (w3 := w) rfl rfl ?_
        refine sx_RP.step (pc2 := 35) (ls2 := [(3, .int 2), (2, .int (-1)), (0, .int (nI 1)), (1, .int x)]) (st2 := [.int 0]) (w3 := w) rfl rfl ?_
        refine sx_RP.ret (r := (some (.int 0))) rfl rfl ?_
        exact ⟨⟨0, by decide, rfl⟩, rfl⟩
      · replace q2 := Decidable.not_not.mp (of_decide_eq_false q2)
        refine sx_RP.step (pc2 := 21) (ls2 := [(3, .int 1), (2, .int 0), (0, .int (nI 1)), (1, .int x)]) (st2 := [.int 1]) (w3 := w) rfl rfl ?_
        refine sx_RP.ret (r := (some (.int 1))) rfl rfl ?_
        exact ⟨⟨1, by decide, rfl⟩, rfl⟩
    · replace q1 := Decidable.not_not.mp (of_decide_eq_false q1)
      refine sx_RP.step (pc2 := 21) (ls2 := [(3, .int 0), (2, .int (nI 1)), (0, .int (nI 1)), (1, .int x)]) (st2 := [.int 1]) (w3 := w) rfl rfl ?_
      refine sx_RP.ret (r := (some (.int 1))) rfl rfl ?_
      exact ⟨⟨1, by decide, rfl⟩, rfl⟩
  obtain ⟨r, w2, h1, ⟨j, hj, rfl⟩, rfl⟩ := h
  exact ⟨j, hj, h1⟩
set_option maxRecDepth 20000 in
set_option maxHeartbeats 4000000 in
theorem p31_2 {xs : Option (List Int32)} {d : Nat} {w : List sx_C} (hI : WI w) (x : Int32) : ∃ j, j ≤ 1 ∧ sx_RU xs d 31 0 (lv_args 0 [.int (nI 2), .int x]) [] w (some (.int (nI j))) w := by
  have h : sx_RP xs d 31 0 (lv_args 0 [.int (nI 2), .int x]) [] w (fun r w2 => (∃ j, j ≤ 1 ∧ r = some (.int (nI j))) ∧ w2 = w) := by
    refine sx_RP.step (pc2 := 1) (ls2 := [(0, .int (nI 2)), (1, .int x)]) (st2 := [.int (nI 2)]) (w3 := w) rfl rfl ?_
    refine sx_RP.step (pc2 := 2) (ls2 := [(2, .int (nI 2)), (0, .int (nI 2)), (1, .int x)]) (st2 := []) (w3 := w) rfl rfl ?_
    refine sx_RP.step (pc2 := 3) (ls2 := [(2, .int (nI 2)), (0, .int (nI 2)), (1, .int x)]) (st2 := [.int 0]) (w3 := w) rfl rfl ?_
    refine sx_RP.step (pc2 := 4) (ls2 := [(3, .int 0), (2, .int (nI 2)), (0, .int (nI 2)), (1, .int x)]) (st2 := []) (w3 := w) rfl rfl ?_
    refine sx_RP.step (pc2 := 5) (ls2 := [(3, .int 0), (2, .int (nI 2)), (0, .int (nI 2)), (1, .int x)]) (st2 := [.int 0]) (w3 := w) rfl rfl ?_
    refine sx_RP.step (pc2 := 7) (ls2 := [(3, .int 0), (2, .int (nI 2)), (0, .int (nI 2)), (1, .int x)]) (st2 := [.int 6, .int 0]) (w3 := w) rfl rfl ?_
    refine sx_RP.step (pc2 := 10) (ls2 := [(3, .int 0), (2, .int (nI 2)), (0, .int (nI 2)), (1, .int x)]) (st2 := []) (w3 := w) rfl rfl ?_
    refine sx_RP.step (pc2 := 11) (ls2 := [(3, .int 0), (2, .int (nI 2)), (0, .int (nI 2)), (1, .int x)]) (st2 := [.int (nI 2)]) (w3 := w) rfl rfl ?_
    refine sx_RP.step (pc2 := 12) (ls2 := [(3, .int 0), (2, .int (nI 2)), (0, .int (nI 2)), (1, .int x)]) (st2 := [.int (-1), .int (nI 2)]) (w3 := w) rfl rfl ?_
    refine sx_RP.step (pc2 := 15) (ls2 := [(3, .int 0), (2, .int (nI 2)), (0, .int (nI 2)), (1, .int x)]) (st2 := []) (w3 := w) rfl rfl ?_
    refine sx_RP.step (pc2 := 16) (ls2 := [(3, .int 0), (2, .int (nI 2)), (0, .int (nI 2)), (1, .int x)]) (st2 := [.int (nI 2)]) (w3 := w) rfl rfl ?_
    refine sx_RP.step (pc2 := 17) (ls2 := [(3, .int 0), (2, .int (nI 2)), (0, .int (nI 2)), (1, .int x)]) (st2 := [.int x, .int (nI 2)]) (w3 := w) rfl rfl ?_
    refine sx_RP.br (p1 := 22) (l1 := [(3, .int 0), (2, .int (nI 2)), (0, .int (nI 2)), (1, .int x)]) (s1 := []) (v1 := w) (p2 := 20) (l2 := [(3, .int 0), (2, .int (nI 2)), (0, .int (nI 2)), (1, .int x)]) (s2 := []) (v2 := w) rfl rfl (fun q1 => ?_) (fun q1 => ?_)
    · replace q1 := of_decide_eq_true q1
      refine sx_RP.step (pc2 := 25) (ls2 := [(3, .int 0), (2, .int (nI 2)), (0, .int (nI 2)), (1, .int x)]) (st2 := [.float 1]) (w3 := w) rfl rfl ?_
      refine sx_RP.step (pc2 := 26) (ls2 := [(3, .int 0), (2, .int (nI 2)), (0, .int (nI 2)), (1, .int x)]) (st2 := [.int (nI 2), .float 1]) (w3 := w) rfl rfl ?_
      refine sx_RP.step (pc2 := 27) (ls2 := [(3, .int 0), (2, .int (nI 2)), (0, .int (nI 2)), (1, .int x)]) (st2 := [.int 0]) (w3 := w) rfl rfl ?_
      refine sx_RP.step (pc2 := 28) (ls2 := [(2, .int 0), (3, .int 0), (0, .int (nI 2)), (1, .int x)]) (st2 := []) (w3 := w) rfl rfl ?_
      refine sx_RP.step (pc2 := 31) (ls2 := [(3, .int 1), (2, .int 0), (0, .int (nI 2)), (1, .int x)]) (st2 := []) (w3 := w) rfl rfl ?_
      refine sx_RP.step (pc2 := 4) (ls2 := [(3, .int 1), (2, .int 0), (0, .int (nI 2)), (1, .int x)]) (st2 := []) (w3 := w) rfl rfl ?_
      refine sx_RP.step (pc2 := 5) (ls2 := [(3, .int 1), (2, .int 0), (0, .int (nI 2)), (1, .int x)]) (st2 := [.int 1]) (w3 := w) rfl rfl ?_
      refine sx_RP.step (pc2 := 7) (ls2 := [(3, .int 1), (2, .int 0), (0, .int (nI 2)), (1, .int x)]) (st2 := [.int 6, .int 1]) (w3 := w) rfl rfl ?_
      refine sx_RP.step (pc2 := 10) (ls2 := [(3, .int 1), (2, .int 0), (0, .int (nI 2)), (1, .int x)]) (st2 := []) (w3 := w) rfl rfl ?_
      refine sx_RP.step (pc2 := 11) (ls2 := [(3, .int 1), (2, .int 0), (0, .int (nI 2)), (1, .int x)]) (st2 := [.int 0]) (w3 := w) rfl rfl ?_
      refine sx_RP.step (pc2 := 12) (ls2 := [(3, .int 1), (2, .int 0), (0, .int (nI 2)), (1, .int x)]) (st2 := [.int (-1), .int 0]) (w3 := w) rfl rfl ?_
      refine sx_RP.step (pc2 := 15) (ls2 := [(3, .int 1), (2, .int 0), (0, .int (nI 2)), (1, .int x)]) (st2 := []) (w3 := w) rfl rfl ?_
      refine sx_RP.step (pc2 := 16) (ls2 := [(3, .int 1), (2, .int 0), (0, .int (nI 2)), (1, .int x)]) (st2 := [.int 0]) (w3 := w) rfl rfl ?_
      refine sx_RP.step (pc2 := 17) (ls2 := [(3, .int 1), (2, .int 0), (0, .int (nI 2)), (1, .int x)]) (st2 := [.int x, .int 0]) (w3 := w) rfl rfl ?_
      refine sx_RP.br (p1 := 22) (l1 := [(3, .int 1), (2, .int 0), (0, .int (nI 2)), (1, .int x)]) (s1 := []) (v1 := w) (p2 := 20) (l2 := [(3, .int 1), (2, .int 0), (0, .int (nI 2)), (1, .int x)]) (s2 := []) (v2 := w) rfl rfl (fun q2 => ?_) (fun q2 => ?_)
      · replace q2 := of_decide_eq_true q2
        refine sx_RP.step (pc2 := 25) (ls2 := [(3, .int 1), (2, .int 0), (0, .int (nI 2)), (1, .int x)]) (st2 := [.float 1]) (w3 := w) rfl rfl ?_
        refine sx_RP.step (pc2 := 26) (ls2 := [(3, .int 1), (2, .int 0), (0, .int (nI 2)), (1, .int x)]) (st2 := [.int 0, .float 1]) (w3 := w) rfl rfl ?_
        refine sx_RP.step (pc2 := 27) (ls2 := [(3, .int 1), (2, .int 0), (0, .int (nI 2)), (1, .int x)]) (st2 := [.int (-1)]) (w3 := w) rfl rfl ?_
        refine sx_RP.step (pc2 := 28) (ls2 := [(2, .int (-1)), (3, .int 1), (0, .int (nI 2)), (1, .int x)]) (st2 := []) (w3 := w) rfl rfl ?_
        refine sx_RP.step (pc2 := 31) (ls2 := [(3, .int 2), (2, .int (-1)), (0, .int (nI 2)), (1, .int x)]) (st2 := []) (w3 := w) rfl rfl ?_
        refine sx_RP.step (pc2 := 4) (ls2 := [(3, .int 2), (2, .int (-1)), (0, .int (nI 2)), (1, .int x)]) (st2 := []) (w3 := w) rfl rfl ?_
        refine sx_RP.step (pc2 := 5) (ls2 := [(3, .int 2), (2, .int (-1)), (0, .int (nI 2)), (1, .int x)]) (st2 := [.int 2]) (w3 := w) rfl rfl ?_
        refine sx_RP.step (pc2 := 7) (ls2 := [(3, .int 2), (2, .int (-1)), (0, .int (nI 2)), (1, .int x)]) (st2 := [.int 6, .int 2]) (w3 := w) rfl rfl ?_
        refine sx_RP.step (pc2 := 10) (ls2 := [(3, .int 2), (2, .int (-1)), (0, .int (nI 2)), (1, .int x)]) (st2 := []) (w3 := w) rfl rfl ?_
        refine sx_RP.step (pc2 := 11) (ls2 := [(3, .int 2), (2, .int (-1)), (0, .int (nI 2)), (1, .int x)]) (st2 := [.int (-1)]) (w3 := w) rfl rfl ?_
        refine sx_RP.step (pc2 := 12) (ls2 := [(3, .int 2), (2, .int (-1)), (0, .int (nI 2)), (1, .int x)]) (st2 := [.int (-1), .int (-1)]) (w3 := w) rfl rfl ?_
        refine sx_RP.step (pc2 := 34) (ls2 := [(3, .int 2), (2, .int (-1)), (0, .int (nI 2)), (1, .int x)]) (st2 := []) (w3 := w) rfl rfl ?_
        refine sx_RP.step (pc2 := 35) (ls2 := [(3, .int 2), (2, .int (-1)), (0, .int (nI 2)), (1, .int x)]) (st2 := [.int 0]) (w3 := w) rfl rfl ?_
        refine sx_RP.ret (r := (some (.int 0))) rfl rfl ?_
        exact ⟨⟨0, by decide, rfl⟩, rfl⟩
      · replace q2 := Decidable.not_not.mp (of_decide_eq_false q2)
        refine sx_RP.step (pc2 := 21) (ls2 := [(3, .int 1), (2, .int 0), (0, .int (nI 2)), (1, .int x)]) (st2 := [.int 1]) (w3 := w) rfl rfl ?_
        refine sx_RP.ret (r := (some (.int 1))) rfl rfl ?_
        exact ⟨⟨1, by decide, rfl⟩, rfl⟩
    · replace q1 := Decidable.not_not.mp (of_decide_eq_false q1)
      refine sx_RP.step (pc2 := 21) (ls2 := [(3, .int 0), (2, .int (nI 2)), (0, .int (nI 2)), (1, .int x)]) (st2 := [.int 1]) (w3 := w) rfl rfl ?_
      refine sx_RP.ret (r := (some (.int 1))) rfl rfl ?_
      exact ⟨⟨1, by decide, rfl⟩, rfl⟩
  obtain ⟨r, w2, h1, ⟨j, hj, rfl⟩, rfl⟩ := h
  exact ⟨j, hj, h1⟩
set_option maxRecDepth 20000 in
set_option maxHeartbeats 4000000 in
theorem p31_3 {xs : Option (List Int32)} {d : Nat} {w : List sx_C} (hI : WI w) (x : Int32) : ∃ j, j ≤ 1 ∧ sx_RU xs d 31 0 (lv_args 0 [.int (nI 3), .int x]) [] w (some (.int (nI j))) w := by
  have h : sx_RP xs d 31 0 (lv_args 0 [.int (nI 3), .int x]) [] w (fun r w2 => (∃ j, j ≤ 1 ∧ r = some (.int (nI j))) ∧ w2 = w) := by
    refine sx_RP.step (pc2 := 1) (ls2 := [(0, .int (nI 3)), (1, .int x)]) (st2 := [.int (nI 3)]) (w3 := w) rfl rfl ?_
    refine sx_RP.step (pc2 := 2) (ls2 := [(2, .int (nI 3)), (0, .int (nI 3)), (1, .int x)]) (st2 := []) (w3 := w) rfl rfl ?_
    refine sx_RP.step (pc2 := 3) (ls2 := [(2, .int (nI 3)), (0, .int (nI 3)), (1, .int x)]) (st2 := [.int 0]) (w3 := w) rfl rfl ?_
    refine sx_RP.step (pc2 := 4) (ls2 := [(3, .int 0), (2, .int (nI 3)), (0, .int (nI 3)), (1, .int x)]) (st2 := []) (w3 := w) rfl rfl ?_
    refine sx_RP.step (pc2 := 5) (ls2 := [(3, .int 0), (2, .int (nI 3)), (0, .int (nI 3)), (1, .int x)]) (st2 := [.int 0]) (w3 := w) rfl rfl ?_
    refine sx_RP.step (pc2 := 7) (ls2 := [(3, .int 0), (2, .int (nI 3)), (0, .int (nI 3)), (1, .int x)]) (st2 := [.int 6, .int 0]) (w3 := w) rfl rfl ?_
    refine sx_RP.step (pc2 := 10) (ls2 := [(3, .int 0), (2, .int (nI 3)), (0, .int (nI 3)), (1, .int x)]) (st2 := []) (w3 := w) rfl rfl ?_
    refine sx_RP.step (pc2 := 11) (ls2 := [(3, .int 0), (2, .int (nI 3)), (0, .int (nI 3)), (1, .int x)]) (st2 := [.int (nI 3)]) (w3 := w) rfl rfl ?_
    refine sx_RP.step (pc2 := 12) (ls2 := [(3, .int 0), (2, .int (nI 3)), (0, .int (nI 3)), (1, .int x)]) (st2 := [.int (-1), .int (nI 3)]) (w3 := w) rfl rfl ?_
    refine sx_RP.step (pc2 := 15) (ls2 := [(3, .int 0), (2, .int (nI 3)), (0, .int (nI 3)), (1, .int x)]) (st2 := []) (w3 := w) rfl rfl ?_
    refine sx_RP.step (pc2 := 16) (ls2 := [(3, .int 0), (2, .int (nI 3)), (0, .int (nI 3)), (1, .int x)]) (st2 := [.int (nI 3)]) (w3 := w) rfl rfl ?_
    refine sx_RP.step (pc2 := 17) (ls2 := [(3, .int 0), (2, .int (nI 3)), (0, .int (nI 3)), (1, .int x)]) (st2 := [.int x, .int (nI 3)]) (w3 := w) rfl rfl ?_
    refine sx_RP.br (p1 := 22) (l1 := [(3, .int 0), (2, .int (nI 3)), (0, .int (nI 3)), (1, .int x)]) (s1 := []) (v1 := w) (p2 := 20) (l2 := [(3, .int 0), (2, .int (nI 3)), (0, .int (nI 3)), (1, .int x)]) (s2 := []) (v2 := w) rfl rfl (fun q1 => ?_) (fun q1 => ?_)
    · replace q1 := of_decide_eq_true q1
      refine sx_RP.step (pc2 := 25) (ls2 := [(3, .int 0), (2, .int (nI 3)), (0, .int (nI 3)), (1, .int x)]) (st2 := [.float 1]) (w3 := w) rfl rfl ?_
      refine sx_RP.step (pc2 := 26) (ls2 := [(3, .int 0), (2, .int (nI 3)), (0, .int (nI 3)), (1, .int x)]) (st2 := [.int (nI 3), .float 1]) (w3 := w) rfl rfl ?_
      refine sx_RP.step (pc2 := 27) (ls2 := [(3, .int 0), (2, .int (nI 3)), (0, .int (nI 3)), (1, .int x)]) (st2 := [.int 1]) (w3 := w) rfl rfl ?_
      refine sx_RP.step (pc2 := 28) (ls2 := [(2, .int 1), (3, .int 0), (0, .int (nI 3)), (1, .int x)]) (st2 := []) (w3 := w) rfl rfl ?_
      refine sx_RP.step (pc2 := 31) (ls2 := [(3, .int 1), (2, .int 1), (0, .int (nI 3)), (1, .int x)]) (st2 := []) (w3 := w) rfl rfl ?_
      refine sx_RP.step (pc2 := 4) (ls2 := [(3, .int 1), (2, .int 1), (0, .int (nI 3)), (1, .int x)]) (st2 := []) (w3 := w) rfl rfl ?_
      refine sx_RP.step (pc2 := 5) (ls2 := [(3, .int 1), (2, .int 1), (0, .int (nI 3)), (1, .int x)]) (st2 := [.int 1]) (w3 := w) rfl rfl ?_
      refine sx_RP.step (pc2 := 7) (ls2 := [(3, .int 1), (2, .int 1), (0, .int (nI 3)), (1, .int x)]) (st2 := [.int 6, .int 1]) (w3 := w) rfl rfl ?_
      refine sx_RP.step (pc2 := 10) (ls2 := [(3, .int 1), (2, .int 1), (0, .int (nI 3)), (1, .int x)]) (st2 := []) (w3 := w) rfl rfl ?_
      refine sx_RP.step (pc2 := 11) (ls2 := [(3, .int 1), (2, .int 1), (0, .int (nI 3)), (1, .int x)]) (st2 := [.int 1]) (w3 := w) rfl rfl ?_
      refine sx_RP.step (pc2 := 12) (ls2 := [(3, .int 1), (2, .int 1), (0, .int (nI 3)), (1, .int x)]) (st2 := [.int (-1), .int 1]) (w3 := w) rfl rfl ?_
      refine sx_RP.step (pc2 := 15) (ls2 := [(3, .int 1), (2, .int 1), (0, .int (nI 3)), (1, .int x)]) (st2 := []) (w3 := w) rfl rfl ?_
      refine sx_RP.step (pc2 := 16) (ls2 := [(3, .int 1), (2, .int 1), (0, .int (nI 3)), (1, .int x)]) (st2 := [.int 1]) (w3 := w) rfl rfl ?_
      refine sx_RP.step (pc2 := 17) (ls2 := [(3, .int 1), (2, .int 1), (0, .int (nI 3)), (1, .int x)]) (st2 := [.int x, .int 1]) (w3 := w) rfl rfl ?_
      refine sx_RP.br (p1 := 22) (l1 := [(3, .int 1), (2, .int 1), (0, .int (nI 3)), (1, .int x)]) (s1 := []) (v1 := w) (p2 := 20) (l2 := [(3, .int 1), (2, .int 1), (0, .int (nI 3)), (1, .int x)]) (s2 := []) (v2 := w) rfl rfl (fun q2 => ?_) (fun q2 => ?_)
      · replace q2 := of_decide_eq_true q2
        refine sx_RP.step (pc2 := 25) (ls2 := [(3, .int 1), (2, .int 1), (0, .int (nI 3)), (1, .int x)]) (st2 := [.float 1]) (w3 := w) rfl rfl ?_
        refine sx_RP.step (pc2 := 26) (ls2 := [(3, .int 1), (2, .int 1), (0, .int (nI 3)), (1, .int x)]) (st2 := [.int 1, .float 1]) (w3 := w) rfl rfl ?_
        refine sx_RP.step (pc2 := 27) (ls2 := [(3, .int 1), (2, .int 1), (0, .int (nI 3)), (1, .int x)]) (st2 := [.int 0]) (w3 := w) rfl rfl ?_
        refine sx_RP.step (pc2 := 28) (ls2 := [(2, .int 0), (3, .int 1), (0, .int (nI 3)), (1, .int x)]) (st2 := []) (w3 := w) rfl rfl ?_
        refine sx_RP.step (pc2 := 31) (ls2 := [(3, .int 2), (2, .int 0), (0, .int (nI 3)), (1, .int x)]) (st2 := []) (w3 := w) rfl rfl ?_
        refine sx_RP.step (pc2 := 4) (ls2 := [(3, .int 2), (2, .int 0), (0, .int (nI 3)), (1, .int x)]) (st2 := []) (w3 := w) rfl rfl ?_
        refine sx_RP.step (pc2 := 5) (ls2 := [(3, .int 2), (2, .int 0), (0, .int (nI 3)), (1, .int x)]) (st2 := [.int 2]) (w3 := w) rfl rfl ?_
        refine sx_RP.step (pc2 := 7) (ls2 := [(3, .int 2), (2, .int 0), (0, .int (nI 3)), (1, .int x)]) (st2 := [.int 6, .int 2]) (w3 := w) rfl rfl ?_
        refine sx_RP.step (pc2 := 10) (ls2 := [(3, .int 2), (2, .int 0), (0, .int (nI 3)), (1, .int x)]) (st2 := []) (w3 := w) rfl rfl ?_
        refine sx_RP.step (pc2 := 11) (ls2 := [(3, .int 2), (2, .int 0), (0, .int (nI 3)), (1, .int x)]) (st2 := [.int 0]) (w3 := w) rfl rfl ?_
        refine sx_RP.step (pc2 := 12) (ls2 := [(3, .int 2), (2, .int 0), (0, .int (nI 3)), (1, .int x)]) (st2 := [.int (-1), .int 0]) (w3 := w) rfl rfl ?_
        refine sx_RP.step (pc2 := 15) (ls2 := [(3, .int 2), (2, .int 0), (0, .int (nI 3)), (1, .int x)]) (st2 := []) (w3 := w) rfl rfl ?_
        refine sx_RP.step (pc2 := 16) (ls2 := [(3, .int 2), (2, .int 0), (0, .int (nI 3)), (1, .int x)]) (st2 := [.int 0]) (w3 := w) rfl rfl ?_
        refine sx_RP.step (pc2 := 17) (ls2 := [(3, .int 2), (2, .int 0), (0, .int (nI 3)), (1, .int x)]) (st2 := [.int x, .int 0]) (w3 := w) rfl rfl ?_
        refine sx_RP.br (p1 := 22) (l1 := [(3, .int 2), (2, .int 0), (0, .int (nI 3)), (1, .int x)]) (s1 := []) (v1 := w) (p2 := 20) (l2 := [(3, .int 2), (2, .int 0), (0, .int (nI 3)), (1, .int x)]) (s2 := []) (v2 := w) rfl rfl (fun q3 => ?_) (fun q3 => ?_)
        · replace q3 := of_decide_eq_true q3
          refine sx_RP.step (pc2 := 25) (ls2 := [(3, .int 2), (2, .int 0), (0, .int (nI 3)), (1, .int x)]) (st2 := [.float 1]) (w3 := w) rfl rfl ?_
          refine sx_RP.step (pc2 := 26) (ls2 := [(3, .int 2), (2, .int 0), (0, .int (nI 3)), (1, .int x)]) (st2 := [.int 0, .float 1]) (w3 := w) rfl rfl ?_
          refine sx_RP.step (pc2 := 27) (ls2 := [(3, .int 2), (2, .int 0), (0, .int (nI 3)), (1, .int x)]) (st2 := [.int (-1)]) (w3 := w) rfl rfl ?_
          refine sx_RP.step (pc2 := 28) (ls2 := [(2, .int (-1)), (3, .int 2), (0, .int (nI 3)), (1, .int x)]) (st2 := []) (w3 := w) rfl rfl ?_
          refine sx_RP.step (pc2 := 31) (ls2 := [(3, .int 3), (2, .int (-1)), (0, .int (nI 3)), (1, .int x)]) (st2 := []) (w3 := w) rfl rfl ?_
          refine sx_RP.step (pc2 := 4) (ls2 := [(3, .int 3), (2, .int (-1)), (0, .int (nI 3)), (1, .int x)]) (st2 := []) (w3 := w) rfl rfl ?_
          refine sx_RP.step (pc2 := 5) (ls2 := [(3, .int 3), (2, .int (-1)), (0, .int (nI 3)), (1, .int x)]) (st2 := [.int 3]) (w3 := w) rfl rfl ?_
          refine sx_RP.step (pc2 := 7) (ls2 := [(3, .int 3), (2, .int (-1)), (0, .int (nI 3)), (1, .int x)]) (st2 := [.int 6, .int 3]) (w3 := w) rfl rfl ?_
          refine sx_RP.step (pc2 := 10) (ls2 := [(3, .int 3), (2, .int (-1)), (0, .int (nI 3)), (1, .int x)]) (st2 := []) (w3 := w) rfl rfl ?_
          refine sx_RP.step (pc2 := 11) (ls2 := [(3, .int 3), (2, .int (-1)), (0, .int (nI 3)), (1, .int x)]) (st2 := [.int (-1)]) (w3 := w) rfl rfl ?_
          refine sx_RP.step (pc2 := 12) (ls2 := [(3, .int 3), (2, .int (-1)), (0, .int (nI 3)), (1, .int x)]) (st2 := [.int (-1), .int (-1)]) (w3 := w) rfl rfl ?_
          refine sx_RP.step (pc2 := 34) (ls2 := [(3, .int 3), (2, .int (-1)), (0, .int (nI 3)), (1, .int x)]) (st2 := []) (w3 := w) rfl rfl ?_
          refine sx_RP.step (pc2 := 35) (ls2 := [(3, .int 3), (2, .int (-1)), (0, .int (nI 3)), (1, .int x)]) (st2 := [.int 0]) (w3 := w) rfl rfl ?_
          refine sx_RP.ret (r := (some (.int 0))) rfl rfl ?_
          exact ⟨⟨0, by decide, rfl⟩, rfl⟩
        · replace q3 := Decidable.not_not.mp (of_decide_eq_false q3)
          refine sx_RP.step (pc2 := 21) (ls2 := [(3, .int 2), (2, .int 0), (0, .int (nI 3)), (1, .int x)]) (st2 := [.int 1]) (w3 := w) rfl rfl ?_
          refine sx_RP.ret (r := (some (.int 1))) rfl rfl ?_
          exact ⟨⟨1, by decide, rfl⟩, rfl⟩
      · replace q2 := Decidable.not_not.mp (of_decide_eq_false q2)
        refine sx_RP.step (pc2 := 21) (ls2 := [(3, .int 1), (2, .int 1), (0, .int (nI 3)), (1, .int x)]) (st2 := [.int 1]) (w3 := w) rfl rfl ?_
        refine sx_RP.ret (r := (some (.int 1))) rfl rfl ?_
        exact ⟨⟨1, by decide, rfl⟩, rfl⟩
    · replace q1 := Decidable.not_not.mp (of_decide_eq_false q1)
      refine sx_RP.step (pc2 := 21) (ls2 := [(3, .int 0), (2, .int (nI 3)), (0, .int (nI 3)), (1, .int x)]) (st2 := [.int 1]) (w3 := w) rfl rfl ?_
      refine sx_RP.ret (r := (some (.int 1))) rfl rfl ?_
      exact ⟨⟨1, by decide, rfl⟩, rfl⟩
  obtain ⟨r, w2, h1, ⟨j, hj, rfl⟩, rfl⟩ := h
  exact ⟨j, hj, h1⟩
set_option maxRecDepth 20000 in
set_option maxHeartbeats 4000000 in
theorem p31_4 {xs : Option (List Int32)} {d : Nat} {w : List sx_C} (hI : WI w) (x : Int32) : ∃ j, j ≤ 1 ∧ sx_RU xs d 31 0 (lv_args 0 [.int (nI 4), .int x]) [] w (some (.int (nI j))) w := by
  have h : sx_RP xs d 31 0 (lv_args 0 [.int (nI 4), .int x]) [] w (fun r w2 => (∃ j, j ≤ 1 ∧ r = some (.int (nI j))) ∧ w2 = w) := by
    refine sx_RP.step (pc2 := 1) (ls2 := [(0, .int (nI 4)), (1, .int x)]) (st2 := [.int (nI 4)]) (w3 := w) rfl rfl ?_
    refine sx_RP.step (pc2 := 2) (ls2 := [(2, .int (nI 4)), (0, .int (nI 4)), (1, .int x)]) (st2 := []) (w3 := w) rfl rfl ?_
    refine sx_RP.step (pc2 := 3) (ls2 := [(2, .int (nI 4)), (0, .int (nI 4)), (1, .int x)]) (st2 := [.int 0]) (w3 := w) rfl rfl ?_
    refine sx_RP.step (pc2 := 4) (ls2 := [(3, .int 0), (2, .int (nI 4)), (0, .int (nI 4)), (1, .int x)]) (st2 := []) (w3 := w) rfl rfl ?_
    refine sx_RP.step (pc2 := 5) (ls2 := [(3, .int 0), (2, .int (nI 4)), (0, .int (nI 4)), (1, .int x)]) (st2 := [.int 0]) (w3 := w) rfl rfl ?_
    refine sx_RP.step (pc2 := 7) (ls2 := [(3, .int 0), (2, .int (nI 4)), (0, .int (nI 4)), (1, .int x)]) (st2 := [.int 6, .int 0]) (w3 := w) rfl rfl ?_
    refine sx_RP.step (pc2 := 10) (ls2 := [(3, .int 0), (2, .int (nI 4)), (0, .int (nI 4)), (1, .int x)]) (st2 := []) (w3 := w) rfl rfl ?_
    refine sx_RP.step (pc2 := 11) (ls2 := [(3, .int 0), (2, .int (nI 4)), (0, .int (nI 4)), (1, .int x)]) (st2 := [.int (nI 4)]) (w3 := w) rfl rfl ?_
    refine sx_RP.step (pc2 := 12) (ls2 := [(3, .int 0), (2, .int (nI 4)), (0, .int (nI 4)), (1, .int x)]) (st2 := [.int (-1), .int (nI 4)]) (w3 := w) rfl rfl ?_
    refine sx_RP.step (pc2 := 15) (ls2 := [(3, .int 0), (2, .int (nI 4)), (0, .int (nI 4)), (1, .int x)]) (st2 := []) (w3 := w) rfl rfl ?_
    refine sx_RP.step (pc2 := 16) (ls2 := [(3, .int 0), (2, .int (nI 4)), (0, .int (nI 4)), (1, .int x)]) (st2 := [.int (nI 4)]) (w3 := w) rfl rfl ?_
    refine sx_RP.step (pc2 := 17) (ls2 := [(3, .int 0), (2, .int (nI 4)), (0, .int (nI 4)), (1, .int x)]) (st2 := [.int x, .int (nI 4)]) (w3 := w) rfl rfl ?_
    refine sx_RP.br (p1 := 22) (l1 := [(3, .int 0), (2, .int (nI 4)), (0, .int (nI 4)), (1, .int x)]) (s1 := []) (v1 := w) (p2 := 20) (l2 := [(3, .int 0), (2, .int (nI 4)), (0, .int (nI 4)), (1, .int x)]) (s2 := []) (v2 := w) rfl rfl (fun q1 => ?_) (fun q1 => ?_)
    · replace q1 := of_decide_eq_true q1
      refine sx_RP.step (pc2 := 25) (ls2 := [(3, .int 0), (2, .int (nI 4)), (0, .int (nI 4)), (1, .int x)]) (st2 := [.float 1]) (w3 := w) rfl rfl ?_
      refine sx_RP.step (pc2 := 26) (ls2 := [(3, .int 0), (2, .int (nI 4)), (0, .int (nI 4)), (1, .int x)]) (st2 := [.int (nI 4), .float 1]) (w3 := w) rfl rfl ?_
      refine sx_RP.step (pc2 := 27) (ls2 := [(3, .int 0), (2, .int (nI 4)), (0, .int (nI 4)), (1, .int x)]) (st2 := [.int 2]) (w3 := w) rfl rfl ?_
      refine sx_RP.step (pc2 := 28) (ls2 := [(2, .int 2), (3, .int 0), (0, .int (nI 4)), (1, .int x)]) (st2 := []) (w3 := w) rfl rfl ?_
      refine sx_RP.step (pc2 := 31) (ls2 := [(3, .int 1), (2, .int 2), (0, .int (nI 4)), (1, .int x)]) (st2 := []) (w3 := w) rfl rfl ?_
      refine sx_RP.step (pc2 := 4) (ls2 := [(3, .int 1), (2, .int 2), (0, .int (nI 4)), (1, .int x)]) (st2 := []) (w3 := w) rfl rfl ?_
      refine sx_RP.step (pc2 := 5) (ls2 := [(3, .int 1), (2, .int 2), (0, .int (nI 4)), (1, .int x)]) (st2 := [.int 1]) (w3 := w) rfl rfl ?_
      refine sx_RP.step (pc2 := 7) (ls2 := [(3, .int 1), (2, .int 2), (0, .int (nI 4)), (1, .int x)]) (st2 := [.int 6, .int 1]) (w3 := w) rfl rfl ?_
      refine sx_RP.step (pc2 := 10) (ls2 := [(3, .int 1), (2, .int 2), (0, .int (nI 4)), (1, .int x)]) (st2 := []) (w3 := w) rfl rfl ?_
      refine sx_RP.step (pc2 := 11) (ls2 := [(3, .int 1), (2, .int 2), (0, .int (nI 4)), (1, .int x)]) (st2 := [.int 2]) (w3 := w) rfl rfl ?_
      refine sx_RP.step (pc2 := 12) (ls2 := [(3, .int 1), (2, .int 2), (0, .int (nI 4)), (1, .int x)]) (st2 := [.int (-1), .int 2]) (w3 := w) rfl rfl ?_
      refine sx_RP.step (pc2 := 15) (ls2 := [(3, .int 1), (2, .int 2), (0, .int (nI 4)), (1, .int x)]) (st2 := []) (w3 := w) rfl rfl ?_
      refine sx_RP.step (pc2 := 16) (ls2 := [(3, .int 1), (2, .int 2), (0, .int (nI 4)), (1, .int x)]) (st2 := [.int 2]) (w3 := w) rfl rfl ?_
      refine sx_RP.step (pc2 := 17) (ls2 := [(3, .int 1), (2, .int 2), (0, .int (nI 4)), (1, .int x)]) (st2 := [.int x, .int 2]) (w3 := w) rfl rfl ?_
      refine sx_RP.br (p1 := 22) (l1 := [(3, .int 1), (2, .int 2), (0, .int (nI 4)), (1, .int x)]) (s1 := []) (v1 := w) (p2 := 20) (l2 := [(3, .int 1), (2, .int 2), (0, .int (nI 4)), (1, .int x)]) (s2 := []) (v2 := w) rfl rfl (fun q2 => ?_) (fun q2 => ?_)
      · replace q2 := of_decide_eq_true q2
        refine sx_RP.step (pc2 := 25) (ls2 := [(3, .int 1), (2, .int 2), (0, .int (nI 4)), (1, .int x)]) (st2 := [.float 1]) (w3 := w) rfl rfl ?_
        refine sx_RP.step (pc2 := 26) (ls2 := [(3, .int 1), (2, .int 2), (0, .int (nI 4)), (1, .int x)]) (st2 := [.int 2, .float 1]) (w3 := w) rfl rfl ?_
        refine sx_RP.step (pc2 := 27) (ls2 := [(3, .int 1), (2, .int 2), (0, .int (nI 4)), (1, .int x)]) (st2 := [.int 0]) (w3 := w) rfl rfl ?_
        refine sx_RP.step (pc2 := 28) (ls2 := [(2, .int 0), (3, .int 1), (0, .int (nI 4)), (1, .int x)]) (st2 := []) (w3 := w) rfl rfl ?_
        refine sx_RP.step (pc2 := 31) (ls2 := [(3, .int 2), (2, .int 0), (0, .int (nI 4)), (1, .int x)]) (st2 := []) (w3 := w) rfl rfl ?_
        refine sx_RP.step (pc2 := 4) (ls2 := [(3, .int 2), (2, .int 0), (0, .int (nI 4)), (1, .int x)]) (st2 := []) (w3 := w) rfl rfl ?_
        refine sx_RP.step (pc2 := 5) (ls2 := [(3, .int 2), (2, .int 0), (0, .int (nI 4)), (1, .int x)]) (st2 := [.int 2]) (w3 := w) rfl rfl ?_
        refine sx_RP.step (pc2 := 7) (ls2 := [(3, .int 2), (2, .int 0), (0, .int (nI 4)), (1, .int x)]) (st2 := [.int 6, .int 2]) (w3 := w) rfl rfl ?_
        refine sx_RP.step (pc2 := 10) (ls2 := [(3, .int 2), (2, .int 0), (0, .int (nI 4)), (1, .int x)]) (st2 := []) (w3 := w) rfl rfl ?_
        refine sx_RP.step (pc2 := 11) (ls2 := [(3, .int 2), (2, .int 0), (0, .int (nI 4)), (1, .int x)]) (st2 := [.int 0]) (w3 := w) rfl rfl ?_
        refine sx_RP.step (pc2 := 12) (ls2 := [(3, .int 2), (2, .int 0), (0, .int (nI 4)), (1, .int x)]) (st2 := [.int (-1), .int 0]) (w3 := w) rfl rfl ?_
        refine sx_RP.step (pc2 := 15) (ls2 := [(3, .int 2), (2, .int 0), (0, .int (nI 4)), (1, .int x)]) (st2 := []) (w3 := w) rfl rfl ?_
        refine sx_RP.step (pc2 := 16) (ls2 := [(3, .int 2), (2, .int 0), (0, .int (nI 4)), (1, .int x)]) (st2 := [.int 0]) (w3 := w) rfl rfl ?_
        refine sx_RP.step (pc2 := 17) (ls2 := [(3, .int 2), (2, .int 0), (0, .int (nI 4)), (1, .int x)]) (st2 := [.int x, .int 0]) (w3 := w) rfl rfl ?_
        refine sx_RP.br (p1 := 22) (l1 := [(3, .int 2), (2, .int 0), (0, .int (nI 4)), (1, .int x)]) (s1 := []) (v1 := w) (p2 := 20) (l2 := [(3, .int 2), (2, .int 0), (0, .int (nI 4)), (1, .int x)]) (s2 := []) (v2 := w) rfl rfl (fun q3 => ?_) (fun q3 => ?_)
        · replace q3 := of_decide_eq_true q3
          refine sx_RP.step (pc2 := 25) (ls2 := [(3, .int 2), (2, .int 0), (0, .int (nI 4)), (1, .int x)]) (st2 := [.float 1]) (w3 := w) rfl rfl ?_
          refine sx_RP.step (pc2 := 26) (ls2 := [(3, .int 2), (2, .int 0), (0, .int (nI 4)), (1, .int x)]) (st2 := [.int 0, .float 1]) (w3 := w) rfl rfl ?_
          refine sx_RP.step (pc2 := 27) (ls2 := [(3, .int 2), (2, .int 0), (0, .int (nI 4)), (1, .int x)]) (st2 := [.int (-1)]) (w3 := w) rfl rfl ?_
          refine sx_RP.step (pc2 := 28) (ls2 := [(2, .int (-1)), (3, .int 2), (0, .int (nI 4)), (1, .int x)]) (st2 := []) (w3 := w) rfl rfl ?_
          refine sx_RP.step (pc2 := 31) (ls2 := [(3, .int 3), (2, .int (-1)), (0, .int (nI 4)), (1, .int x)]) (st2 := []) (w3 := w) rfl rfl ?_
          refine sx_RP.step (pc2 := 4) (ls2 := [(3, .int 3), (2, .int (-1)), (0, .int (nI 4)), (1, .int x)]) (st2 := []) (w3 := w) rfl rfl ?_
          refine sx_RP.step (pc2 := 5) (ls2 := [(3, .int 3), (2, .int (-1)), (0, .int (nI 4)), (1, .int x)]) (st2 := [.int 3]) (w3 := w) rfl rfl ?_
          refine sx_RP.step (pc2 := 7) (ls2 := [(3, .int 3), (2, .int (-1)), (0, .int (nI 4)), (1, .int x)]) (st2 := [.int 6, .int 3]) (w3 := w) rfl rfl ?_
          refine sx_RP.step (pc2 := 10) (ls2 := [(3, .int 3), (2, .int (-1)), (0, .int (nI 4)), (1, .int x)]) (st2 := []) (w3 := w) rfl rfl ?_
          refine sx_RP.step (pc2 := 11) (ls2 := [(3, .int 3), (2, .int (-1)), (0, .int (nI 4)), (1, .int x)]) (st2 := [.int (-1)]) (w3 := w) rfl rfl ?_
          refine sx_RP.step (pc2 := 12) (ls2 := [(3, .int 3), (2, .int (-1)), (0, .int (nI 4)), (1, .int x)]) (st2 := [.int (-1), .int (-1)]) (w3 := w) rfl rfl ?_
          refine sx_RP.step (pc2 := 34) (ls2 := [(3, .int 3), (2, .int (-1)), (0, .int (nI 4)), (1, .int x)]) (st2 := []) (w3 := w) rfl rfl ?_
          refine sx_RP.step (pc2 := 35) (ls2 := [(3, .int 3), (2, .int (-1)), (0, .int (nI 4)), (1, .int x)]) (st2 := [.int 0]) (w3 := w) rfl rfl ?_
          refine sx_RP.ret (r := (some (.int 0))) rfl rfl ?_
          exact ⟨⟨0, by decide, rfl⟩, rfl⟩
        · replace q3 := Decidable.not_not.mp (of_decide_eq_false q3)
          refine sx_RP.step (pc2 := 21) (ls2 := [(3, .int 2), (2, .int 0), (0, .int (nI 4)), (1, .int x)]) (st2 := [.int 1]) (w3 := w) rfl rfl ?_
          refine sx_RP.ret (r := (some (.int 1))) rfl rfl ?_
          exact ⟨⟨1, by decide, rfl⟩, rfl⟩
      · replace q2 := Decidable.not_not.mp (of_decide_eq_false q2)
        refine sx_RP.step (pc2 := 21) (ls2 := [(3, .int 1), (2, .int 2), (0, .int (nI 4)), (1, .int x)]) (st2 := [.int 1]) (w3 := w) rfl rfl ?_
        refine sx_RP.ret (r := (some (.int 1))) rfl rfl ?_
        exact ⟨⟨1, by decide, rfl⟩, rfl⟩
    · replace q1 := Decidable.not_not.mp (of_decide_eq_false q1)
      refine sx_RP.step (pc2 := 21) (ls2 := [(3, .int 0), (2, .int (nI 4)), (0, .int (nI 4)), (1, .int x)]) (st2 := [.int 1]) (w3 := w) rfl rfl ?_
      refine sx_RP.ret (r := (some (.int 1))) rfl rfl ?_
      exact ⟨⟨1, by decide, rfl⟩, rfl⟩
  obtain ⟨r, w2, h1, ⟨j, hj, rfl⟩, rfl⟩ := h
  exact ⟨j, hj, h1⟩
set_option maxRecDepth 20000 in
set_option maxHeartbeats 4000000 in
theorem p31_5 {xs : Option (List Int32)} {d : Nat} {w : List sx_C} (hI : WI w) (x : Int32) : ∃ j, j ≤ 1 ∧ sx_RU xs d 31 0 (lv_args 0 [.int (nI 5), .int x]) [] w (some (.int (nI j))) w := by
  have h : sx_RP xs d 31 0 (lv_args 0 [.int (nI 5), .int x]) [] w (fun r w2 => (∃ j, j ≤ 1 ∧ r = some (.int (nI j))) ∧ w2 = w) := by
    refine sx_RP.step (pc2 := 1) (ls2 := [(0, .int (nI 5)), (1, .int x)]) (st2 := [.int (nI 5)]) (w3 := w) rfl rfl ?_
    refine sx_RP.step (pc2 := 2) (ls2 := [(2, .int (nI 5)), (0, .int (nI 5)), (1, .int x)]) (st2 := []) (w3 := w) rfl rfl ?_
    refine sx_RP.step (pc2 := 3) (ls2 := [(2, .int (nI 5)), (0, .int (nI 5)), (1, .int x)]) (st2 := [.int 0]) (w3 := w) rfl rfl ?_
    refine sx_RP.step (pc2 := 4) (ls2 := [(3, .int 0), (2, .int (nI 5)), (0, .int (nI 5)), (1, .int x)]) (st2 := []) (w3 := w) rfl rfl ?_
    refine sx_RP.step (pc2 := 5) (ls2 := [(3, .int 0), (2, .int (nI 5)), (0, .int (nI 5)), (1, .int x)]) (st2 := [.int 0]) (w3 := w) rfl rfl ?_
    refine sx_RP.step (pc2 := 7) (ls2 := [(3, .int 0), (2, .int (nI 5)), (0, .int (nI 5)), (1, .int x)]) (st2 := [.int 6, .int 0]) (w3 := w) rfl rfl ?_
    refine sx_RP.step (pc2 := 10) (ls2 := [(3, .int 0), (2, .int (nI 5)), (0, .int (nI 5)), (1, .int x)]) (st2 := []) (w3 := w) rfl rfl ?_
    refine sx_RP.step (pc2 := 11) (ls2 := [(3, .int 0), (2, .int (nI 5)), (0, .int (nI 5)), (1, .int x)]) (st2 := [.int (nI 5)]) (w3 := w) rfl rfl ?_
    refine sx_RP.step (pc2 := 12) (ls2 := [(3, .int 0), (2, .int (nI 5)), (0, .int (nI 5)), (1, .int x)]) (st2 := [.int (-1), .int (nI 5)]) (w3 := w) rfl rfl ?_
    refine sx_RP.step (pc2 := 15) (ls2 := [(3, .int 0), (2, .int (nI 5)), (0, .int (nI 5)), (1, .int x)]) (st2 := []) (w3 := w) rfl rfl ?_
    refine sx_RP.step (pc2 := 16) (ls2 := [(3, .int 0), (2, .int (nI 5)), (0, .int (nI 5)), (1, .int x)]) (st2 := [.int (nI 5)]) (w3 := w) rfl rfl ?_
    refine sx_RP.step (pc2 := 17) (ls2 := [(3, .int 0), (2, .int (nI 5)), (0, .int (nI 5)), (1, .int x)]) (st2 := [.int x, .int (nI 5)]) (w3 := w) rfl rfl ?_
    refine sx_RP.br (p1 := 22) (l1 := [(3, .int 0), (2, .int (nI 5)), (0, .int (nI 5)), (1, .int x)]) (s1 := []) (v1 := w) (p2 := 20) (l2 := [(3, .int 0), (2, .int (nI 5)), (0, .int (nI 5)), (1, .int x)]) (s2 := []) (v2 := w) rfl rfl (fun q1 => ?_) (fun q1 => ?_)
    · replace q1 := of_decide_eq_true q1
      refine sx_RP.step (pc2 := 25) (ls2 := [(3, .int 0), (2, .int (nI 5)), (0, .int (nI 5)), (1, .int x)]) (st2 := [.float 1]) (w3 := w) rfl rfl ?_
      refine sx_RP.step (pc2 := 26) (ls2 := [(3, .int 0), (2, .int (nI 5)), (0, .int (nI 5)), (1, .int x)]) (st2 := [.int (nI 5), .float 1]) (w3 := w) rfl rfl ?_
      refine sx_RP.step (pc2 := 27) (ls2 := [(3, .int 0), (2, .int (nI 5)), (0, .int (nI 5)), (1, .int x)]) (st2 := [.int 3]) (w3 := w) rfl rfl ?_
      refine sx_RP.step (pc2 := 28) (ls2 := [(2, .int 3), (3, .int 0), (0, .int (nI 5)), (1, .int x)]) (st2 := []) (w3 := w) rfl rfl ?_
      refine sx_RP.step (pc2 := 31) (ls2 := [(3, .int 1), (2, .int 3), (0, .int (nI 5)), (1, .int x)]) (st2 := []) (w3 := w) rfl rfl ?_
      refine sx_RP.step (pc2 := 4) (ls2 := [(3, .int 1), (2, .int 3), (0, .int (nI 5)), (1, .int x)]) (st2 := []) (w3 := w) rfl rfl ?_
      refine sx_RP.step (pc2 := 5) (ls2 := [(3, .int 1), (2, .int 3), (0, .int (nI 5)), (1, .int x)]) (st2 := [.int 1]) (w3 := w) rfl rfl ?_
      refine sx_RP.step (pc2 := 7) (ls2 := [(3, .int 1), (2, .int 3), (0, .int (nI 5)), (1, .int x)]) (st2 := [.int 6, .int 1]) (w3 := w) rfl rfl ?_
      refine sx_RP.step (pc2 := 10) (ls2 := [(3, .int 1), (2, .int 3), (0, .int (nI 5)), (1, .int x)]) (st2 := []) (w3 := w) rfl rfl ?_
      refine sx_RP.step (pc2 := 11) (ls2 := [(3, .int 1), (2, .int 3), (0, .int (nI 5)), (1, .int x)]) (st2 := [.int 3]) (w3 := w) rfl rfl ?_
      refine sx_RP.step (pc2 := 12) (ls2 := [(3, .int 1), (2, .int 3), (0, .int (nI 5)), (1, .int x)]) (st2 := [.int (-1), .int 3]) (w3 := w) rfl rfl ?_
      refine sx_RP.step (pc2 := 15) (ls2 := [(3, .int 1), (2, .int 3), (0, .int (nI 5)), (1, .int x)]) (st2 := []) (w3 := w) rfl rfl ?_
      refine sx_RP.step (pc2 := 16) (ls2 := [(3, .int 1), (2, .int 3), (0, .int (nI 5)), (1, .int x)]) (st2 := [.int 3]) (w3 := w) rfl rfl ?_
      refine sx_RP.step (pc2 := 17) (ls2 := [(3, .int 1), (2, .int 3), (0, .int (nI 5)), (1, .int x)]) (st2 := [.int x, .int 3]) (w3 := w) rfl rfl ?_
      refine sx_RP.br (p1 := 22) (l1 := [(3, .int 1), (2, .int 3), (0, .int (nI 5)), (1, .int x)]) (s1 := []) (v1 := w) (p2 := 20) (l2 := [(3, .int 1), (2, .int 3), (0, .int (nI 5)), (1, .int x)]) (s2 := []) (v2 := w) rfl rfl (fun q2 => ?_) (fun q2 => ?_)
      · replace q2 := of_decide_eq_true q2
        refine sx_RP.step (pc2 := 25) (ls2 := [(3, .int 1), (2, .int 3), (0, .int (nI 5)), (1, .int x)]) (st2 := [.float 1]) (w3 := w) rfl rfl ?_
        refine sx_RP.step (pc2 := 26) (ls2 := [(3, .int 1), (2, .int 3), (0, .int (nI 5)), (1, .int x)]) (st2 := [.int 3, .float 1]) (w3 := w) rfl rfl ?_
        refine sx_RP.step (pc2 := 27) (ls2 := [(3, .int 1), (2, .int 3), (0, .int (nI 5)), (1, .int x)]) (st2 := [.int 1]) (w3 := w) rfl rfl ?_
        refine sx_RP.step (pc2 := 28) (ls2 := [(2, .int 1), (3, .int 1), (0, .int (nI 5)), (1, .int x)]) (st2 := []) (w3 := w) rfl rfl ?_
        refine sx_RP.step (pc2 := 31) (ls2 := [(3, .int 2), (2, .int 1), (0, .int (nI 5)), (1, .int x)]) (st2 := []) (w3 := w) rfl rfl ?_
        refine sx_RP.step (pc2 := 4) (ls2 := [(3, .int 2), (2, .int 1), (0, .int (nI 5)), (1, .int x)]) (st2 := []) (w3 := w) rfl rfl ?_
        refine sx_RP.step (pc2 := 5) (ls2 := [(3, .int 2), (2, .int 1), (0, .int (nI 5)), (1, .int x)]) (st2 := [.int 2]) (w3 := w) rfl rfl ?_
        refine sx_RP.step (pc2 := 7) (ls2 := [(3, .int 2), (2, .int 1), (0, .int (nI 5)), (1, .int x)]) (st2 := [.int 6, .int 2]) (w3 := w) rfl rfl ?_
        refine sx_RP.step (pc2 := 10) (ls2 := [(3, .int 2), (2, .int 1), (0, .int (nI 5)), (1, .int x)]) (st2 := []) (w3 := w) rfl rfl ?_
        refine sx_RP.step (pc2 := 11) (ls2 := [(3, .int 2), (2, .int 1), (0, .int (nI 5)), (1, .int x)]) (st2 := [.int 1]) (w3 := w) rfl rfl ?_
        refine sx_RP.step (pc2 := 12) (ls2 := [(3, .int 2), (2, .int 1), (0, .int (nI 5)), (1, .int x)]) (st2 := [.int (-1), .int 1]) (w3 := w) rfl rfl ?_
        refine sx_RP.step (pc2 := 15) (ls2 := [(3, .int 2), (2, .int 1), (0, .int (nI 5)), (1, .int x)]) (st2 := []) (w3 := w) rfl rfl ?_
        refine sx_RP.step (pc2 := 16) (ls2 := [(3, .int 2), (2, .int 1), (0, .int (nI 5)), (1, .int x)]) (st2 := [.int 1]) (w3 := w) rfl rfl ?_
        refine sx_RP.step (pc2 := 17) (ls2 := [(3, .int 2), (2, .int 1), (0, .int (nI 5)), (1, .int x)]) (st2 := [.int x, .int 1]) (w3 := w) rfl rfl ?_
        refine sx_RP.br (p1 := 22) (l1 := [(3, .int 2), (2, .int 1), (0, .int (nI 5)), (1, .int x)]) (s1 := []) (v1 := w) (p2 := 20) (l2 := [(3, .int 2), (2, .int 1), (0, .int (nI 5)), (1, .int x)]) (s2 := []) (v2 := w) rfl rfl (fun q3 => ?_) (fun q3 => ?_)
        · replace q3 := of_decide_eq_true q3
          refine sx_RP.step (pc2 := 25) (ls2 := [(3, .int 2), (2, .int 1), (0, .int (nI 5)), (1, .int x)]) (st2 := [.float 1]) (w3 := w) rfl rfl ?_
          refine sx_RP.step (pc2 := 26) (ls2 := [(3, .int 2), (2, .int 1), (0, .int (nI 5)), (1, .int x)]) (st2 := [.int 1, .float 1]) (w3 := w) rfl rfl ?_
          refine sx_RP.step (pc2 := 27) (ls2 := [(3, .int 2), (2, .int 1), (0, .int (nI 5)), (1, .int x)]) (st2 := [.int 0]) (w3 := w) rfl rfl ?_
          refine sx_RP.step (pc2 := 28) (ls2 := [(2, .int 0), (3, .int 2), (0, .int (nI 5)), (1, .int x)]) (st2 := []) (w3 := w) rfl rfl ?_
          refine sx_RP.step (pc2 := 31) (ls2 := [(3, .int 3), (2, .int 0), (0, .int (nI 5)), (1, .int x)]) (st2 := []) (w3 := w) rfl rfl ?_
          refine sx_RP.step (pc2 := 4) (ls2 := [(3, .int 3), (2, .int 0), (0, .int (nI 5)), (1, .int x)]) (st2 := []) (w3 := w) rfl rfl ?_
          refine sx_RP.step (pc2 := 5) (ls2 := [(3, .int 3), (2, .int 0), (0, .int (nI 5)), (1, .int x)]) (st2 := [.int 3]) (w3 := w) rfl rfl ?_
          refine sx_RP.step (pc2 := 7) (ls2 := [(3, .int 3), (2, .int 0), (0, .int (nI 5)), (1, .int x)]) (st2 := [.int 6, .int 3]) (w3 := w) rfl rfl ?_
          refine sx_RP.step (pc2 := 10) (ls2 := [(3, .int 3), (2, .int 0), (0, .int (nI 5)), (1, .int x)]) (st2 := []) (w3 := w) rfl rfl ?_
          refine sx_RP.step (pc2 := 11) (ls2 := [(3, .int 3), (2, .int 0), (0, .int (nI 5)), (1, .int x)]) (st2 := [.int 0]) (w3 := w) rfl rfl ?_
          refine sx_RP.step (pc2 := 12) (ls2 := [(3, .int 3), (2, .int 0), (0, .int (nI 5)), (1, .int x)]) (st2 := [.int (-1), .int 0]) (w3 := w) rfl rfl ?_
          refine sx_RP.step (pc2 := 15) (ls2 := [(3, .int 3), (2, .int 0), (0, .int (nI 5)), (1, .int x)]) (st2 := []) (w3 := w) rfl rfl ?_
          refine sx_RP.step (pc2 := 16) (ls2 := [(3, .int 3), (2, .int 0), (0, .int (nI 5)), (1, .int x)]) (st2 := [.int 0]) (w3 := w) rfl rfl ?_
          refine sx_RP.step (pc2 := 17) (ls2 := [(3, .int 3), (2, .int 0), (0, .int (nI 5)), (1, .int x)]) (st2 := [.int x, .int 0]) (w3 := w) rfl rfl ?_
          refine sx_RP.br (p1 := 22) (l1 := [(3, .int 3), (2, .int 0), (0, .int (nI 5)), (1, .int x)]) (s1 := []) (v1 := w) (p2 := 20) (l2 := [(3, .int 3), (2, .int 0), (0, .int (nI 5)), (1, .int x)]) (s2 := []) (v2 := w) rfl rfl (fun q4 => ?_) (fun q4 => ?_)
          · replace q4 := of_decide_eq_true q4
            refine sx_RP.step (pc2 := 25) (ls2 := [(3, .int 3), (2, .int 0), (0, .int (nI 5)), (1, .int x)]) (st2 := [.float 1]) (w3 := w) rfl rfl ?_
            refine sx_RP.step (pc2 := 26) (ls2 := [(3, .int 3), (2, .int 0), (0, .int (nI 5)), (1, .int x)]) (st2 := [.int 0, .float 1]) (w3 := w) rfl rfl ?_
            refine sx_RP.step (pc2 := 27) (ls2 := [(3, .int 3), (2, .int 0), (0, .int (nI 5)), (1, .int x)]) (st2 := [.int (-1)]) (w3 := w) rfl rfl ?_
            refine sx_RP.step (pc2 := 28) (ls2 := [(2, .int (-1)), (3, .int 3), (0, .int (nI 5)), (1, .int x)]) (st2 := []) (w3 := w) rfl rfl ?_
            refine sx_RP.step (pc2 := 31) (ls2 := [(3, .int 4), (2, .int (-1)), (0, .int (nI 5)), (1, .int x)]) (st2 := []) (w3 := w) rfl rfl ?_
            refine sx_RP.step (pc2 := 4) (ls2 := [(3, .int 4), (2, .int (-1)), (0, .int (nI 5)), (1, .int x)]) (st2 := []) (w3 := w) rfl rfl ?_
            refine sx_RP.step (pc2 := 5) (ls2 := [(3, .int 4), (2, .int (-1)), (0, .int (nI 5)), (1, .int x)]) (st2 := [.int 4]) (w3 := w) rfl rfl ?_
            refine sx_RP.step (pc2 := 7) (ls2 := [(3, .int 4), (2, .int (-1)), (0, .int (nI 5)), (1, .int x)]) (st2 := [.int 6, .int 4]) (w3 := w) rfl rfl ?_
            refine sx_RP.step (pc2 := 10) (ls2 := [(3, .int 4), (2, .int (-1)), (0, .int (nI 5)), (1, .int x)]) (st2 := []) (w3 := w) rfl rfl ?_
            refine sx_RP.step (pc2 := 11) (ls2 := [(3, .int 4), (2, .int (-1)), (0, .int (nI 5)), (1, .int x)]) (st2 := [.int (-1)]) (w3 := w) rfl rfl ?_
            refine sx_RP.step (pc2 := 12) (ls2 := [(3, .int 4), (2, .int (-1)), (0, .int (nI 5)), (1, .int x)]) (st2 := [.int (-1), .int (-1)]) (w3 := w) rfl rfl ?_
            refine sx_RP.step (pc2 := 34) (ls2 := [(3, .int 4), (2, .int (-1)), (0, .int (nI 5)), (1, .int x)]) (st2 := []) (w3 := w) rfl rfl ?_
            refine sx_RP.step (pc2 := 35) (ls2 := [(3, .int 4), (2, .int (-1)), (0, .int (nI 5)), (1, .int x)]) (st2 := [.int 0]) (w3 := w) rfl rfl ?_
            refine sx_RP.ret (r := (some (.int 0))) rfl rfl ?_
            exact ⟨⟨0, by decide, rfl⟩, rfl⟩
          · replace q4 := Decidable.not_not.mp (of_decide_eq_false q4)
            refine sx_RP.step (pc2 := 21) (ls2 := [(3, .int 3), (2, .int 0), (0, .int (nI 5)), (1, .int x)]) (st2 := [.int 1]) (w3 := w) rfl rfl ?_
            refine sx_RP.ret (r := (some (.int 1))) rfl rfl ?_
            exact ⟨⟨1, by decide, rfl⟩, rfl⟩
        · replace q3 := Decidable.not_not.mp (of_decide_eq_false q3)
          refine sx_RP.step (pc2 := 21) (ls2 := [(3, .int 2), (2, .int 1), (0, .int (nI 5)), (1, .int x)]) (st2 := [.int 1]) (w3 := w) rfl rfl ?_
          refine sx_RP.ret (r := (some (.int 1))) rfl rfl ?_
          exact ⟨⟨1, by decide, rfl⟩, rfl⟩
      · replace q2 := Decidable.not_not.mp (of_decide_eq_false q2)
        refine sx_RP.step (pc2 := 21) (ls2 := [(3, .int 1), (2, .int 3), (0, .int (nI 5)), (1, .int x)]) (st2 := [.int 1]) (w3 := w) rfl rfl ?_
        refine sx_RP.ret (r := (some (.int 1))) rfl rfl ?_
        exact ⟨⟨1, by decide, rfl⟩, rfl⟩
    · replace q1 := Decidable.not_not.mp (of_decide_eq_false q1)
      refine sx_RP.step (pc2 := 21) (ls2 := [(3, .int 0), (2, .int (nI 5)), (0, .int (nI 5)), (1, .int x)]) (st2 := [.int 1]) (w3 := w) rfl rfl ?_
      refine sx_RP.ret (r := (some (.int 1))) rfl rfl ?_
      exact ⟨⟨1, by decide, rfl⟩, rfl⟩
  obtain ⟨r, w2, h1, ⟨j, hj, rfl⟩, rfl⟩ := h
  exact ⟨j, hj, h1⟩
theorem p31 {xs : Option (List Int32)} {d : Nat} {w : List sx_C} (hI : WI w) {k : Nat} (hk : k ≤ 5) (x : Int32) : ∃ j, j ≤ 1 ∧ sx_RU xs d 31 0 (lv_args 0 [.int (nI k), .int x]) [] w (some (.int (nI j))) w := by
  rcases (show k = 0 ∨ k = 1 ∨ k = 2 ∨ k = 3 ∨ k = 4 ∨ k = 5 by omega) with rfl | rfl | rfl | rfl | rfl | rfl
  · exact p31_0 hI x
  · exact p31_1 hI x
  · exact p31_2 hI x
  · exact p31_3 hI x
  · exact p31_4 hI x
  · exact p31_5 hI x
set_option maxRecDepth 20000 in
set_option maxHeartbeats 4000000 in
theorem p38 {xs : Option (List Int32)} {d : Nat} {w : List sx_C} (hI : WI w) {k s : Nat} (hk : k ≤ 5) (hs : s ≤ 3) : ∃ j, j ≤ 1 ∧ sx_RU xs (d + 1) 38 0 (lv_args 0 [.int (nI k), .int (nI s)]) [] w (some (.int (nI j))) w := by
  have h : sx_RP xs (d + 1) 38 0 (lv_args 0 [.int (nI k), .int (nI s)]) [] w (fun r w2 => (∃ j, j ≤ 1 ∧ r = some (.int (nI j))) ∧ w2 = w) := by
    refine sx_RP.step (pc2 := 1) (ls2 := [(0, .int (nI k)), (1, .int (nI s))]) (st2 := [.int (nI s)]) (w3 := w) rfl rfl ?_
    refine sx_RP.step (pc2 := 2) (ls2 := [(0, .int (nI k)), (1, .int (nI s))]) (st2 := [.int 1, .int (nI s)]) (w3 := w) rfl rfl ?_
    refine sx_RP.br (p1 := 13) (l1 := [(0, .int (nI k)), (1, .int (nI s))]) (s1 := []) (v1 := w) (p2 := 5) (l2 := [(0, .int (nI k)), (1, .int (nI s))]) (s2 := []) (v2 := w) rfl rfl (fun q1 => ?_) (fun q1 => ?_)
    · replace q1 := of_decide_eq_true q1
      replace q1 := mt (nI_eq (a := s) (b := 1) (by omega) (by omega)).mpr q1
      refine sx_RP.step (pc2 := 14) (ls2 := [(0, .int (nI k)), (1, .int (nI s))]) (st2 := [.int 1]) (w3 := w) rfl rfl ?_
      refine sx_RP.step (pc2 := 18) (ls2 := [(0, .int (nI k)), (1, .int (nI s))]) (st2 := [.int 1]) (w3 := w) rfl rfl ?_
      refine sx_RP.ret (r := (some (.int 1))) rfl rfl ?_
      exact ⟨⟨1, by decide, rfl⟩, rfl⟩
    · replace q1 := Decidable.not_not.mp (of_decide_eq_false q1)
      replace q1 := (nI_eq (a := s) (b := 1) (by omega) (by omega)).mp q1
      refine sx_RP.step (pc2 := 6) (ls2 := [(0, .int (nI k)), (1, .int (nI s))]) (st2 := [.int (nI k)]) (w3 := w) rfl rfl ?_
      refine sx_RP.step (pc2 := 7) (ls2 := [(0, .int (nI k)), (1, .int (nI s))]) (st2 := [.int 1, .int (nI k)]) (w3 := w) rfl rfl ?_
      obtain ⟨x2, hx3, c4⟩ := p31 hI (show k ≤ 5 by omega) 1
      refine sx_RP.cu (as := [.int (nI k), .int 1]) (rest2 := []) (st3 := [.int (nI x2)]) rfl rfl rfl rfl rfl (c4) rfl ?_
      refine sx_RP.br (p1 := 17) (l1 := [(0, .int (nI k)), (1, .int (nI s))]) (s1 := []) (v1 := w) (p2 := 13) (l2 := [(0, .int (nI k)), (1, .int (nI s))]) (s2 := []) (v2 := w) rfl rfl (fun q5 => ?_) (fun q5 => ?_)
      · replace q5 := of_decide_eq_true q5
        replace q5 := (nI_eq (a := x2) (b := 0) (by omega) (by omega)).mp q5
        refine sx_RP.step (pc2 := 18) (ls2 := [(0, .int (nI k)), (1, .int (nI s))]) (st2 := [.int 0]) (w3 := w) rfl rfl ?_
        refine sx_RP.ret (r := (some (.int 0))) rfl rfl ?_
        exact ⟨⟨0, by decide, rfl⟩, rfl⟩
      · replace q5 := of_decide_eq_false q5
        replace q5 := mt (nI_eq (a := x2) (b := 0) (by omega) (by omega)).mpr q5
        refine sx_RP.step (pc2 := 14) (ls2 := [(0, .int (nI k)), (1, .int (nI s))]) (st2 := [.int 1]) (w3 := w) rfl rfl ?_
        refine sx_RP.step (pc2 := 18) (ls2 := [(0, .int (nI k)), (1, .int (nI s))]) (st2 := [.int 1]) (w3 := w) rfl rfl ?_
        refine sx_RP.ret (r := (some (.int 1))) rfl rfl ?_
        exact ⟨⟨1, by decide, rfl⟩, rfl⟩
  obtain ⟨r, w2, h1, ⟨j, hj, rfl⟩, rfl⟩ := h
  exact ⟨j, hj, h1⟩
set_option maxRecDepth 20000 in
set_option maxHeartbeats 4000000 in
theorem p37 {xs : Option (List Int32)} {d : Nat} {w : List sx_C} (hI : WI w) {A : Nat} (hA : isA A) {k c : Nat} (hk : k ≤ 5) (hc : c < 48) : ∃ j, j ≤ 1 ∧ sx_RU xs (d + 2) 37 0 (lv_args 0 [.ref A, .int (nI k), .int (nI c)]) [] w (some (.int (nI j))) w := by
  have h : sx_RP xs (d + 2) 37 0 (lv_args 0 [.ref A, .int (nI k), .int (nI c)]) [] w (fun r w2 => (∃ j, j ≤ 1 ∧ r = some (.int (nI j))) ∧ w2 = w) := by
    refine sx_RP.step (pc2 := 1) (ls2 := [(0, .ref A), (1, .int (nI k)), (2, .int (nI c))]) (st2 := [.int (nI k)]) (w3 := w) rfl rfl ?_
    refine sx_RP.step (pc2 := 2) (ls2 := [(0, .ref A), (1, .int (nI k)), (2, .int (nI c))]) (st2 := [.ref A, .int (nI k)]) (w3 := w) rfl rfl ?_
    refine sx_RP.gref (k := 0) (b := A + 1) hI hA rfl rfl (by omega) (show _ = 5 from rfl) ?_
    refine sx_RP.step (pc2 := 6) (ls2 := [(0, .ref A), (1, .int (nI k)), (2, .int (nI c))]) (st2 := [.int (nI c), .ref (A + 1), .int (nI k)]) (w3 := w) rfl rfl ?_
    refine sx_RP.ild (c := c) rfl (hI.1.aS hA).1 (hI.1.aS hA).2 (sx_in_nI (show c < 48 by omega) (by decide)) (show (nI c).toNatClampNeg = c from nI_clamp (by omega)) (show _ = 7 from rfl) ?_
    obtain ⟨x1, hx2, ex3⟩ : inR ((ia w (A + 1)).getD c 0) 3 := hI.st hA (show c < 48 by omega)
    rw [ex3]
    obtain ⟨x4, hx5, c6⟩ := p38 hI (show k ≤ 5 by omega) (show x1 ≤ 3 by omega)
    refine sx_RP.cu (as := [.int (nI k), .int (nI x1)]) (rest2 := []) (st3 := [.int (nI x4)]) rfl rfl rfl rfl rfl (c6) rfl ?_
    refine sx_RP.ret (r := (some (.int (nI x4)))) rfl (bo_ret rfl (inR.n (show x4 ≤ 1 by omega))) ?_
    exact ⟨⟨x4, by omega, rfl⟩, rfl⟩
  obtain ⟨r, w2, h1, ⟨j, hj, rfl⟩, rfl⟩ := h
  exact ⟨j, hj, h1⟩
set_option maxRecDepth 20000 in
set_option maxHeartbeats 4000000 in
theorem p57 {xs : Option (List Int32)} {d : Nat} {w : List sx_C} (hI : WI w) {A : Nat} (hA : isA A) {k c : Nat} (hk : k ≤ 5) (hc : c < 48) : ∃ j, j ≤ 1 ∧ sx_RU xs (d + 3) 57 0 (lv_args 0 [.ref A, .int (nI k), .int (nI c)]) [] w (some (.int (nI j))) w := by
  have h : sx_RP xs (d + 3) 57 0 (lv_args 0 [.ref A, .int (nI k), .int (nI c)]) [] w (fun r w2 => (∃ j, j ≤ 1 ∧ r = some (.int (nI j))) ∧ w2 = w) := by
    refine sx_RP.step (pc2 := 1) (ls2 := [(0, .ref A), (1, .int (nI k)), (2, .int (nI c))]) (st2 := [.ref A]) (w3 := w) rfl rfl ?_
    refine sx_RP.gref (k := 0) (b := A + 1) hI hA rfl rfl (by omega) (show _ = 4 from rfl) ?_
    refine sx_RP.step (pc2 := 5) (ls2 := [(0, .ref A), (1, .int (nI k)), (2, .int (nI c))]) (st2 := [.int (nI c), .ref (A + 1)]) (w3 := w) rfl rfl ?_
    refine sx_RP.ild (c := c) rfl (hI.1.aS hA).1 (hI.1.aS hA).2 (sx_in_nI (show c < 48 by omega) (by decide)) (show (nI c).toNatClampNeg = c from nI_clamp (by omega)) (show _ = 6 from rfl) ?_
    obtain ⟨x1, hx2, ex3⟩ : inR ((ia w (A + 1)).getD c 0) 3 := hI.st hA (show c < 48 by omega)
    rw [ex3]
    refine sx_RP.step (pc2 := 7) (ls2 := [(0, .ref A), (1, .int (nI k)), (2, .int (nI c))]) (st2 := [.int 3, .int (nI x1)]) (w3 := w) rfl rfl ?_
    refine sx_RP.br (p1 := 23) (l1 := [(0, .ref A), (1, .int (nI k)), (2, .int (nI c))]) (s1 := []) (v1 := w) (p2 := 10) (l2 := [(0, .ref A), (1, .int (nI k)), (2, .int (nI c))]) (s2 := []) (v2 := w) rfl rfl (fun q4 => ?_) (fun q4 => ?_)
    · replace q4 := of_decide_eq_true q4
      replace q4 := (nI_eq (a := x1) (b := 3) (by omega) (by omega)).mp q4
      refine sx_RP.step (pc2 := 24) (ls2 := [(0, .ref A), (1, .int (nI k)), (2, .int (nI c))]) (st2 := [.int 0]) (w3 := w) rfl rfl ?_
      refine sx_RP.ret (r := (some (.int 0))) rfl rfl ?_
      exact ⟨⟨0, by decide, rfl⟩, rfl⟩
    · replace q4 := of_decide_eq_false q4
      replace q4 := mt (nI_eq (a := x1) (b := 3) (by omega) (by omega)).mpr q4
      refine sx_RP.step (pc2 := 11) (ls2 := [(0, .ref A), (1, .int (nI k)), (2, .int (nI c))]) (st2 := [.ref A]) (w3 := w) rfl rfl ?_
      refine sx_RP.step (pc2 := 12) (ls2 := [(0, .ref A), (1, .int (nI k)), (2, .int (nI c))]) (st2 := [.int (nI k), .ref A]) (w3 := w) rfl rfl ?_
      refine sx_RP.step (pc2 := 13) (ls2 := [(0, .ref A), (1, .int (nI k)), (2, .int (nI c))]) (st2 := [.int (nI c), .int (nI k), .ref A]) (w3 := w) rfl rfl ?_
      obtain ⟨x5, hx6, c7⟩ := p37 hI hA (show k ≤ 5 by omega) (show c < 48 by omega)
      refine sx_RP.cu (as := [.ref A, .int (nI k), .int (nI c)]) (rest2 := []) (st3 := [.int (nI x5)]) rfl rfl (sx_inv_v2 (mi := 57) (k := 103) (st := [.int (nI c), .int (nI k), .ref A]) (w := w) rfl rfl (hI.1.oC hA) rfl rfl rfl) rfl rfl (c7) rfl ?_
      refine sx_RP.br (p1 := 23) (l1 := [(0, .ref A), (1, .int (nI k)), (2, .int (nI c))]) (s1 := []) (v1 := w) (p2 := 19) (l2 := [(0, .ref A), (1, .int (nI k)), (2, .int (nI c))]) (s2 := []) (v2 := w) rfl rfl (fun q8 => ?_) (fun q8 => ?_)
      · replace q8 := of_decide_eq_true q8
        replace q8 := (nI_eq (a := x5) (b := 0) (by omega) (by omega)).mp q8
        refine sx_RP.step (pc2 := 24) (ls2 := [(0, .ref A), (1, .int (nI k)), (2, .int (nI c))]) (st2 := [.int 0]) (w3 := w) rfl rfl ?_
        refine sx_RP.ret (r := (some (.int 0))) rfl rfl ?_
        exact ⟨⟨0, by decide, rfl⟩, rfl⟩
      · replace q8 := of_decide_eq_false q8
        replace q8 := mt (nI_eq (a := x5) (b := 0) (by omega) (by omega)).mpr q8
        refine sx_RP.step (pc2 := 20) (ls2 := [(0, .ref A), (1, .int (nI k)), (2, .int (nI c))]) (st2 := [.int 1]) (w3 := w) rfl rfl ?_
        refine sx_RP.step (pc2 := 24) (ls2 := [(0, .ref A), (1, .int (nI k)), (2, .int (nI c))]) (st2 := [.int 1]) (w3 := w) rfl rfl ?_
        refine sx_RP.ret (r := (some (.int 1))) rfl rfl ?_
        exact ⟨⟨1, by decide, rfl⟩, rfl⟩
  obtain ⟨r, w2, h1, ⟨j, hj, rfl⟩, rfl⟩ := h
  exact ⟨j, hj, h1⟩
end
-- 46z.copy.lean.txt
section
theorem cpy_all {α : Type} {f g : List α} {n : Nat} (hf : f.length = n) (hg : g.length = n) : sx_cpy f g 0 0 n = f := by
  unfold sx_cpy
  subst hf
  rw [List.take_zero, List.drop_zero, List.take_length, Nat.zero_add, ← hg, List.drop_length, List.append_nil, List.nil_append]
section SXK
variable {xs : Option (List Int32)} {d mi pc pc2 idx p : Nat} {ls : sx_L} {r : List Value} {w w0 : List sx_C} {P : Option Value → List sx_C → Prop}
theorem sx_RP.acI {a b n : Nat} {x : Int32} {f g : List Int32} (hi : sx_ins mi pc = some (.invokestatic idx, 3)) (hq : sx_lk (sx_ac (sx_own mi)) idx = some p) (hr : Nat.ble (r.map (fun v => v.category)).sum 8 = true) (hx : x = nI n) (hn : n < 2 ^ 31) (hb : w[b]? = some (.inl (0, f))) (ha : w[a]? = some (.inl (0, g))) (hf : f.length = n) (hg : g.length = n) (hp : pc + 3 = pc2) (kk : sx_RP xs d mi pc2 ls r (w.set a (.inl (0, f))) P) : sx_RP xs d mi pc ls (.int x :: .int 0 :: .ref a :: .int 0 :: .ref b :: r) w P := by
  subst hp
  subst hx
  refine sx_RP.step hi (show sx_acp (sx_own mi) idx ls pc (.int (nI n) :: .int 0 :: .ref a :: .int 0 :: .ref b :: r) w = some (pc + 3, ls, r, w.set a (.inl (0, f))) from ?_) kk
  unfold sx_acp
  simp only
  rw [hq]
  simp only
  rw [decide_eq_false (show ¬ nI n < 0 from nI_pos hn), hr, hb, ha]
  simp only [show decide ((0 : Int32) < 0) = false from rfl, Bool.not_false, Bool.and_self, cond_true]
  rw [nI_clamp hn, show (0 : Int32).toNatClampNeg = 0 from rfl, cpy_all hf hg, Nat.zero_add, hf, hg]
  simp only [show Nat.ble n n = true from Nat.ble_self_eq_true n, Bool.and_self, cond_true]
end SXK
theorem WI.st4 {w : List sx_C} (h : WI w) {A : Nat} (hA : isA A) : st4 (ia w (A + 1)) := fun c hc => by
  obtain ⟨j, hj, e⟩ := h.st hA hc
  exact ⟨j, by omega, e⟩
theorem sh_len {t : Nat} {l l2 : List Int32} (h : l2.length = l.length) : sx_sh (.inl (t, l2)) = sx_sh (.inl (t, l)) := by
  show (.inl (t, List.replicate l2.length 0) : sx_C) = .inl (t, List.replicate l.length 0)
  rw [h]
theorem WI.fr {w : List sx_C} (h : WI w) {a t : Nat} {l l2 : List Int32} (hw : w[a]? = some (.inl (t, l))) (hl : l2.length = l.length) (hf : (44 ≤ a ∧ a ≤ 95) ∨ (97 ≤ a ∧ a ≤ 102)) : WI (w.set a (.inl (t, l2))) := h.set hw (sh_len hl) (cOK.free (by omega))
theorem EC.fr {w0 w : List sx_C} (h : EC w0 w) {a : Nat} {c c2 : sx_C} (hw : w[a]? = some c) (hf : (44 ≤ a ∧ a ≤ 95) ∨ (97 ≤ a ∧ a ≤ 102)) : EC w0 (w.set a c2) := h.set hw (by omega) (kp_n (by omega))
theorem knF_len {sm : Int32} {kn : List Int32} (h : kn.length = 48) : (knF sm kn).length = 48 := by
  unfold knF
  split
  · exact flF_len 48 0 _ h
  · exact h
end
-- 48.moreC.lean.txt
section
set_option maxRecDepth 20000 in
set_option maxHeartbeats 4000000 in
theorem p97 {xs : Option (List Int32)} {d : Nat} {w : List sx_C} (hI : WI w) {a b : Nat} (ha : a < 2 ^ 31) (hb : b < 2 ^ 31) : ∃ j, (j ≤ a ∧ j ≤ b) ∧ sx_RU xs d 97 0 (lv_args 0 [.int (nI a), .int (nI b)]) [] w (some (.int (nI j))) w := by
  have h : sx_RP xs d 97 0 (lv_args 0 [.int (nI a), .int (nI b)]) [] w (fun r w2 => (∃ j, (j ≤ a ∧ j ≤ b) ∧ r = some (.int (nI j))) ∧ w2 = w) := by
    refine sx_RP.step (pc2 := 1) (ls2 := [(0, .int (nI a)), (1, .int (nI b))]) (st2 := [.int (nI a)]) (w3 := w) rfl rfl ?_
    refine sx_RP.step (pc2 := 2) (ls2 := [(0, .int (nI a)), (1, .int (nI b))]) (st2 := [.int (nI b), .int (nI a)]) (w3 := w) rfl rfl ?_
    refine sx_RP.br (p1 := 9) (l1 := [(0, .int (nI a)), (1, .int (nI b))]) (s1 := []) (v1 := w) (p2 := 5) (l2 := [(0, .int (nI a)), (1, .int (nI b))]) (s2 := []) (v2 := w) rfl rfl (fun q1 => ?_) (fun q1 => ?_)
    · replace q1 := of_decide_eq_true q1
      replace q1 := (nI_ltI (a := b) (b := a) (by omega) (by omega)).mp q1
      refine sx_RP.step (pc2 := 10) (ls2 := [(0, .int (nI a)), (1, .int (nI b))]) (st2 := [.int (nI b)]) (w3 := w) rfl rfl ?_
      refine sx_RP.ret (r := (some (.int (nI b)))) rfl rfl ?_
      exact ⟨⟨b, by omega, rfl⟩, rfl⟩
    · replace q1 := of_decide_eq_false q1
      replace q1 := mt (nI_ltI (a := b) (b := a) (by omega) (by omega)).mpr q1
      refine sx_RP.step (pc2 := 6) (ls2 := [(0, .int (nI a)), (1, .int (nI b))]) (st2 := [.int (nI a)]) (w3 := w) rfl rfl ?_
      refine sx_RP.step (pc2 := 10) (ls2 := [(0, .int (nI a)), (1, .int (nI b))]) (st2 := [.int (nI a)]) (w3 := w) rfl rfl ?_
      refine sx_RP.ret (r := (some (.int (nI a)))) rfl rfl ?_
      exact ⟨⟨a, by omega, rfl⟩, rfl⟩
  obtain ⟨r, w2, h1, ⟨j, hj, rfl⟩, rfl⟩ := h
  exact ⟨j, hj, h1⟩
set_option maxRecDepth 20000 in
set_option maxHeartbeats 4000000 in
theorem p60B {xs : Option (List Int32)} {d : Nat} {w : List sx_C} {c : Nat} (hc : c < 48) (x : Int32) (hI : WI w) {j : Nat} (hj : j ≤ 4) (kk : j + 1 ≤ 4 → sx_RP xs (d + 1) 60 14 [(0, .ref 0), (1, .int (nI c)), (2, .int x), (3, .int (nI (j + 1)))] [] w (fun r w2 => (∃ j, j ≤ 1 ∧ r = some (.int (nI j))) ∧ w2 = w)) : sx_RP xs (d + 1) 60 14 [(0, .ref 0), (1, .int (nI c)), (2, .int x), (3, .int (nI j))] [] w (fun r w2 => (∃ j, j ≤ 1 ∧ r = some (.int (nI j))) ∧ w2 = w) := by
  refine sx_RP.step (pc2 := 15) (ls2 := [(0, .ref 0), (1, .int (nI c)), (2, .int x), (3, .int (nI j))]) (st2 := [.int (nI j)]) (w3 := w) rfl rfl ?_
  refine sx_RP.step (pc2 := 16) (ls2 := [(0, .ref 0), (1, .int (nI c)), (2, .int x), (3, .int (nI j))]) (st2 := [.int 4, .int (nI j)]) (w3 := w) rfl rfl ?_
  refine sx_RP.br (p1 := 51) (l1 := [(0, .ref 0), (1, .int (nI c)), (2, .int x), (3, .int (nI j))]) (s1 := []) (v1 := w) (p2 := 19) (l2 := [(0, .ref 0), (1, .int (nI c)), (2, .int x), (3, .int (nI j))]) (s2 := []) (v2 := w) rfl rfl (fun q1 => ?_) (fun q1 => ?_)
  · replace q1 := of_decide_eq_true q1
    replace q1 := (nI_leI (a := 4) (b := j) (by omega) (by omega)).mp q1
    refine sx_RP.step (pc2 := 52) (ls2 := [(0, .ref 0), (1, .int (nI c)), (2, .int x), (3, .int (nI j))]) (st2 := [.int 0]) (w3 := w) rfl rfl ?_
    refine sx_RP.ret (r := (some (.int 0))) rfl rfl ?_
    exact ⟨⟨0, by decide, rfl⟩, rfl⟩
  · replace q1 := of_decide_eq_false q1
    replace q1 := mt (nI_leI (a := 4) (b := j) (by omega) (by omega)).mpr q1
    refine sx_RP.step (pc2 := 20) (ls2 := [(0, .ref 0), (1, .int (nI c)), (2, .int x), (3, .int (nI j))]) (st2 := [.int (nI c)]) (w3 := w) rfl rfl ?_
    refine sx_RP.step (pc2 := 21) (ls2 := [(0, .ref 0), (1, .int (nI c)), (2, .int x), (3, .int (nI j))]) (st2 := [.int (nI j), .int (nI c)]) (w3 := w) rfl rfl ?_
    rcases bes_cases (c := c) (j := j) (by omega) (by omega) with q2 | ⟨x3, hx4, q2⟩
    · refine sx_RP.cu (as := [.int (nI c), .int (nI j)]) (rest2 := []) (st3 := [.int (-1)]) rfl rfl rfl rfl rfl (cb_20e (by omega) (by omega) q2) rfl ?_
      refine sx_RP.step (pc2 := 26) (ls2 := [(4, .int (-1)), (0, .ref 0), (1, .int (nI c)), (2, .int x), (3, .int (nI j))]) (st2 := []) (w3 := w) rfl rfl ?_
      refine sx_RP.step (pc2 := 28) (ls2 := [(4, .int (-1)), (0, .ref 0), (1, .int (nI c)), (2, .int x), (3, .int (nI j))]) (st2 := [.int (-1)]) (w3 := w) rfl rfl ?_
      refine sx_RP.step (pc2 := 29) (ls2 := [(4, .int (-1)), (0, .ref 0), (1, .int (nI c)), (2, .int x), (3, .int (nI j))]) (st2 := [.int (-1), .int (-1)]) (w3 := w) rfl rfl ?_
      refine sx_RP.step (pc2 := 45) (ls2 := [(4, .int (-1)), (0, .ref 0), (1, .int (nI c)), (2, .int x), (3, .int (nI j))]) (st2 := []) (w3 := w) rfl rfl ?_
      refine sx_RP.step (pc2 := 48) (ls2 := [(3, .int ((nI j) + 1)), (4, .int (-1)), (0, .ref 0), (1, .int (nI c)), (2, .int x)]) (st2 := []) (w3 := w) rfl rfl ?_
      rw [nI_1 j]
      refine sx_RP.step (pc2 := 14) (ls2 := [(3, .int (nI (j + 1))), (4, .int (-1)), (0, .ref 0), (1, .int (nI c)), (2, .int x)]) (st2 := []) (w3 := w) rfl rfl ?_
      exact sx_RP.ls (sx_lr.cons rfl (sx_lr.cons rfl (sx_lr.cons rfl (sx_lr.cons rfl sx_lr.nil)))) (kk (by omega))
    · refine sx_RP.cu (as := [.int (nI c), .int (nI j)]) (rest2 := []) (st3 := [.int (nI x3)]) rfl rfl rfl rfl rfl (cb_20e (by omega) (by omega) q2) rfl ?_
      refine sx_RP.step (pc2 := 26) (ls2 := [(4, .int (nI x3)), (0, .ref 0), (1, .int (nI c)), (2, .int x), (3, .int (nI j))]) (st2 := []) (w3 := w) rfl rfl ?_
      refine sx_RP.step (pc2 := 28) (ls2 := [(4, .int (nI x3)), (0, .ref 0), (1, .int (nI c)), (2, .int x), (3, .int (nI j))]) (st2 := [.int (nI x3)]) (w3 := w) rfl rfl ?_
      refine sx_RP.step (pc2 := 29) (ls2 := [(4, .int (nI x3)), (0, .ref 0), (1, .int (nI c)), (2, .int x), (3, .int (nI j))]) (st2 := [.int (-1), .int (nI x3)]) (w3 := w) rfl rfl ?_
      refine sx_RP.br (p2 := 32) (l2 := [(4, .int (nI x3)), (0, .ref 0), (1, .int (nI c)), (2, .int x), (3, .int (nI j))]) (s2 := []) (v2 := w) rfl rfl (fun q => absurd (of_decide_eq_true q) (nI_ne1 (by omega))) (fun _ => ?_)
      refine sx_RP.step (pc2 := 33) (ls2 := [(4, .int (nI x3)), (0, .ref 0), (1, .int (nI c)), (2, .int x), (3, .int (nI j))]) (st2 := [.ref 0]) (w3 := w) rfl rfl ?_
      refine sx_RP.gf (v := .ref 101) rfl rfl hI.1.o0 rfl rfl (show _ = 36 from rfl) ?_
      refine sx_RP.step (pc2 := 38) (ls2 := [(4, .int (nI x3)), (0, .ref 0), (1, .int (nI c)), (2, .int x), (3, .int (nI j))]) (st2 := [.int (nI x3), .ref 101]) (w3 := w) rfl rfl ?_
      refine sx_RP.ild (c := x3) rfl hI.1.a101.1 hI.1.a101.2 (sx_in_nI (show x3 < 48 by omega) (by decide)) (show (nI x3).toNatClampNeg = x3 from nI_clamp (by omega)) (show _ = 39 from rfl) ?_
      refine sx_RP.step (pc2 := 40) (ls2 := [(4, .int (nI x3)), (0, .ref 0), (1, .int (nI c)), (2, .int x), (3, .int (nI j))]) (st2 := [.int x, .int ((ia w 101).getD x3 0)]) (w3 := w) rfl rfl ?_
      refine sx_RP.br (p1 := 45) (l1 := [(4, .int (nI x3)), (0, .ref 0), (1, .int (nI c)), (2, .int x), (3, .int (nI j))]) (s1 := []) (v1 := w) (p2 := 43) (l2 := [(4, .int (nI x3)), (0, .ref 0), (1, .int (nI c)), (2, .int x), (3, .int (nI j))]) (s2 := []) (v2 := w) rfl rfl (fun q5 => ?_) (fun q5 => ?_)
      · replace q5 := of_decide_eq_true q5
        refine sx_RP.step (pc2 := 48) (ls2 := [(3, .int ((nI j) + 1)), (4, .int (nI x3)), (0, .ref 0), (1, .int (nI c)), (2, .int x)]) (st2 := []) (w3 := w) rfl rfl ?_
        rw [nI_1 j]
        refine sx_RP.step (pc2 := 14) (ls2 := [(3, .int (nI (j + 1))), (4, .int (nI x3)), (0, .ref 0), (1, .int (nI c)), (2, .int x)]) (st2 := []) (w3 := w) rfl rfl ?_
        exact sx_RP.ls (sx_lr.cons rfl (sx_lr.cons rfl (sx_lr.cons rfl (sx_lr.cons rfl sx_lr.nil)))) (kk (by omega))
      · replace q5 := of_decide_eq_false q5
        refine sx_RP.step (pc2 := 44) (ls2 := [(4, .int (nI x3)), (0, .ref 0), (1, .int (nI c)), (2, .int x), (3, .int (nI j))]) (st2 := [.int 1]) (w3 := w) rfl rfl ?_
        refine sx_RP.ret (r := (some (.int 1))) rfl rfl ?_
        exact ⟨⟨1, by decide, rfl⟩, rfl⟩
set_option maxRecDepth 20000 in
set_option maxHeartbeats 4000000 in
theorem p60L {xs : Option (List Int32)} {d : Nat} {w : List sx_C} {c : Nat} (hc : c < 48) (x : Int32) (hI : WI w) : ∀ (fz j : Nat) , 4 ≤ j + fz * 1 → j ≤ 4 → sx_RP xs (d + 1) 60 14 [(0, .ref 0), (1, .int (nI c)), (2, .int x), (3, .int (nI j))] [] w (fun r w2 => (∃ j, j ≤ 1 ∧ r = some (.int (nI j))) ∧ w2 = w)
  | 0, j, h, hj => p60B hc x hI hj   (fun   hlt  => absurd hlt (by omega)) 
  | fz + 1, j, h, hj => p60B hc x hI hj   (fun   hlt  => p60L hc x hI  fz (j + 1)  (by omega) hlt ) 
set_option maxRecDepth 20000 in
set_option maxHeartbeats 4000000 in
theorem p60 {xs : Option (List Int32)} {d : Nat} {w : List sx_C} (hI : WI w) {c : Nat} (hc : c < 48) (x : Int32) : ∃ j, j ≤ 1 ∧ sx_RU xs (d + 1) 60 0 (lv_args 0 [.ref 0, .int (nI c), .int x]) [] w (some (.int (nI j))) w := by
  have h : sx_RP xs (d + 1) 60 0 (lv_args 0 [.ref 0, .int (nI c), .int x]) [] w (fun r w2 => (∃ j, j ≤ 1 ∧ r = some (.int (nI j))) ∧ w2 = w) := by
    refine sx_RP.step (pc2 := 1) (ls2 := [(0, .ref 0), (1, .int (nI c)), (2, .int x)]) (st2 := [.ref 0]) (w3 := w) rfl rfl ?_
    refine sx_RP.gf (v := .ref 101) rfl rfl hI.1.o0 rfl rfl (show _ = 4 from rfl) ?_
    refine sx_RP.step (pc2 := 5) (ls2 := [(0, .ref 0), (1, .int (nI c)), (2, .int x)]) (st2 := [.int (nI c), .ref 101]) (w3 := w) rfl rfl ?_
    refine sx_RP.ild (c := c) rfl hI.1.a101.1 hI.1.a101.2 (sx_in_nI (show c < 48 by omega) (by decide)) (show (nI c).toNatClampNeg = c from nI_clamp (by omega)) (show _ = 6 from rfl) ?_
    refine sx_RP.step (pc2 := 7) (ls2 := [(0, .ref 0), (1, .int (nI c)), (2, .int x)]) (st2 := [.int x, .int ((ia w 101).getD c 0)]) (w3 := w) rfl rfl ?_
    refine sx_RP.br (p1 := 12) (l1 := [(0, .ref 0), (1, .int (nI c)), (2, .int x)]) (s1 := []) (v1 := w) (p2 := 10) (l2 := [(0, .ref 0), (1, .int (nI c)), (2, .int x)]) (s2 := []) (v2 := w) rfl rfl (fun q1 => ?_) (fun q1 => ?_)
    · replace q1 := of_decide_eq_true q1
      refine sx_RP.step (pc2 := 13) (ls2 := [(0, .ref 0), (1, .int (nI c)), (2, .int x)]) (st2 := [.int 0]) (w3 := w) rfl rfl ?_
      refine sx_RP.step (pc2 := 14) (ls2 := [(3, .int 0), (0, .ref 0), (1, .int (nI c)), (2, .int x)]) (st2 := []) (w3 := w) rfl rfl ?_
      exact sx_RP.ls (sx_lr.cons rfl (sx_lr.cons rfl (sx_lr.cons rfl (sx_lr.cons rfl sx_lr.nil)))) (p60L hc x hI 4 0 (by omega) (by omega))
    · replace q1 := of_decide_eq_false q1
      refine sx_RP.step (pc2 := 11) (ls2 := [(0, .ref 0), (1, .int (nI c)), (2, .int x)]) (st2 := [.int 1]) (w3 := w) rfl rfl ?_
      refine sx_RP.ret (r := (some (.int 1))) rfl rfl ?_
      exact ⟨⟨1, by decide, rfl⟩, rfl⟩
  obtain ⟨r, w2, h1, ⟨j, hj, rfl⟩, rfl⟩ := h
  exact ⟨j, hj, h1⟩
set_option maxRecDepth 20000 in
set_option maxHeartbeats 4000000 in
theorem p69 {xs : Option (List Int32)} {d : Nat} {w : List sx_C} (hI : WI w) {k c t : Nat} (hk : k ≤ 5) (hc : c < 48) (ht : t < 48) : ∃ v : Int32, sx_RU xs (d + 2) 69 0 (lv_args 0 [.ref 0, .int (nI k), .int (nI c), .ref (47 + t)]) [] w (some (.int v)) w := by
  have h : sx_RP xs (d + 2) 69 0 (lv_args 0 [.ref 0, .int (nI k), .int (nI c), .ref (47 + t)]) [] w (fun r w2 => (∃ v : Int32, r = some (.int v)) ∧ w2 = w) := by
    refine sx_RP.step (pc2 := 1) (ls2 := [(0, .ref 0), (1, .int (nI k)), (2, .int (nI c)), (3, .ref (47 + t))]) (st2 := [.int 1]) (w3 := w) rfl rfl ?_
    refine sx_RP.step (pc2 := 2) (ls2 := [(0, .ref 0), (1, .int (nI k)), (2, .int (nI c)), (3, .ref (47 + t))]) (st2 := [.ref (47 + t), .int 1]) (w3 := w) rfl rfl ?_
    refine sx_RP.step (pc2 := 3) (ls2 := [(0, .ref 0), (1, .int (nI k)), (2, .int (nI c)), (3, .ref (47 + t))]) (st2 := [.int (nI c), .ref (47 + t), .int 1]) (w3 := w) rfl rfl ?_
    refine sx_RP.ild (c := c) rfl (hI.1.aR (show t < 48 by omega)).1 (hI.1.aR (show t < 48 by omega)).2 (sx_in_nI (show c < 48 by omega) (by decide)) (show (nI c).toNatClampNeg = c from nI_clamp (by omega)) (show _ = 4 from rfl) ?_
    refine sx_RP.step (pc2 := 5) (ls2 := [(0, .ref 0), (1, .int (nI k)), (2, .int (nI c)), (3, .ref (47 + t))]) (st2 := [.int (1 + ((ia w (47 + t)).getD c 0))]) (w3 := w) rfl rfl ?_
    refine sx_RP.step (pc2 := 7) (ls2 := [(4, .int (1 + ((ia w (47 + t)).getD c 0))), (0, .ref 0), (1, .int (nI k)), (2, .int (nI c)), (3, .ref (47 + t))]) (st2 := []) (w3 := w) rfl rfl ?_
    refine sx_RP.step (pc2 := 9) (ls2 := [(4, .int (1 + ((ia w (47 + t)).getD c 0))), (0, .ref 0), (1, .int (nI k)), (2, .int (nI c)), (3, .ref (47 + t))]) (st2 := [.int (1 + ((ia w (47 + t)).getD c 0))]) (w3 := w) rfl rfl ?_
    refine sx_RP.step (pc2 := 10) (ls2 := [(4, .int (1 + ((ia w (47 + t)).getD c 0))), (0, .ref 0), (1, .int (nI k)), (2, .int (nI c)), (3, .ref (47 + t))]) (st2 := [.int 1, .int (1 + ((ia w (47 + t)).getD c 0))]) (w3 := w) rfl rfl ?_
    refine sx_RP.br (p1 := 17) (l1 := [(4, .int (1 + ((ia w (47 + t)).getD c 0))), (0, .ref 0), (1, .int (nI k)), (2, .int (nI c)), (3, .ref (47 + t))]) (s1 := []) (v1 := w) (p2 := 13) (l2 := [(4, .int (1 + ((ia w (47 + t)).getD c 0))), (0, .ref 0), (1, .int (nI k)), (2, .int (nI c)), (3, .ref (47 + t))]) (s2 := []) (v2 := w) rfl rfl (fun q1 => ?_) (fun q1 => ?_)
    · replace q1 := of_decide_eq_true q1
      refine sx_RP.step (pc2 := 18) (ls2 := [(4, .int (1 + ((ia w (47 + t)).getD c 0))), (0, .ref 0), (1, .int (nI k)), (2, .int (nI c)), (3, .ref (47 + t))]) (st2 := [.ref 0]) (w3 := w) rfl rfl ?_
      refine sx_RP.gf (v := .ref 1) rfl rfl hI.1.o0 rfl rfl (show _ = 21 from rfl) ?_
      refine sx_RP.step (pc2 := 22) (ls2 := [(4, .int (1 + ((ia w (47 + t)).getD c 0))), (0, .ref 0), (1, .int (nI k)), (2, .int (nI c)), (3, .ref (47 + t))]) (st2 := [.int (nI k), .ref 1]) (w3 := w) rfl rfl ?_
      refine sx_RP.step (pc2 := 23) (ls2 := [(4, .int (1 + ((ia w (47 + t)).getD c 0))), (0, .ref 0), (1, .int (nI k)), (2, .int (nI c)), (3, .ref (47 + t))]) (st2 := [.int (nI c), .int (nI k), .ref 1]) (w3 := w) rfl rfl ?_
      obtain ⟨v2, c3⟩ := p35 hI (Or.inl rfl) (show k ≤ 5 by omega) (show c < 48 by omega)
      refine sx_RP.cu (as := [.ref 1, .int (nI k), .int (nI c)]) (rest2 := []) (st3 := [.int v2]) rfl rfl (sx_inv_v2 (mi := 69) (k := 157) (st := [.int (nI c), .int (nI k), .ref 1]) (w := w) rfl rfl (hI.1.oC (Or.inl rfl)) rfl rfl rfl) rfl rfl (c3) rfl ?_
      refine sx_RP.step (pc2 := 28) (ls2 := [(4, .int (1 + ((ia w (47 + t)).getD c 0))), (0, .ref 0), (1, .int (nI k)), (2, .int (nI c)), (3, .ref (47 + t))]) (st2 := [.int (1 + ((ia w (47 + t)).getD c 0)), .int v2]) (w3 := w) rfl rfl ?_
      refine sx_RP.idiv (pc2 := 29) rfl (fun z => absurd q1 (by rw [z]; decide)) rfl ?_
      refine sx_RP.ret (r := (some (.int (v2 / (1 + ((ia w (47 + t)).getD c 0)))))) rfl rfl ?_
      exact ⟨⟨_, rfl⟩, rfl⟩
    · replace q1 := of_decide_eq_false q1
      refine sx_RP.step (pc2 := 14) (ls2 := [(4, .int (1 + ((ia w (47 + t)).getD c 0))), (0, .ref 0), (1, .int (nI k)), (2, .int (nI c)), (3, .ref (47 + t))]) (st2 := [.int 0]) (w3 := w) rfl rfl ?_
      refine sx_RP.step (pc2 := 29) (ls2 := [(4, .int (1 + ((ia w (47 + t)).getD c 0))), (0, .ref 0), (1, .int (nI k)), (2, .int (nI c)), (3, .ref (47 + t))]) (st2 := [.int 0]) (w3 := w) rfl rfl ?_
      refine sx_RP.ret (r := (some (.int 0))) rfl rfl ?_
      exact ⟨⟨_, rfl⟩, rfl⟩
  obtain ⟨r, w2, h1, ⟨v, rfl⟩, rfl⟩ := h
  exact ⟨v, h1⟩
end
-- 48z.tests.lean.txt
section
theorem in_casesM (x : Int32) {n : Nat} (hn : n < 2 ^ 31) : ¬ ((-1) ≤ x ∧ x ≤ nI n) ∨ x = -1 ∨ ∃ j, j ≤ n ∧ x = nI j := by
  by_cases h : (-1) ≤ x ∧ x ≤ nI n
  · right
    by_cases h1 : x = -1
    · exact Or.inl h1
    · right
      have a1 := Int32.le_iff_toInt_le.mp h.1
      have e1 : (-1 : Int32).toInt = -1 := rfl
      have e0 : (0 : Int32).toInt = 0 := rfl
      have h2 : ¬ x.toInt = -1 := fun z => h1 (Int32.toInt_inj.mp (by rw [z, e1]))
      obtain ⟨j, hj, rfl⟩ := nI_of2 (M := nI n) (n := n) (x := x) (nI_toInt hn) (fun z => by
        have h3 := Int32.lt_iff_toInt_lt.mp z
        omega) h.2
      exact ⟨j, hj, rfl⟩
  · exact Or.inl h
theorem in_casesS (x : Int32) {n : Nat} (hn : n < 2 ^ 31) : ¬ (0 ≤ x ∧ x ≤ nI n - 1) ∨ ((0 ≤ x ∧ x ≤ nI n - 1) ∧ ∃ j, j < n ∧ x = nI j) := by
  by_cases h : 0 ≤ x ∧ x ≤ nI n - 1
  · right
    refine ⟨h, ?_⟩
    have h0 : ¬ x < 0 := Int32.not_lt.mpr h.1
    obtain ⟨j, hj, rfl⟩ := nI_of h0
    refine ⟨j, ?_, rfl⟩
    have a1 := Int32.le_iff_toInt_le.mp h.2
    rw [nI_toInt hj] at a1
    cases n with
    | zero =>
      have e : (nI 0 - 1 : Int32).toInt = -1 := by decide
      omega
    | succ n =>
      rw [nI_pred, nI_toInt (by omega)] at a1
      omega
  · exact Or.inl h
theorem lay_rng {v : Int64} (q1 : ¬ lg_cmp v 0 < 0) (q2 : ¬ 0 < lg_cmp v 3) : inR v.toInt32 3 := by
  have h1 : ¬ v < 0 := by
    intro z
    apply q1
    have a1 := Int64.lt_iff_toInt_lt.mp z
    have z0 : (0 : Int64).toInt = 0 := rfl
    have a : ¬ 0 < v := fun y => by
      have := Int64.lt_iff_toInt_lt.mp y
      omega
    have b : ¬ v = 0 := fun y => by
      rw [y, z0] at a1
      omega
    unfold lg_cmp
    rw [if_neg a, if_neg b]
    decide
  have h2 : ¬ 3 < v := by
    intro z
    apply q2
    unfold lg_cmp
    rw [if_pos z]
    decide
  rw [Int64.lt_iff_toInt_lt] at h1 h2
  have e0 : (0 : Int64).toInt = 0 := rfl
  have e3 : (3 : Int64).toInt = 3 := rfl
  rw [e0] at h1
  rw [e3] at h2
  rcases (show v.toInt = 0 ∨ v.toInt = 1 ∨ v.toInt = 2 ∨ v.toInt = 3 by omega) with h | h | h | h
  · have : v = 0 := Int64.toInt_inj.mp h
    subst this
    exact ⟨0, by decide, rfl⟩
  · have : v = 1 := Int64.toInt_inj.mp h
    subst this
    exact ⟨1, by decide, rfl⟩
  · have : v = 2 := Int64.toInt_inj.mp h
    subst this
    exact ⟨2, by decide, rfl⟩
  · have : v = 3 := Int64.toInt_inj.mp h
    subst this
    exact ⟨3, by decide, rfl⟩
end
-- 49.placesC.lean.txt
section
set_option maxRecDepth 20000 in
set_option maxHeartbeats 4000000 in
theorem p116 {xs : Option (List Int32)} {d : Nat} {w : List sx_C} (hI : WI w) {s : Nat} (hs : s < 4) : ∃ j, j ≤ 1 ∧ sx_RU xs d 116 0 (lv_args 0 [.ref (103 + 2 * s)]) [] w (some (.int (nI j))) w := by
  have h : sx_RP xs d 116 0 (lv_args 0 [.ref (103 + 2 * s)]) [] w (fun r w2 => (∃ j, j ≤ 1 ∧ r = some (.int (nI j))) ∧ w2 = w) := by
    refine sx_RP.step (pc2 := 1) (ls2 := [(0, .ref (103 + 2 * s))]) (st2 := [.ref (103 + 2 * s)]) (w3 := w) rfl rfl ?_
    refine sx_RP.gf (v := .int (fi w (103 + 2 * s) 1)) rfl rfl (hI.1.oS (show s < 4 by omega)) rfl rfl (show _ = 4 from rfl) ?_
    refine sx_RP.br (p1 := 11) (l1 := [(0, .ref (103 + 2 * s))]) (s1 := []) (v1 := w) (p2 := 7) (l2 := [(0, .ref (103 + 2 * s))]) (s2 := []) (v2 := w) rfl rfl (fun q1 => ?_) (fun q1 => ?_)
    · replace q1 := of_decide_eq_true q1
      refine sx_RP.step (pc2 := 12) (ls2 := [(0, .ref (103 + 2 * s))]) (st2 := [.int 0]) (w3 := w) rfl rfl ?_
      refine sx_RP.ret (r := (some (.int 0))) rfl rfl ?_
      exact ⟨⟨0, by decide, rfl⟩, rfl⟩
    · replace q1 := Decidable.not_not.mp (of_decide_eq_false q1)
      refine sx_RP.step (pc2 := 8) (ls2 := [(0, .ref (103 + 2 * s))]) (st2 := [.int 1]) (w3 := w) rfl rfl ?_
      refine sx_RP.step (pc2 := 12) (ls2 := [(0, .ref (103 + 2 * s))]) (st2 := [.int 1]) (w3 := w) rfl rfl ?_
      refine sx_RP.ret (r := (some (.int 1))) rfl rfl ?_
      exact ⟨⟨1, by decide, rfl⟩, rfl⟩
  obtain ⟨r, w2, h1, ⟨j, hj, rfl⟩, rfl⟩ := h
  exact ⟨j, hj, h1⟩
set_option maxRecDepth 20000 in
set_option maxHeartbeats 4000000 in
theorem p113 {xs : Option (List Int32)} {d : Nat} {w : List sx_C} (hI : WI w) (x : Int32) : ∃ j, j ≤ 1 ∧ sx_RU xs d 113 0 (lv_args 0 [.int x]) [] w (some (.int (nI j))) w := by
  have h : sx_RP xs d 113 0 (lv_args 0 [.int x]) [] w (fun r w2 => (∃ j, j ≤ 1 ∧ r = some (.int (nI j))) ∧ w2 = w) := by
    refine sx_RP.step (pc2 := 1) (ls2 := [(0, .int x)]) (st2 := [.int x]) (w3 := w) rfl rfl ?_
    refine sx_RP.step (pc2 := 3) (ls2 := [(0, .int x)]) (st2 := [.int 8, .int x]) (w3 := w) rfl rfl ?_
    refine sx_RP.br (p1 := 18) (l1 := [(0, .int x)]) (s1 := []) (v1 := w) (p2 := 6) (l2 := [(0, .int x)]) (s2 := []) (v2 := w) rfl rfl (fun q1 => ?_) (fun q1 => ?_)
    · replace q1 := of_decide_eq_true q1
      refine sx_RP.step (pc2 := 19) (ls2 := [(0, .int x)]) (st2 := [.int 1]) (w3 := w) rfl rfl ?_
      refine sx_RP.step (pc2 := 23) (ls2 := [(0, .int x)]) (st2 := [.int 1]) (w3 := w) rfl rfl ?_
      refine sx_RP.ret (r := (some (.int 1))) rfl rfl ?_
      exact ⟨⟨1, by decide, rfl⟩, rfl⟩
    · replace q1 := of_decide_eq_false q1
      refine sx_RP.step (pc2 := 7) (ls2 := [(0, .int x)]) (st2 := [.int x]) (w3 := w) rfl rfl ?_
      refine sx_RP.step (pc2 := 9) (ls2 := [(0, .int x)]) (st2 := [.int 16, .int x]) (w3 := w) rfl rfl ?_
      refine sx_RP.br (p1 := 18) (l1 := [(0, .int x)]) (s1 := []) (v1 := w) (p2 := 12) (l2 := [(0, .int x)]) (s2 := []) (v2 := w) rfl rfl (fun q2 => ?_) (fun q2 => ?_)
      · replace q2 := of_decide_eq_true q2
        refine sx_RP.step (pc2 := 19) (ls2 := [(0, .int x)]) (st2 := [.int 1]) (w3 := w) rfl rfl ?_
        refine sx_RP.step (pc2 := 23) (ls2 := [(0, .int x)]) (st2 := [.int 1]) (w3 := w) rfl rfl ?_
        refine sx_RP.ret (r := (some (.int 1))) rfl rfl ?_
        exact ⟨⟨1, by decide, rfl⟩, rfl⟩
      · replace q2 := of_decide_eq_false q2
        refine sx_RP.step (pc2 := 13) (ls2 := [(0, .int x)]) (st2 := [.int x]) (w3 := w) rfl rfl ?_
        refine sx_RP.step (pc2 := 15) (ls2 := [(0, .int x)]) (st2 := [.int 64, .int x]) (w3 := w) rfl rfl ?_
        refine sx_RP.br (p1 := 22) (l1 := [(0, .int x)]) (s1 := []) (v1 := w) (p2 := 18) (l2 := [(0, .int x)]) (s2 := []) (v2 := w) rfl rfl (fun q3 => ?_) (fun q3 => ?_)
        · replace q3 := of_decide_eq_true q3
          refine sx_RP.step (pc2 := 23) (ls2 := [(0, .int x)]) (st2 := [.int 0]) (w3 := w) rfl rfl ?_
          refine sx_RP.ret (r := (some (.int 0))) rfl rfl ?_
          exact ⟨⟨0, by decide, rfl⟩, rfl⟩
        · replace q3 := Decidable.not_not.mp (of_decide_eq_false q3)
          refine sx_RP.step (pc2 := 19) (ls2 := [(0, .int x)]) (st2 := [.int 1]) (w3 := w) rfl rfl ?_
          refine sx_RP.step (pc2 := 23) (ls2 := [(0, .int x)]) (st2 := [.int 1]) (w3 := w) rfl rfl ?_
          refine sx_RP.ret (r := (some (.int 1))) rfl rfl ?_
          exact ⟨⟨1, by decide, rfl⟩, rfl⟩
  obtain ⟨r, w2, h1, ⟨j, hj, rfl⟩, rfl⟩ := h
  exact ⟨j, hj, h1⟩
end
-- 52.textrows.lean.txt
section
def ET (w w2 : List sx_C) : Prop := (∀ a, a ≠ 96 → w2[a]? = w[a]?) ∧ (w2[96]?).map (kp 96) = (w[96]?).map (kp 96)
theorem ET.rf {w : List sx_C} : ET w w := ⟨fun _ _ => rfl, rfl⟩
theorem ET.tr {w w1 w2 : List sx_C} (h : ET w w1) (h2 : ET w1 w2) : ET w w2 := ⟨fun a ha => (h2.1 a ha).trans (h.1 a ha), h2.2.trans h.2⟩
theorem ET.ec {w w2 : List sx_C} (h : ET w w2) : EC w w2 := by
  intro a
  by_cases e : a = 96
  · subst e
    exact ⟨fun _ => h.2, fun z => by omega⟩
  · rw [h.1 a e]
    exact ⟨fun _ => rfl, fun _ => rfl⟩
theorem ET.fi {w w2 : List sx_C} (h : ET w w2) {a : Nat} (ha : a ≠ 96) (k : Nat) : fi w2 a k = fi w a k := by
  show vi (fs_ w2 a)[k]? = vi (fs_ w a)[k]?
  unfold fs_
  rw [h.1 a ha]
section SXT3
variable {xs : Option (List Int32)} {d mi pc pc2 idx p : Nat} {ls : sx_L} {r : List Value} {w w0 : List sx_C} {P : Option Value → List sx_C → Prop}
theorem sx_RP.slen {k : UInt32} {n : Nat} (hk : 100 ≤ k.toNat ∧ k.toNat < 120) (en : sx_sn.getD (k.toNat - 100) 0 = n) (hi : sx_ins mi pc = some (.invokevirtual idx, 3)) (hq : sx_lk (sx_sm (sx_own mi)) idx = some (0, p)) (hr : Nat.ble (r.map (fun v => v.category)).sum 8 = true) (hp : pc + 3 = pc2) (kk : sx_RP xs d mi pc2 ls (.int (nI n) :: r) w P) : sx_RP xs d mi pc ls (.float k :: r) w P := by
  subst hp
  subst en
  refine sx_RP.step hi (show sx_str (sx_own mi) idx ls pc (.float k :: r) w = some (pc + 3, ls, .int (nI (sx_sn.getD (k.toNat - 100) 0)) :: r, w) from ?_) kk
  unfold sx_str
  rw [hq]
  simp only
  rw [show Nat.ble 100 k.toNat = true from Nat.ble_eq.mpr hk.1, show Nat.blt k.toNat 120 = true from Nat.ble_eq.mpr hk.2, hr]
  rfl
theorem sx_RP.schr {k : UInt32} {n x : Nat} (hk : 100 ≤ k.toNat ∧ k.toNat < 120) (en : sx_sn.getD (k.toNat - 100) 0 = n) (hn : n ≤ 7) (hx : x < n) (hi : sx_ins mi pc = some (.invokevirtual idx, 3)) (hq : sx_lk (sx_sm (sx_own mi)) idx = some (1, p)) (hr : Nat.ble (r.map (fun v => v.category)).sum 8 = true) (hp : pc + 3 = pc2) (kk : sx_RP xs d mi pc2 ls (.int ((sx_sb.getD (k.toNat - 100) []).getD x 0) :: r) w P) : sx_RP xs d mi pc ls (.int (nI x) :: .float k :: r) w P := by
  subst hp
  subst en
  refine sx_RP.step hi (show sx_str (sx_own mi) idx ls pc (.int (nI x) :: .float k :: r) w = some (pc + 3, ls, .int ((sx_sb.getD (k.toNat - 100) []).getD x 0) :: r, w) from ?_) kk
  unfold sx_str
  rw [hq]
  simp only
  rw [show Nat.ble 100 k.toNat = true from Nat.ble_eq.mpr hk.1, show Nat.blt k.toNat 120 = true from Nat.ble_eq.mpr hk.2, sx_in_nI hx (by omega), hr, nI_clamp (by omega)]
  rfl
end SXT3
end
-- 53.textC.lean.txt
section
theorem p100_0 {xs : Option (List Int32)} {d : Nat} {w : List sx_C} : sx_RU xs d 100 0 (lv_args 0 [.int 0]) [] w (some (.float 102)) w := sx_RU.step rfl rfl (sx_RU.step rfl rfl (sx_RU.step rfl rfl (sx_RU.ret rfl rfl)))
theorem p100_1 {xs : Option (List Int32)} {d : Nat} {w : List sx_C} : sx_RU xs d 100 0 (lv_args 0 [.int 1]) [] w (some (.float 113)) w := sx_RU.step rfl rfl (sx_RU.step rfl rfl (sx_RU.step rfl rfl (sx_RU.ret rfl rfl)))
theorem p100_2 {xs : Option (List Int32)} {d : Nat} {w : List sx_C} : sx_RU xs d 100 0 (lv_args 0 [.int 2]) [] w (some (.float 112)) w := sx_RU.step rfl rfl (sx_RU.step rfl rfl (sx_RU.step rfl rfl (sx_RU.ret rfl rfl)))
theorem p100_3 {xs : Option (List Int32)} {d : Nat} {w : List sx_C} : sx_RU xs d 100 0 (lv_args 0 [.int 3]) [] w (some (.float 118)) w := sx_RU.step rfl rfl (sx_RU.step rfl rfl (sx_RU.step rfl rfl (sx_RU.ret rfl rfl)))
theorem p100_4 {xs : Option (List Int32)} {d : Nat} {w : List sx_C} : sx_RU xs d 100 0 (lv_args 0 [.int 4]) [] w (some (.float 117)) w := sx_RU.step rfl rfl (sx_RU.step rfl rfl (sx_RU.step rfl rfl (sx_RU.ret rfl rfl)))
theorem p106_0 {xs : Option (List Int32)} {d : Nat} {w : List sx_C} : sx_RU xs d 106 0 (lv_args 0 [.int 0]) [] w (some (.float 106)) w := sx_RU.step rfl rfl (sx_RU.step rfl rfl (sx_RU.step rfl rfl (sx_RU.ret rfl rfl)))
theorem p106_1 {xs : Option (List Int32)} {d : Nat} {w : List sx_C} : sx_RU xs d 106 0 (lv_args 0 [.int 1]) [] w (some (.float 110)) w := sx_RU.step rfl rfl (sx_RU.step rfl rfl (sx_RU.step rfl rfl (sx_RU.ret rfl rfl)))
theorem p106_2 {xs : Option (List Int32)} {d : Nat} {w : List sx_C} : sx_RU xs d 106 0 (lv_args 0 [.int 2]) [] w (some (.float 114)) w := sx_RU.step rfl rfl (sx_RU.step rfl rfl (sx_RU.step rfl rfl (sx_RU.ret rfl rfl)))
theorem p106_3 {xs : Option (List Int32)} {d : Nat} {w : List sx_C} : sx_RU xs d 106 0 (lv_args 0 [.int 3]) [] w (some (.float 107)) w := sx_RU.step rfl rfl (sx_RU.step rfl rfl (sx_RU.step rfl rfl (sx_RU.ret rfl rfl)))
theorem p106_4 {xs : Option (List Int32)} {d : Nat} {w : List sx_C} : sx_RU xs d 106 0 (lv_args 0 [.int 4]) [] w (some (.float 105)) w := sx_RU.step rfl rfl (sx_RU.step rfl rfl (sx_RU.step rfl rfl (sx_RU.ret rfl rfl)))
theorem p106_5 {xs : Option (List Int32)} {d : Nat} {w : List sx_C} : sx_RU xs d 106 0 (lv_args 0 [.int 5]) [] w (some (.float 103)) w := sx_RU.step rfl rfl (sx_RU.step rfl rfl (sx_RU.step rfl rfl (sx_RU.ret rfl rfl)))
end
-- 55.special.lean.txt
section
def EX (b : Nat) (w w2 : List sx_C) : Prop := ∀ a, a ≠ b → (a < 111 → (w2[a]?).map (kp a) = (w[a]?).map (kp a)) ∧ (111 ≤ a → w2[a]? = w[a]?)
theorem EC.ex {b : Nat} {w w2 : List sx_C} (h : EC w w2) : EX b w w2 := fun a _ => h a
theorem EX.rf {b : Nat} {w : List sx_C} : EX b w w := fun _ _ => ⟨fun _ => rfl, fun _ => rfl⟩
theorem EX.tr {b : Nat} {w w1 w2 : List sx_C} (h : EX b w w1) (h2 : EX b w1 w2) : EX b w w2 := fun a ha => ⟨fun z => ((h2 a ha).1 z).trans ((h a ha).1 z), fun z => ((h2 a ha).2 z).trans ((h a ha).2 z)⟩
theorem EX.at {b : Nat} {w : List sx_C} {c : sx_C} : EX b w (w.set b c) := by
  intro a ha
  rw [List.getElem?_set_ne (Ne.symm ha)]
  exact ⟨fun _ => rfl, fun _ => rfl⟩
section SXX
variable {xs : Option (List Int32)} {d mi pc pc2 idx p : Nat} {ls : sx_L} {r : List Value} {w w0 : List sx_C} {P : Option Value → List sx_C → Prop}
theorem sx_RP.pl {v : Int32} (hI : WI w) (hi : sx_ins mi pc = some (.putfield idx, 3)) (hq : sx_lk (sx_fl (sx_own mi)) idx = some (4, 1, p)) (hf : sx_fin mi 4 1 = true) (hv : inR v 120) (hp : pc + 3 = pc2) (kk : ∀ w2, WI w2 → EX 96 w w2 → fi w2 96 1 = v → sx_RP xs d mi pc2 ls r w2 P) : sx_RP xs d mi pc ls (.int v :: .ref 96 :: r) w P := by
  have hw := hI.1.o96
  have q := hI.t
  exact sx_RP.pf hi hq hw (by rw [hf]; rfl) rfl rfl hp (kk _ (hI.set hw rfl (cOK.t ⟨hv, q.2⟩)) EX.at (by unfold fi; rw [fs_set hw]; rfl))
end SXX
theorem kp_eq {a : Nat} {w w2 : List sx_C} {c c2 : sx_C} (h : (w2[a]?).map (kp a) = (w[a]?).map (kp a)) (h1 : w[a]? = some c) (h2 : w2[a]? = some c2) : kp a c2 = kp a c := by
  rw [h1, h2] at h
  exact Option.some.inj h
theorem keep111 {w w2 : List sx_C} (hI : WI w) (hI2 : WI w2) (h : (w2[111]?).map (kp 111) = (w[111]?).map (kp 111)) : fi w2 111 4 = fi w 111 4 ∧ fi w2 111 11 = fi w 111 11 := by
  have e := kp_eq h hI.1.o111 hI2.1.o111
  have e1 := (Prod.mk.inj e).1
  exact ⟨Value.int.inj (List.cons.inj e1).1, Value.int.inj (List.cons.inj (List.cons.inj e1).2).1⟩
end
-- 55z.copy.lean.txt
section
theorem cpy_len {α : Type} {f g : List α} {sp dp n : Nat} (h1 : sp + n ≤ f.length) (h2 : dp + n ≤ g.length) : (sx_cpy f g sp dp n).length = g.length := by
  unfold sx_cpy
  rw [List.length_append, List.length_append, List.length_take, List.length_take, List.length_drop, List.length_drop]
  omega
section SXK2
variable {xs : Option (List Int32)} {d mi pc pc2 idx p : Nat} {ls : sx_L} {r : List Value} {w w0 : List sx_C} {P : Option Value → List sx_C → Prop}
end SXK2
theorem run_of {x y : Int32} {n : Nat} (hn : n ≤ 40) (q1 : ¬ x < 0) (q2 : ¬ y < 0) (q3 : ¬ nI n < x) (q4 : ¬ nI n - x < y) : ∃ f m, x = nI f ∧ y = nI m ∧ f + m ≤ 40 := by
  obtain ⟨f, hf, rfl⟩ := nI_of q1
  obtain ⟨m, hm, rfl⟩ := nI_of q2
  have h3 := mt (nI_ltI (by omega) hf).mpr q3
  rw [nI_sub (by omega)] at q4
  have h4 := mt (nI_ltI (by omega) hm).mpr q4
  exact ⟨f, m, rfl, rfl, by omega⟩
end
-- 56.sheetC.lean.txt
section
set_option maxRecDepth 20000 in
set_option maxHeartbeats 4000000 in
theorem p119 {xs : Option (List Int32)} {d : Nat} {w : List sx_C} (hI : WI w) {s : Nat} (hs : s < 4) (x y : Int32) : sx_RU xs d 119 0 (lv_args 0 [.ref (103 + 2 * s), .int x, .int y]) [] w (some (.int 0)) w ∨ ((∃ f m, x = nI f ∧ y = nI m ∧ f + m ≤ 40) ∧ sx_RU xs d 119 0 (lv_args 0 [.ref (103 + 2 * s), .int x, .int y]) [] w (some (.int 1)) w) := by
  have h : sx_RP xs d 119 0 (lv_args 0 [.ref (103 + 2 * s), .int x, .int y]) [] w (fun r w2 => (r = some (.int 0) ∨ ((∃ f m, x = nI f ∧ y = nI m ∧ f + m ≤ 40) ∧ r = some (.int 1))) ∧ w2 = w) := by
    refine sx_RP.step (pc2 := 1) (ls2 := [(0, .ref (103 + 2 * s)), (1, .int x), (2, .int y)]) (st2 := [.int x]) (w3 := w) rfl rfl ?_
    refine sx_RP.br (p1 := 30) (l1 := [(0, .ref (103 + 2 * s)), (1, .int x), (2, .int y)]) (s1 := []) (v1 := w) (p2 := 4) (l2 := [(0, .ref (103 + 2 * s)), (1, .int x), (2, .int y)]) (s2 := []) (v2 := w) rfl rfl (fun q1 => ?_) (fun q1 => ?_)
    · replace q1 := of_decide_eq_true q1
      refine sx_RP.step (pc2 := 31) (ls2 := [(0, .ref (103 + 2 * s)), (1, .int x), (2, .int y)]) (st2 := [.int 0]) (w3 := w) rfl rfl ?_
      refine sx_RP.ret (r := (some (.int 0))) rfl rfl ?_
      exact ⟨Or.inl rfl, rfl⟩
    · replace q1 := of_decide_eq_false q1
      refine sx_RP.step (pc2 := 5) (ls2 := [(0, .ref (103 + 2 * s)), (1, .int x), (2, .int y)]) (st2 := [.int y]) (w3 := w) rfl rfl ?_
      refine sx_RP.br (p1 := 30) (l1 := [(0, .ref (103 + 2 * s)), (1, .int x), (2, .int y)]) (s1 := []) (v1 := w) (p2 := 8) (l2 := [(0, .ref (103 + 2 * s)), (1, .int x), (2, .int y)]) (s2 := []) (v2 := w) rfl rfl (fun q2 => ?_) (fun q2 => ?_)
      · replace q2 := of_decide_eq_true q2
        refine sx_RP.step (pc2 := 31) (ls2 := [(0, .ref (103 + 2 * s)), (1, .int x), (2, .int y)]) (st2 := [.int 0]) (w3 := w) rfl rfl ?_
        refine sx_RP.ret (r := (some (.int 0))) rfl rfl ?_
        exact ⟨Or.inl rfl, rfl⟩
      · replace q2 := of_decide_eq_false q2
        refine sx_RP.step (pc2 := 9) (ls2 := [(0, .ref (103 + 2 * s)), (1, .int x), (2, .int y)]) (st2 := [.int x]) (w3 := w) rfl rfl ?_
        refine sx_RP.step (pc2 := 10) (ls2 := [(0, .ref (103 + 2 * s)), (1, .int x), (2, .int y)]) (st2 := [.ref (103 + 2 * s), .int x]) (w3 := w) rfl rfl ?_
        refine sx_RP.gf (v := .int (fi w (103 + 2 * s) 2)) rfl rfl (hI.1.oS (show s < 4 by omega)) rfl rfl (show _ = 13 from rfl) ?_
        obtain ⟨x3, hx4, ex5⟩ : inR (fi w (103 + 2 * s) 2) 40 := hI.sh (show s < 4 by omega)
        rw [ex5]
        refine sx_RP.br (p1 := 30) (l1 := [(0, .ref (103 + 2 * s)), (1, .int x), (2, .int y)]) (s1 := []) (v1 := w) (p2 := 16) (l2 := [(0, .ref (103 + 2 * s)), (1, .int x), (2, .int y)]) (s2 := []) (v2 := w) rfl rfl (fun q6 => ?_) (fun q6 => ?_)
        · replace q6 := of_decide_eq_true q6
          refine sx_RP.step (pc2 := 31) (ls2 := [(0, .ref (103 + 2 * s)), (1, .int x), (2, .int y)]) (st2 := [.int 0]) (w3 := w) rfl rfl ?_
          refine sx_RP.ret (r := (some (.int 0))) rfl rfl ?_
          exact ⟨Or.inl rfl, rfl⟩
        · replace q6 := of_decide_eq_false q6
          refine sx_RP.step (pc2 := 17) (ls2 := [(0, .ref (103 + 2 * s)), (1, .int x), (2, .int y)]) (st2 := [.int y]) (w3 := w) rfl rfl ?_
          refine sx_RP.step (pc2 := 18) (ls2 := [(0, .ref (103 + 2 * s)), (1, .int x), (2, .int y)]) (st2 := [.ref (103 + 2 * s), .int y]) (w3 := w) rfl rfl ?_
          refine sx_RP.gf (v := .int (fi w (103 + 2 * s) 2)) rfl rfl (hI.1.oS (show s < 4 by omega)) rfl rfl (show _ = 21 from rfl) ?_
          rw [ex5]
          refine sx_RP.step (pc2 := 22) (ls2 := [(0, .ref (103 + 2 * s)), (1, .int x), (2, .int y)]) (st2 := [.int x, .int (nI x3), .int y]) (w3 := w) rfl rfl ?_
          refine sx_RP.step (pc2 := 23) (ls2 := [(0, .ref (103 + 2 * s)), (1, .int x), (2, .int y)]) (st2 := [.int ((nI x3) - x), .int y]) (w3 := w) rfl rfl ?_
          refine sx_RP.br (p1 := 30) (l1 := [(0, .ref (103 + 2 * s)), (1, .int x), (2, .int y)]) (s1 := []) (v1 := w) (p2 := 26) (l2 := [(0, .ref (103 + 2 * s)), (1, .int x), (2, .int y)]) (s2 := []) (v2 := w) rfl rfl (fun q7 => ?_) (fun q7 => ?_)
          · replace q7 := of_decide_eq_true q7
            refine sx_RP.step (pc2 := 31) (ls2 := [(0, .ref (103 + 2 * s)), (1, .int x), (2, .int y)]) (st2 := [.int 0]) (w3 := w) rfl rfl ?_
            refine sx_RP.ret (r := (some (.int 0))) rfl rfl ?_
            exact ⟨Or.inl rfl, rfl⟩
          · replace q7 := of_decide_eq_false q7
            refine sx_RP.step (pc2 := 27) (ls2 := [(0, .ref (103 + 2 * s)), (1, .int x), (2, .int y)]) (st2 := [.int 1]) (w3 := w) rfl rfl ?_
            refine sx_RP.step (pc2 := 31) (ls2 := [(0, .ref (103 + 2 * s)), (1, .int x), (2, .int y)]) (st2 := [.int 1]) (w3 := w) rfl rfl ?_
            refine sx_RP.ret (r := (some (.int 1))) rfl rfl ?_
            exact ⟨Or.inr ⟨run_of (by omega) q1 q2 q6 q7, rfl⟩, rfl⟩
  obtain ⟨r, w2, h1, h2, rfl⟩ := h
  rcases h2 with rfl | ⟨hc, rfl⟩
  · exact Or.inl h1
  · exact Or.inr ⟨hc, h1⟩
end
-- 57.rowsM.lean.txt
section
theorem WI.sA {w : List sx_C} (h : WI w) {a : Nat} (ha : 112 ≤ a ∧ a ≤ 115) : sOK (ia w a) := by
  rcases (show a = 112 ∨ a = 113 ∨ a = 114 ∨ a = 115 by omega) with rfl | rfl | rfl | rfl
  · exact h.s
  · exact (h.2 113 _ h.1.a113.1).2.2.2.2.2.2.2.2.1 (by decide)
  · exact (h.2 114 _ h.1.a114.1).2.2.2.2.2.2.2.2.1 (by decide)
  · exact (h.2 115 _ h.1.a115.1).2.2.2.2.2.2.2.2.1 (by decide)
theorem Ty.aM {w : List sx_C} (h : Ty w) {a : Nat} (ha : 112 ≤ a ∧ a ≤ 115) : w[a]? = some (.inl (0, ia w a)) ∧ (ia w a).length = 172 := by
  rcases (show a = 112 ∨ a = 113 ∨ a = 114 ∨ a = 115 by omega) with rfl | rfl | rfl | rfl
  · exact h.a112
  · exact h.a113
  · exact h.a114
  · exact h.a115
theorem eOK_g {g c : Nat} {v : Int32} (hg : g < 10) (hc : c < 6) (hv : gR c v) : eOK (103 + 6 * g + c) v := by
  unfold eOK
  refine ⟨fun z => by omega, fun z => by omega, fun z => by omega, fun z => ?_, fun z => ?_, fun z => ?_, fun z => ?_, fun z => ?_, fun z => by omega⟩
  · obtain rfl : c = 0 := by omega
    exact hv
  · obtain rfl : c = 1 := by omega
    exact hv
  · obtain rfl : c = 2 := by omega
    exact hv
  · obtain rfl : c = 3 := by omega
    exact hv
  · obtain rfl : c = 5 := by omega
    exact hv
theorem eOK_n {k : Nat} {v : Int32} (h : k = 0 ∨ (3 ≤ k ∧ k ≤ 6) ∨ (55 ≤ k ∧ k < 103)) : eOK k v := by
  unfold eOK
  refine ⟨fun z => by omega, fun z => by omega, fun z => by omega, fun z => by omega, fun z => by omega, fun z => by omega, fun z => by omega, fun z => by omega, fun z => by omega⟩
theorem eOK_1 {v : Int32} (h : inR v 10) : eOK 1 v := by
  unfold eOK
  refine ⟨fun _ => h, fun z => by omega, fun z => by omega, fun z => by omega, fun z => by omega, fun z => by omega, fun z => by omega, fun z => by omega, fun z => by omega⟩
theorem eOK_2 {v : Int32} (h : inR v 9) : eOK 2 v := by
  unfold eOK
  refine ⟨fun z => by omega, fun _ => h, fun z => by omega, fun z => by omega, fun z => by omega, fun z => by omega, fun z => by omega, fun z => by omega, fun z => by omega⟩
theorem eOK_st {k : Nat} {v : Int32} (hk : 7 ≤ k ∧ k < 55) (h : inR v 3) : eOK k v := by
  unfold eOK
  refine ⟨fun z => by omega, fun z => by omega, fun _ => h, fun z => by omega, fun z => by omega, fun z => by omega, fun z => by omega, fun z => by omega, fun z => by omega⟩
theorem eOK_d {k : Nat} {v : Int32} (hk : 163 ≤ k) (h : inR v 47) : eOK k v := by
  unfold eOK
  refine ⟨fun z => by omega, fun z => by omega, fun z => by omega, fun z => by omega, fun z => by omega, fun z => by omega, fun z => by omega, fun z => by omega, fun _ => h⟩
theorem sOK.set {l : List Int32} {i : Nat} {v : Int32} (h : sOK l) (hl : l.length = 172) (hi : i < 172) (hv : eOK i v) : sOK (l.set i v) := by
  intro k hk
  rw [List.getD_eq_getElem?_getD, List.getElem?_set]
  by_cases e : i = k
  · subst e
    rw [if_pos rfl, if_pos (by omega)]
    exact hv
  · rw [if_neg e, ← List.getD_eq_getElem?_getD]
    exact h k hk
section SXMR
variable {xs : Option (List Int32)} {d mi pc pc2 a idx p : Nat} {ls : sx_L} {r : List Value} {w w0 : List sx_C} {P : Option Value → List sx_C → Prop}
def mR (k : Nat) (v : Int32) : Prop := match k with
  | 12 => inR v 120
  | _ => True
theorem sx_RP.pm {k : Nat} {v : Int32} (hI : WI w) (hE : EM w0 w) (hi : sx_ins mi pc = some (.putfield idx, 3)) (hq : sx_lk (sx_fl (sx_own mi)) idx = some (6, k, p)) (hk : 12 ≤ k ∧ k < 15) (hf : sx_fin mi 6 k = true) (hv : mR k v) (hp : pc + 3 = pc2) (kk : ∀ w2, WI w2 → EM w0 w2 → fi w2 111 k = v → (∀ j, j ≠ k → fi w2 111 j = fi w 111 j) → (∀ a, a ≠ 111 → w2[a]? = w[a]?) → sx_RP xs d mi pc2 ls r w2 P) : sx_RP xs d mi pc ls (.int v :: .ref 111 :: r) w P := by
  have hw := hI.1.o111
  have q := hI.m
  have hfs : fs_ w 111 = [.ref 112, .ref 113, .ref 114, .ref 115, .int (fi w 111 4), .ref 116, .ref 117, .ref 118, .ref 119, .ref 120, .ref 121, .int (fi w 111 11), .int (fi w 111 12), .int (fi w 111 13), .int (fi w 111 14), .ref 122, .ref 123, .ref 124, .ref 125] := by unfold fs_; rw [hw]
  have hne : ∀ (fs : List Value) (j : Nat), j ≠ k → fi (w.set 111 (.inr (.inr (.inr (6, fs.set k (.int v)))))) 111 j = vi fs[j]? := by
    intro fs j hj
    unfold fi
    rw [fs_set hw, List.getElem?_set_ne (Ne.symm hj)]
  have hfr : ∀ (c : sx_C) (a : Nat), a ≠ 111 → (w.set 111 c)[a]? = w[a]? := fun c a ha => List.getElem?_set_ne (Ne.symm ha)
  rcases (show k = 12 ∨ k = 13 ∨ k = 14 by omega) with rfl | rfl | rfl
  · refine sx_RP.pf hi hq hw (by rw [hf]; rfl) rfl rfl hp (kk _ (hI.set hw rfl (cOK.m ⟨q.1, q.2.1, hv⟩)) (hE.set hw (by decide) rfl) (by unfold fi; rw [fs_set hw]; rfl) (fun j hj => ?_) (hfr _))
    rw [hne _ j hj, ← hfs]
    rfl
  · refine sx_RP.pf hi hq hw (by rw [hf]; rfl) rfl rfl hp (kk _ (hI.set hw rfl (cOK.m q)) (hE.set hw (by decide) rfl) (by unfold fi; rw [fs_set hw]; rfl) (fun j hj => ?_) (hfr _))
    rw [hne _ j hj, ← hfs]
    rfl
  · refine sx_RP.pf hi hq hw (by rw [hf]; rfl) rfl rfl hp (kk _ (hI.set hw rfl (cOK.m q)) (hE.set hw (by decide) rfl) (by unfold fi; rw [fs_set hw]; rfl) (fun j hj => ?_) (hfr _))
    rw [hne _ j hj, ← hfs]
    rfl
end SXMR
section SXMT
variable {xs : Option (List Int32)} {d : Nat} {w : List sx_C} {x : Int32}
theorem cx_131n (q : ¬ (0 ≤ x ∧ x ≤ 47)) : sx_RU xs (d + 1) 131 0 (lv_args 0 [.int x]) [] w (some (.int 0)) w := by
  refine sx_RU.step rfl rfl (sx_RU.step rfl rfl (sx_RU.step rfl rfl ?_))
  exact sx_RU.call rfl rfl rfl rfl (cx_132o q) (sx_RU.ret rfl rfl)
theorem cx_131p (q : 0 ≤ x ∧ x ≤ 47) : sx_RU xs (d + 1) 131 0 (lv_args 0 [.int x]) [] w (some (.int 1)) w := by
  refine sx_RU.step rfl rfl (sx_RU.step rfl rfl (sx_RU.step rfl rfl ?_))
  exact sx_RU.call rfl rfl rfl rfl (cx_132p q) (sx_RU.ret rfl rfl)
theorem cx_151n (q : ¬ (0 ≤ x ∧ x ≤ 5)) : sx_RU xs (d + 1) 151 0 (lv_args 0 [.int x]) [] w (some (.int 0)) w := by
  refine sx_RU.step rfl rfl (sx_RU.step rfl rfl (sx_RU.step rfl rfl ?_))
  exact sx_RU.call rfl rfl rfl rfl (cx_132o q) (sx_RU.ret rfl rfl)
theorem cx_151p (q : 0 ≤ x ∧ x ≤ 5) : sx_RU xs (d + 1) 151 0 (lv_args 0 [.int x]) [] w (some (.int 1)) w := by
  refine sx_RU.step rfl rfl (sx_RU.step rfl rfl (sx_RU.step rfl rfl ?_))
  exact sx_RU.call rfl rfl rfl rfl (cx_132p q) (sx_RU.ret rfl rfl)
theorem cx_152n (q : ¬ (0 ≤ x ∧ x ≤ 3)) : sx_RU xs (d + 1) 152 0 (lv_args 0 [.int x]) [] w (some (.int 0)) w := by
  refine sx_RU.step rfl rfl (sx_RU.step rfl rfl (sx_RU.step rfl rfl ?_))
  exact sx_RU.call rfl rfl rfl rfl (cx_132o q) (sx_RU.ret rfl rfl)
theorem cx_152p (q : 0 ≤ x ∧ x ≤ 3) : sx_RU xs (d + 1) 152 0 (lv_args 0 [.int x]) [] w (some (.int 1)) w := by
  refine sx_RU.step rfl rfl (sx_RU.step rfl rfl (sx_RU.step rfl rfl ?_))
  exact sx_RU.call rfl rfl rfl rfl (cx_132p q) (sx_RU.ret rfl rfl)
theorem cx_197n (q : ¬ (1 ≤ x ∧ x ≤ 30)) : sx_RU xs (d + 1) 197 0 (lv_args 0 [.int x]) [] w (some (.int 0)) w := by
  refine sx_RU.step rfl rfl (sx_RU.step rfl rfl (sx_RU.step rfl rfl ?_))
  exact sx_RU.call rfl rfl rfl rfl (cx_132o q) (sx_RU.ret rfl rfl)
theorem cx_197p (q : 1 ≤ x ∧ x ≤ 30) : sx_RU xs (d + 1) 197 0 (lv_args 0 [.int x]) [] w (some (.int 1)) w := by
  refine sx_RU.step rfl rfl (sx_RU.step rfl rfl (sx_RU.step rfl rfl ?_))
  exact sx_RU.call rfl rfl rfl rfl (cx_132p q) (sx_RU.ret rfl rfl)
theorem cx_231n (q : ¬ (0 ≤ x ∧ x ≤ 3)) : sx_RU xs (d + 1) 231 0 (lv_args 0 [.int x]) [] w (some (.int 0)) w := by
  refine sx_RU.step rfl rfl (sx_RU.step rfl rfl (sx_RU.step rfl rfl ?_))
  exact sx_RU.call rfl rfl rfl rfl (cx_132o q) (sx_RU.ret rfl rfl)
theorem cx_231p (q : 0 ≤ x ∧ x ≤ 3) : sx_RU xs (d + 1) 231 0 (lv_args 0 [.int x]) [] w (some (.int 1)) w := by
  refine sx_RU.step rfl rfl (sx_RU.step rfl rfl (sx_RU.step rfl rfl ?_))
  exact sx_RU.call rfl rfl rfl rfl (cx_132p q) (sx_RU.ret rfl rfl)
theorem cx_218n (q : ¬ (97 ≤ x ∧ x ≤ 122)) : sx_RU xs (d + 1) 218 0 (lv_args 0 [.int x]) [] w (some (.int 0)) w := by
  refine sx_RU.step rfl rfl (sx_RU.step rfl rfl (sx_RU.step rfl rfl ?_))
  exact sx_RU.call rfl rfl rfl rfl (cx_132o q) (sx_RU.ret rfl rfl)
theorem cx_218p (q : 97 ≤ x ∧ x ≤ 122) : sx_RU xs (d + 1) 218 0 (lv_args 0 [.int x]) [] w (some (.int 1)) w := by
  refine sx_RU.step rfl rfl (sx_RU.step rfl rfl (sx_RU.step rfl rfl ?_))
  exact sx_RU.call rfl rfl rfl rfl (cx_132p q) (sx_RU.ret rfl rfl)
theorem cx_221n (q : ¬ (48 ≤ x ∧ x ≤ 57)) : sx_RU xs (d + 1) 221 0 (lv_args 0 [.int x]) [] w (some (.int 0)) w := by
  refine sx_RU.step rfl rfl (sx_RU.step rfl rfl (sx_RU.step rfl rfl ?_))
  exact sx_RU.call rfl rfl rfl rfl (cx_132o q) (sx_RU.ret rfl rfl)
theorem cx_221p (q : 48 ≤ x ∧ x ≤ 57) : sx_RU xs (d + 1) 221 0 (lv_args 0 [.int x]) [] w (some (.int 1)) w := by
  refine sx_RU.step rfl rfl (sx_RU.step rfl rfl (sx_RU.step rfl rfl ?_))
  exact sx_RU.call rfl rfl rfl rfl (cx_132p q) (sx_RU.ret rfl rfl)
end SXMT
theorem ia_of {w w2 : List sx_C} {a : Nat} (h : w2[a]? = w[a]?) : ia w2 a = ia w a := by
  unfold ia
  rw [h]
end
