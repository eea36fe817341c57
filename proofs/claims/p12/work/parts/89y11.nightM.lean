-- nights of the reference
theorem WB.set {l : List Int32} {i : Nat} {v : Int32} (h : WB l) (hi : i < 55 ∨ 103 ≤ i) : WB (l.set i v) := fun c hc => by
  rw [gd_ne (by omega)]
  exact h c hc
theorem digR_wb {l : List Int32} {g : Nat} (h : WB l) : WB (digR l g) := ((h.set (by omega)).set (by omega)).set (by omega)
theorem metR_wb {l : List Int32} {g : Nat} (h : WB l) : WB (metR l g) := by
  unfold metR
  split
  · exact (h.set (by omega)).set (by omega)
  · exact h
theorem dgL_wb : ∀ (q j : Nat) (l : List Int32), WB l → WB (dgL q j l)
  | 0, _, _, h => h
  | q + 1, j, l, h => by
    refine dgL_wb q (j + 1) _ ?_
    split
    · exact digR_wb h
    · exact h
theorem mtL_wb : ∀ (q j : Nat) (l : List Int32), WB l → WB (mtL q j l)
  | 0, _, _, h => h
  | q + 1, j, l, h => mtL_wb q (j + 1) _ (metR_wb h)
theorem nigR_wb {l : List Int32} (h : WB l) : WB (nigR l) := (mtL_wb _ _ _ (dgL_wb _ _ _ h)).set (by omega)
theorem goR_wb : ∀ (n : Nat) (l : List Int32), WB l → WB (goR n l)
  | 0, _, h => h
  | n + 1, l, h => goR_wb n _ (nigR_wb h)
set_option maxRecDepth 20000 in
set_option maxHeartbeats 4000000 in
theorem x167L {xs : Option (List Int32)} {d n : Nat} {w : List sx_C} {x : Int32} (hI : WI w) (hn : n ≤ 10) (en : (ia w 112).getD 1 0 = nI n) : ∀ (q j : Nat), j + q = n → sx_RP xs (d + 2) 167 4 [(0, .ref 111), (1, .int x), (2, .int (lfF (ia w 112) x j)), (3, .int (nI j))] [] w (fun r w2 => r = some (.int (lfF (ia w 112) x n)) ∧ w2 = w)
  | 0, j, hj => by
    obtain rfl : j = n := by omega
    refine sx_RP.step (pc2 := 5) (ls2 := [(0, .ref 111), (1, .int x), (2, .int (lfF (ia w 112) x j)), (3, .int (nI j))]) (st2 := [.int (nI j)]) (w3 := w) rfl rfl ?_
    refine sx_RP.step (pc2 := 6) (ls2 := [(0, .ref 111), (1, .int x), (2, .int (lfF (ia w 112) x j)), (3, .int (nI j))]) (st2 := [.ref 111, .int (nI j)]) (w3 := w) rfl rfl ?_
    refine sx_RP.gf (v := .ref 112) rfl rfl hI.1.o111 rfl rfl (show _ = 9 from rfl) ?_
    refine sx_RP.step (pc2 := 10) (ls2 := [(0, .ref 111), (1, .int x), (2, .int (lfF (ia w 112) x j)), (3, .int (nI j))]) (st2 := [.int 1, .ref 112, .int (nI j)]) (w3 := w) rfl rfl ?_
    refine sx_RP.ild (c := 1) rfl hI.1.a112.1 hI.1.a112.2 (sx_in_nI (show 1 < 172 by omega) (by decide)) (show (nI 1).toNatClampNeg = 1 from nI_clamp (by omega)) (show _ = 11 from rfl) ?_
    rw [en]
    refine sx_RP.br (p1 := 46) (l1 := [(0, .ref 111), (1, .int x), (2, .int (lfF (ia w 112) x j)), (3, .int (nI j))]) (s1 := []) (v1 := w) rfl rfl (fun _ => ?_) (fun q => absurd (nI_le (a := j) (b := j) (by omega) (by omega)) (of_decide_eq_false q))
    refine sx_RP.step (pc2 := 47) (ls2 := [(0, .ref 111), (1, .int x), (2, .int (lfF (ia w 112) x j)), (3, .int (nI j))]) (st2 := [.int (lfF (ia w 112) x j)]) (w3 := w) rfl rfl ?_
    refine sx_RP.ret (r := (some (.int (lfF (ia w 112) x j)))) rfl rfl ?_
    exact ⟨rfl, rfl⟩
  | q + 1, j, hj => by
    refine sx_RP.step (pc2 := 5) (ls2 := [(0, .ref 111), (1, .int x), (2, .int (lfF (ia w 112) x j)), (3, .int (nI j))]) (st2 := [.int (nI j)]) (w3 := w) rfl rfl ?_
    refine sx_RP.step (pc2 := 6) (ls2 := [(0, .ref 111), (1, .int x), (2, .int (lfF (ia w 112) x j)), (3, .int (nI j))]) (st2 := [.ref 111, .int (nI j)]) (w3 := w) rfl rfl ?_
    refine sx_RP.gf (v := .ref 112) rfl rfl hI.1.o111 rfl rfl (show _ = 9 from rfl) ?_
    refine sx_RP.step (pc2 := 10) (ls2 := [(0, .ref 111), (1, .int x), (2, .int (lfF (ia w 112) x j)), (3, .int (nI j))]) (st2 := [.int 1, .ref 112, .int (nI j)]) (w3 := w) rfl rfl ?_
    refine sx_RP.ild (c := 1) rfl hI.1.a112.1 hI.1.a112.2 (sx_in_nI (show 1 < 172 by omega) (by decide)) (show (nI 1).toNatClampNeg = 1 from nI_clamp (by omega)) (show _ = 11 from rfl) ?_
    rw [en]
    refine sx_RP.br (p2 := 14) (l2 := [(0, .ref 111), (1, .int x), (2, .int (lfF (ia w 112) x j)), (3, .int (nI j))]) (s2 := []) (v2 := w) rfl rfl (fun q => absurd (of_decide_eq_true q) (fun z => absurd ((nI_leI (a := n) (b := j) (by omega) (by omega)).mp z) (by omega))) (fun _ => ?_)
    refine sx_RP.step (pc2 := 15) (ls2 := [(0, .ref 111), (1, .int x), (2, .int (lfF (ia w 112) x j)), (3, .int (nI j))]) (st2 := [.int (lfF (ia w 112) x j)]) (w3 := w) rfl rfl ?_
    refine sx_RP.step (pc2 := 16) (ls2 := [(0, .ref 111), (1, .int x), (2, .int (lfF (ia w 112) x j)), (3, .int (nI j))]) (st2 := [.ref 111, .int (lfF (ia w 112) x j)]) (w3 := w) rfl rfl ?_
    refine sx_RP.step (pc2 := 17) (ls2 := [(0, .ref 111), (1, .int x), (2, .int (lfF (ia w 112) x j)), (3, .int (nI j))]) (st2 := [.int (nI j), .ref 111, .int (lfF (ia w 112) x j)]) (w3 := w) rfl rfl ?_
    rcases Decidable.em ((ia w 112).getD (103 + 6 * j + 5) 0 = 0) with ci | ci
    · refine sx_RP.cu (as := [.ref 111, .int (nI j)]) (rest2 := [.int (lfF (ia w 112) x j)]) (st3 := [.int 1, .int (lfF (ia w 112) x j)]) rfl rfl (sx_inv_v2 (mi := 167) (k := 74) (st := [.int (nI j), .ref 111, .int (lfF (ia w 112) x j)]) (w := w) rfl rfl hI.1.o111 rfl rfl rfl) rfl rfl (x137y hI (by omega) ci) rfl ?_
      refine sx_RP.step (pc2 := 23) (ls2 := [(0, .ref 111), (1, .int x), (2, .int (lfF (ia w 112) x j)), (3, .int (nI j))]) (st2 := [.int (lfF (ia w 112) x j)]) (w3 := w) rfl rfl ?_
      refine sx_RP.step (pc2 := 24) (ls2 := [(0, .ref 111), (1, .int x), (2, .int (lfF (ia w 112) x j)), (3, .int (nI j))]) (st2 := [.ref 111, .int (lfF (ia w 112) x j)]) (w3 := w) rfl rfl ?_
      refine sx_RP.step (pc2 := 25) (ls2 := [(0, .ref 111), (1, .int x), (2, .int (lfF (ia w 112) x j)), (3, .int (nI j))]) (st2 := [.int (nI j), .ref 111, .int (lfF (ia w 112) x j)]) (w3 := w) rfl rfl ?_
      refine sx_RP.step (pc2 := 26) (ls2 := [(0, .ref 111), (1, .int x), (2, .int (lfF (ia w 112) x j)), (3, .int (nI j))]) (st2 := [.int 1, .int (nI j), .ref 111, .int (lfF (ia w 112) x j)]) (w3 := w) rfl rfl ?_
      refine sx_RP.cu (as := [.ref 111, .int (nI j), .int 1]) (rest2 := [.int (lfF (ia w 112) x j)]) (st3 := [.int ((ia w 112).getD (103 + 6 * j + 1) 0), .int (lfF (ia w 112) x j)]) rfl rfl (sx_inv_v2 (mi := 167) (k := 59) (st := [.int 1, .int (nI j), .ref 111, .int (lfF (ia w 112) x j)]) (w := w) rfl rfl hI.1.o111 rfl rfl rfl) rfl rfl (x138 hI (show j < 10 by omega) (show 1 < 6 by decide)) rfl ?_
      refine sx_RP.step (pc2 := 30) (ls2 := [(0, .ref 111), (1, .int x), (2, .int (lfF (ia w 112) x j)), (3, .int (nI j))]) (st2 := [.int x, .int ((ia w 112).getD (103 + 6 * j + 1) 0), .int (lfF (ia w 112) x j)]) (w3 := w) rfl rfl ?_
      refine sx_RP.br (p1 := 37) (l1 := [(0, .ref 111), (1, .int x), (2, .int (lfF (ia w 112) x j)), (3, .int (nI j))]) (s1 := [.int (lfF (ia w 112) x j)]) (v1 := w) (p2 := 33) (l2 := [(0, .ref 111), (1, .int x), (2, .int (lfF (ia w 112) x j)), (3, .int (nI j))]) (s2 := [.int (lfF (ia w 112) x j)]) (v2 := w) rfl rfl (fun q1 => ?_) (fun q1 => ?_)
      · replace q1 := of_decide_eq_true q1
        refine sx_RP.step (pc2 := 38) (ls2 := [(0, .ref 111), (1, .int x), (2, .int (lfF (ia w 112) x j)), (3, .int (nI j))]) (st2 := [.int 0, .int (lfF (ia w 112) x j)]) (w3 := w) rfl rfl ?_
        refine sx_RP.step (pc2 := 39) (ls2 := [(0, .ref 111), (1, .int x), (2, .int (lfF (ia w 112) x j)), (3, .int (nI j))]) (st2 := [.int ((lfF (ia w 112) x j) + 0)]) (w3 := w) rfl rfl ?_
        refine sx_RP.step (pc2 := 40) (ls2 := [(2, .int ((lfF (ia w 112) x j) + 0)), (0, .ref 111), (1, .int x), (3, .int (nI j))]) (st2 := []) (w3 := w) rfl rfl ?_
        refine sx_RP.step (pc2 := 43) (ls2 := [(3, .int ((nI j) + 1)), (2, .int ((lfF (ia w 112) x j) + 0)), (0, .ref 111), (1, .int x)]) (st2 := []) (w3 := w) rfl rfl ?_
        rw [nI_1 j]
        refine sx_RP.step (pc2 := 4) (ls2 := [(3, .int (nI (j + 1))), (2, .int ((lfF (ia w 112) x j) + 0)), (0, .ref 111), (1, .int x)]) (st2 := []) (w3 := w) rfl rfl ?_
        rw [Int32.add_zero, ← lf_n (l := ia w 112) (x := x) (j := j) (fun z => q1 z.1)]
        exact sx_RP.ls (sx_lr.cons rfl (sx_lr.cons rfl (sx_lr.cons rfl (sx_lr.cons rfl sx_lr.nil)))) (x167L hI hn en q (j + 1) (by omega))
      · replace q1 := Decidable.not_not.mp (of_decide_eq_false q1)
        refine sx_RP.step (pc2 := 34) (ls2 := [(0, .ref 111), (1, .int x), (2, .int (lfF (ia w 112) x j)), (3, .int (nI j))]) (st2 := [.int 1, .int (lfF (ia w 112) x j)]) (w3 := w) rfl rfl ?_
        refine sx_RP.step (pc2 := 38) (ls2 := [(0, .ref 111), (1, .int x), (2, .int (lfF (ia w 112) x j)), (3, .int (nI j))]) (st2 := [.int 1, .int (lfF (ia w 112) x j)]) (w3 := w) rfl rfl ?_
        refine sx_RP.step (pc2 := 39) (ls2 := [(0, .ref 111), (1, .int x), (2, .int (lfF (ia w 112) x j)), (3, .int (nI j))]) (st2 := [.int ((lfF (ia w 112) x j) + 1)]) (w3 := w) rfl rfl ?_
        refine sx_RP.step (pc2 := 40) (ls2 := [(2, .int ((lfF (ia w 112) x j) + 1)), (0, .ref 111), (1, .int x), (3, .int (nI j))]) (st2 := []) (w3 := w) rfl rfl ?_
        refine sx_RP.step (pc2 := 43) (ls2 := [(3, .int ((nI j) + 1)), (2, .int ((lfF (ia w 112) x j) + 1)), (0, .ref 111), (1, .int x)]) (st2 := []) (w3 := w) rfl rfl ?_
        rw [nI_1 j]
        refine sx_RP.step (pc2 := 4) (ls2 := [(3, .int (nI (j + 1))), (2, .int ((lfF (ia w 112) x j) + 1)), (0, .ref 111), (1, .int x)]) (st2 := []) (w3 := w) rfl rfl ?_
        rw [← lf_y (l := ia w 112) (x := x) (j := j) ⟨q1, ci⟩]
        exact sx_RP.ls (sx_lr.cons rfl (sx_lr.cons rfl (sx_lr.cons rfl (sx_lr.cons rfl sx_lr.nil)))) (x167L hI hn en q (j + 1) (by omega))
    · refine sx_RP.cu (as := [.ref 111, .int (nI j)]) (rest2 := [.int (lfF (ia w 112) x j)]) (st3 := [.int 0, .int (lfF (ia w 112) x j)]) rfl rfl (sx_inv_v2 (mi := 167) (k := 74) (st := [.int (nI j), .ref 111, .int (lfF (ia w 112) x j)]) (w := w) rfl rfl hI.1.o111 rfl rfl rfl) rfl rfl (x137n hI (by omega) ci) rfl ?_
      refine sx_RP.step (pc2 := 37) (ls2 := [(0, .ref 111), (1, .int x), (2, .int (lfF (ia w 112) x j)), (3, .int (nI j))]) (st2 := [.int (lfF (ia w 112) x j)]) (w3 := w) rfl rfl ?_
      refine sx_RP.step (pc2 := 38) (ls2 := [(0, .ref 111), (1, .int x), (2, .int (lfF (ia w 112) x j)), (3, .int (nI j))]) (st2 := [.int 0, .int (lfF (ia w 112) x j)]) (w3 := w) rfl rfl ?_
      refine sx_RP.step (pc2 := 39) (ls2 := [(0, .ref 111), (1, .int x), (2, .int (lfF (ia w 112) x j)), (3, .int (nI j))]) (st2 := [.int ((lfF (ia w 112) x j) + 0)]) (w3 := w) rfl rfl ?_
      refine sx_RP.step (pc2 := 40) (ls2 := [(2, .int ((lfF (ia w 112) x j) + 0)), (0, .ref 111), (1, .int x), (3, .int (nI j))]) (st2 := []) (w3 := w) rfl rfl ?_
      refine sx_RP.step (pc2 := 43) (ls2 := [(3, .int ((nI j) + 1)), (2, .int ((lfF (ia w 112) x j) + 0)), (0, .ref 111), (1, .int x)]) (st2 := []) (w3 := w) rfl rfl ?_
      rw [nI_1 j]
      refine sx_RP.step (pc2 := 4) (ls2 := [(3, .int (nI (j + 1))), (2, .int ((lfF (ia w 112) x j) + 0)), (0, .ref 111), (1, .int x)]) (st2 := []) (w3 := w) rfl rfl ?_
      rw [Int32.add_zero, ← lf_n (l := ia w 112) (x := x) (j := j) (fun z => ci z.2)]
      exact sx_RP.ls (sx_lr.cons rfl (sx_lr.cons rfl (sx_lr.cons rfl (sx_lr.cons rfl sx_lr.nil)))) (x167L hI hn en q (j + 1) (by omega))
set_option maxRecDepth 20000 in
set_option maxHeartbeats 4000000 in
theorem x167 {xs : Option (List Int32)} {d : Nat} {w : List sx_C} (hI : WI w) {n : Nat} (hn : n ≤ 10) (en : (ia w 112).getD 1 0 = nI n) (x : Int32) : sx_RU xs (d + 2) 167 0 (lv_args 0 [.ref 111, .int x]) [] w (some (.int (lfF (ia w 112) x n))) w := by
  have h : sx_RP xs (d + 2) 167 0 (lv_args 0 [.ref 111, .int x]) [] w (fun r9 w2 => r9 = some (.int (lfF (ia w 112) x n)) ∧ w2 = w) := by
    refine sx_RP.step (pc2 := 1) (ls2 := [(0, .ref 111), (1, .int x)]) (st2 := [.int 0]) (w3 := w) rfl rfl ?_
    refine sx_RP.step (pc2 := 2) (ls2 := [(2, .int 0), (0, .ref 111), (1, .int x)]) (st2 := []) (w3 := w) rfl rfl ?_
    refine sx_RP.step (pc2 := 3) (ls2 := [(2, .int 0), (0, .ref 111), (1, .int x)]) (st2 := [.int 0]) (w3 := w) rfl rfl ?_
    refine sx_RP.step (pc2 := 4) (ls2 := [(3, .int 0), (2, .int 0), (0, .ref 111), (1, .int x)]) (st2 := []) (w3 := w) rfl rfl ?_
    exact sx_RP.ls (sx_lr.cons rfl (sx_lr.cons rfl (sx_lr.cons rfl (sx_lr.cons rfl sx_lr.nil)))) (x167L hI hn en n 0 (by omega))
  obtain ⟨r9, w2, h1, rfl, rfl⟩ := h
  exact h1
set_option maxRecDepth 20000 in
set_option maxHeartbeats 4000000 in
theorem x166 {xs : Option (List Int32)} {d : Nat} {w : List sx_C} (hI : WI w) {n : Nat} (hn : n ≤ 10) (en : (ia w 112).getD 1 0 = nI n) : sx_RU xs (d + 3) 166 0 (lv_args 0 [.ref 111]) [] w (some (.int (allF (ia w 112)))) w := by
  have h : sx_RP xs (d + 3) 166 0 (lv_args 0 [.ref 111]) [] w (fun r9 w2 => r9 = some (.int (allF (ia w 112))) ∧ w2 = w) := by
    refine sx_RP.step (pc2 := 1) (ls2 := [(0, .ref 111)]) (st2 := [.ref 111]) (w3 := w) rfl rfl ?_
    refine sx_RP.step (pc2 := 2) (ls2 := [(0, .ref 111)]) (st2 := [.int 0, .ref 111]) (w3 := w) rfl rfl ?_
    refine sx_RP.cu (as := [.ref 111, .int 0]) (rest2 := []) (st3 := [.int (lfF (ia w 112) 0 n)]) rfl rfl (sx_inv_v2 (mi := 166) (k := 146) (st := [.int 0, .ref 111]) (w := w) rfl rfl hI.1.o111 rfl rfl rfl) rfl rfl (x167 hI hn en 0) rfl ?_
    refine sx_RP.step (pc2 := 6) (ls2 := [(0, .ref 111)]) (st2 := [.ref 111, .int (lfF (ia w 112) 0 n)]) (w3 := w) rfl rfl ?_
    refine sx_RP.step (pc2 := 7) (ls2 := [(0, .ref 111)]) (st2 := [.int 1, .ref 111, .int (lfF (ia w 112) 0 n)]) (w3 := w) rfl rfl ?_
    refine sx_RP.cu (as := [.ref 111, .int 1]) (rest2 := [.int (lfF (ia w 112) 0 n)]) (st3 := [.int (lfF (ia w 112) 1 n), .int (lfF (ia w 112) 0 n)]) rfl rfl (sx_inv_v2 (mi := 166) (k := 146) (st := [.int 1, .ref 111, .int (lfF (ia w 112) 0 n)]) (w := w) rfl rfl hI.1.o111 rfl rfl rfl) rfl rfl (x167 hI hn en 1) rfl ?_
    refine sx_RP.step (pc2 := 11) (ls2 := [(0, .ref 111)]) (st2 := [.int ((lfF (ia w 112) 0 n) + (lfF (ia w 112) 1 n))]) (w3 := w) rfl rfl ?_
    refine sx_RP.ret (r := (some (.int ((lfF (ia w 112) 0 n) + (lfF (ia w 112) 1 n))))) rfl rfl ?_
    exact ⟨by rw [allF_n en hn], rfl⟩
  obtain ⟨r9, w2, h1, rfl, rfl⟩ := h
  exact h1
set_option maxRecDepth 20000 in
set_option maxHeartbeats 4000000 in
theorem x171T {xs : Option (List Int32)} {d n g j : Nat} {w : List sx_C} (hI : WI w) (hn : n ≤ 10) (en : (ia w 112).getD 1 0 = nI n) (hj : j ≤ 10) : sx_RP xs (d + 2) 171 4 [(0, .ref 111), (1, .int (nI g)), (2, .int 1), (3, .int (nI j))] [] w (fun r w2 => r = some (.int 1) ∧ w2 = w) := by
  refine sx_RP.step (pc2 := 5) (ls2 := [(0, .ref 111), (1, .int (nI g)), (2, .int 1), (3, .int (nI j))]) (st2 := [.int (nI j)]) (w3 := w) rfl rfl ?_
  refine sx_RP.step (pc2 := 6) (ls2 := [(0, .ref 111), (1, .int (nI g)), (2, .int 1), (3, .int (nI j))]) (st2 := [.ref 111, .int (nI j)]) (w3 := w) rfl rfl ?_
  refine sx_RP.gf (v := .ref 112) rfl rfl hI.1.o111 rfl rfl (show _ = 9 from rfl) ?_
  refine sx_RP.step (pc2 := 10) (ls2 := [(0, .ref 111), (1, .int (nI g)), (2, .int 1), (3, .int (nI j))]) (st2 := [.int 1, .ref 112, .int (nI j)]) (w3 := w) rfl rfl ?_
  refine sx_RP.ild (c := 1) rfl hI.1.a112.1 hI.1.a112.2 (sx_in_nI (show 1 < 172 by omega) (by decide)) (show (nI 1).toNatClampNeg = 1 from nI_clamp (by omega)) (show _ = 11 from rfl) ?_
  rw [en]
  refine sx_RP.br (p1 := 66) (l1 := [(0, .ref 111), (1, .int (nI g)), (2, .int 1), (3, .int (nI j))]) (s1 := []) (v1 := w) (p2 := 14) (l2 := [(0, .ref 111), (1, .int (nI g)), (2, .int 1), (3, .int (nI j))]) (s2 := []) (v2 := w) rfl rfl (fun q1 => ?_) (fun q1 => ?_)
  · replace q1 := of_decide_eq_true q1
    replace q1 := (nI_leI (a := n) (b := j) (by omega) (by omega)).mp q1
    refine sx_RP.step (pc2 := 67) (ls2 := [(0, .ref 111), (1, .int (nI g)), (2, .int 1), (3, .int (nI j))]) (st2 := [.int 1]) (w3 := w) rfl rfl ?_
    refine sx_RP.ret (r := (some (.int 1))) rfl rfl ?_
    exact ⟨rfl, rfl⟩
  · replace q1 := of_decide_eq_false q1
    replace q1 := mt (nI_leI (a := n) (b := j) (by omega) (by omega)).mpr q1
    refine sx_RP.step (pc2 := 15) (ls2 := [(0, .ref 111), (1, .int (nI g)), (2, .int 1), (3, .int (nI j))]) (st2 := [.int 1]) (w3 := w) rfl rfl ?_
    refine sx_RP.step (pc2 := 66) (ls2 := [(0, .ref 111), (1, .int (nI g)), (2, .int 1), (3, .int (nI j))]) (st2 := []) (w3 := w) rfl rfl ?_
    refine sx_RP.step (pc2 := 67) (ls2 := [(0, .ref 111), (1, .int (nI g)), (2, .int 1), (3, .int (nI j))]) (st2 := [.int 1]) (w3 := w) rfl rfl ?_
    refine sx_RP.ret (r := (some (.int 1))) rfl rfl ?_
    exact ⟨rfl, rfl⟩
set_option maxRecDepth 20000 in
set_option maxHeartbeats 4000000 in
theorem x171L {xs : Option (List Int32)} {d n g h : Nat} {w : List sx_C} (hI : WI w) (hn : n ≤ 10) (en : (ia w 112).getD 1 0 = nI n) (hg : g < 10) (hh : h < 48) (eh : (ia w 112).getD (103 + 6 * g + 2) 0 = nI h) : ∀ (q j : Nat), j + q = n → meF (ia w 112) h j = false → sx_RP xs (d + 2) 171 4 [(0, .ref 111), (1, .int (nI g)), (2, .int 0), (3, .int (nI j))] [] w (fun r w2 => r = some (.int (b01 (meF (ia w 112) h n))) ∧ w2 = w)
  | 0, j, hj, h0 => by
    obtain rfl : j = n := by omega
    refine sx_RP.step (pc2 := 5) (ls2 := [(0, .ref 111), (1, .int (nI g)), (2, .int 0), (3, .int (nI j))]) (st2 := [.int (nI j)]) (w3 := w) rfl rfl ?_
    refine sx_RP.step (pc2 := 6) (ls2 := [(0, .ref 111), (1, .int (nI g)), (2, .int 0), (3, .int (nI j))]) (st2 := [.ref 111, .int (nI j)]) (w3 := w) rfl rfl ?_
    refine sx_RP.gf (v := .ref 112) rfl rfl hI.1.o111 rfl rfl (show _ = 9 from rfl) ?_
    refine sx_RP.step (pc2 := 10) (ls2 := [(0, .ref 111), (1, .int (nI g)), (2, .int 0), (3, .int (nI j))]) (st2 := [.int 1, .ref 112, .int (nI j)]) (w3 := w) rfl rfl ?_
    refine sx_RP.ild (c := 1) rfl hI.1.a112.1 hI.1.a112.2 (sx_in_nI (show 1 < 172 by omega) (by decide)) (show (nI 1).toNatClampNeg = 1 from nI_clamp (by omega)) (show _ = 11 from rfl) ?_
    rw [en]
    refine sx_RP.br (p1 := 66) (l1 := [(0, .ref 111), (1, .int (nI g)), (2, .int 0), (3, .int (nI j))]) (s1 := []) (v1 := w) rfl rfl (fun _ => ?_) (fun q => absurd (nI_le (a := j) (b := j) (by omega) (by omega)) (of_decide_eq_false q))
    refine sx_RP.step (pc2 := 67) (ls2 := [(0, .ref 111), (1, .int (nI g)), (2, .int 0), (3, .int (nI j))]) (st2 := [.int 0]) (w3 := w) rfl rfl ?_
    refine sx_RP.ret (r := (some (.int 0))) rfl rfl ?_
    exact ⟨by rw [h0]; rfl, rfl⟩
  | q + 1, j, hj, h0 => by
    obtain ⟨c, hc48, ec⟩ : inR ((ia w 112).getD (103 + 6 * j + 2) 0) 47 := (hI.s (103 + 6 * j + 2) (by omega)).2.2.2.2.2.1 (by omega)
    refine sx_RP.step (pc2 := 5) (ls2 := [(0, .ref 111), (1, .int (nI g)), (2, .int 0), (3, .int (nI j))]) (st2 := [.int (nI j)]) (w3 := w) rfl rfl ?_
    refine sx_RP.step (pc2 := 6) (ls2 := [(0, .ref 111), (1, .int (nI g)), (2, .int 0), (3, .int (nI j))]) (st2 := [.ref 111, .int (nI j)]) (w3 := w) rfl rfl ?_
    refine sx_RP.gf (v := .ref 112) rfl rfl hI.1.o111 rfl rfl (show _ = 9 from rfl) ?_
    refine sx_RP.step (pc2 := 10) (ls2 := [(0, .ref 111), (1, .int (nI g)), (2, .int 0), (3, .int (nI j))]) (st2 := [.int 1, .ref 112, .int (nI j)]) (w3 := w) rfl rfl ?_
    refine sx_RP.ild (c := 1) rfl hI.1.a112.1 hI.1.a112.2 (sx_in_nI (show 1 < 172 by omega) (by decide)) (show (nI 1).toNatClampNeg = 1 from nI_clamp (by omega)) (show _ = 11 from rfl) ?_
    rw [en]
    refine sx_RP.br (p2 := 14) (l2 := [(0, .ref 111), (1, .int (nI g)), (2, .int 0), (3, .int (nI j))]) (s2 := []) (v2 := w) rfl rfl (fun q => absurd (of_decide_eq_true q) (fun z => absurd ((nI_leI (a := n) (b := j) (by omega) (by omega)).mp z) (by omega))) (fun _ => ?_)
    refine sx_RP.step (pc2 := 15) (ls2 := [(0, .ref 111), (1, .int (nI g)), (2, .int 0), (3, .int (nI j))]) (st2 := [.int 0]) (w3 := w) rfl rfl ?_
    refine sx_RP.step (pc2 := 18) (ls2 := [(0, .ref 111), (1, .int (nI g)), (2, .int 0), (3, .int (nI j))]) (st2 := []) (w3 := w) rfl rfl ?_
    refine sx_RP.step (pc2 := 19) (ls2 := [(0, .ref 111), (1, .int (nI g)), (2, .int 0), (3, .int (nI j))]) (st2 := [.ref 111]) (w3 := w) rfl rfl ?_
    refine sx_RP.step (pc2 := 20) (ls2 := [(0, .ref 111), (1, .int (nI g)), (2, .int 0), (3, .int (nI j))]) (st2 := [.int (nI j), .ref 111]) (w3 := w) rfl rfl ?_
    refine sx_RP.step (pc2 := 21) (ls2 := [(0, .ref 111), (1, .int (nI g)), (2, .int 0), (3, .int (nI j))]) (st2 := [.int 1, .int (nI j), .ref 111]) (w3 := w) rfl rfl ?_
    refine sx_RP.cu (as := [.ref 111, .int (nI j), .int 1]) (rest2 := []) (st3 := [.int ((ia w 112).getD (103 + 6 * j + 1) 0)]) rfl rfl (sx_inv_v2 (mi := 171) (k := 59) (st := [.int 1, .int (nI j), .ref 111]) (w := w) rfl rfl hI.1.o111 rfl rfl rfl) rfl rfl (x138 hI (show j < 10 by omega) (show 1 < 6 by decide)) rfl ?_
    refine sx_RP.step (pc2 := 25) (ls2 := [(0, .ref 111), (1, .int (nI g)), (2, .int 0), (3, .int (nI j))]) (st2 := [.int 1, .int ((ia w 112).getD (103 + 6 * j + 1) 0)]) (w3 := w) rfl rfl ?_
    refine sx_RP.br (p1 := 58) (l1 := [(0, .ref 111), (1, .int (nI g)), (2, .int 0), (3, .int (nI j))]) (s1 := []) (v1 := w) (p2 := 28) (l2 := [(0, .ref 111), (1, .int (nI g)), (2, .int 0), (3, .int (nI j))]) (s2 := []) (v2 := w) rfl rfl (fun q1 => ?_) (fun q1 => ?_)
    · replace q1 := of_decide_eq_true q1
      refine sx_RP.step (pc2 := 59) (ls2 := [(0, .ref 111), (1, .int (nI g)), (2, .int 0), (3, .int (nI j))]) (st2 := [.int 0]) (w3 := w) rfl rfl ?_
      refine sx_RP.step (pc2 := 60) (ls2 := [(2, .int 0), (0, .ref 111), (1, .int (nI g)), (3, .int (nI j))]) (st2 := []) (w3 := w) rfl rfl ?_
      refine sx_RP.step (pc2 := 63) (ls2 := [(3, .int ((nI j) + 1)), (2, .int 0), (0, .ref 111), (1, .int (nI g))]) (st2 := []) (w3 := w) rfl rfl ?_
      rw [nI_1 j]
      refine sx_RP.step (pc2 := 4) (ls2 := [(3, .int (nI (j + 1))), (2, .int 0), (0, .ref 111), (1, .int (nI g))]) (st2 := []) (w3 := w) rfl rfl ?_
      exact sx_RP.ls (sx_lr.cons rfl (sx_lr.cons rfl (sx_lr.cons rfl (sx_lr.cons rfl sx_lr.nil)))) (x171L hI hn en hg hh eh q (j + 1) (by omega) (me_n h0 (fun z => q1 z.1)))
    · replace q1 := Decidable.not_not.mp (of_decide_eq_false q1)
      refine sx_RP.step (pc2 := 29) (ls2 := [(0, .ref 111), (1, .int (nI g)), (2, .int 0), (3, .int (nI j))]) (st2 := [.ref 111]) (w3 := w) rfl rfl ?_
      refine sx_RP.step (pc2 := 30) (ls2 := [(0, .ref 111), (1, .int (nI g)), (2, .int 0), (3, .int (nI j))]) (st2 := [.int (nI j), .ref 111]) (w3 := w) rfl rfl ?_
      rcases Decidable.em ((ia w 112).getD (103 + 6 * j + 5) 0 = 0) with ci | ci
      · refine sx_RP.cu (as := [.ref 111, .int (nI j)]) (rest2 := []) (st3 := [.int 1]) rfl rfl (sx_inv_v2 (mi := 171) (k := 74) (st := [.int (nI j), .ref 111]) (w := w) rfl rfl hI.1.o111 rfl rfl rfl) rfl rfl (x137y hI (by omega) ci) rfl ?_
        refine sx_RP.step (pc2 := 36) (ls2 := [(0, .ref 111), (1, .int (nI g)), (2, .int 0), (3, .int (nI j))]) (st2 := []) (w3 := w) rfl rfl ?_
        refine sx_RP.step (pc2 := 37) (ls2 := [(0, .ref 111), (1, .int (nI g)), (2, .int 0), (3, .int (nI j))]) (st2 := [.ref 111]) (w3 := w) rfl rfl ?_
        refine sx_RP.step (pc2 := 38) (ls2 := [(0, .ref 111), (1, .int (nI g)), (2, .int 0), (3, .int (nI j))]) (st2 := [.int (nI g), .ref 111]) (w3 := w) rfl rfl ?_
        refine sx_RP.step (pc2 := 39) (ls2 := [(0, .ref 111), (1, .int (nI g)), (2, .int 0), (3, .int (nI j))]) (st2 := [.int 2, .int (nI g), .ref 111]) (w3 := w) rfl rfl ?_
        refine sx_RP.cu (as := [.ref 111, .int (nI g), .int 2]) (rest2 := []) (st3 := [.int (nI h)]) rfl rfl (sx_inv_v2 (mi := 171) (k := 59) (st := [.int 2, .int (nI g), .ref 111]) (w := w) rfl rfl hI.1.o111 rfl rfl rfl) rfl rfl (x138e hI (show g < 10 by omega) (show 2 < 6 by decide) eh) rfl ?_
        refine sx_RP.step (pc2 := 43) (ls2 := [(0, .ref 111), (1, .int (nI g)), (2, .int 0), (3, .int (nI j))]) (st2 := [.ref 111, .int (nI h)]) (w3 := w) rfl rfl ?_
        refine sx_RP.step (pc2 := 44) (ls2 := [(0, .ref 111), (1, .int (nI g)), (2, .int 0), (3, .int (nI j))]) (st2 := [.int (nI j), .ref 111, .int (nI h)]) (w3 := w) rfl rfl ?_
        refine sx_RP.step (pc2 := 45) (ls2 := [(0, .ref 111), (1, .int (nI g)), (2, .int 0), (3, .int (nI j))]) (st2 := [.int 2, .int (nI j), .ref 111, .int (nI h)]) (w3 := w) rfl rfl ?_
        refine sx_RP.cu (as := [.ref 111, .int (nI j), .int 2]) (rest2 := [.int (nI h)]) (st3 := [.int (nI c), .int (nI h)]) rfl rfl (sx_inv_v2 (mi := 171) (k := 59) (st := [.int 2, .int (nI j), .ref 111, .int (nI h)]) (w := w) rfl rfl hI.1.o111 rfl rfl rfl) rfl rfl (x138e hI (show j < 10 by omega) (show 2 < 6 by decide) ec) rfl ?_
        rcases Bool.eq_false_or_eq_true (nearB h c) with hm | hm
        · refine sx_RP.cu (as := [.int (nI h), .int (nI c)]) (rest2 := []) (st3 := [.int 1]) rfl rfl rfl rfl rfl ((by have z := x172 (xs := xs) (d := d) hI (a := h) (b := c) (by omega) (by omega); rw [hm] at z; exact z)) rfl ?_
          refine sx_RP.step (pc2 := 54) (ls2 := [(0, .ref 111), (1, .int (nI g)), (2, .int 0), (3, .int (nI j))]) (st2 := []) (w3 := w) rfl rfl ?_
          refine sx_RP.step (pc2 := 55) (ls2 := [(0, .ref 111), (1, .int (nI g)), (2, .int 0), (3, .int (nI j))]) (st2 := [.int 1]) (w3 := w) rfl rfl ?_
          refine sx_RP.step (pc2 := 59) (ls2 := [(0, .ref 111), (1, .int (nI g)), (2, .int 0), (3, .int (nI j))]) (st2 := [.int 1]) (w3 := w) rfl rfl ?_
          refine sx_RP.step (pc2 := 60) (ls2 := [(2, .int 1), (0, .ref 111), (1, .int (nI g)), (3, .int (nI j))]) (st2 := []) (w3 := w) rfl rfl ?_
          refine sx_RP.step (pc2 := 63) (ls2 := [(3, .int ((nI j) + 1)), (2, .int 1), (0, .ref 111), (1, .int (nI g))]) (st2 := []) (w3 := w) rfl rfl ?_
          rw [nI_1 j]
          refine sx_RP.step (pc2 := 4) (ls2 := [(3, .int (nI (j + 1))), (2, .int 1), (0, .ref 111), (1, .int (nI g))]) (st2 := []) (w3 := w) rfl rfl ?_
          rw [meF_up ((me_c h0 ⟨q1, ci⟩ ec (by omega)).trans ((near_sym c (by omega) h hh).trans hm)) n (by omega)]
          exact sx_RP.ls (sx_lr.cons rfl (sx_lr.cons rfl (sx_lr.cons rfl (sx_lr.cons rfl sx_lr.nil)))) (x171T hI hn en (by omega))
        · refine sx_RP.cu (as := [.int (nI h), .int (nI c)]) (rest2 := []) (st3 := [.int 0]) rfl rfl rfl rfl rfl ((by have z := x172 (xs := xs) (d := d) hI (a := h) (b := c) (by omega) (by omega); rw [hm] at z; exact z)) rfl ?_
          refine sx_RP.step (pc2 := 58) (ls2 := [(0, .ref 111), (1, .int (nI g)), (2, .int 0), (3, .int (nI j))]) (st2 := []) (w3 := w) rfl rfl ?_
          refine sx_RP.step (pc2 := 59) (ls2 := [(0, .ref 111), (1, .int (nI g)), (2, .int 0), (3, .int (nI j))]) (st2 := [.int 0]) (w3 := w) rfl rfl ?_
          refine sx_RP.step (pc2 := 60) (ls2 := [(2, .int 0), (0, .ref 111), (1, .int (nI g)), (3, .int (nI j))]) (st2 := []) (w3 := w) rfl rfl ?_
          refine sx_RP.step (pc2 := 63) (ls2 := [(3, .int ((nI j) + 1)), (2, .int 0), (0, .ref 111), (1, .int (nI g))]) (st2 := []) (w3 := w) rfl rfl ?_
          rw [nI_1 j]
          refine sx_RP.step (pc2 := 4) (ls2 := [(3, .int (nI (j + 1))), (2, .int 0), (0, .ref 111), (1, .int (nI g))]) (st2 := []) (w3 := w) rfl rfl ?_
          exact sx_RP.ls (sx_lr.cons rfl (sx_lr.cons rfl (sx_lr.cons rfl (sx_lr.cons rfl sx_lr.nil)))) (x171L hI hn en hg hh eh q (j + 1) (by omega) ((me_c h0 ⟨q1, ci⟩ ec (by omega)).trans ((near_sym c (by omega) h hh).trans hm)))
      · refine sx_RP.cu (as := [.ref 111, .int (nI j)]) (rest2 := []) (st3 := [.int 0]) rfl rfl (sx_inv_v2 (mi := 171) (k := 74) (st := [.int (nI j), .ref 111]) (w := w) rfl rfl hI.1.o111 rfl rfl rfl) rfl rfl (x137n hI (by omega) ci) rfl ?_
        refine sx_RP.step (pc2 := 58) (ls2 := [(0, .ref 111), (1, .int (nI g)), (2, .int 0), (3, .int (nI j))]) (st2 := []) (w3 := w) rfl rfl ?_
        refine sx_RP.step (pc2 := 59) (ls2 := [(0, .ref 111), (1, .int (nI g)), (2, .int 0), (3, .int (nI j))]) (st2 := [.int 0]) (w3 := w) rfl rfl ?_
        refine sx_RP.step (pc2 := 60) (ls2 := [(2, .int 0), (0, .ref 111), (1, .int (nI g)), (3, .int (nI j))]) (st2 := []) (w3 := w) rfl rfl ?_
        refine sx_RP.step (pc2 := 63) (ls2 := [(3, .int ((nI j) + 1)), (2, .int 0), (0, .ref 111), (1, .int (nI g))]) (st2 := []) (w3 := w) rfl rfl ?_
        rw [nI_1 j]
        refine sx_RP.step (pc2 := 4) (ls2 := [(3, .int (nI (j + 1))), (2, .int 0), (0, .ref 111), (1, .int (nI g))]) (st2 := []) (w3 := w) rfl rfl ?_
        exact sx_RP.ls (sx_lr.cons rfl (sx_lr.cons rfl (sx_lr.cons rfl (sx_lr.cons rfl sx_lr.nil)))) (x171L hI hn en hg hh eh q (j + 1) (by omega) (me_n h0 (fun z => ci z.2)))
set_option maxRecDepth 20000 in
set_option maxHeartbeats 4000000 in
theorem x171 {xs : Option (List Int32)} {d : Nat} {w : List sx_C} (hI : WI w) {n g h : Nat} (hn : n ≤ 10) (en : (ia w 112).getD 1 0 = nI n) (hg : g < 10) (hh : h < 48) (eh : (ia w 112).getD (103 + 6 * g + 2) 0 = nI h) : sx_RU xs (d + 2) 171 0 (lv_args 0 [.ref 111, .int (nI g)]) [] w (some (.int (b01 (meF (ia w 112) h n)))) w := by
  have h : sx_RP xs (d + 2) 171 0 (lv_args 0 [.ref 111, .int (nI g)]) [] w (fun r9 w2 => r9 = some (.int (b01 (meF (ia w 112) h n))) ∧ w2 = w) := by
    refine sx_RP.step (pc2 := 1) (ls2 := [(0, .ref 111), (1, .int (nI g))]) (st2 := [.int 0]) (w3 := w) rfl rfl ?_
    refine sx_RP.step (pc2 := 2) (ls2 := [(2, .int 0), (0, .ref 111), (1, .int (nI g))]) (st2 := []) (w3 := w) rfl rfl ?_
    refine sx_RP.step (pc2 := 3) (ls2 := [(2, .int 0), (0, .ref 111), (1, .int (nI g))]) (st2 := [.int 0]) (w3 := w) rfl rfl ?_
    refine sx_RP.step (pc2 := 4) (ls2 := [(3, .int 0), (2, .int 0), (0, .ref 111), (1, .int (nI g))]) (st2 := []) (w3 := w) rfl rfl ?_
    exact sx_RP.ls (sx_lr.cons rfl (sx_lr.cons rfl (sx_lr.cons rfl (sx_lr.cons rfl sx_lr.nil)))) (x171L hI hn en hg hh eh n 0 (by omega) rfl)
  obtain ⟨r9, w2, h1, rfl, rfl⟩ := h
  exact h1
set_option maxRecDepth 20000 in
set_option maxHeartbeats 4000000 in
theorem X169a {xs : Option (List Int32)} {d n : Nat} {P : Option Value → List sx_C → Prop} (hn : n ≤ 10) : ∀ (q j : Nat) (w : List sx_C), j + q = n → WI w → (ia w 112).getD 1 0 = nI n → WB (ia w 112) → (∀ w2, WI w2 → ia w2 112 = dgL q j (ia w 112) → Same 112 w w2 → sx_RP xs (d + 4) 169 31 [(0, .ref 111)] [] w2 P) → sx_RP xs (d + 4) 169 2 [(0, .ref 111), (1, .int (nI j))] [] w P
  | 0, j, w, hj, hI, en, hW, kk => by
    obtain rfl : j = n := by omega
    refine sx_RP.step (pc2 := 3) (ls2 := [(0, .ref 111), (1, .int (nI j))]) (st2 := [.int (nI j)]) (w3 := w) rfl rfl ?_
    refine sx_RP.step (pc2 := 4) (ls2 := [(0, .ref 111), (1, .int (nI j))]) (st2 := [.ref 111, .int (nI j)]) (w3 := w) rfl rfl ?_
    refine sx_RP.gf (v := .ref 112) rfl rfl hI.1.o111 rfl rfl (show _ = 7 from rfl) ?_
    refine sx_RP.step (pc2 := 8) (ls2 := [(0, .ref 111), (1, .int (nI j))]) (st2 := [.int 1, .ref 112, .int (nI j)]) (w3 := w) rfl rfl ?_
    refine sx_RP.ild (c := 1) rfl hI.1.a112.1 hI.1.a112.2 (sx_in_nI (show 1 < 172 by omega) (by decide)) (show (nI 1).toNatClampNeg = 1 from nI_clamp (by omega)) (show _ = 9 from rfl) ?_
    rw [en]
    refine sx_RP.br (p1 := 31) (l1 := [(0, .ref 111), (1, .int (nI j))]) (s1 := []) (v1 := w) rfl rfl (fun _ => ?_) (fun q => absurd (nI_le (a := j) (b := j) (by omega) (by omega)) (of_decide_eq_false q))
    exact sx_RP.ls (sx_lr.cons rfl sx_lr.nil) (kk w hI rfl (fun _ _ => rfl))
  | q + 1, j, w, hj, hI, en, hW, kk => by
    refine sx_RP.step (pc2 := 3) (ls2 := [(0, .ref 111), (1, .int (nI j))]) (st2 := [.int (nI j)]) (w3 := w) rfl rfl ?_
    refine sx_RP.step (pc2 := 4) (ls2 := [(0, .ref 111), (1, .int (nI j))]) (st2 := [.ref 111, .int (nI j)]) (w3 := w) rfl rfl ?_
    refine sx_RP.gf (v := .ref 112) rfl rfl hI.1.o111 rfl rfl (show _ = 7 from rfl) ?_
    refine sx_RP.step (pc2 := 8) (ls2 := [(0, .ref 111), (1, .int (nI j))]) (st2 := [.int 1, .ref 112, .int (nI j)]) (w3 := w) rfl rfl ?_
    refine sx_RP.ild (c := 1) rfl hI.1.a112.1 hI.1.a112.2 (sx_in_nI (show 1 < 172 by omega) (by decide)) (show (nI 1).toNatClampNeg = 1 from nI_clamp (by omega)) (show _ = 9 from rfl) ?_
    rw [en]
    refine sx_RP.br (p2 := 12) (l2 := [(0, .ref 111), (1, .int (nI j))]) (s2 := []) (v2 := w) rfl rfl (fun q => absurd (of_decide_eq_true q) (fun z => absurd ((nI_leI (a := n) (b := j) (by omega) (by omega)).mp z) (by omega))) (fun _ => ?_)
    refine sx_RP.step (pc2 := 13) (ls2 := [(0, .ref 111), (1, .int (nI j))]) (st2 := [.ref 111]) (w3 := w) rfl rfl ?_
    refine sx_RP.step (pc2 := 14) (ls2 := [(0, .ref 111), (1, .int (nI j))]) (st2 := [.int (nI j), .ref 111]) (w3 := w) rfl rfl ?_
    rcases Decidable.em ((ia w 112).getD (103 + 6 * j + 5) 0 = 0) with ci | ci
    · refine sx_RP.cu (as := [.ref 111, .int (nI j)]) (rest2 := []) (st3 := [.int 1]) rfl rfl (sx_inv_v2 (mi := 169) (k := 74) (st := [.int (nI j), .ref 111]) (w := w) rfl rfl hI.1.o111 rfl rfl rfl) rfl rfl (x137y hI (by omega) ci) rfl ?_
      refine sx_RP.step (pc2 := 20) (ls2 := [(0, .ref 111), (1, .int (nI j))]) (st2 := []) (w3 := w) rfl rfl ?_
      refine sx_RP.step (pc2 := 21) (ls2 := [(0, .ref 111), (1, .int (nI j))]) (st2 := [.ref 111]) (w3 := w) rfl rfl ?_
      refine sx_RP.step (pc2 := 22) (ls2 := [(0, .ref 111), (1, .int (nI j))]) (st2 := [.int (nI j), .ref 111]) (w3 := w) rfl rfl ?_
      refine sx_RP.callp (as2 := [.ref 111, .int (nI j)]) (rest2 := []) rfl rfl (sx_inv_v2 (mi := 169) (k := 136) (st := [.int (nI j), .ref 111]) (w := w) rfl rfl hI.1.o111 rfl rfl rfl) rfl rfl rfl (X170 hI (show j < 10 by omega) hW) (show _ = 25 from rfl) ?_
      rintro r4 w3 ⟨⟨rfl, hv1⟩, hI4, hs2⟩
      show sx_RP _ _ _ _ _ [] _ _
      refine sx_RP.step (pc2 := 28) (ls2 := [(1, .int ((nI j) + 1)), (0, .ref 111)]) (st2 := []) (w3 := w3) rfl rfl ?_
      rw [nI_1 j]
      refine sx_RP.step (pc2 := 2) (ls2 := [(1, .int (nI (j + 1))), (0, .ref 111)]) (st2 := []) (w3 := w3) rfl rfl ?_
      refine sx_RP.ls (sx_lr.cons rfl (sx_lr.cons rfl sx_lr.nil)) (X169a hn q (j + 1) w3 (by omega) hI4 (by rw [hv1]; exact digR_1.trans en) (by rw [hv1]; exact digR_wb hW) (fun w2 h1 h2 h3 => kk w2 h1 ?_ (hs2.tr h3)))
      rw [h2, hv1]
      show _ = dgL q (j + 1) _
      rw [if_pos (show gF (ia w 112) j 5 = 0 from ci)]
    · refine sx_RP.cu (as := [.ref 111, .int (nI j)]) (rest2 := []) (st3 := [.int 0]) rfl rfl (sx_inv_v2 (mi := 169) (k := 74) (st := [.int (nI j), .ref 111]) (w := w) rfl rfl hI.1.o111 rfl rfl rfl) rfl rfl (x137n hI (by omega) ci) rfl ?_
      refine sx_RP.step (pc2 := 25) (ls2 := [(0, .ref 111), (1, .int (nI j))]) (st2 := []) (w3 := w) rfl rfl ?_
      refine sx_RP.step (pc2 := 28) (ls2 := [(1, .int ((nI j) + 1)), (0, .ref 111)]) (st2 := []) (w3 := w) rfl rfl ?_
      rw [nI_1 j]
      refine sx_RP.step (pc2 := 2) (ls2 := [(1, .int (nI (j + 1))), (0, .ref 111)]) (st2 := []) (w3 := w) rfl rfl ?_
      refine sx_RP.ls (sx_lr.cons rfl (sx_lr.cons rfl sx_lr.nil)) (X169a hn q (j + 1) w (by omega) hI en hW (fun w2 h1 h2 h3 => kk w2 h1 ?_ h3))
      rw [h2]
      show _ = dgL q (j + 1) _
      rw [if_neg (show ¬ gF (ia w 112) j 5 = 0 from ci)]
set_option maxRecDepth 20000 in
set_option maxHeartbeats 4000000 in
theorem X169b {xs : Option (List Int32)} {d n : Nat} {P : Option Value → List sx_C → Prop} (hn : n ≤ 10) : ∀ (q j : Nat) (w : List sx_C), j + q = n → WI w → (ia w 112).getD 1 0 = nI n → WB (ia w 112) → (∀ w2, WI w2 → ia w2 112 = mtL q j (ia w 112) → Same 112 w w2 → sx_RP xs (d + 4) 169 92 [(0, .ref 111)] [] w2 P) → sx_RP xs (d + 4) 169 33 [(0, .ref 111), (1, .int (nI j))] [] w P
  | 0, j, w, hj, hI, en, hW, kk => by
    obtain rfl : j = n := by omega
    refine sx_RP.step (pc2 := 34) (ls2 := [(0, .ref 111), (1, .int (nI j))]) (st2 := [.int (nI j)]) (w3 := w) rfl rfl ?_
    refine sx_RP.step (pc2 := 35) (ls2 := [(0, .ref 111), (1, .int (nI j))]) (st2 := [.ref 111, .int (nI j)]) (w3 := w) rfl rfl ?_
    refine sx_RP.gf (v := .ref 112) rfl rfl hI.1.o111 rfl rfl (show _ = 38 from rfl) ?_
    refine sx_RP.step (pc2 := 39) (ls2 := [(0, .ref 111), (1, .int (nI j))]) (st2 := [.int 1, .ref 112, .int (nI j)]) (w3 := w) rfl rfl ?_
    refine sx_RP.ild (c := 1) rfl hI.1.a112.1 hI.1.a112.2 (sx_in_nI (show 1 < 172 by omega) (by decide)) (show (nI 1).toNatClampNeg = 1 from nI_clamp (by omega)) (show _ = 40 from rfl) ?_
    rw [en]
    refine sx_RP.br (p1 := 92) (l1 := [(0, .ref 111), (1, .int (nI j))]) (s1 := []) (v1 := w) rfl rfl (fun _ => ?_) (fun q => absurd (nI_le (a := j) (b := j) (by omega) (by omega)) (of_decide_eq_false q))
    exact sx_RP.ls (sx_lr.cons rfl sx_lr.nil) (kk w hI rfl (fun _ _ => rfl))
  | q + 1, j, w, hj, hI, en, hW, kk => by
    obtain ⟨h, hh, eh⟩ : inR ((ia w 112).getD (103 + 6 * j + 2) 0) 47 := (hI.s (103 + 6 * j + 2) (by omega)).2.2.2.2.2.1 (by omega)
    refine sx_RP.step (pc2 := 34) (ls2 := [(0, .ref 111), (1, .int (nI j))]) (st2 := [.int (nI j)]) (w3 := w) rfl rfl ?_
    refine sx_RP.step (pc2 := 35) (ls2 := [(0, .ref 111), (1, .int (nI j))]) (st2 := [.ref 111, .int (nI j)]) (w3 := w) rfl rfl ?_
    refine sx_RP.gf (v := .ref 112) rfl rfl hI.1.o111 rfl rfl (show _ = 38 from rfl) ?_
    refine sx_RP.step (pc2 := 39) (ls2 := [(0, .ref 111), (1, .int (nI j))]) (st2 := [.int 1, .ref 112, .int (nI j)]) (w3 := w) rfl rfl ?_
    refine sx_RP.ild (c := 1) rfl hI.1.a112.1 hI.1.a112.2 (sx_in_nI (show 1 < 172 by omega) (by decide)) (show (nI 1).toNatClampNeg = 1 from nI_clamp (by omega)) (show _ = 40 from rfl) ?_
    rw [en]
    refine sx_RP.br (p2 := 43) (l2 := [(0, .ref 111), (1, .int (nI j))]) (s2 := []) (v2 := w) rfl rfl (fun q => absurd (of_decide_eq_true q) (fun z => absurd ((nI_leI (a := n) (b := j) (by omega) (by omega)).mp z) (by omega))) (fun _ => ?_)
    refine sx_RP.step (pc2 := 44) (ls2 := [(0, .ref 111), (1, .int (nI j))]) (st2 := [.ref 111]) (w3 := w) rfl rfl ?_
    refine sx_RP.step (pc2 := 45) (ls2 := [(0, .ref 111), (1, .int (nI j))]) (st2 := [.int (nI j), .ref 111]) (w3 := w) rfl rfl ?_
    refine sx_RP.step (pc2 := 46) (ls2 := [(0, .ref 111), (1, .int (nI j))]) (st2 := [.int 1, .int (nI j), .ref 111]) (w3 := w) rfl rfl ?_
    refine sx_RP.cu (as := [.ref 111, .int (nI j), .int 1]) (rest2 := []) (st3 := [.int ((ia w 112).getD (103 + 6 * j + 1) 0)]) rfl rfl (sx_inv_v2 (mi := 169) (k := 59) (st := [.int 1, .int (nI j), .ref 111]) (w := w) rfl rfl hI.1.o111 rfl rfl rfl) rfl rfl (x138 hI (show j < 10 by omega) (show 1 < 6 by decide)) rfl ?_
    refine sx_RP.br (p1 := 86) (l1 := [(0, .ref 111), (1, .int (nI j))]) (s1 := []) (v1 := w) (p2 := 52) (l2 := [(0, .ref 111), (1, .int (nI j))]) (s2 := []) (v2 := w) rfl rfl (fun q1 => ?_) (fun q1 => ?_)
    · replace q1 := of_decide_eq_true q1
      refine sx_RP.step (pc2 := 89) (ls2 := [(1, .int ((nI j) + 1)), (0, .ref 111)]) (st2 := []) (w3 := w) rfl rfl ?_
      rw [nI_1 j]
      refine sx_RP.step (pc2 := 33) (ls2 := [(1, .int (nI (j + 1))), (0, .ref 111)]) (st2 := []) (w3 := w) rfl rfl ?_
      have e9 : metR (ia w 112) j = ia w 112 := if_neg (fun z => q1 z.1.1)
      exact sx_RP.ls (sx_lr.cons rfl (sx_lr.cons rfl sx_lr.nil)) (X169b hn q (j + 1) w (by omega) hI en hW (fun w2 h1 h2 h3 => kk w2 h1 (by rw [h2]; show _ = mtL q (j + 1) _; rw [e9]) h3))
    · replace q1 := Decidable.not_not.mp (of_decide_eq_false q1)
      refine sx_RP.step (pc2 := 53) (ls2 := [(0, .ref 111), (1, .int (nI j))]) (st2 := [.ref 111]) (w3 := w) rfl rfl ?_
      refine sx_RP.step (pc2 := 54) (ls2 := [(0, .ref 111), (1, .int (nI j))]) (st2 := [.int (nI j), .ref 111]) (w3 := w) rfl rfl ?_
      rcases Decidable.em ((ia w 112).getD (103 + 6 * j + 5) 0 = 0) with ci | ci
      · refine sx_RP.cu (as := [.ref 111, .int (nI j)]) (rest2 := []) (st3 := [.int 1]) rfl rfl (sx_inv_v2 (mi := 169) (k := 74) (st := [.int (nI j), .ref 111]) (w := w) rfl rfl hI.1.o111 rfl rfl rfl) rfl rfl (x137y hI (by omega) ci) rfl ?_
        refine sx_RP.step (pc2 := 60) (ls2 := [(0, .ref 111), (1, .int (nI j))]) (st2 := []) (w3 := w) rfl rfl ?_
        refine sx_RP.step (pc2 := 61) (ls2 := [(0, .ref 111), (1, .int (nI j))]) (st2 := [.ref 111]) (w3 := w) rfl rfl ?_
        refine sx_RP.step (pc2 := 62) (ls2 := [(0, .ref 111), (1, .int (nI j))]) (st2 := [.int (nI j), .ref 111]) (w3 := w) rfl rfl ?_
        rcases Bool.eq_false_or_eq_true (meF (ia w 112) h n) with hm | hm
        · refine sx_RP.cu (as := [.ref 111, .int (nI j)]) (rest2 := []) (st3 := [.int 1]) rfl rfl (sx_inv_v2 (mi := 169) (k := 140) (st := [.int (nI j), .ref 111]) (w := w) rfl rfl hI.1.o111 rfl rfl rfl) rfl rfl ((by have z := x171 (xs := xs) (d := d + 1) hI hn en (show j < 10 by omega) (show h < 48 by omega) eh; rw [hm] at z; exact z)) rfl ?_
          refine sx_RP.step (pc2 := 68) (ls2 := [(0, .ref 111), (1, .int (nI j))]) (st2 := []) (w3 := w) rfl rfl ?_
          refine sx_RP.step (pc2 := 69) (ls2 := [(0, .ref 111), (1, .int (nI j))]) (st2 := [.ref 111]) (w3 := w) rfl rfl ?_
          refine sx_RP.step (pc2 := 70) (ls2 := [(0, .ref 111), (1, .int (nI j))]) (st2 := [.int (nI j), .ref 111]) (w3 := w) rfl rfl ?_
          refine sx_RP.step (pc2 := 71) (ls2 := [(0, .ref 111), (1, .int (nI j))]) (st2 := [.int 5, .int (nI j), .ref 111]) (w3 := w) rfl rfl ?_
          refine sx_RP.step (pc2 := 72) (ls2 := [(0, .ref 111), (1, .int (nI j))]) (st2 := [.int 1, .int 5, .int (nI j), .ref 111]) (w3 := w) rfl rfl ?_
          refine sx_RP.callp (as2 := [.ref 111, .int (nI j), .int 5, .int 1]) (rest2 := []) rfl rfl (sx_inv_v2 (mi := 169) (k := 110) (st := [.int 1, .int 5, .int (nI j), .ref 111]) (w := w) rfl rfl hI.1.o111 rfl rfl rfl) rfl rfl rfl (X154 (c := 5) hI (show j < 10 by omega) (by decide) (eOK_g (g := j) (c := 5) (by omega) (by decide) (show inR 1 1 from ⟨1, by decide, rfl⟩))) (show _ = 75 from rfl) ?_
          rintro r4 w4 ⟨⟨rfl, hv2⟩, hI5, hs3⟩
          show sx_RP _ _ _ _ _ [.int ((ia w 112).getD (103 + 6 * j + 5) 0)] _ _
          refine sx_RP.step (pc2 := 76) (ls2 := [(0, .ref 111), (1, .int (nI j))]) (st2 := []) (w3 := w4) rfl rfl ?_
          refine sx_RP.step (pc2 := 77) (ls2 := [(0, .ref 111), (1, .int (nI j))]) (st2 := [.ref 111]) (w3 := w4) rfl rfl ?_
          refine sx_RP.gf (v := .ref 112) rfl rfl hI5.1.o111 rfl rfl (show _ = 80 from rfl) ?_
          refine sx_RP.step (pc2 := 81) (ls2 := [(0, .ref 111), (1, .int (nI j))]) (st2 := [.int 3, .ref 112]) (w3 := w4) rfl rfl ?_
          refine sx_RP.step (pc2 := 82) (ls2 := [(0, .ref 111), (1, .int (nI j))]) (st2 := [.int 3, .ref 112, .int 3, .ref 112]) (w3 := w4) rfl rfl ?_
          refine sx_RP.ild (c := 3) rfl hI5.1.a112.1 hI5.1.a112.2 (sx_in_nI (show 3 < 172 by omega) (by decide)) (show (nI 3).toNatClampNeg = 3 from nI_clamp (by omega)) (show _ = 83 from rfl) ?_
          refine sx_RP.step (pc2 := 84) (ls2 := [(0, .ref 111), (1, .int (nI j))]) (st2 := [.int 1, .int ((ia w4 112).getD 3 0), .int 3, .ref 112]) (w3 := w4) rfl rfl ?_
          refine sx_RP.step (pc2 := 85) (ls2 := [(0, .ref 111), (1, .int (nI j))]) (st2 := [.int (((ia w4 112).getD 3 0) + 1), .int 3, .ref 112]) (w3 := w4) rfl rfl ?_
          refine sx_RP.xM (k := 3) hI5 (by decide) rfl (by omega) (eOK_n (by omega)) (show _ = 86 from rfl) (fun w6 hI7 hs8 hv9 => ?_)
          refine sx_RP.step (pc2 := 89) (ls2 := [(1, .int ((nI j) + 1)), (0, .ref 111)]) (st2 := []) (w3 := w6) rfl rfl ?_
          rw [nI_1 j]
          refine sx_RP.step (pc2 := 33) (ls2 := [(1, .int (nI (j + 1))), (0, .ref 111)]) (st2 := []) (w3 := w6) rfl rfl ?_
          have e9 : metR (ia w 112) j = ((ia w 112).set (103 + 6 * j + 5) 1).set 3 ((ia w 112).getD 3 0 + 1) := if_pos ⟨⟨q1, ci⟩, by rw [show gF (ia w 112) j 2 = nI h from eh, iN_n (by omega), maN_n en hn]; exact hm⟩
          have e8 : ia w6 112 = metR (ia w 112) j := by rw [hv9, hv2, e9, gd_ne (by omega)]
          exact sx_RP.ls (sx_lr.cons rfl (sx_lr.cons rfl sx_lr.nil)) (X169b hn q (j + 1) w6 (by omega) hI7 (by rw [e8]; exact metR_1.trans en) (by rw [e8]; exact metR_wb hW) (fun w2 h1 h2 h3 => kk w2 h1 (by rw [h2, e8]; rfl) ((hs3.tr hs8).tr h3)))
        · refine sx_RP.cu (as := [.ref 111, .int (nI j)]) (rest2 := []) (st3 := [.int 0]) rfl rfl (sx_inv_v2 (mi := 169) (k := 140) (st := [.int (nI j), .ref 111]) (w := w) rfl rfl hI.1.o111 rfl rfl rfl) rfl rfl ((by have z := x171 (xs := xs) (d := d + 1) hI hn en (show j < 10 by omega) (show h < 48 by omega) eh; rw [hm] at z; exact z)) rfl ?_
          refine sx_RP.step (pc2 := 86) (ls2 := [(0, .ref 111), (1, .int (nI j))]) (st2 := []) (w3 := w) rfl rfl ?_
          refine sx_RP.step (pc2 := 89) (ls2 := [(1, .int ((nI j) + 1)), (0, .ref 111)]) (st2 := []) (w3 := w) rfl rfl ?_
          rw [nI_1 j]
          refine sx_RP.step (pc2 := 33) (ls2 := [(1, .int (nI (j + 1))), (0, .ref 111)]) (st2 := []) (w3 := w) rfl rfl ?_
          have e9 : metR (ia w 112) j = ia w 112 := if_neg (fun z => by have z2 := z.2; rw [show gF (ia w 112) j 2 = nI h from eh, iN_n (by omega), maN_n en hn, hm] at z2; exact absurd z2 (by decide))
          exact sx_RP.ls (sx_lr.cons rfl (sx_lr.cons rfl sx_lr.nil)) (X169b hn q (j + 1) w (by omega) hI en hW (fun w2 h1 h2 h3 => kk w2 h1 (by rw [h2]; show _ = mtL q (j + 1) _; rw [e9]) h3))
      · refine sx_RP.cu (as := [.ref 111, .int (nI j)]) (rest2 := []) (st3 := [.int 0]) rfl rfl (sx_inv_v2 (mi := 169) (k := 74) (st := [.int (nI j), .ref 111]) (w := w) rfl rfl hI.1.o111 rfl rfl rfl) rfl rfl (x137n hI (by omega) ci) rfl ?_
        refine sx_RP.step (pc2 := 86) (ls2 := [(0, .ref 111), (1, .int (nI j))]) (st2 := []) (w3 := w) rfl rfl ?_
        refine sx_RP.step (pc2 := 89) (ls2 := [(1, .int ((nI j) + 1)), (0, .ref 111)]) (st2 := []) (w3 := w) rfl rfl ?_
        rw [nI_1 j]
        refine sx_RP.step (pc2 := 33) (ls2 := [(1, .int (nI (j + 1))), (0, .ref 111)]) (st2 := []) (w3 := w) rfl rfl ?_
        have e9 : metR (ia w 112) j = ia w 112 := if_neg (fun z => ci z.1.2)
        exact sx_RP.ls (sx_lr.cons rfl (sx_lr.cons rfl sx_lr.nil)) (X169b hn q (j + 1) w (by omega) hI en hW (fun w2 h1 h2 h3 => kk w2 h1 (by rw [h2]; show _ = mtL q (j + 1) _; rw [e9]) h3))
set_option maxRecDepth 20000 in
set_option maxHeartbeats 4000000 in
theorem X169e {xs : Option (List Int32)} {d : Nat} {w : List sx_C} (hI : WI w) : sx_RP xs (d + 4) 169 92 [(0, .ref 111)] [] w (fun r w2 => (r = none ∧ ia w2 112 = (ia w 112).set 0 ((ia w 112).getD 0 0 + 1)) ∧ WI w2 ∧ Same 112 w w2) := by
  refine sx_RP.step (pc2 := 93) (ls2 := [(0, .ref 111)]) (st2 := [.ref 111]) (w3 := w) rfl rfl ?_
  refine sx_RP.gf (v := .ref 112) rfl rfl hI.1.o111 rfl rfl (show _ = 96 from rfl) ?_
  refine sx_RP.step (pc2 := 97) (ls2 := [(0, .ref 111)]) (st2 := [.int 0, .ref 112]) (w3 := w) rfl rfl ?_
  refine sx_RP.step (pc2 := 98) (ls2 := [(0, .ref 111)]) (st2 := [.int 0, .ref 112, .int 0, .ref 112]) (w3 := w) rfl rfl ?_
  refine sx_RP.ild (c := 0) rfl hI.1.a112.1 hI.1.a112.2 (sx_in_nI (show 0 < 172 by omega) (by decide)) (show (nI 0).toNatClampNeg = 0 from nI_clamp (by omega)) (show _ = 99 from rfl) ?_
  refine sx_RP.step (pc2 := 100) (ls2 := [(0, .ref 111)]) (st2 := [.int 1, .int ((ia w 112).getD 0 0), .int 0, .ref 112]) (w3 := w) rfl rfl ?_
  refine sx_RP.step (pc2 := 101) (ls2 := [(0, .ref 111)]) (st2 := [.int (((ia w 112).getD 0 0) + 1), .int 0, .ref 112]) (w3 := w) rfl rfl ?_
  refine sx_RP.xM (k := 0) hI (by decide) rfl (by omega) (eOK_n (by omega)) (show _ = 102 from rfl) (fun w1 hI2 hs3 hv4 => ?_)
  refine sx_RP.ret (r := none) rfl rfl ?_
  exact ⟨⟨rfl, hv4⟩, hI2, hs3⟩
set_option maxRecDepth 20000 in
set_option maxHeartbeats 4000000 in
theorem X169 {xs : Option (List Int32)} {d : Nat} {w : List sx_C} (hI : WI w) {n : Nat} (hn : n ≤ 10) (en : (ia w 112).getD 1 0 = nI n) (hW : WB (ia w 112)) : sx_RP xs (d + 4) 169 0 (lv_args 0 [.ref 111]) [] w (fun r w2 => (r = none ∧ ia w2 112 = nigR (ia w 112)) ∧ WI w2 ∧ Same 112 w w2) := by
  refine sx_RP.step (pc2 := 1) (ls2 := [(0, .ref 111)]) (st2 := [.int 0]) (w3 := w) rfl rfl ?_
  refine sx_RP.step (pc2 := 2) (ls2 := [(1, .int 0), (0, .ref 111)]) (st2 := []) (w3 := w) rfl rfl ?_
  refine sx_RP.ls (sx_lr.cons rfl (sx_lr.cons rfl sx_lr.nil)) (X169a hn n 0 w (by omega) hI en hW (fun w3 h1 h2 h3 => ?_))
  refine sx_RP.step (pc2 := 32) (ls2 := [(0, .ref 111)]) (st2 := [.int 0]) (w3 := w3) rfl rfl ?_
  refine sx_RP.step (pc2 := 33) (ls2 := [(1, .int 0), (0, .ref 111)]) (st2 := []) (w3 := w3) rfl rfl ?_
  refine sx_RP.ls (sx_lr.cons rfl (sx_lr.cons rfl sx_lr.nil)) (X169b hn n 0 w3 (by omega) h1 (by rw [h2]; exact (dgL_1 n 0 _).trans en) (by rw [h2]; exact dgL_wb n 0 _ hW) (fun w4 g1 g2 g3 => ?_))
  refine (X169e g1).mono9 (fun r w5 z => ⟨⟨z.1.1, ?_⟩, z.2.1, (h3.tr g3).tr z.2.2⟩)
  rw [z.1.2, g2, h2]
  unfold nigR
  rw [maN_n en hn]
set_option maxRecDepth 20000 in
set_option maxHeartbeats 4000000 in
theorem X168L {xs : Option (List Int32)} {d n x : Nat} (hn : n ≤ 10) (hx : x ≤ 99) : ∀ (q j : Nat) (w : List sx_C), j + q = x → WI w → (ia w 112).getD 1 0 = nI n → WB (ia w 112) → sx_RP xs (d + 5) 168 2 [(0, .ref 111), (1, .int (nI x)), (2, .int (nI j))] [] w (fun r w2 => (r = none ∧ ia w2 112 = goR q (ia w 112)) ∧ WI w2 ∧ Same 112 w w2)
  | 0, j, w, hj, hI, en, hW => by
    obtain rfl : j = x := by omega
    refine sx_RP.step (pc2 := 3) (ls2 := [(0, .ref 111), (1, .int (nI j)), (2, .int (nI j))]) (st2 := [.int (nI j)]) (w3 := w) rfl rfl ?_
    refine sx_RP.step (pc2 := 4) (ls2 := [(0, .ref 111), (1, .int (nI j)), (2, .int (nI j))]) (st2 := [.int (nI j), .int (nI j)]) (w3 := w) rfl rfl ?_
    refine sx_RP.br (p1 := 17) (l1 := [(0, .ref 111), (1, .int (nI j)), (2, .int (nI j))]) (s1 := []) (v1 := w) rfl rfl (fun _ => ?_) (fun q => absurd (nI_le (a := j) (b := j) (by omega) (by omega)) (of_decide_eq_false q))
    refine sx_RP.ret (r := none) rfl rfl ?_
    exact ⟨⟨rfl, rfl⟩, hI, fun _ _ => rfl⟩
  | q + 1, j, w, hj, hI, en, hW => by
    refine sx_RP.step (pc2 := 3) (ls2 := [(0, .ref 111), (1, .int (nI x)), (2, .int (nI j))]) (st2 := [.int (nI j)]) (w3 := w) rfl rfl ?_
    refine sx_RP.step (pc2 := 4) (ls2 := [(0, .ref 111), (1, .int (nI x)), (2, .int (nI j))]) (st2 := [.int (nI x), .int (nI j)]) (w3 := w) rfl rfl ?_
    refine sx_RP.br (p2 := 7) (l2 := [(0, .ref 111), (1, .int (nI x)), (2, .int (nI j))]) (s2 := []) (v2 := w) rfl rfl (fun q => absurd (of_decide_eq_true q) (fun z => absurd ((nI_leI (a := x) (b := j) (by omega) (by omega)).mp z) (by omega))) (fun _ => ?_)
    refine sx_RP.step (pc2 := 8) (ls2 := [(0, .ref 111), (1, .int (nI x)), (2, .int (nI j))]) (st2 := [.ref 111]) (w3 := w) rfl rfl ?_
    refine sx_RP.callp (as2 := [.ref 111]) (rest2 := []) rfl rfl (sx_inv_v2 (mi := 168) (k := 143) (st := [.ref 111]) (w := w) rfl rfl hI.1.o111 rfl rfl rfl) rfl rfl rfl (X169 hI hn en hW) (show _ = 11 from rfl) ?_
    rintro r4 w3 ⟨⟨rfl, hv1⟩, hI4, hs2⟩
    show sx_RP _ _ _ _ _ [] _ _
    refine sx_RP.step (pc2 := 14) (ls2 := [(2, .int ((nI j) + 1)), (0, .ref 111), (1, .int (nI x))]) (st2 := []) (w3 := w3) rfl rfl ?_
    rw [nI_1 j]
    refine sx_RP.step (pc2 := 2) (ls2 := [(2, .int (nI (j + 1))), (0, .ref 111), (1, .int (nI x))]) (st2 := []) (w3 := w3) rfl rfl ?_
    refine sx_RP.ls (sx_lr.cons rfl (sx_lr.cons rfl (sx_lr.cons rfl sx_lr.nil))) ((X168L hn hx q (j + 1) w3 (by omega) hI4 (by rw [hv1]; exact nigR_1.trans en) (by rw [hv1]; exact nigR_wb hW)).mono9 (fun r w2 z => ⟨⟨z.1.1, ?_⟩, z.2.1, hs2.tr z.2.2⟩))
    rw [z.1.2, hv1]
    rfl
set_option maxRecDepth 20000 in
set_option maxHeartbeats 4000000 in
theorem X168 {xs : Option (List Int32)} {d : Nat} {w : List sx_C} (hI : WI w) {n x : Nat} (hn : n ≤ 10) (en : (ia w 112).getD 1 0 = nI n) (hx : x ≤ 99) (hW : WB (ia w 112)) : sx_RP xs (d + 5) 168 0 (lv_args 0 [.ref 111, .int (nI x)]) [] w (fun r w2 => (r = none ∧ ia w2 112 = goR x (ia w 112)) ∧ WI w2 ∧ Same 112 w w2) := by
  refine sx_RP.step (pc2 := 1) (ls2 := [(0, .ref 111), (1, .int (nI x))]) (st2 := [.int 0]) (w3 := w) rfl rfl ?_
  refine sx_RP.step (pc2 := 2) (ls2 := [(2, .int 0), (0, .ref 111), (1, .int (nI x))]) (st2 := []) (w3 := w) rfl rfl ?_
  exact sx_RP.ls (sx_lr.cons rfl (sx_lr.cons rfl (sx_lr.cons rfl sx_lr.nil))) (X168L hn hx x 0 w (by omega) hI en hW)
set_option maxRecDepth 20000 in
set_option maxHeartbeats 4000000 in
theorem Y164 {xs : Option (List Int32)} {d : Nat} {w : List sx_C} (hI : WI w) (hW : WB (ia w 112)) (a1 : Int32) : sx_RP xs (d + 7) 164 0 (lv_args 0 [.ref 111, .int a1]) [] w (fun r w2 => (r = some (.int (ntsA (ia w 112) a1)) ∧ ia w2 112 = ntsR (ia w 112) a1) ∧ WI w2 ∧ EOm w w2) := by
  obtain ⟨n, hn, en⟩ := (hI.sA (a := 112) (by decide) 1 (by decide)).1 rfl
  refine sx_RP.step (pc2 := 1) (ls2 := [(0, .ref 111), (1, .int a1)]) (st2 := [.int a1]) (w3 := w) rfl rfl ?_
  refine sx_RP.step (pc2 := 2) (ls2 := [(0, .ref 111), (1, .int a1)]) (st2 := [.int 1, .int a1]) (w3 := w) rfl rfl ?_
  refine sx_RP.step (pc2 := 4) (ls2 := [(0, .ref 111), (1, .int a1)]) (st2 := [.int 60, .int 1, .int a1]) (w3 := w) rfl rfl ?_
  rcases in_cases a1 1 60 (m := 1) (n := 60) rfl rfl (by decide) (by decide) with q1 | ⟨x2, hx3, hx4, rfl⟩
  · refine sx_RP.cu (as := [.int a1, .int 1, .int 60]) (rest2 := []) (st3 := [.int 0]) rfl rfl rfl rfl rfl (cx_132o q1) rfl ?_
    refine sx_RP.step (pc2 := 10) (ls2 := [(0, .ref 111), (1, .int a1)]) (st2 := []) (w3 := w) rfl rfl ?_
    refine sx_RP.step (pc2 := 11) (ls2 := [(0, .ref 111), (1, .int a1)]) (st2 := [.ref 111]) (w3 := w) rfl rfl ?_
    refine sx_RP.step (pc2 := 12) (ls2 := [(0, .ref 111), (1, .int a1)]) (st2 := [.int 0, .ref 111]) (w3 := w) rfl rfl ?_
    refine sx_RP.callp (as2 := [.ref 111, .int 0]) (rest2 := []) rfl rfl (sx_inv_v2 (mi := 164) (k := 70) (st := [.int 0, .ref 111]) (w := w) rfl rfl hI.1.o111 rfl rfl rfl) rfl rfl rfl (S133_0 hI) (show _ = 15 from rfl) ?_
    rintro r4 w7 ⟨rfl, hI8, hs6⟩
    show sx_RP _ _ _ _ _ [.int (-1000000001)] _ _
    refine sx_RP.ret (r := (some (.int (-1000000001)))) rfl rfl ?_
    exact ⟨⟨by rw [(nts_1 q1).1], by rw [(nts_1 q1).2]; exact ia_of (hs6 112 (by decide))⟩, hI8, fun a ha => hs6 a (by unfold ocm at ha; omega)⟩
  · refine sx_RP.cu (as := [.int (nI x2), .int 1, .int 60]) (rest2 := []) (st3 := [.int 1]) rfl rfl rfl rfl rfl (cx_132p ⟨nI_le (a := 1) hx3 (by omega), nI_le (b := 60) hx4 (by decide)⟩) rfl ?_
    refine sx_RP.step (pc2 := 16) (ls2 := [(0, .ref 111), (1, .int (nI x2))]) (st2 := []) (w3 := w) rfl rfl ?_
    refine sx_RP.step (pc2 := 17) (ls2 := [(0, .ref 111), (1, .int (nI x2))]) (st2 := [.ref 111]) (w3 := w) rfl rfl ?_
    refine sx_RP.step (pc2 := 18) (ls2 := [(0, .ref 111), (1, .int (nI x2))]) (st2 := [.int (nI x2), .ref 111]) (w3 := w) rfl rfl ?_
    rcases Decidable.em ((ia w 112).getD 0 0 + nI x2 ≤ 999) with hc | hc
    · refine sx_RP.cu (as := [.ref 111, .int (nI x2)]) (rest2 := []) (st3 := [.int 0]) rfl rfl (sx_inv_v2 (mi := 164) (k := 149) (st := [.int (nI x2), .ref 111]) (w := w) rfl rfl hI.1.o111 rfl rfl rfl) rfl rfl (x165n hI hc) rfl ?_
      refine sx_RP.step (pc2 := 30) (ls2 := [(0, .ref 111), (1, .int (nI x2))]) (st2 := []) (w3 := w) rfl rfl ?_
      refine sx_RP.step (pc2 := 31) (ls2 := [(0, .ref 111), (1, .int (nI x2))]) (st2 := [.ref 111]) (w3 := w) rfl rfl ?_
      refine sx_RP.cu (as := [.ref 111]) (rest2 := []) (st3 := [.int (allF (ia w 112))]) rfl rfl (sx_inv_v2 (mi := 164) (k := 152) (st := [.ref 111]) (w := w) rfl rfl hI.1.o111 rfl rfl rfl) rfl rfl (x166 hI hn en) rfl ?_
      refine sx_RP.step (pc2 := 35) (ls2 := [(2, .int (allF (ia w 112))), (0, .ref 111), (1, .int (nI x2))]) (st2 := []) (w3 := w) rfl rfl ?_
      refine sx_RP.step (pc2 := 36) (ls2 := [(2, .int (allF (ia w 112))), (0, .ref 111), (1, .int (nI x2))]) (st2 := [.ref 111]) (w3 := w) rfl rfl ?_
      refine sx_RP.step (pc2 := 37) (ls2 := [(2, .int (allF (ia w 112))), (0, .ref 111), (1, .int (nI x2))]) (st2 := [.int (nI x2), .ref 111]) (w3 := w) rfl rfl ?_
      refine sx_RP.callp (as2 := [.ref 111, .int (nI x2)]) (rest2 := []) rfl rfl (sx_inv_v2 (mi := 164) (k := 155) (st := [.int (nI x2), .ref 111]) (w := w) rfl rfl hI.1.o111 rfl rfl rfl) rfl rfl rfl (X168 hI hn en (show x2 ≤ 99 by omega) hW) (show _ = 40 from rfl) ?_
      rintro r4 w11 ⟨⟨rfl, hv9⟩, hI12, hs10⟩
      show sx_RP _ _ _ _ _ [] _ _
      have en13 : (ia w11 112).getD 1 0 = nI n := by rw [hv9]; exact (goR_1 _ _).trans en
      refine sx_RP.step (pc2 := 41) (ls2 := [(2, .int (allF (ia w 112))), (0, .ref 111), (1, .int (nI x2))]) (st2 := [.int (allF (ia w 112))]) (w3 := w11) rfl rfl ?_
      refine sx_RP.step (pc2 := 42) (ls2 := [(2, .int (allF (ia w 112))), (0, .ref 111), (1, .int (nI x2))]) (st2 := [.ref 111, .int (allF (ia w 112))]) (w3 := w11) rfl rfl ?_
      refine sx_RP.cu (as := [.ref 111]) (rest2 := [.int (allF (ia w 112))]) (st3 := [.int (allF (ia w11 112)), .int (allF (ia w 112))]) rfl rfl (sx_inv_v2 (mi := 164) (k := 152) (st := [.ref 111, .int (allF (ia w 112))]) (w := w11) rfl rfl hI12.1.o111 rfl rfl rfl) rfl rfl (x166 hI12 hn en13) rfl ?_
      refine sx_RP.step (pc2 := 46) (ls2 := [(2, .int (allF (ia w 112))), (0, .ref 111), (1, .int (nI x2))]) (st2 := [.int ((allF (ia w 112)) - (allF (ia w11 112)))]) (w3 := w11) rfl rfl ?_
      refine sx_RP.ret (r := (some (.int ((allF (ia w 112)) - (allF (ia w11 112)))))) rfl rfl ?_
      exact ⟨⟨by rw [(nts_z (l := ia w 112) (fun z => z ⟨nI_le (a := 1) (show 1 ≤ x2 by omega) (by omega), nI_le (b := 60) (show x2 ≤ 60 by omega) (by decide)⟩) (fun z => z hc)).1, iN_n (show x2 < 2 ^ 31 by omega), hv9], by rw [(nts_z (l := ia w 112) (fun z => z ⟨nI_le (a := 1) (show 1 ≤ x2 by omega) (by omega), nI_le (b := 60) (show x2 ≤ 60 by omega) (by decide)⟩) (fun z => z hc)).2, iN_n (show x2 < 2 ^ 31 by omega), hv9]⟩, hI12, fun a ha => hs10 a (by unfold ocm at ha; omega)⟩
    · refine sx_RP.cu (as := [.ref 111, .int (nI x2)]) (rest2 := []) (st3 := [.int 1]) rfl rfl (sx_inv_v2 (mi := 164) (k := 149) (st := [.int (nI x2), .ref 111]) (w := w) rfl rfl hI.1.o111 rfl rfl rfl) rfl rfl (x165y hI hc) rfl ?_
      refine sx_RP.step (pc2 := 24) (ls2 := [(0, .ref 111), (1, .int (nI x2))]) (st2 := []) (w3 := w) rfl rfl ?_
      refine sx_RP.step (pc2 := 25) (ls2 := [(0, .ref 111), (1, .int (nI x2))]) (st2 := [.ref 111]) (w3 := w) rfl rfl ?_
      refine sx_RP.step (pc2 := 26) (ls2 := [(0, .ref 111), (1, .int (nI x2))]) (st2 := [.int 4, .ref 111]) (w3 := w) rfl rfl ?_
      refine sx_RP.callp (as2 := [.ref 111, .int 4]) (rest2 := []) rfl rfl (sx_inv_v2 (mi := 164) (k := 70) (st := [.int 4, .ref 111]) (w := w) rfl rfl hI.1.o111 rfl rfl rfl) rfl rfl rfl (S133_4 hI) (show _ = 29 from rfl) ?_
      rintro r4 w15 ⟨rfl, hI16, hs14⟩
      show sx_RP _ _ _ _ _ [.int (-1000000005)] _ _
      refine sx_RP.ret (r := (some (.int (-1000000005)))) rfl rfl ?_
      exact ⟨⟨by rw [(nts_2 (fun z => z ⟨nI_le (a := 1) (show 1 ≤ x2 by omega) (by omega), nI_le (b := 60) (show x2 ≤ 60 by omega) (by decide)⟩) hc).1], by rw [(nts_2 (fun z => z ⟨nI_le (a := 1) (show 1 ≤ x2 by omega) (by omega), nI_le (b := 60) (show x2 ≤ 60 by omega) (by decide)⟩) hc).2]; exact ia_of (hs14 112 (by decide))⟩, hI16, fun a ha => hs14 a (by unfold ocm at ha; omega)⟩
