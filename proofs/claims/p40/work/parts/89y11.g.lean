-- 89y11.nightM.lean.txt
section
theorem WB.set {l : List Int32} {i : Nat} {v : Int32} (h : WB l) (hi : i < 55 ∨ 103 ≤ i) : WB (l.set i v) := fun c hc => by
  rw [gd_ne (by omega)]
  exact h c hc
theorem digR_wb {l : List Int32} {g : Nat} (h : WB l) : WB (digR l g) := ((h.set (by omega)).set (by omega)).set (by omega)
theorem metR_wb {l : List Int32} {g : Nat} (h : WB l) : WB (metR l g) := by
  unfold metR
  split
  · exact (h.set (by omega)).set (by omega)
  · exact h
theorem dgL_wb : ∀ (q j : Nat) (l : List Int32), WB l → WB (dgL q j l)
  | 0, _, _, h => h
  | q + 1, j, l, h => by
    refine dgL_wb q (j + 1) _ ?_
    split
    · exact digR_wb h
    · exact h
theorem mtL_wb : ∀ (q j : Nat) (l : List Int32), WB l → WB (mtL q j l)
  | 0, _, _, h => h
  | q + 1, j, l, h => mtL_wb q (j + 1) _ (metR_wb h)
theorem nigR_wb {l : List Int32} (h : WB l) : WB (nigR l) := (mtL_wb _ _ _ (dgL_wb _ _ _ h)).set (by omega)
set_option maxRecDepth 20000 in
set_option maxHeartbeats 4000000 in
theorem x167L {xs : Option (List Int32)} {d n : Nat} {w : List sx_C} {x : Int32} (hI : WI w) (hn : n ≤ 10) (en : (ia w 112).getD 1 0 = nI n) : ∀ (q j : Nat), j + q = n → sx_RP xs (d + 2) 167 4 [(0, .ref 111), (1, .int x), (2, .int (lfF (ia w 112) x j)), (3, .int (nI j))] [] w (fun r w2 => r = some (.int (lfF (ia w 112) x n)) ∧ w2 = w)
  | 0, j, hj => by
    obtain rfl : j = n := by omega
    refine sx_RP.step (pc2 := 5) (ls2 := [(0, .ref 111), (1, .int x), (2, .int (lfF (ia w 112) x j)), (3, .int (nI j))]) (st2 := [.int (nI j)]) (w3 := w) rfl rfl ?_
    refine sx_RP.step (pc2 := 6) (ls2 := [(0, .ref 111), (1, .int x), (2, .int (lfF (ia w 112) x j)), (3, .int (nI j))]) (st2 := [.ref 111, .int (nI j)]) (w3 := w) rfl rfl ?_
    refine sx_RP.gf (v := .ref 112) rfl rfl hI.1.o111 rfl rfl (show _ = 9 from rfl) ?_
    refine sx_RP.step (pc2 := 10) (ls2 := [(0, .ref 111), (1, .int x), (2, .int (lfF (ia w 112) x j)), (3, .int (nI j))]) (st2 := [.int 1, .ref 112, .int (nI j)]) (w3 := w) rfl rfl ?_
    refine sx_RP.ild (c := 1) rfl hI.1.a112.1 hI.1.a112.2 (sx_in_nI (show 1 < 172 by omega) (by decide)) (show (nI 1).toNatClampNeg = 1 from nI_clamp (by omega)) (show _ = 11 from rfl) ?_
    rw [en]
    refine sx_RP.br (p1 := 46) (l1 := [(0, .ref 111), (1, .int x), (2, .int (lfF (ia w 112) x j)), (3, .int (nI j))]) (s1 := []) (v1 := w) rfl rfl (fun _ => ?_) (fun q => absurd (nI_le (a := j) (b := j) (by omega) (by omega)) (of_decide_eq_false q))
    refine sx_RP.step (pc2 := 47) (ls2 := [(0, .ref 111), (1, .int x), (2, .int (lfF (ia w 112) x j)), (3, .int (nI j))]) (st2 := [.int (lfF (ia w 112) x j)]) (w3 := w) rfl rfl ?_
    refine sx_RP.ret (r := (some (.int (lfF (ia w 112) x j)))) rfl rfl ?_
    exact ⟨rfl, rfl⟩
  | q + 1, j, hj => by
    refine sx_RP.step (pc2 := 5) (ls2 := [(0, .ref 111), (1, .int x), (2, .int (lfF (ia w 112) x j)), (3, .int (nI j))]) (st2 := [.int (nI j)]) (w3 := w) rfl rfl ?_
    refine sx_RP.step (pc2 := 6) (ls2 := [(0, .ref 111), (1, .int x), (2, .int (lfF (ia w 112) x j)), (3, .int (nI j))]) (st2 := [.ref 111, .int (nI j)]) (w3 := w) rfl rfl ?_
    refine sx_RP.gf (v := .ref 112) rfl rfl hI.1.o111 rfl rfl (show _ = 9 from rfl) ?_
    refine sx_RP.step (pc2 := 10) (ls2 := [(0, .ref 111), (1, .int x), (2, .int (lfF (ia w 112) x j)), (3, .int (nI j))]) (st2 := [.int 1, .ref 112, .int (nI j)]) (w3 := w) rfl rfl ?_
    refine sx_RP.ild (c := 1) rfl hI.1.a112.1 hI.1.a112.2 (sx_in_nI (show 1 < 172 by omega) (by decide)) (show (nI 1).toNatClampNeg = 1 from nI_clamp (by omega)) (show _ = 11 from rfl) ?_
    rw [en]
    refine sx_RP.br (p2 := 14) (l2 := [(0, .ref 111), (1, .int x), (2, .int (lfF (ia w 112) x j)), (3, .int (nI j))]) (s2 := []) (v2 := w) rfl rfl (fun q => absurd (of_decide_eq_true q) (fun z => absurd ((nI_leI (a := n) (b := j) (by omega) (by omega)).mp z) (by omega))) (fun _ => ?_)
    refine sx_RP.step (pc2 := 15) (ls2 := [(0, .ref 111), (1, .int x), (2, .int (lfF (ia w 112) x j)), (3, .int (nI j))]) (st2 := [.int (lfF (ia w 112) x j)]) (w3 := w) rfl rfl ?_
    refine sx_RP.step (pc2 := 16) (ls2 := [(0, .ref 111), (1, .int x), (2, .int (lfF (ia w 112) x j)), (3, .int (nI j))]) (st2 := [.ref 111, .int (lfF (ia w 112) x j)]) (w3 := w) rfl rfl ?_
    refine sx_RP.step (pc2 := 17) (ls2 := [(0, .ref 111), (1, .int x), (2, .int (lfF (ia w 112) x j)), (3, .int (nI j))]) (st2 := [.int (nI j), .ref 111, .int (lfF (ia w 112) x j)]) (w3 := w) rfl rfl ?_
    rcases Decidable.em ((ia w 112).getD (103 + 6 * j + 5) 0 = 0) with ci | ci
    · refine sx_RP.cu (as := [.ref 111, .int (nI j)]) (rest2 := [.int (lfF (ia w 112) x j)]) (st3 := [.int 1, .int (lfF (ia w 112) x j)]) rfl rfl (sx_inv_v2 (mi := 167) (k := 74) (st := [.int (nI j), .ref 111, .int (lfF (ia w 112) x j)]) (w := w) rfl rfl hI.1.o111 rfl rfl rfl) rfl rfl (x137y hI (by omega) ci) rfl ?_
      refine sx_RP.step (pc2 := 23) (ls2 := [(0, .ref 111), (1, .int x), (2, .int (lfF (ia w 112) x j)), (3, .int (nI j))]) (st2 := [.int (lfF (ia w 112) x j)]) (w3 := w) rfl rfl ?_
      refine sx_RP.step (pc2 := 24) (ls2 := [(0, .ref 111), (1, .int x), (2, .int (lfF (ia w 112) x j)), (3, .int (nI j))]) (st2 := [.ref 111, .int (lfF (ia w 112) x j)]) (w3 := w) rfl rfl ?_
      refine sx_RP.step (pc2 := 25) (ls2 := [(0, .ref 111), (1, .int x), (2, .int (lfF (ia w 112) x j)), (3, .int (nI j))]) (st2 := [.int (nI j), .ref 111, .int (lfF (ia w 112) x j)]) (w3 := w) rfl rfl ?_
      refine sx_RP.step (pc2 := 26) (ls2 := [(0, .ref 111), (1, .int x), (2, .int (lfF (ia w 112) x j)), (3, .int (nI j))]) (st2 := [.int 1, .int (nI j), .ref 111, .int (lfF (ia w 112) x j)]) (w3 := w) rfl rfl ?_
      refine sx_RP.cu (as := [.ref 111, .int (nI j), .int 1]) (rest2 := [.int (lfF (ia w 112) x j)]) (st3 := [.int ((ia w 112).getD (103 + 6 * j + 1) 0), .int (lfF (ia w 112) x j)]) rfl rfl (sx_inv_v2 (mi := 167) (k := 59) (st := [.int 1, .int (nI j), .ref 111, .int (lfF (ia w 112) x j)]) (w := w) rfl rfl hI.1.o111 rfl rfl rfl) rfl rfl (x138 hI (show j < 10 by omega) (show 1 < 6 by decide)) rfl ?_
      refine sx_RP.step (pc2 := 30) (ls2 := [(0, .ref 111), (1, .int x), (2, .int (lfF (ia w 112) x j)), (3, .int (nI j))]) (st2 := [.int x, .int ((ia w 112).getD (103 + 6 * j + 1) 0), .int (lfF (ia w 112) x j)]) (w3 := w) rfl rfl ?_
      refine sx_RP.br (p1 := 37) (l1 := [(0, .ref 111), (1, .int x), (2, .int (lfF (ia w 112) x j)), (3, .int (nI j))]) (s1 := [.int (lfF (ia w 112) x j)]) (v1 := w) (p2 := 33) (l2 := [(0, .ref 111), (1, .int x), (2, .int (lfF (ia w 112) x j)), (3, .int (nI j))]) (s2 := [.int (lfF (ia w 112) x j)]) (v2 := w) rfl rfl (fun q1 => ?_) (fun q1 => ?_)
      · replace q1 := of_decide_eq_true q1
        refine sx_RP.step (pc2 := 38) (ls2 := [(0, .ref 111), (1, .int x), (2, .int (lfF (ia w 112) x j)), (3, .int (nI j))]) (st2 := [.int 0, .int (lfF (ia w 112) x j)]) (w3 := w) rfl rfl ?_
        refine sx_RP.step (pc2 := 39) (ls2 := [(0, .ref 111), (1, .int x), (2, .int (lfF (ia w 112) x j)), (3, .int (nI j))]) (st2 := [.int ((lfF (ia w 112) x j) + 0)]) (w3 := w) rfl rfl ?_
        refine sx_RP.step (pc2 := 40) (ls2 := [(2, .int ((lfF (ia w 112) x j) + 0)), (0, .ref 111), (1, .int x), (3, .int (nI j))]) (st2 := []) (w3 := w) rfl rfl ?_
        refine sx_RP.step (pc2 := 43) (ls2 := [(3, .int ((nI j) + 1)), (2, .int ((lfF (ia w 112) x j) + 0)), (0, .ref 111), (1, .int x)]) (st2 := []) (w3 := w) rfl rfl ?_
        rw [nI_1 j]
        refine sx_RP.step (pc2 := 4) (ls2 := [(3, .int (nI (j + 1))), (2, .int ((lfF (ia w 112) x j) + 0)), (0, .ref 111), (1, .int x)]) (st2 := []) (w3 := w) rfl rfl ?_
        rw [Int32.add_zero, ← lf_n (l := ia w 112) (x := x) (j := j) (fun z => q1 z.1)]
        exact sx_RP.ls (sx_lr.cons rfl (sx_lr.cons rfl (sx_lr.cons rfl (sx_lr.cons rfl sx_lr.nil)))) (x167L hI hn en q (j + 1) (by omega))
      · replace q1 := Decidable.not_not.mp (of_decide_eq_false q1)
        refine sx_RP.step (pc2 := 34) (ls2 := [(0, .ref 111), (1, .int x), (2, .int (lfF (ia w 112) x j)), (3, .int (nI j))]) (st2 := [.int 1, .int (lfF (ia w 112) x j)]) (w3 := w) rfl rfl ?_
        refine sx_RP.step (pc2 := 38) (ls2 := [(0, .ref 111), (1, .int x), (2, .int (lfF (ia w 112) x j)), (3, .int (nI j))]) (st2 := [.int 1, .int (lfF (ia w 112) x j)]) (w3 := w) rfl rfl ?_
        refine sx_RP.step (pc2 := 39) (ls2 := [(0, .ref 111), (1, .int x), (2, .int (lfF (ia w 112) x j)), (3, .int (nI j))]) (st2 := [.int ((lfF (ia w 112) x j) + 1)]) (w3 := w) rfl rfl ?_
        refine sx_RP.step (pc2 := 40) (ls2 := [(2, .int ((lfF (ia w 112) x j) + 1)), (0, .ref 111), (1, .int x), (3, .int (nI j))]) (st2 := []) (w3 := w) rfl rfl ?_
        refine sx_RP.step (pc2 := 43) (ls2 := [(3, .int ((nI j) + 1)), (2, .int ((lfF (ia w 112) x j) + 1)), (0, .ref 111), (1, .int x)]) (st2 := []) (w3 := w) rfl rfl ?_
        rw [nI_1 j]
        refine sx_RP.step (pc2 := 4) (ls2 := [(3, .int (nI (j + 1))), (2, .int ((lfF (ia w 112) x j) + 1)), (0, .ref 111), (1, .int x)]) (st2 := []) (w3 := w) rfl rfl ?_
        rw [← lf_y (l := ia w 112) (x := x) (j := j) ⟨q1, ci⟩]
        exact sx_RP.ls (sx_lr.cons rfl (sx_lr.cons rfl (sx_lr.cons rfl (sx_lr.cons rfl sx_lr.nil)))) (x167L hI hn en q (j + 1) (by omega))
    · refine sx_RP.cu (as := [.ref 111, .int (nI j)]) (rest2 := [.int (lfF (ia w 112) x j)]) (st3 := [.int 0, .int (lfF (ia w 112) x j)]) rfl rfl (sx_inv_v2 (mi := 167) (k := 74) (st := [.int (nI j), .ref 111, .int (lfF (ia w 112) x j)]) (w := w) rfl rfl hI.1.o111 rfl rfl rfl) rfl rfl (x137n hI (by omega) ci) rfl ?_
      refine sx_RP.step (pc2 := 37) (ls2 := [(0, .ref 111), (1, .int x), (2, .int (lfF (ia w 112) x j)), (3, .int (nI j))]) (st2 := [.int (lfF (ia w 112) x j)]) (w3 := w) rfl rfl ?_
      refine sx_RP.step (pc2 := 38) (ls2 := [(0, .ref 111), (1, .int x), (2, .int (lfF (ia w 112) x j)), (3, .int (nI j))]) (st2 := [.int 0, .int (lfF (ia w 112) x j)]) (w3 := w) rfl rfl ?_
      refine sx_RP.step (pc2 := 39) (ls2 := [(0, .ref 111), (1, .int x), (2, .int (lfF (ia w 112) x j)), (3, .int (nI j))]) (st2 := [.int ((lfF (ia w 112) x j) + 0)]) (w3 := w) rfl rfl ?_
      refine sx_RP.step (pc2 := 40) (ls2 := [(2, .int ((lfF (ia w 112) x j) + 0)), (0, .ref 111), (1, .int x), (3, .int (nI j))]) (st2 := []) (w3 := w) rfl rfl ?_
      refine sx_RP.step (pc2 := 43) (ls2 := [(3, .int ((nI j) + 1)), (2, .int ((lfF (ia w 112) x j) + 0)), (0, .ref 111), (1, .int x)]) (st2 := []) (w3 := w) rfl rfl ?_
      rw [nI_1 j]
      refine sx_RP.step (pc2 := 4) (ls2 := [(3, .int (nI (j + 1))), (2, .int ((lfF (ia w 112) x j) + 0)), (0, .ref 111), (1, .int x)]) (st2 := []) (w3 := w) rfl rfl ?_
      rw [Int32.add_zero, ← lf_n (l := ia w 112) (x := x) (j := j) (fun z => ci z.2)]
      exact sx_RP.ls (sx_lr.cons rfl (sx_lr.cons rfl (sx_lr.cons rfl (sx_lr.cons rfl sx_lr.nil)))) (x167L hI hn en q (j + 1) (by omega))
set_option maxRecDepth 20000 in
set_option maxHeartbeats 4000000 in
theorem x167 {xs : Option (List Int32)} {d : Nat} {w : List sx_C} (hI : WI w) {n : Nat} (hn : n ≤ 10) (en : (ia w 112).getD 1 0 = nI n) (x : Int32) : sx_RU xs (d + 2) 167 0 (lv_args 0 [.ref 111, .int x]) [] w (some (.int (lfF (ia w 112) x n))) w := by
  have h : sx_RP xs (d + 2) 167 0 (lv_args 0 [.ref 111, .int x]) [] w (fun r9 w2 => r9 = some (.int (lfF (ia w 112) x n)) ∧ w2 = w) := by
    refine sx_RP.step (pc2 := 1) (ls2 := [(0, .ref 111), (1, .int x)]) (st2 := [.int 0]) (w3 := w) rfl rfl ?_
    refine sx_RP.step (pc2 := 2) (ls2 := [(2, .int 0), (0, .ref 111), (1, .int x)]) (st2 := []) (w3 := w) rfl rfl ?_
    refine sx_RP.step (pc2 := 3) (ls2 := [(2, .int 0), (0, .ref 111), (1, .int x)]) (st2 := [.int 0]) (w3 := w) rfl rfl ?_
    refine sx_RP.step (pc2 := 4) (ls2 := [(3, .int 0), (2, .int 0), (0, .ref 111), (1, .int x)]) (st2 := []) (w3 := w) rfl rfl ?_
    exact sx_RP.ls (sx_lr.cons rfl (sx_lr.cons rfl (sx_lr.cons rfl (sx_lr.cons rfl sx_lr.nil)))) (x167L hI hn en n 0 (by omega))
  obtain ⟨r9, w2, h1, rfl, rfl⟩ := h
  exact h1
set_option maxRecDepth 20000 in
set_option maxHeartbeats 4000000 in
theorem x166 {xs : Option (List Int32)} {d : Nat} {w : List sx_C} (hI : WI w) {n : Nat} (hn : n ≤ 10) (en : (ia w 112).getD 1 0 = nI n) : sx_RU xs (d + 3) 166 0 (lv_args 0 [.ref 111]) [] w (some (.int (allF (ia w 112)))) w := by
  have h : sx_RP xs (d + 3) 166 0 (lv_args 0 [.ref 111]) [] w (fun r9 w2 => r9 = some (.int (allF (ia w 112))) ∧ w2 = w) := by
    refine sx_RP.step (pc2 := 1) (ls2 := [(0, .ref 111)]) (st2 := [.ref 111]) (w3 := w) rfl rfl ?_
    refine sx_RP.step (pc2 := 2) (ls2 := [(0, .ref 111)]) (st2 := [.int 0, .ref 111]) (w3 := w) rfl rfl ?_
    refine sx_RP.cu (as := [.ref 111, .int 0]) (rest2 := []) (st3 := [.int (lfF (ia w 112) 0 n)]) rfl rfl (sx_inv_v2 (mi := 166) (k := 146) (st := [.int 0, .ref 111]) (w := w) rfl rfl hI.1.o111 rfl rfl rfl) rfl rfl (x167 hI hn en 0) rfl ?_
    refine sx_RP.step (pc2 := 6) (ls2 := [(0, .ref 111)]) (st2 := [.ref 111, .int (lfF (ia w 112) 0 n)]) (w3 := w) rfl rfl ?_
    refine sx_RP.step (pc2 := 7) (ls2 := [(0, .ref 111)]) (st2 := [.int 1, .ref 111, .int (lfF (ia w 112) 0 n)]) (w3 := w) rfl rfl ?_
    refine sx_RP.cu (as := [.ref 111, .int 1]) (rest2 := [.int (lfF (ia w 112) 0 n)]) (st3 := [.int (lfF (ia w 112) 1 n), .int (lfF (ia w 112) 0 n)]) rfl rfl (sx_inv_v2 (mi := 166) (k := 146) (st := [.int 1, .ref 111, .int (lfF (ia w 112) 0 n)]) (w := w) rfl rfl hI.1.o111 rfl rfl rfl) rfl rfl (x167 hI hn en 1) rfl ?_
    refine sx_RP.step (pc2 := 11) (ls2 := [(0, .ref 111)]) (st2 := [.int ((lfF (ia w 112) 0 n) + (lfF (ia w 112) 1 n))]) (w3 := w) rfl rfl ?_
    refine sx_RP.ret (r := (some (.int ((lfF (ia w 112) 0 n) + (lfF (ia w 112) 1 n))))) rfl rfl ?_
    exact ⟨by rw [allF_n en hn], rfl⟩
  obtain ⟨r9, w2, h1, rfl, rfl⟩ := h
  exact h1
set_option maxRecDepth 20000 in
set_option maxHeartbeats 4000000 in
theorem x171T {xs : Option (List Int32)} {d n g j : Nat} {w : List sx_C} (hI : WI w) (hn : n ≤ 10) (en : (ia w 112).getD 1 0 = nI n) (hj : j ≤ 10) : sx_RP xs (d + 2) 171 4 [(0, .ref 111), (1, .int (nI g)), (2, .int 1), (3, .int (nI j))] [] w (fun r w2 => r = some (.int 1) ∧ w2 = w) := by
  refine sx_RP.step (pc2 := 5) (ls2 := [(0, .ref 111), (1, .int (nI g)), (2, .int 1), (3, .int (nI j))]) (st2 := [.int (nI j)]) (w3 := w) rfl rfl ?_
  refine sx_RP.step (pc2 := 6) (ls2 := [(0, .ref 111), (1, .int (nI g)), (2, .int 1), (3, .int (nI j))]) (st2 := [.ref 111, .int (nI j)]) (w3 := w) rfl rfl ?_
  refine sx_RP.gf (v := .ref 112) rfl rfl hI.1.o111 rfl rfl (show _ = 9 from rfl) ?_
  refine sx_RP.step (pc2 := 10) (ls2 := [(0, .ref 111), (1, .int (nI g)), (2, .int 1), (3, .int (nI j))]) (st2 := [.int 1, .ref 112, .int (nI j)]) (w3 := w) rfl rfl ?_
  refine sx_RP.ild (c := 1) rfl hI.1.a112.1 hI.1.a112.2 (sx_in_nI (show 1 < 172 by omega) (by decide)) (show (nI 1).toNatClampNeg = 1 from nI_clamp (by omega)) (show _ = 11 from rfl) ?_
  rw [en]
  refine sx_RP.br (p1 := 66) (l1 := [(0, .ref 111), (1, .int (nI g)), (2, .int 1), (3, .int (nI j))]) (s1 := []) (v1 := w) (p2 := 14) (l2 := [(0, .ref 111), (1, .int (nI g)), (2, .int 1), (3, .int (nI j))]) (s2 := []) (v2 := w) rfl rfl (fun q1 => ?_) (fun q1 => ?_)
  · replace q1 := of_decide_eq_true q1
    replace q1 := (nI_leI (a := n) (b := j) (by omega) (by omega)).mp q1
    refine sx_RP.step (pc2 := 67) (ls2 := [(0, .ref 111), (1, .int (nI g)), (2, .int 1), (3, .int (nI j))]) (st2 := [.int 1]) (w3 := w) rfl rfl ?_
    refine sx_RP.ret (r := (some (.int 1))) rfl rfl ?_
    exact ⟨rfl, rfl⟩
  · replace q1 := of_decide_eq_false q1
    replace q1 := mt (nI_leI (a := n) (b := j) (by omega) (by omega)).mpr q1
    refine sx_RP.step (pc2 := 15) (ls2 := [(0, .ref 111), (1, .int (nI g)), (2, .int 1), (3, .int (nI j))]) (st2 := [.int 1]) (w3 := w) rfl rfl ?_
    refine sx_RP.step (pc2 := 66) (ls2 := [(0, .ref 111), (1, .int (nI g)), (2, .int 1), (3, .int (nI j))]) (st2 := []) (w3 := w) rfl rfl ?_
    refine sx_RP.step (pc2 := 67) (ls2 := [(0, .ref 111), (1, .int (nI g)), (2, .int 1), (3, .int (nI j))]) (st2 := [.int 1]) (w3 := w) rfl rfl ?_
    refine sx_RP.ret (r := (some (.int 1))) rfl rfl ?_
    exact ⟨rfl, rfl⟩
set_option maxRecDepth 20000 in
set_option maxHeartbeats 4000000 in
theorem x171L {xs : Option (List Int32)} {d n g h : Nat} {w : List sx_C} (hI : WI w) (hn : n ≤ 10) (en : (ia w 112).getD 1 0 = nI n) (hg : g < 10) (hh : h < 48) (eh : (ia w 112).getD (103 + 6 * g + 2) 0 = nI h) : ∀ (q j : Nat), j + q = n → meF (ia w 112) h j = false → sx_RP xs (d + 2) 171 4 [(0, .ref 111), (1, .int (nI g)), (2, .int 0), (3, .int (nI j))] [] w (fun r w2 => r = some (.int (b01 (meF (ia w 112) h n))) ∧ w2 = w)
  | 0, j, hj, h0 => by
    obtain rfl : j = n := by omega
    refine sx_RP.step (pc2 := 5) (ls2 := [(0, .ref 111), (1, .int (nI g)), (2, .int 0), (3, .int (nI j))]) (st2 := [.int (nI j)]) (w3 := w) rfl rfl ?_
    refine sx_RP.step (pc2 := 6) (ls2 := [(0, .ref 111), (1, .int (nI g)), (2, .int 0), (3, .int (nI j))]) (st2 := [.ref 111, .int (nI j)]) (w3 := w) rfl rfl ?_
    refine sx_RP.gf (v := .ref 112) rfl rfl hI.1.o111 rfl rfl (show _ = 9 from rfl) ?_
    refine sx_RP.step (pc2 := 10) (ls2 := [(0, .ref 111), (1, .int (nI g)), (2, .int 0), (3, .int (nI j))]) (st2 := [.int 1, .ref 112, .int (nI j)]) (w3 := w) rfl rfl ?_
    refine sx_RP.ild (c := 1) rfl hI.1.a112.1 hI.1.a112.2 (sx_in_nI (show 1 < 172 by omega) (by decide)) (show (nI 1).toNatClampNeg = 1 from nI_clamp (by omega)) (show _ = 11 from rfl) ?_
    rw [en]
    refine sx_RP.br (p1 := 66) (l1 := [(0, .ref 111), (1, .int (nI g)), (2, .int 0), (3, .int (nI j))]) (s1 := []) (v1 := w) rfl rfl (fun _ => ?_) (fun q => absurd (nI_le (a := j) (b := j) (by omega) (by omega)) (of_decide_eq_false q))
    refine sx_RP.step (pc2 := 67) (ls2 := [(0, .ref 111), (1, .int (nI g)), (2, .int 0), (3, .int (nI j))]) (st2 := [.int 0]) (w3 := w) rfl rfl ?_
    refine sx_RP.ret (r := (some (.int 0))) rfl rfl ?_
    exact ⟨by rw [h0]; rfl, rfl⟩
  | q + 1, j, hj, h0 => by
    obtain ⟨c, hc48, ec⟩ : inR ((ia w 112).getD (103 + 6 * j + 2) 0) 47 := (hI.s (103 + 6 * j + 2) (by omega)).2.2.2.2.2.1 (by omega)
    refine sx_RP.step (pc2 := 5) (ls2 := [(0, .ref 111), (1, .int (nI g)), (2, .int 0), (3, .int (nI j))]) (st2 := [.int (nI j)]) (w3 := w) rfl rfl ?_
    refine sx_RP.step (pc2 := 6) (ls2 := [(0, .ref 111), (1, .int (nI g)), (2, .int 0), (3, .int (nI j))]) (st2 := [.ref 111, .int (nI j)]) (w3 := w) rfl rfl ?_
    refine sx_RP.gf (v := .ref 112) rfl rfl hI.1.o111 rfl rfl (show _ = 9 from rfl) ?_
    refine sx_RP.step (pc2 := 10) (ls2 := [(0, .ref 111), (1, .int (nI g)), (2, .int 0), (3, .int (nI j))]) (st2 := [.int 1, .ref 112, .int (nI j)]) (w3 := w) rfl rfl ?_
    refine sx_RP.ild (c := 1) rfl hI.1.a112.1 hI.1.a112.2 (sx_in_nI (show 1 < 172 by omega) (by decide)) (show (nI 1).toNatClampNeg = 1 from nI_clamp (by omega)) (show _ = 11 from rfl) ?_
    rw [en]
    refine sx_RP.br (p2 := 14) (l2 := [(0, .ref 111), (1, .int (nI g)), (2, .int 0), (3, .int (nI j))]) (s2 := []) (v2 := w) rfl rfl (fun q => absurd (of_decide_eq_true q) (fun z => absurd ((nI_leI (a := n) (b := j) (by omega) (by omega)).mp z) (by omega))) (fun _ => ?_)
    refine sx_RP.step (pc2 := 15) (ls2 := [(0, .ref 111), (1, .int (nI g)), (2, .int 0), (3, .int (nI j))]) (st2 := [.int 0]) (w3 := w) rfl rfl ?_
    refine sx_RP.step (pc2 := 18) (ls2 := [(0, .ref 111), (1, .int (nI g)), (2, .int 0), (3, .int (nI j))]) (st2 := []) (w3 := w) rfl rfl ?_
    refine sx_RP.step (pc2 := 19) (ls2 := [(0, .ref 111), (1, .int (nI g)), (2, .int 0), (3, .int (nI j))]) (st2 := [.ref 111]) (w3 := w) rfl rfl ?_
    refine sx_RP.step (pc2 := 20) (ls2 := [(0, .ref 111), (1, .int (nI g)), (2, .int 0), (3, .int (nI j))]) (st2 := [.int (nI j), .ref 111]) (w3 := w) rfl rfl ?_
    refine sx_RP.step (pc2 := 21) (ls2 := [(0, .ref 111), (1, .int (nI g)), (2, .int 0), (3, .int (nI j))]) (st2 := [.int 1, .int (nI j), .ref 111]) (w3 := w) rfl rfl ?_
    refine sx_RP.cu (as := [.ref 111, .int (nI j), .int 1]) (rest2 := []) (st3 := [.int ((ia w 112).getD (103 + 6 * j + 1) 0)]) rfl rfl (sx_inv_v2 (mi := 171) (k := 59) (st := [.int 1, .int (nI j), .ref 111]) (w := w) rfl rfl hI.1.o111 rfl rfl rfl) rfl rfl (x138 hI (show j < 10 by omega) (show 1 < 6 by decide)) rfl ?_
    refine sx_RP.step (pc2 := 25) (ls2 := [(0, .ref 111), (1, .int (nI g)), (2, .int 0), (3, .int (nI j))]) (st2 := [.int 1, .int ((ia w 112).getD (103 + 6 * j + 1) 0)]) (w3 := w) rfl rfl ?_
    refine sx_RP.br (p1 := 58) (l1 := [(0, .ref 111), (1, .int (nI g)), (2, .int 0), (3, .int (nI j))]) (s1 := []) (v1 := w) (p2 := 28) (l2 := [(0, .ref 111), (1, .int (nI g)), (2, .int 0), (3, .int (nI j))]) (s2 := []) (v2 := w) rfl rfl (fun q1 => ?_) (fun q1 => ?_)
    · replace q1 := of_decide_eq_true q1
      refine sx_RP.step (pc2 := 59) (ls2 := [(0, .ref 111), (1, .int (nI g)), (2, .int 0), (3, .int (nI j))]) (st2 := [.int 0]) (w3 := w) rfl rfl ?_
      refine sx_RP.step (pc2 := 60) (ls2 := [(2, .int 0), (0, .ref 111), (1, .int (nI g)), (3, .int (nI j))]) (st2 := []) (w3 := w) rfl rfl ?_
      refine sx_RP.step (pc2 := 63) (ls2 := [(3, .int ((nI j) + 1)), (2, .int 0), (0, .ref 111), (1, .int (nI g))]) (st2 := []) (w3 := w) rfl rfl ?_
      rw [nI_1 j]
      refine sx_RP.step (pc2 := 4) (ls2 := [(3, .int (nI (j + 1))), (2, .int 0), (0, .ref 111), (1, .int (nI g))]) (st2 := []) (w3 := w) rfl rfl ?_
      exact sx_RP.ls (sx_lr.cons rfl (sx_lr.cons rfl (sx_lr.cons rfl (sx_lr.cons rfl sx_lr.nil)))) (x171L hI hn en hg hh eh q (j + 1) (by omega) (me_n h0 (fun z => q1 z.1)))
    · replace q1 := Decidable.not_not.mp (of_decide_eq_false q1)
      refine sx_RP.step (pc2 := 29) (ls2 := [(0, .ref 111), (1, .int (nI g)), (2, .int 0), (3, .int (nI j))]) (st2 := [.ref 111]) (w3 := w) rfl rfl ?_
      refine sx_RP.step (pc2 := 30) (ls2 := [(0, .ref 111), (1, .int (nI g)), (2, .int 0), (3, .int (nI j))]) (st2 := [.int (nI j), .ref 111]) (w3 := w) rfl rfl ?_
      rcases Decidable.em ((ia w 112).getD (103 + 6 * j + 5) 0 = 0) with ci | ci
      · refine sx_RP.cu (as := [.ref 111, .int (nI j)]) (rest2 := []) (st3 := [.int 1]) rfl rfl (sx_inv_v2 (mi := 171) (k := 74) (st := [.int (nI j), .ref 111]) (w := w) rfl rfl hI.1.o111 rfl rfl rfl) rfl rfl (x137y hI (by omega) ci) rfl ?_
        refine sx_RP.step (pc2 := 36) (ls2 := [(0, .ref 111), (1, .int (nI g)), (2, .int 0), (3, .int (nI j))]) (st2 := []) (w3 := w) rfl rfl ?_
        refine sx_RP.step (pc2 := 37) (ls2 := [(0, .ref 111), (1, .int (nI g)), (2, .int 0), (3, .int (nI j))]) (st2 := [.ref 111]) (w3 := w) rfl rfl ?_
        refine sx_RP.step (pc2 := 38) (ls2 := [(0, .ref 111), (1, .int (nI g)), (2, .int 0), (3, .int (nI j))]) (st2 := [.int (nI g), .ref 111]) (w3 := w) rfl rfl ?_
        refine sx_RP.step (pc2 := 39) (ls2 := [(0, .ref 111), (1, .int (nI g)), (2, .int 0), (3, .int (nI j))]) (st2 := [.int 2, .int (nI g), .ref 111]) (w3 := w) rfl rfl ?_
        refine sx_RP.cu (as := [.ref 111, .int (nI g), .int 2]) (rest2 := []) (st3 := [.int (nI h)]) rfl rfl (sx_inv_v2 (mi := 171) (k := 59) (st := [.int 2, .int (nI g), .ref 111]) (w := w) rfl rfl hI.1.o111 rfl rfl rfl) rfl rfl (x138e hI (show g < 10 by omega) (show 2 < 6 by decide) eh) rfl ?_
        refine sx_RP.step (pc2 := 43) (ls2 := [(0, .ref 111), (1, .int (nI g)), (2, .int 0), (3, .int (nI j))]) (st2 := [.ref 111, .int (nI h)]) (w3 := w) rfl rfl ?_
        refine sx_RP.step (pc2 := 44) (ls2 := [(0, .ref 111), (1, .int (nI g)), (2, .int 0), (3, .int (nI j))]) (st2 := [.int (nI j), .ref 111, .int (nI h)]) (w3 := w) rfl rfl ?_
        refine sx_RP.step (pc2 := 45) (ls2 := [(0, .ref 111), (1, .int (nI g)), (2, .int 0), (3, .int (nI j))]) (st2 := [.int 2, .int (nI j), .ref 111, .int (nI h)]) (w3 := w) rfl rfl ?_
        refine sx_RP.cu (as := [.ref 111, .int (nI j), .int 2]) (rest2 := [.int (nI h)]) (st3 := [.int (nI c), .int (nI h)]) rfl rfl (sx_inv_v2 (mi := 171) (k := 59) (st := [.int 2, .int (nI j), .ref 111, .int (nI h)]) (w := w) rfl rfl hI.1.o111 rfl rfl rfl) rfl rfl (x138e hI (show j < 10 by omega) (show 2 < 6 by decide) ec) rfl ?_
        rcases Bool.eq_false_or_eq_true (nearB h c) with hm | hm
        · refine sx_RP.cu (as := [.int (nI h), .int (nI c)]) (rest2 := []) (st3 := [.int 1]) rfl rfl rfl rfl rfl ((by have z := x172 (xs := xs) (d := d) hI (a := h) (b := c) (by omega) (by omega); rw [hm] at z; exact z)) rfl ?_
          refine sx_RP.step (pc2 := 54) (ls2 := [(0, .ref 111), (1, .int (nI g)), (2, .int 0), (3, .int (nI j))]) (st2 := []) (w3 := w) rfl rfl ?_
          refine sx_RP.step (pc2 := 55) (ls2 := [(0, .ref 111), (1, .int (nI g)), (2, .int 0), (3, .int (nI j))]) (st2 := [.int 1]) (w3 := w) rfl rfl ?_
          refine sx_RP.step (pc2 := 59) (ls2 := [(0, .ref 111), (1, .int (nI g)), (2, .int 0), (3, .int (nI j))]) (st2 := [.int 1]) (w3 := w) rfl rfl ?_
          refine sx_RP.step (pc2 := 60) (ls2 := [(2, .int 1), (0, .ref 111), (1, .int (nI g)), (3, .int (nI j))]) (st2 := []) (w3 := w) rfl rfl ?_
          refine sx_RP.step (pc2 := 63) (ls2 := [(3, .int ((nI j) + 1)), (2, .int 1), (0, .ref 111), (1, .int (nI g))]) (st2 := []) (w3 := w) rfl rfl ?_
          rw [nI_1 j]
          refine sx_RP.step (pc2 := 4) (ls2 := [(3, .int (nI (j + 1))), (2, .int 1), (0, .ref 111), (1, .int (nI g))]) (st2 := []) (w3 := w) rfl rfl ?_
          rw [meF_up ((me_c h0 ⟨q1, ci⟩ ec (by omega)).trans ((near_sym c (by omega) h hh).trans hm)) n (by omega)]
          exact sx_RP.ls (sx_lr.cons rfl (sx_lr.cons rfl (sx_lr.cons rfl (sx_lr.cons rfl sx_lr.nil)))) (x171T hI hn en (by omega))
        · refine sx_RP.cu (as := [.int (nI h), .int (nI c)]) (rest2 := []) (st3 := [.int 0]) rfl rfl rfl rfl rfl ((by have z := x172 (xs := xs) (d := d) hI (a := h) (b := c) (by omega) (by omega); rw [hm] at z; exact z)) rfl ?_
          refine sx_RP.step (pc2 := 58) (ls2 := [(0, .ref 111), (1, .int (nI g)), (2, .int 0), (3, .int (nI j))]) (st2 := []) (w3 := w) rfl rfl ?_
          refine sx_RP.step (pc2 := 59) (ls2 := [(0, .ref 111), (1, .int (nI g)), (2, .int 0), (3, .int (nI j))]) (st2 := [.int 0]) (w3 := w) rfl rfl ?_
          refine sx_RP.step (pc2 := 60) (ls2 := [(2, .int 0), (0, .ref 111), (1, .int (nI g)), (3, .int (nI j))]) (st2 := []) (w3 := w) rfl rfl ?_
          refine sx_RP.step (pc2 := 63) (ls2 := [(3, .int ((nI j) + 1)), (2, .int 0), (0, .ref 111), (1, .int (nI g))]) (st2 := []) (w3 := w) rfl rfl ?_
          rw [nI_1 j]
          refine sx_RP.step (pc2 := 4) (ls2 := [(3, .int (nI (j + 1))), (2, .int 0), (0, .ref 111), (1, .int (nI g))]) (st2 := []) (w3 := w) rfl rfl ?_
          exact sx_RP.ls (sx_lr.cons rfl (sx_lr.cons rfl (sx_lr.cons rfl (sx_lr.cons rfl sx_lr.nil)))) (x171L hI hn en hg hh eh q (j + 1) (by omega) ((me_c h0 ⟨q1, ci⟩ ec (by omega)).trans ((near_sym c (by omega) h hh).trans hm)))
      · refine sx_RP.cu (as := [.ref 111, .int (nI j)]) (rest2 := []) (st3 := [.int 0]) rfl rfl (sx_inv_v2 (mi := 171) (k := 74) (st := [.int (nI j), .ref 111]) (w := w) rfl rfl hI.1.o111 rfl rfl rfl) rfl rfl (x137n hI (by omega) ci) rfl ?_
        refine sx_RP.step (pc2 := 58) (ls2 := [(0, .ref 111), (1, .int (nI g)), (2, .int 0), (3, .int (nI j))]) (st2 := []) (w3 := w) rfl rfl ?_
        refine sx_RP.step (pc2 := 59) (ls2 := [(0, .ref 111), (1, .int (nI g)), (2, .int 0), (3, .int (nI j))]) (st2 := [.int 0]) (w3 := w) rfl rfl ?_
        refine sx_RP.step (pc2 := 60) (ls2 := [(2, .int 0), (0, .ref 111), (1, .int (nI g)), (3, .int (nI j))]) (st2 := []) (w3 := w) rfl rfl ?_
        refine sx_RP.step (pc2 := 63) (ls2 := [(3, .int ((nI j) + 1)), (2, .int 0), (0, .ref 111), (1, .int (nI g))]) (st2 := []) (w3 := w) rfl rfl ?_
        rw [nI_1 j]
        refine sx_RP.step (pc2 := 4) (ls2 := [(3, .int (nI (j + 1))), (2, .int 0), (0, .ref 111), (1, .int (nI g))]) (st2 := []) (w3 := w) rfl rfl ?_
        exact sx_RP.ls (sx_lr.cons rfl (sx_lr.cons rfl (sx_lr.cons rfl (sx_lr.cons rfl sx_lr.nil)))) (x171L hI hn en hg hh eh q (j + 1) (by omega) (me_n h0 (fun z => ci z.2)))
set_option maxRecDepth 20000 in
set_option maxHeartbeats 4000000 in
theorem x171 {xs : Option (List Int32)} {d : Nat} {w : List sx_C} (hI : WI w) {n g h : Nat} (hn : n ≤ 10) (en : (ia w 112).getD 1 0 = nI n) (hg : g < 10) (hh : h < 48) (eh : (ia w 112).getD (103 + 6 * g + 2) 0 = nI h) : sx_RU xs (d + 2) 171 0 (lv_args 0 [.ref 111, .int (nI g)]) [] w (some (.int (b01 (meF (ia w 112) h n)))) w := by
  have h : sx_RP xs (d + 2) 171 0 (lv_args 0 [.ref 111, .int (nI g)]) [] w (fun r9 w2 => r9 = some (.int (b01 (meF (ia w 112) h n))) ∧ w2 = w) := by
    refine sx_RP.step (pc2 := 1) (ls2 := [(0, .ref 111), (1, .int (nI g))]) (st2 := [.int 0]) (w3 := w) rfl rfl ?_
    refine sx_RP.step (pc2 := 2) (ls2 := [(2, .int 0), (0, .ref 111), (1, .int (nI g))]) (st2 := []) (w3 := w) rfl rfl ?_
    refine sx_RP.step (pc2 := 3) (ls2 := [(2, .int 0), (0, .ref 111), (1, .int (nI g))]) (st2 := [.int 0]) (w3 := w) rfl rfl ?_
    refine sx_RP.step (pc2 := 4) (ls2 := [(3, .int 0), (2, .int 0), (0, .ref 111), (1, .int (nI g))]) (st2 := []) (w3 := w) rfl rfl ?_
    exact sx_RP.ls (sx_lr.cons rfl (sx_lr.cons rfl (sx_lr.cons rfl (sx_lr.cons rfl sx_lr.nil)))) (x171L hI hn en hg hh eh n 0 (by omega) rfl)
  obtain ⟨r9, w2, h1, rfl, rfl⟩ := h
  exact h1
set_option maxRecDepth 20000 in
set_option maxHeartbeats 4000000 in
theorem X169a {xs : Option (List Int32)} {d n : Nat} {P : Option Value → List sx_C → Prop} (hn : n ≤ 10) : ∀ (q j : Nat) (w : List sx_C), j + q = n → WI w → (ia w 112).getD 1 0 = nI n → WB (ia w 112) → (∀ w2, WI w2 → ia w2 112 = dgL q j (ia w 112) → Same 112 w w2 → sx_RP xs (d + 4) 169 31 [(0, .ref 111)] [] w2 P) → sx_RP xs (d + 4) 169 2 [(0, .ref 111), (1, .int (nI j))] [] w P
  | 0, j, w, hj, hI, en, hW, kk => by
    obtain rfl : j = n := by omega
    refine sx_RP.step (pc2 := 3) (ls2 := [(0, .ref 111), (1, .int (nI j))]) (st2 := [.int (nI j)]) (w3 := w) rfl rfl ?_
    refine sx_RP.step (pc2 := 4) (ls2 := [(0, .ref 111), (1, .int (nI j))]) (st2 := [.ref 111, .int (nI j)]) (w3 := w) rfl rfl ?_
    refine sx_RP.gf (v := .ref 112) rfl rfl hI.1.o111 rfl rfl (show _ = 7 from rfl) ?_
    refine sx_RP.step (pc2 := 8) (ls2 := [(0, .ref 111), (1, .int (nI j))]) (st2 := [.int 1, .ref 112, .int (nI j)]) (w3 := w) rfl rfl ?_
    refine sx_RP.ild (c := 1) rfl hI.1.a112.1 hI.1.a112.2 (sx_in_nI (show 1 < 172 by omega) (by decide)) (show (nI 1).toNatClampNeg = 1 from nI_clamp (by omega)) (show _ = 9 from rfl) ?_
    rw [en]
    refine sx_RP.br (p1 := 31) (l1 := [(0, .ref 111), (1, .int (nI j))]) (s1 := []) (v1 := w) rfl rfl (fun _ => ?_) (fun q => absurd (nI_le (a := j) (b := j) (by omega) (by omega)) (of_decide_eq_false q))
    exact sx_RP.ls (sx_lr.cons rfl sx_lr.nil) (kk w hI rfl (fun _ _ => rfl))
  | q + 1, j, w, hj, hI, en, hW, kk => by
    refine sx_RP.step (pc2 := 3) (ls2 := [(0, .ref 111), (1, .int (nI j))]) (st2 := [.int (nI j)]) (w3 := w) rfl rfl ?_
    refine sx_RP.step (pc2 := 4) (ls2 := [(0, .ref 111), (1, .int (nI j))]) (st2 := [.ref 111, .int (nI j)]) (w3 := w) rfl rfl ?_
    refine sx_RP.gf (v := .ref 112) rfl rfl hI.1.o111 rfl rfl (show _ = 7 from rfl) ?_
    refine sx_RP.step (pc2 := 8) (ls2 := [(0, .ref 111), (1, .int (nI j))]) (st2 := [.int 1, .ref 112, .int (nI j)]) (w3 := w) rfl rfl ?_
    refine sx_RP.ild (c := 1) rfl hI.1.a112.1 hI.1.a112.2 (sx_in_nI (show 1 < 172 by omega) (by decide)) (show (nI 1).toNatClampNeg = 1 from nI_clamp (by omega)) (show _ = 9 from rfl) ?_
    rw [en]
    refine sx_RP.br (p2 := 12) (l2 := [(0, .ref 111), (1, .int (nI j))]) (s2 := []) (v2 := w) rfl rfl (fun q => absurd (of_decide_eq_true q) (fun z => absurd ((nI_leI (a := n) (b := j) (by omega) (by omega)).mp z) (by omega))) (fun _ => ?_)
    refine sx_RP.step (pc2 := 13) (ls2 := [(0, .ref 111), (1, .int (nI j))]) (st2 := [.ref 111]) (w3 := w) rfl rfl ?_
    refine sx_RP.step (pc2 := 14) (ls2 := [(0, .ref 111), (1, .int (nI j))]) (st2 := [.int (nI j), .ref 111]) (w3 := w) rfl rfl ?_
    rcases Decidable.em ((ia w 112).getD (103 + 6 * j + 5) 0 = 0) with ci | ci
    · refine sx_RP.cu (as := [.ref 111, .int (nI j)]) (rest2 := []) (st3 := [.int 1]) rfl rfl (sx_inv_v2 (mi := 169) (k := 74) (st := [.int (nI j), .ref 111]) (w := w) rfl rfl hI.1.o111 rfl rfl rfl) rfl rfl (x137y hI (by omega) ci) rfl ?_
      refine sx_RP.step (pc2 := 20) (ls2 := [(0, .ref 111), (1, .int (nI j))]) (st2 := []) (w3 := w) rfl rfl ?_
      refine sx_RP.step (pc2 := 21) (ls2 := [(0, .ref 111), (1, .int (nI j))]) (st2 := [.ref 111]) (w3 := w) rfl rfl ?_
      refine sx_RP.step (pc2 := 22) (ls2 := [(0, .ref 111), (1, .int (nI j))]) (st2 := [.int (nI j), .ref 111]) (w3 := w) rfl rfl ?_
      refine sx_RP.callp (as2 := [.ref 111, .int (nI j)]) (rest2 := []) rfl rfl (sx_inv_v2 (mi := 169) (k := 136) (st := [.int (nI j), .ref 111]) (w := w) rfl rfl hI.1.o111 rfl rfl rfl) rfl rfl rfl (X170 hI (show j < 10 by omega) hW) (show _ = 25 from rfl) ?_
      rintro r4 w3 ⟨⟨rfl, hv1⟩, hI4, hs2⟩
      show sx_RP _ _ _ _ _ [] _ _
      refine sx_RP.step (pc2 := 28) (ls2 := [(1, .int ((nI j) + 1)), (0, .ref 111)]) (st2 := []) (w3 := w3) rfl rfl ?_
      rw [nI_1 j]
      refine sx_RP.step (pc2 := 2) (ls2 := [(1, .int (nI (j + 1))), (0, .ref 111)]) (st2 := []) (w3 := w3) rfl rfl ?_
      refine sx_RP.ls (sx_lr.cons rfl (sx_lr.cons rfl sx_lr.nil)) (X169a hn q (j + 1) w3 (by omega) hI4 (by rw [hv1]; exact digR_1.trans en) (by rw [hv1]; exact digR_wb hW) (fun w2 h1 h2 h3 => kk w2 h1 ?_ (hs2.tr h3)))
      rw [h2, hv1]
      show _ = dgL q (j + 1) _
      rw [if_pos (show gF (ia w 112) j 5 = 0 from ci)]
    · refine sx_RP.cu (as := [.ref 111, .int (nI j)]) (rest2 := []) (st3 := [.int 0]) rfl rfl (sx_inv_v2 (mi := 169) (k := 74) (st := [.int (nI j), .ref 111]) (w := w) rfl rfl hI.1.o111 rfl rfl rfl) rfl rfl (x137n hI (by omega) ci) rfl ?_
      refine sx_RP.step (pc2 := 25) (ls2 := [(0, .ref 111), (1, .int (nI j))]) (st2 := []) (w3 := w) rfl rfl ?_
      refine sx_RP.step (pc2 := 28) (ls2 := [(1, .int ((nI j) + 1)), (0, .ref 111)]) (st2 := []) (w3 := w) rfl rfl ?_
      rw [nI_1 j]
      refine sx_RP.step (pc2 := 2) (ls2 := [(1, .int (nI (j + 1))), (0, .ref 111)]) (st2 := []) (w3 := w) rfl rfl ?_
      refine sx_RP.ls (sx_lr.cons rfl (sx_lr.cons rfl sx_lr.nil)) (X169a hn q (j + 1) w (by omega) hI en hW (fun w2 h1 h2 h3 => kk w2 h1 ?_ h3))
      rw [h2]
      show _ = dgL q (j + 1) _
      rw [if_neg (show ¬ gF (ia w 112) j 5 = 0 from ci)]
set_option maxRecDepth 20000 in
set_option maxHeartbeats 4000000 in
theorem X169b {xs : Option (List Int32)} {d n : Nat} {P : Option Value → List sx_C → Prop} (hn : n ≤ 10) : ∀ (q j : Nat) (w : List sx_C), j + q = n → WI w → (ia w 112).getD 1 0 = nI n → WB (ia w 112) → (∀ w2, WI w2 → ia w2 112 = mtL q j (ia w 112) → Same 112 w w2 → sx_RP xs (d + 4) 169 92 [(0, .ref 111)] [] w2 P) → sx_RP xs (d + 4) 169 33 [(0, .ref 111), (1, .int (nI j))] [] w P
  | 0, j, w, hj, hI, en, hW, kk => by
    obtain rfl : j = n := by omega
    refine sx_RP.step (pc2 := 34) (ls2 := [(0, .ref 111), (1, .int (nI j))]) (st2 := [.int (nI j)]) (w3 := w) rfl rfl ?_
    refine sx_RP.step (pc2 := 35) (ls2 := [(0, .ref 111), (1, .int (nI j))]) (st2 := [.ref 111, .int (nI j)]) (w3 := w) rfl rfl ?_
    refine sx_RP.gf (v := .ref 112) rfl rfl hI.1.o111 rfl rfl (show _ = 38 from rfl) ?_
    refine sx_RP.step (pc2 := 39) (ls2 := [(0, .ref 111), (1, .int (nI j))]) (st2 := [.int 1, .ref 112, .int (nI j)]) (w3 := w) rfl rfl ?_
    refine sx_RP.ild (c := 1) rfl hI.1.a112.1 hI.1.a112.2 (sx_in_nI (show 1 < 172 by omega) (by decide)) (show (nI 1).toNatClampNeg = 1 from nI_clamp (by omega)) (show _ = 40 from rfl) ?_
    rw [en]
    refine sx_RP.br (p1 := 92) (l1 := [(0, .ref 111), (1, .int (nI j))]) (s1 := []) (v1 := w) rfl rfl (fun _ => ?_) (fun q => absurd (nI_le (a := j) (b := j) (by omega) (by omega)) (of_decide_eq_false q))
    exact sx_RP.ls (sx_lr.cons rfl sx_lr.nil) (kk w hI rfl (fun _ _ => rfl))
  | q + 1, j, w, hj, hI, en, hW, kk => by
    obtain ⟨h, hh, eh⟩ : inR ((ia w 112).getD (103 + 6 * j + 2) 0) 47 := (hI.s (103 + 6 * j + 2) (by omega)).2.2.2.2.2.1 (by omega)
    refine sx_RP.step (pc2 := 34) (ls2 := [(0, .ref 111), (1, .int (nI j))]) (st2 := [.int (nI j)]) (w3 := w) rfl rfl ?_
    refine sx_RP.step (pc2 := 35) (ls2 := [(0, .ref 111), (1, .int (nI j))]) (st2 := [.ref 111, .int (nI j)]) (w3 := w) rfl rfl ?_
    refine sx_RP.gf (v := .ref 112) rfl rfl hI.1.o111 rfl rfl (show _ = 38 from rfl) ?_
    refine sx_RP.step (pc2 := 39) (ls2 := [(0, .ref 111), (1, .int (nI j))]) (st2 := [.int 1, .ref 112, .int (nI j)]) (w3 := w) rfl rfl ?_
    refine sx_RP.ild (c := 1) rfl hI.1.a112.1 hI.1.a112.2 (sx_in_nI (show 1 < 172 by omega) (by decide)) (show (nI 1).toNatClampNeg = 1 from nI_clamp (by omega)) (show _ = 40 from rfl) ?_
    rw [en]
    refine sx_RP.br (p2 := 43) (l2 := [(0, .ref 111), (1, .int (nI j))]) (s2 := []) (v2 := w) rfl rfl (fun q => absurd (of_decide_eq_true q) (fun z => absurd ((nI_leI (a := n) (b := j) (by omega) (by omega)).mp z) (by omega))) (fun _ => ?_)
    refine sx_RP.step (pc2 := 44) (ls2 := [(0, .ref 111), (1, .int (nI j))]) (st2 := [.ref 111]) (w3 := w) rfl rfl ?_
    refine sx_RP.step (pc2 := 45) (ls2 := [(0, .ref 111), (1, .int (nI j))]) (st2 := [.int (nI j), .ref 111]) (w3 := w) rfl rfl ?_
    refine sx_RP.step (pc2 := 46) (ls2 := [(0, .ref 111), (1, .int (nI j))]) (st2 := [.int 1, .int (nI j), .ref 111]) (w3 := w) rfl rfl ?_
    refine sx_RP.cu (as := [.ref 111, .int (nI j), .int 1]) (rest2 := []) (st3 := [.int ((ia w 112).getD (103 + 6 * j + 1) 0)]) rfl rfl (sx_inv_v2 (mi := 169) (k := 59) (st := [.int 1, .int (nI j), .ref 111]) (w := w) rfl rfl hI.1.o111 rfl rfl rfl) rfl rfl (x138 hI (show j < 10 by omega) (show 1 < 6 by decide)) rfl ?_
    refine sx_RP.br (p1 := 86) (l1 := [(0, .ref 111), (1, .int (nI j))]) (s1 := []) (v1 := w) (p2 := 52) (l2 := [(0, .ref 111), (1, .int (nI j))]) (s2 := []) (v2 := w) rfl rfl (fun q1 => ?_) (fun q1 => ?_)
    · replace q1 := of_decide_eq_true q1
      refine sx_RP.step (pc2 := 89) (ls2 := [(1, .int ((nI j) + 1)), (0, .ref 111)]) (st2 := []) (w3 := w) rfl rfl ?_
      rw [nI_1 j]
      refine sx_RP.step (pc2 := 33) (ls2 := [(1, .int (nI (j + 1))), (0, .ref 111)]) (st2 := []) (w3 := w) rfl rfl ?_
      have e9 : metR (ia w 112) j = ia w 112 := if_neg (fun z => q1 z.1.1)
      exact sx_RP.ls (sx_lr.cons rfl (sx_lr.cons rfl sx_lr.nil)) (X169b hn q (j + 1) w (by omega) hI en hW (fun w2 h1 h2 h3 => kk w2 h1 (by rw [h2]; show _ = mtL q (j + 1) _; rw [e9]) h3))
    · replace q1 := Decidable.not_not.mp (of_decide_eq_false q1)
      refine sx_RP.step (pc2 := 53) (ls2 := [(0, .ref 111), (1, .int (nI j))]) (st2 := [.ref 111]) (w3 := w) rfl rfl ?_
      refine sx_RP.step (pc2 := 54) (ls2 := [(0, .ref 111), (1, .int (nI j))]) (st2 := [.int (nI j), .ref 111]) (w3 := w) rfl rfl ?_
      rcases Decidable.em ((ia w 112).getD (103 + 6 * j + 5) 0 = 0) with ci | ci
      · refine sx_RP.cu (as := [.ref 111, .int (nI j)]) (rest2 := []) (st3 := [.int 1]) rfl rfl (sx_inv_v2 (mi := 169) (k := 74) (st := [.int (nI j), .ref 111]) (w := w) rfl rfl hI.1.o111 rfl rfl rfl) rfl rfl (x137y hI (by omega) ci) rfl ?_
        refine sx_RP.step (pc2 := 60) (ls2 := [(0, .ref 111), (1, .int (nI j))]) (st2 := []) (w3 := w) rfl rfl ?_
        refine sx_RP.step (pc2 := 61) (ls2 := [(0, .ref 111), (1, .int (nI j))]) (st2 := [.ref 111]) (w3 := w) rfl rfl ?_
        refine sx_RP.step (pc2 := 62) (ls2 := [(0, .ref 111), (1, .int (nI j))]) (st2 := [.int (nI j), .ref 111]) (w3 := w) rfl rfl ?_
        rcases Bool.eq_false_or_eq_true (meF (ia w 112) h n) with hm | hm
        · refine sx_RP.cu (as := [.ref 111, .int (nI j)]) (rest2 := []) (st3 := [.int 1]) rfl rfl (sx_inv_v2 (mi := 169) (k := 140) (st := [.int (nI j), .ref 111]) (w := w) rfl rfl hI.1.o111 rfl rfl rfl) rfl rfl ((by have z := x171 (xs := xs) (d := d + 1) hI hn en (show j < 10 by omega) (show h < 48 by omega) eh; rw [hm] at z; exact z)) rfl ?_
          refine sx_RP.step (pc2 := 68) (ls2 := [(0, .ref 111), (1, .int (nI j))]) (st2 := []) (w3 := w) rfl rfl ?_
          refine sx_RP.step (pc2 := 69) (ls2 := [(0, .ref 111), (1, .int (nI j))]) (st2 := [.ref 111]) (w3 := w) rfl rfl ?_
          refine sx_RP.step (pc2 := 70) (ls2 := [(0, .ref 111), (1, .int (nI j))]) (st2 := [.int (nI j), .ref 111]) (w3 := w) rfl rfl ?_
          refine sx_RP.step (pc2 := 71) (ls2 := [(0, .ref 111), (1, .int (nI j))]) (st2 := [.int 5, .int (nI j), .ref 111]) (w3 := w) rfl rfl ?_
          refine sx_RP.step (pc2 := 72) (ls2 := [(0, .ref 111), (1, .int (nI j))]) (st2 := [.int 1, .int 5, .int (nI j), .ref 111]) (w3 := w) rfl rfl ?_
          refine sx_RP.callp (as2 := [.ref 111, .int (nI j), .int 5, .int 1]) (rest2 := []) rfl rfl (sx_inv_v2 (mi := 169) (k := 110) (st := [.int 1, .int 5, .int (nI j), .ref 111]) (w := w) rfl rfl hI.1.o111 rfl rfl rfl) rfl rfl rfl (X154 (c := 5) hI (show j < 10 by omega) (by decide) (eOK_g (g := j) (c := 5) (by omega) (by decide) (show inR 1 1 from ⟨1, by decide, rfl⟩))) (show _ = 75 from rfl) ?_
          rintro r4 w4 ⟨⟨rfl, hv2⟩, hI5, hs3⟩
          show sx_RP _ _ _ _ _ [.int ((ia w 112).getD (103 + 6 * j + 5) 0)] _ _
          refine sx_RP.step (pc2 := 76) (ls2 := [(0, .ref 111), (1, .int (nI j))]) (st2 := []) (w3 := w4) rfl rfl ?_
          refine sx_RP.step (pc2 := 77) (ls2 := [(0, .ref 111), (1, .int (nI j))]) (st2 := [.ref 111]) (w3 := w4) rfl rfl ?_
          refine sx_RP.gf (v := .ref 112) rfl rfl hI5.1.o111 rfl rfl (show _ = 80 from rfl) ?_
          refine sx_RP.step (pc2 := 81) (ls2 := [(0, .ref 111), (1, .int (nI j))]) (st2 := [.int 3, .ref 112]) (w3 := w4) rfl rfl ?_
          refine sx_RP.step (pc2 := 82) (ls2 := [(0, .ref 111), (1, .int (nI j))]) (st2 := [.int 3, .ref 112, .int 3, .ref 112]) (w3 := w4) rfl rfl ?_
          refine sx_RP.ild (c := 3) rfl hI5.1.a112.1 hI5.1.a112.2 (sx_in_nI (show 3 < 172 by omega) (by decide)) (show (nI 3).toNatClampNeg = 3 from nI_clamp (by omega)) (show _ = 83 from rfl) ?_
          refine sx_RP.step (pc2 := 84) (ls2 := [(0, .ref 111), (1, .int (nI j))]) (st2 := [.int 1, .int ((ia w4 112).getD 3 0), .int 3, .ref 112]) (w3 := w4) rfl rfl ?_
          refine sx_RP.step (pc2 := 85) (ls2 := [(0, .ref 111), (1, .int (nI j))]) (st2 := [.int (((ia w4 112).getD 3 0) + 1), .int 3, .ref 112]) (w3 := w4) rfl rfl ?_
          refine sx_RP.xM (k := 3) hI5 (by decide) rfl (by omega) (eOK_n (by omega)) (show _ = 86 from rfl) (fun w6 hI7 hs8 hv9 => ?_)
          refine sx_RP.step (pc2 := 89) (ls2 := [(1, .int ((nI j) + 1)), (0, .ref 111)]) (st2 := []) (w3 := w6) rfl rfl ?_
          rw [nI_1 j]
          refine sx_RP.step (pc2 := 33) (ls2 := [(1, .int (nI (j + 1))), (0, .ref 111)]) (st2 := []) (w3 := w6) rfl rfl ?_
          have e9 : metR (ia w 112) j = ((ia w 112).set (103 + 6 * j + 5) 1).set 3 ((ia w 112).getD 3 0 + 1) := if_pos ⟨⟨q1, ci⟩, by rw [show gF (ia w 112) j 2 = nI h from eh, iN_n (by omega), maN_n en hn]; exact hm⟩
          have e8 : ia w6 112 = metR (ia w 112) j := by rw [hv9, hv2, e9, gd_ne (by omega)]
          exact sx_RP.ls (sx_lr.cons rfl (sx_lr.cons rfl sx_lr.nil)) (X169b hn q (j + 1) w6 (by omega) hI7 (by rw [e8]; exact metR_1.trans en) (by rw [e8]; exact metR_wb hW) (fun w2 h1 h2 h3 => kk w2 h1 (by rw [h2, e8]; rfl) ((hs3.tr hs8).tr h3)))
        · refine sx_RP.cu (as := [.ref 111, .int (nI j)]) (rest2 := []) (st3 := [.int 0]) rfl rfl (sx_inv_v2 (mi := 169) (k := 140) (st := [.int (nI j), .ref 111]) (w := w) rfl rfl hI.1.o111 rfl rfl rfl) rfl rfl ((by have z := x171 (xs := xs) (d := d + 1) hI hn en (show j < 10 by omega) (show h < 48 by omega) eh; rw [hm] at z; exact z)) rfl ?_
          refine sx_RP.step (pc2 := 86) (ls2 := [(0, .ref 111), (1, .int (nI j))]) (st2 := []) (w3 := w) rfl rfl ?_
          refine sx_RP.step (pc2 := 89) (ls2 := [(1, .int ((nI j) + 1)), (0, .ref 111)]) (st2 := []) (w3 := w) rfl rfl ?_
          rw [nI_1 j]
          refine sx_RP.step (pc2 := 33) (ls2 := [(1, .int (nI (j + 1))), (0, .ref 111)]) (st2 := []) (w3 := w) rfl rfl ?_
          have e9 : metR (ia w 112) j = ia w 112 := if_neg (fun z => by have z2 := z.2; rw [show gF (ia w 112) j 2 = nI h from eh, iN_n (by omega), maN_n en hn, hm] at z2; exact absurd z2 (by decide))
          exact sx_RP.ls (sx_lr.cons rfl (sx_lr.cons rfl sx_lr.nil)) (X169b hn q (j + 1) w (by omega) hI en hW (fun w2 h1 h2 h3 => kk w2 h1 (by rw [h2]; show _ = mtL q (j + 1) _; rw [e9]) h3))
      · refine sx_RP.cu (as := [.ref 111, .int (nI j)]) (rest2 := []) (st3 := [.int 0]) rfl rfl (sx_inv_v2 (mi := 169) (k := 74) (st := [.int (nI j), .ref 111]) (w := w) rfl rfl hI.1.o111 rfl rfl rfl) rfl rfl (x137n hI (by omega) ci) rfl ?_
        refine sx_RP.step (pc2 := 86) (ls2 := [(0, .ref 111), (1, .int (nI j))]) (st2 := []) (w3 := w) rfl rfl ?_
        refine sx_RP.step (pc2 := 89) (ls2 := [(1, .int ((nI j) + 1)), (0, .ref 111)]) (st2 := []) (w3 := w) rfl rfl ?_
        rw [nI_1 j]
        refine sx_RP.step (pc2 := 33) (ls2 := [(1, .int (nI (j + 1))), (0, .ref 111)]) (st2 := []) (w3 := w) rfl rfl ?_
        have e9 : metR (ia w 112) j = ia w 112 := if_neg (fun z => ci z.1.2)
        exact sx_RP.ls (sx_lr.cons rfl (sx_lr.cons rfl sx_lr.nil)) (X169b hn q (j + 1) w (by omega) hI en hW (fun w2 h1 h2 h3 => kk w2 h1 (by rw [h2]; show _ = mtL q (j + 1) _; rw [e9]) h3))
set_option maxRecDepth 20000 in
set_option maxHeartbeats 4000000 in
theorem X169e {xs : Option (List Int32)} {d : Nat} {w : List sx_C} (hI : WI w) : sx_RP xs (d + 4) 169 92 [(0, .ref 111)] [] w (fun r w2 => (r = none ∧ ia w2 112 = (ia w 112).set 0 ((ia w 112).getD 0 0 + 1)) ∧ WI w2 ∧ Same 112 w w2) := by
  refine sx_RP.step (pc2 := 93) (ls2 := [(0, .ref 111)]) (st2 := [.ref 111]) (w3 := w) rfl rfl ?_
  refine sx_RP.gf (v := .ref 112) rfl rfl hI.1.o111 rfl rfl (show _ = 96 from rfl) ?_
  refine sx_RP.step (pc2 := 97) (ls2 := [(0, .ref 111)]) (st2 := [.int 0, .ref 112]) (w3 := w) rfl rfl ?_
  refine sx_RP.step (pc2 := 98) (ls2 := [(0, .ref 111)]) (st2 := [.int 0, .ref 112, .int 0, .ref 112]) (w3 := w) rfl rfl ?_
  refine sx_RP.ild (c := 0) rfl hI.1.a112.1 hI.1.a112.2 (sx_in_nI (show 0 < 172 by omega) (by decide)) (show (nI 0).toNatClampNeg = 0 from nI_clamp (by omega)) (show _ = 99 from rfl) ?_
  refine sx_RP.step (pc2 := 100) (ls2 := [(0, .ref 111)]) (st2 := [.int 1, .int ((ia w 112).getD 0 0), .int 0, .ref 112]) (w3 := w) rfl rfl ?_
  refine sx_RP.step (pc2 := 101) (ls2 := [(0, .ref 111)]) (st2 := [.int (((ia w 112).getD 0 0) + 1), .int 0, .ref 112]) (w3 := w) rfl rfl ?_
  refine sx_RP.xM (k := 0) hI (by decide) rfl (by omega) (eOK_n (by omega)) (show _ = 102 from rfl) (fun w1 hI2 hs3 hv4 => ?_)
  refine sx_RP.ret (r := none) rfl rfl ?_
  exact ⟨⟨rfl, hv4⟩, hI2, hs3⟩
set_option maxRecDepth 20000 in
set_option maxHeartbeats 4000000 in
theorem X169 {xs : Option (List Int32)} {d : Nat} {w : List sx_C} (hI : WI w) {n : Nat} (hn : n ≤ 10) (en : (ia w 112).getD 1 0 = nI n) (hW : WB (ia w 112)) : sx_RP xs (d + 4) 169 0 (lv_args 0 [.ref 111]) [] w (fun r w2 => (r = none ∧ ia w2 112 = nigR (ia w 112)) ∧ WI w2 ∧ Same 112 w w2) := by
  refine sx_RP.step (pc2 := 1) (ls2 := [(0, .ref 111)]) (st2 := [.int 0]) (w3 := w) rfl rfl ?_
  refine sx_RP.step (pc2 := 2) (ls2 := [(1, .int 0), (0, .ref 111)]) (st2 := []) (w3 := w) rfl rfl ?_
  refine sx_RP.ls (sx_lr.cons rfl (sx_lr.cons rfl sx_lr.nil)) (X169a hn n 0 w (by omega) hI en hW (fun w3 h1 h2 h3 => ?_))
  refine sx_RP.step (pc2 := 32) (ls2 := [(0, .ref 111)]) (st2 := [.int 0]) (w3 := w3) rfl rfl ?_
  refine sx_RP.step (pc2 := 33) (ls2 := [(1, .int 0), (0, .ref 111)]) (st2 := []) (w3 := w3) rfl rfl ?_
  refine sx_RP.ls (sx_lr.cons rfl (sx_lr.cons rfl sx_lr.nil)) (X169b hn n 0 w3 (by omega) h1 (by rw [h2]; exact (dgL_1 n 0 _).trans en) (by rw [h2]; exact dgL_wb n 0 _ hW) (fun w4 g1 g2 g3 => ?_))
  refine (X169e g1).mono9 (fun r w5 z => ⟨⟨z.1.1, ?_⟩, z.2.1, (h3.tr g3).tr z.2.2⟩)
  rw [z.1.2, g2, h2]
  unfold nigR
  rw [maN_n en hn]
set_option maxRecDepth 20000 in
set_option maxHeartbeats 4000000 in
theorem X168L {xs : Option (List Int32)} {d n x : Nat} (hn : n ≤ 10) (hx : x ≤ 99) : ∀ (q j : Nat) (w : List sx_C), j + q = x → WI w → (ia w 112).getD 1 0 = nI n → WB (ia w 112) → sx_RP xs (d + 5) 168 2 [(0, .ref 111), (1, .int (nI x)), (2, .int (nI j))] [] w (fun r w2 => (r = none ∧ ia w2 112 = goR q (ia w 112)) ∧ WI w2 ∧ Same 112 w w2)
  | 0, j, w, hj, hI, en, hW => by
    obtain rfl : j = x := by omega
    refine sx_RP.step (pc2 := 3) (ls2 := [(0, .ref 111), (1, .int (nI j)), (2, .int (nI j))]) (st2 := [.int (nI j)]) (w3 := w) rfl rfl ?_
    refine sx_RP.step (pc2 := 4) (ls2 := [(0, .ref 111), (1, .int (nI j)), (2, .int (nI j))]) (st2 := [.int (nI j), .int (nI j)]) (w3 := w) rfl rfl ?_
    refine sx_RP.br (p1 := 17) (l1 := [(0, .ref 111), (1, .int (nI j)), (2, .int (nI j))]) (s1 := []) (v1 := w) rfl rfl (fun _ => ?_) (fun q => absurd (nI_le (a := j) (b := j) (by omega) (by omega)) (of_decide_eq_false q))
    refine sx_RP.ret (r := none) rfl rfl ?_
    exact ⟨⟨rfl, rfl⟩, hI, fun _ _ => rfl⟩
  | q + 1, j, w, hj, hI, en, hW => by
    refine sx_RP.step (pc2 := 3) (ls2 := [(0, .ref 111), (1, .int (nI x)), (2, .int (nI j))]) (st2 := [.int (nI j)]) (w3 := w) rfl rfl ?_
    refine sx_RP.step (pc2 := 4) (ls2 := [(0, .ref 111), (1, .int (nI x)), (2, .int (nI j))]) (st2 := [.int (nI x), .int (nI j)]) (w3 := w) rfl rfl ?_
    refine sx_RP.br (p2 := 7) (l2 := [(0, .ref 111), (1, .int (nI x)), (2, .int (nI j))]) (s2 := []) (v2 := w) rfl rfl (fun q => absurd (of_decide_eq_true q) (fun z => absurd ((nI_leI (a := x) (b := j) (by omega) (by omega)).mp z) (by omega))) (fun _ => ?_)
    refine sx_RP.step (pc2 := 8) (ls2 := [(0, .ref 111), (1, .int (nI x)), (2, .int (nI j))]) (st2 := [.ref 111]) (w3 := w) rfl rfl ?_
    refine sx_RP.callp (as2 := [.ref 111]) (rest2 := []) rfl rfl (sx_inv_v2 (mi := 168) (k := 143) (st := [.ref 111]) (w := w) rfl rfl hI.1.o111 rfl rfl rfl) rfl rfl rfl (X169 hI hn en hW) (show _ = 11 from rfl) ?_
    rintro r4 w3 ⟨⟨rfl, hv1⟩, hI4, hs2⟩
    show sx_RP _ _ _ _ _ [] _ _
    refine sx_RP.step (pc2 := 14) (ls2 := [(2, .int ((nI j) + 1)), (0, .ref 111), (1, .int (nI x))]) (st2 := []) (w3 := w3) rfl rfl ?_
    rw [nI_1 j]
    refine sx_RP.step (pc2 := 2) (ls2 := [(2, .int (nI (j + 1))), (0, .ref 111), (1, .int (nI x))]) (st2 := []) (w3 := w3) rfl rfl ?_
    refine sx_RP.ls (sx_lr.cons rfl (sx_lr.cons rfl (sx_lr.cons rfl sx_lr.nil))) ((X168L hn hx q (j + 1) w3 (by omega) hI4 (by rw [hv1]; exact nigR_1.trans en) (by rw [hv1]; exact nigR_wb hW)).mono9 (fun r w2 z => ⟨⟨z.1.1, ?_⟩, z.2.1, hs2.tr z.2.2⟩))
    rw [z.1.2, hv1]
    rfl
set_option maxRecDepth 20000 in
set_option maxHeartbeats 4000000 in
theorem X168 {xs : Option (List Int32)} {d : Nat} {w : List sx_C} (hI : WI w) {n x : Nat} (hn : n ≤ 10) (en : (ia w 112).getD 1 0 = nI n) (hx : x ≤ 99) (hW : WB (ia w 112)) : sx_RP xs (d + 5) 168 0 (lv_args 0 [.ref 111, .int (nI x)]) [] w (fun r w2 => (r = none ∧ ia w2 112 = goR x (ia w 112)) ∧ WI w2 ∧ Same 112 w w2) := by
  refine sx_RP.step (pc2 := 1) (ls2 := [(0, .ref 111), (1, .int (nI x))]) (st2 := [.int 0]) (w3 := w) rfl rfl ?_
  refine sx_RP.step (pc2 := 2) (ls2 := [(2, .int 0), (0, .ref 111), (1, .int (nI x))]) (st2 := []) (w3 := w) rfl rfl ?_
  exact sx_RP.ls (sx_lr.cons rfl (sx_lr.cons rfl (sx_lr.cons rfl sx_lr.nil))) (X168L hn hx x 0 w (by omega) hI en hW)
set_option maxRecDepth 20000 in
set_option maxHeartbeats 4000000 in
theorem Y164 {xs : Option (List Int32)} {d : Nat} {w : List sx_C} (hI : WI w) (hW : WB (ia w 112)) (a1 : Int32) : sx_RP xs (d + 7) 164 0 (lv_args 0 [.ref 111, .int a1]) [] w (fun r w2 => (r = some (.int (ntsA (ia w 112) a1)) ∧ ia w2 112 = ntsR (ia w 112) a1) ∧ WI w2 ∧ EOm w w2) := by
  obtain ⟨n, hn, en⟩ := (hI.sA (a := 112) (by decide) 1 (by decide)).1 rfl
  refine sx_RP.step (pc2 := 1) (ls2 := [(0, .ref 111), (1, .int a1)]) (st2 := [.int a1]) (w3 := w) rfl rfl ?_
  refine sx_RP.step (pc2 := 2) (ls2 := [(0, .ref 111), (1, .int a1)]) (st2 := [.int 1, .int a1]) (w3 := w) rfl rfl ?_
  refine sx_RP.step (pc2 := 4) (ls2 := [(0, .ref 111), (1, .int a1)]) (st2 := [.int 60, .int 1, .int a1]) (w3 := w) rfl rfl ?_
  rcases in_cases a1 1 60 (m := 1) (n := 60) rfl rfl (by decide) (by decide) with q1 | ⟨x2, hx3, hx4, rfl⟩
  · refine sx_RP.cu (as := [.int a1, .int 1, .int 60]) (rest2 := []) (st3 := [.int 0]) rfl rfl rfl rfl rfl (cx_132o q1) rfl ?_
    refine sx_RP.step (pc2 := 10) (ls2 := [(0, .ref 111), (1, .int a1)]) (st2 := []) (w3 := w) rfl rfl ?_
    refine sx_RP.step (pc2 := 11) (ls2 := [(0, .ref 111), (1, .int a1)]) (st2 := [.ref 111]) (w3 := w) rfl rfl ?_
    refine sx_RP.step (pc2 := 12) (ls2 := [(0, .ref 111), (1, .int a1)]) (st2 := [.int 0, .ref 111]) (w3 := w) rfl rfl ?_
    refine sx_RP.callp (as2 := [.ref 111, .int 0]) (rest2 := []) rfl rfl (sx_inv_v2 (mi := 164) (k := 70) (st := [.int 0, .ref 111]) (w := w) rfl rfl hI.1.o111 rfl rfl rfl) rfl rfl rfl (S133_0 hI) (show _ = 15 from rfl) ?_
    rintro r4 w7 ⟨rfl, hI8, hs6⟩
    show sx_RP _ _ _ _ _ [.int (-1000000001)] _ _
    refine sx_RP.ret (r := (some (.int (-1000000001)))) rfl rfl ?_
    exact ⟨⟨by rw [(nts_1 q1).1], by rw [(nts_1 q1).2]; exact ia_of (hs6 112 (by decide))⟩, hI8, fun a ha => hs6 a (by unfold ocm at ha; omega)⟩
  · refine sx_RP.cu (as := [.int (nI x2), .int 1, .int 60]) (rest2 := []) (st3 := [.int 1]) rfl rfl rfl rfl rfl (cx_132p ⟨nI_le (a := 1) hx3 (by omega), nI_le (b := 60) hx4 (by decide)⟩) rfl ?_
    refine sx_RP.step (pc2 := 16) (ls2 := [(0, .ref 111), (1, .int (nI x2))]) (st2 := []) (w3 := w) rfl rfl ?_
    refine sx_RP.step (pc2 := 17) (ls2 := [(0, .ref 111), (1, .int (nI x2))]) (st2 := [.ref 111]) (w3 := w) rfl rfl ?_
    refine sx_RP.step (pc2 := 18) (ls2 := [(0, .ref 111), (1, .int (nI x2))]) (st2 := [.int (nI x2), .ref 111]) (w3 := w) rfl rfl ?_
    rcases Decidable.em ((ia w 112).getD 0 0 + nI x2 ≤ 999) with hc | hc
    · refine sx_RP.cu (as := [.ref 111, .int (nI x2)]) (rest2 := []) (st3 := [.int 0]) rfl rfl (sx_inv_v2 (mi := 164) (k := 149) (st := [.int (nI x2), .ref 111]) (w := w) rfl rfl hI.1.o111 rfl rfl rfl) rfl rfl (x165n hI hc) rfl ?_
      refine sx_RP.step (pc2 := 30) (ls2 := [(0, .ref 111), (1, .int (nI x2))]) (st2 := []) (w3 := w) rfl rfl ?_
      refine sx_RP.step (pc2 := 31) (ls2 := [(0, .ref 111), (1, .int (nI x2))]) (st2 := [.ref 111]) (w3 := w) rfl rfl ?_
      refine sx_RP.cu (as := [.ref 111]) (rest2 := []) (st3 := [.int (allF (ia w 112))]) rfl rfl (sx_inv_v2 (mi := 164) (k := 152) (st := [.ref 111]) (w := w) rfl rfl hI.1.o111 rfl rfl rfl) rfl rfl (x166 hI hn en) rfl ?_
      refine sx_RP.step (pc2 := 35) (ls2 := [(2, .int (allF (ia w 112))), (0, .ref 111), (1, .int (nI x2))]) (st2 := []) (w3 := w) rfl rfl ?_
      refine sx_RP.step (pc2 := 36) (ls2 := [(2, .int (allF (ia w 112))), (0, .ref 111), (1, .int (nI x2))]) (st2 := [.ref 111]) (w3 := w) rfl rfl ?_
      refine sx_RP.step (pc2 := 37) (ls2 := [(2, .int (allF (ia w 112))), (0, .ref 111), (1, .int (nI x2))]) (st2 := [.int (nI x2), .ref 111]) (w3 := w) rfl rfl ?_
      refine sx_RP.callp (as2 := [.ref 111, .int (nI x2)]) (rest2 := []) rfl rfl (sx_inv_v2 (mi := 164) (k := 155) (st := [.int (nI x2), .ref 111]) (w := w) rfl rfl hI.1.o111 rfl rfl rfl) rfl rfl rfl (X168 hI hn en (show x2 ≤ 99 by omega) hW) (show _ = 40 from rfl) ?_
      rintro r4 w11 ⟨⟨rfl, hv9⟩, hI12, hs10⟩
      show sx_RP _ _ _ _ _ [] _ _
      have en13 : (ia w11 112).getD 1 0 = nI n := by rw [hv9]; exact (goR_1 _ _).trans en
      refine sx_RP.step (pc2 := 41) (ls2 := [(2, .int (allF (ia w 112))), (0, .ref 111), (1, .int (nI x2))]) (st2 := [.int (allF (ia w 112))]) (w3 := w11) rfl rfl ?_
      refine sx_RP.step (pc2 := 42) (ls2 := [(2, .int (allF (ia w 112))), (0, .ref 111), (1, .int (nI x2))]) (st2 := [.ref 111, .int (allF (ia w 112))]) (w3 := w11) rfl rfl ?_
      refine sx_RP.cu (as := [.ref 111]) (rest2 := [.int (allF (ia w 112))]) (st3 := [.int (allF (ia w11 112)), .int (allF (ia w 112))]) rfl rfl (sx_inv_v2 (mi := 164) (k := 152) (st := [.ref 111, .int (allF (ia w 112))]) (w := w11) rfl rfl hI12.1.o111 rfl rfl rfl) rfl rfl (x166 hI12 hn en13) rfl ?_
      refine sx_RP.step (pc2 := 46) (ls2 := [(2, .int (allF (ia w 112))), (0, .ref 111), (1, .int (nI x2))]) (st2 := [.int ((allF (ia w 112)) - (allF (ia w11 112)))]) (w3 := w11) rfl rfl ?_
      refine sx_RP.ret (r := (some (.int ((allF (ia w 112)) - (allF (ia w11 112)))))) rfl rfl ?_
      exact ⟨⟨by rw [(nts_z (l := ia w 112) (fun z => z ⟨nI_le (a := 1) (show 1 ≤ x2 by omega) (by omega), nI_le (b := 60) (show x2 ≤ 60 by omega) (by decide)⟩) (fun z => z hc)).1, iN_n (show x2 < 2 ^ 31 by omega), hv9], by rw [(nts_z (l := ia w 112) (fun z => z ⟨nI_le (a := 1) (show 1 ≤ x2 by omega) (by omega), nI_le (b := 60) (show x2 ≤ 60 by omega) (by decide)⟩) (fun z => z hc)).2, iN_n (show x2 < 2 ^ 31 by omega), hv9]⟩, hI12, fun a ha => hs10 a (by unfold ocm at ha; omega)⟩
    · refine sx_RP.cu (as := [.ref 111, .int (nI x2)]) (rest2 := []) (st3 := [.int 1]) rfl rfl (sx_inv_v2 (mi := 164) (k := 149) (st := [.int (nI x2), .ref 111]) (w := w) rfl rfl hI.1.o111 rfl rfl rfl) rfl rfl (x165y hI hc) rfl ?_
      refine sx_RP.step (pc2 := 24) (ls2 := [(0, .ref 111), (1, .int (nI x2))]) (st2 := []) (w3 := w) rfl rfl ?_
      refine sx_RP.step (pc2 := 25) (ls2 := [(0, .ref 111), (1, .int (nI x2))]) (st2 := [.ref 111]) (w3 := w) rfl rfl ?_
      refine sx_RP.step (pc2 := 26) (ls2 := [(0, .ref 111), (1, .int (nI x2))]) (st2 := [.int 4, .ref 111]) (w3 := w) rfl rfl ?_
      refine sx_RP.callp (as2 := [.ref 111, .int 4]) (rest2 := []) rfl rfl (sx_inv_v2 (mi := 164) (k := 70) (st := [.int 4, .ref 111]) (w := w) rfl rfl hI.1.o111 rfl rfl rfl) rfl rfl rfl (S133_4 hI) (show _ = 29 from rfl) ?_
      rintro r4 w15 ⟨rfl, hI16, hs14⟩
      show sx_RP _ _ _ _ _ [.int (-1000000005)] _ _
      refine sx_RP.ret (r := (some (.int (-1000000005)))) rfl rfl ?_
      exact ⟨⟨by rw [(nts_2 (fun z => z ⟨nI_le (a := 1) (show 1 ≤ x2 by omega) (by omega), nI_le (b := 60) (show x2 ≤ 60 by omega) (by decide)⟩) hc).1], by rw [(nts_2 (fun z => z ⟨nI_le (a := 1) (show 1 ≤ x2 by omega) (by omega), nI_le (b := 60) (show x2 ≤ 60 by omega) (by decide)⟩) hc).2]; exact ia_of (hs14 112 (by decide))⟩, hI16, fun a ha => hs14 a (by unfold ocm at ha; omega)⟩
end
-- 89y12.image.lean.txt
section
theorem sx_RU.det {xs : Option (List Int32)} {d mi pc : Nat} {ls : sx_L} {st : List Value} {w : List sx_C} {r r2 : Option Value} {w2 w3 : List sx_C} (h : sx_RU xs d mi pc ls st w r w2) (h2 : sx_RU xs d mi pc ls st w r2 w3) : r = r2 ∧ w2 = w3 := by
  obtain ⟨f, hf⟩ := h
  obtain ⟨g, hg⟩ := h2
  have e := (sx_fuel hf (Nat.le_max_left f g)).symm.trans (sx_fuel hg (Nat.le_max_right f g))
  have e2 := Option.some.inj e
  exact ⟨(Prod.mk.inj e2).1, (Prod.mk.inj e2).2⟩
theorem sx_RP.and {xs : Option (List Int32)} {d mi pc : Nat} {ls : sx_L} {st : List Value} {w : List sx_C} {P Q : Option Value → List sx_C → Prop} (h : sx_RP xs d mi pc ls st w P) (h2 : sx_RP xs d mi pc ls st w Q) : sx_RP xs d mi pc ls st w (fun r w2 => P r w2 ∧ Q r w2) := by
  obtain ⟨r, w2, h1, hp⟩ := h
  obtain ⟨r2, w3, g1, hq⟩ := h2
  obtain ⟨rfl, rfl⟩ := h1.det g1
  exact ⟨r, w2, h1, hp, hq⟩
set_option maxRecDepth 20000 in
set_option maxHeartbeats 4000000 in
theorem Z124 {xs : Option (List Int32)} {d : Nat} {w : List sx_C} (hI : WI w) : sx_RP xs (d + 7) 124 0 (lv_args 0 [.ref 0]) [] w (fun r w2 => (r = some (.int 1) ∧ fi w2 0 3 = 1 ∧ ∀ l, rel w 1 l → rel w2 15 l) ∧ WI w2 ∧ ∀ a, a ≠ 0 → (a < 15 ∨ 29 ≤ a) → w2[a]? = w[a]?) := by
  refine sx_RP.step (pc2 := 1) (ls2 := [(0, .ref 0)]) (st2 := [.ref 0]) (w3 := w) rfl rfl ?_
  refine sx_RP.gf (v := .ref 15) rfl rfl hI.1.o0 rfl rfl (show _ = 4 from rfl) ?_
  refine sx_RP.step (pc2 := 5) (ls2 := [(0, .ref 0)]) (st2 := [.ref 0, .ref 15]) (w3 := w) rfl rfl ?_
  refine sx_RP.gf (v := .ref 1) rfl rfl hI.1.o0 rfl rfl (show _ = 8 from rfl) ?_
  refine sx_RP.callp (as2 := [.ref 15, .ref 1]) (rest2 := []) rfl rfl (sx_inv_v2 (mi := 124) (k := 179) (st := [.ref 1, .ref 15]) (w := w) rfl rfl (hI.1.oC (Or.inr (Or.inl rfl))) rfl rfl rfl) rfl rfl rfl (X50 hI (Or.inr (Or.inl rfl)) (Or.inl rfl) (by omega)) (show _ = 11 from rfl) ?_
  rintro r4 w2 ⟨rfl, hI3, ht1⟩
  show sx_RP _ _ _ _ _ [] _ _
  refine sx_RP.step (pc2 := 12) (ls2 := [(0, .ref 0)]) (st2 := [.ref 0]) (w3 := w2) rfl rfl ?_
  refine sx_RP.step (pc2 := 13) (ls2 := [(0, .ref 0)]) (st2 := [.int 1, .ref 0]) (w3 := w2) rfl rfl ?_
  refine sx_RP.xK hI3 rfl rfl rfl ⟨1, by decide, rfl⟩ (show _ = 16 from rfl) (fun w4 hI5 hs6 hv7 => ?_)
  refine sx_RP.step (pc2 := 17) (ls2 := [(0, .ref 0)]) (st2 := [.int 1]) (w3 := w4) rfl rfl ?_
  refine sx_RP.ret (r := (some (.int 1))) rfl rfl ?_
  exact ⟨⟨rfl, hv7, fun l hl => (hl.took ht1).same hI3 (Or.inr (Or.inl rfl)) (fun a h1 h2 => hs6 a (by omega))⟩, hI5, fun a h1 h2 => (hs6 a h1).trans (ht1.1 a (by omega))⟩
set_option maxRecDepth 20000 in
set_option maxHeartbeats 4000000 in
theorem Z125_0 {xs : Option (List Int32)} {d : Nat} {w : List sx_C} (hI : WI w) (ek : fi w 0 3 = 0) : sx_RP xs (d + 7) 125 0 (lv_args 0 [.ref 0]) [] w (fun r w2 => r = some (.int (-1000000004)) ∧ WI w2 ∧ Same 99 w w2) := by
  refine sx_RP.step (pc2 := 1) (ls2 := [(0, .ref 0)]) (st2 := [.ref 0]) (w3 := w) rfl rfl ?_
  refine sx_RP.gf (v := .int (fi w 0 3)) rfl rfl hI.1.o0 rfl rfl (show _ = 4 from rfl) ?_
  rw [ek]
  refine sx_RP.step (pc2 := 7) (ls2 := [(0, .ref 0)]) (st2 := []) (w3 := w) rfl rfl ?_
  refine sx_RP.step (pc2 := 8) (ls2 := [(0, .ref 0)]) (st2 := [.ref 0]) (w3 := w) rfl rfl ?_
  refine sx_RP.step (pc2 := 10) (ls2 := [(0, .ref 0)]) (st2 := [.int (-1000000004), .ref 0]) (w3 := w) rfl rfl ?_
  refine sx_RP.callp (as2 := [.ref 0, .int (-1000000004)]) (rest2 := []) rfl rfl (sx_inv_v2 (mi := 125) (k := 78) (st := [.int (-1000000004), .ref 0]) (w := w) rfl rfl hI.1.o0 rfl rfl rfl) rfl rfl rfl (S9_3 hI) (show _ = 13 from rfl) ?_
  rintro r4 w2 ⟨rfl, hI3, hs1⟩
  show sx_RP _ _ _ _ _ [.int (-1000000004)] _ _
  refine sx_RP.ret (r := (some (.int (-1000000004)))) rfl rfl ?_
  exact ⟨rfl, hI3, hs1⟩
set_option maxRecDepth 20000 in
set_option maxHeartbeats 4000000 in
theorem Z125_1 {xs : Option (List Int32)} {d : Nat} {w : List sx_C} (hI : WI w) (ek : fi w 0 3 = 1) : sx_RP xs (d + 7) 125 0 (lv_args 0 [.ref 0]) [] w (fun r w2 => (r = some (.int (fi w 15 3)) ∧ ∀ l, rel w 15 l → rel w2 1 l) ∧ WI w2 ∧ Out 1 w w2) := by
  refine sx_RP.step (pc2 := 1) (ls2 := [(0, .ref 0)]) (st2 := [.ref 0]) (w3 := w) rfl rfl ?_
  refine sx_RP.gf (v := .int (fi w 0 3)) rfl rfl hI.1.o0 rfl rfl (show _ = 4 from rfl) ?_
  rw [ek]
  refine sx_RP.step (pc2 := 14) (ls2 := [(0, .ref 0)]) (st2 := []) (w3 := w) rfl rfl ?_
  refine sx_RP.step (pc2 := 15) (ls2 := [(0, .ref 0)]) (st2 := [.ref 0]) (w3 := w) rfl rfl ?_
  refine sx_RP.gf (v := .ref 1) rfl rfl hI.1.o0 rfl rfl (show _ = 18 from rfl) ?_
  refine sx_RP.step (pc2 := 19) (ls2 := [(0, .ref 0)]) (st2 := [.ref 0, .ref 1]) (w3 := w) rfl rfl ?_
  refine sx_RP.gf (v := .ref 15) rfl rfl hI.1.o0 rfl rfl (show _ = 22 from rfl) ?_
  refine sx_RP.callp (as2 := [.ref 1, .ref 15]) (rest2 := []) rfl rfl (sx_inv_v2 (mi := 125) (k := 179) (st := [.ref 15, .ref 1]) (w := w) rfl rfl (hI.1.oC (Or.inl rfl)) rfl rfl rfl) rfl rfl rfl (X50 hI (Or.inl rfl) (Or.inr (Or.inl rfl)) (by omega)) (show _ = 25 from rfl) ?_
  rintro r4 w2 ⟨rfl, hI3, ht1⟩
  show sx_RP _ _ _ _ _ [] _ _
  refine sx_RP.step (pc2 := 26) (ls2 := [(0, .ref 0)]) (st2 := [.ref 0]) (w3 := w2) rfl rfl ?_
  refine sx_RP.gf (v := .ref 1) rfl rfl hI3.1.o0 rfl rfl (show _ = 29 from rfl) ?_
  refine sx_RP.gc (k := 3) hI3 (Or.inl rfl) rfl rfl (by omega) (show _ = 32 from rfl) ?_
  obtain ⟨x4, hx5, ex6⟩ : inR (fi w2 1 3) 10 := (hI3.c (Or.inl rfl)).1
  rw [ex6]
  refine sx_RP.ret (r := (some (.int (nI x4)))) rfl rfl ?_
  exact ⟨⟨by rw [← ex6, ht1.2.2.2.1 3 (by omega)], fun l hl => hl.took ht1⟩, hI3, ht1.1⟩
set_option maxRecDepth 20000 in
set_option maxHeartbeats 4000000 in
theorem Z126 {xs : Option (List Int32)} {d : Nat} {w : List sx_C} (hI : WI w) : sx_RP xs (d + 7) 126 0 (lv_args 0 [.ref 0]) [] w (fun r w2 => (r = some (.int (fi w 0 3)) ∧ fi w2 0 3 = 0) ∧ WI w2 ∧ Same 0 w w2) := by
  rcases keeps_01 hI with ek | ek
  · refine sx_RP.step (pc2 := 1) (ls2 := [(0, .ref 0)]) (st2 := [.ref 0]) (w3 := w) rfl rfl ?_
    refine sx_RP.gf (v := .int (fi w 0 3)) rfl rfl hI.1.o0 rfl rfl (show _ = 4 from rfl) ?_
    rw [ek]
    refine sx_RP.step (pc2 := 11) (ls2 := [(0, .ref 0)]) (st2 := []) (w3 := w) rfl rfl ?_
    refine sx_RP.step (pc2 := 12) (ls2 := [(0, .ref 0)]) (st2 := [.int 0]) (w3 := w) rfl rfl ?_
    refine sx_RP.step (pc2 := 13) (ls2 := [(1, .int 0), (0, .ref 0)]) (st2 := []) (w3 := w) rfl rfl ?_
    refine sx_RP.step (pc2 := 14) (ls2 := [(1, .int 0), (0, .ref 0)]) (st2 := [.ref 0]) (w3 := w) rfl rfl ?_
    refine sx_RP.step (pc2 := 15) (ls2 := [(1, .int 0), (0, .ref 0)]) (st2 := [.int 0, .ref 0]) (w3 := w) rfl rfl ?_
    refine sx_RP.xK hI rfl rfl rfl ⟨0, by decide, rfl⟩ (show _ = 18 from rfl) (fun w1 hI2 hs3 hv4 => ?_)
    refine sx_RP.step (pc2 := 19) (ls2 := [(1, .int 0), (0, .ref 0)]) (st2 := [.int 0]) (w3 := w1) rfl rfl ?_
    refine sx_RP.ret (r := (some (.int 0))) rfl rfl ?_
    exact ⟨⟨rfl, hv4⟩, hI2, hs3⟩
  · refine sx_RP.step (pc2 := 1) (ls2 := [(0, .ref 0)]) (st2 := [.ref 0]) (w3 := w) rfl rfl ?_
    refine sx_RP.gf (v := .int (fi w 0 3)) rfl rfl hI.1.o0 rfl rfl (show _ = 4 from rfl) ?_
    rw [ek]
    refine sx_RP.step (pc2 := 7) (ls2 := [(0, .ref 0)]) (st2 := []) (w3 := w) rfl rfl ?_
    refine sx_RP.step (pc2 := 8) (ls2 := [(0, .ref 0)]) (st2 := [.int 1]) (w3 := w) rfl rfl ?_
    refine sx_RP.step (pc2 := 12) (ls2 := [(0, .ref 0)]) (st2 := [.int 1]) (w3 := w) rfl rfl ?_
    refine sx_RP.step (pc2 := 13) (ls2 := [(1, .int 1), (0, .ref 0)]) (st2 := []) (w3 := w) rfl rfl ?_
    refine sx_RP.step (pc2 := 14) (ls2 := [(1, .int 1), (0, .ref 0)]) (st2 := [.ref 0]) (w3 := w) rfl rfl ?_
    refine sx_RP.step (pc2 := 15) (ls2 := [(1, .int 1), (0, .ref 0)]) (st2 := [.int 0, .ref 0]) (w3 := w) rfl rfl ?_
    refine sx_RP.xK hI rfl rfl rfl ⟨0, by decide, rfl⟩ (show _ = 18 from rfl) (fun w5 hI6 hs7 hv8 => ?_)
    refine sx_RP.step (pc2 := 19) (ls2 := [(1, .int 1), (0, .ref 0)]) (st2 := [.int 1]) (w3 := w5) rfl rfl ?_
    refine sx_RP.ret (r := (some (.int 1))) rfl rfl ?_
    exact ⟨⟨rfl, hv8⟩, hI6, hs7⟩
set_option maxRecDepth 20000 in
set_option maxHeartbeats 4000000 in
theorem Z90 {xs : Option (List Int32)} {d : Nat} {w : List sx_C} (hI : WI w) : sx_RP xs (d + 7) 90 0 (lv_args 0 [.ref 0]) [] w (fun r w2 => (r = some (.int (fi w 96 1)) ∧ tapC w2 = []) ∧ WI w2 ∧ Same 96 w w2) := by
  obtain ⟨n, hn, en⟩ := hI.t.1
  refine sx_RP.step (pc2 := 1) (ls2 := [(0, .ref 0)]) (st2 := [.ref 0]) (w3 := w) rfl rfl ?_
  refine sx_RP.gf (v := .ref 96) rfl rfl hI.1.o0 rfl rfl (show _ = 4 from rfl) ?_
  refine sx_RP.callp (as2 := [.ref 96]) (rest2 := []) rfl rfl (sx_inv_v2 (mi := 90) (k := 289) (st := [.ref 96]) (w := w) rfl rfl hI.1.o96 rfl rfl rfl) rfl rfl rfl (X91 hI en) (show _ = 7 from rfl) ?_
  rintro r4 w3 ⟨⟨rfl, hv1⟩, hI4, hs2⟩
  show sx_RP _ _ _ _ _ [.int (nI n)] _ _
  refine sx_RP.ret (r := (some (.int (nI n)))) rfl rfl ?_
  exact ⟨⟨by rw [← en], tapC_nil hv1⟩, hI4, hs2⟩
set_option maxRecDepth 20000 in
set_option maxHeartbeats 4000000 in
theorem F87 {xs : Option (List Int32)} {d : Nat} {w : List sx_C} (hI : WI w) (a1 a2 : Int32) : sx_RP xs (d + 7) 87 0 (lv_args 0 [.ref 0, .int a1, .int a2]) [] w (fun r w2 => WI w2 ∧ ∀ a, a ≠ 96 → a ≠ 97 → a ≠ 99 → w2[a]? = w[a]?) := by
  obtain ⟨n, h120, hn⟩ := hI.t.1
  refine sx_RP.step (pc2 := 1) (ls2 := [(0, .ref 0), (1, .int a1), (2, .int a2)]) (st2 := [.int a2]) (w3 := w) rfl rfl ?_
  refine sx_RP.step (pc2 := 2) (ls2 := [(0, .ref 0), (1, .int a1), (2, .int a2)]) (st2 := [.int 1, .int a2]) (w3 := w) rfl rfl ?_
  refine sx_RP.step (pc2 := 3) (ls2 := [(0, .ref 0), (1, .int a1), (2, .int a2)]) (st2 := [.int 4, .int 1, .int a2]) (w3 := w) rfl rfl ?_
  rcases in_cases a2 1 4 (m := 1) (n := 4) rfl rfl (by decide) (by decide) with q1 | ⟨x2, hx3, hx4, rfl⟩
  · refine sx_RP.cu (as := [.int a2, .int 1, .int 4]) (rest2 := []) (st3 := [.int 0]) rfl rfl rfl rfl rfl (cx_8n q1) rfl ?_
    refine sx_RP.step (pc2 := 9) (ls2 := [(0, .ref 0), (1, .int a1), (2, .int a2)]) (st2 := []) (w3 := w) rfl rfl ?_
    refine sx_RP.step (pc2 := 10) (ls2 := [(0, .ref 0), (1, .int a1), (2, .int a2)]) (st2 := [.ref 0]) (w3 := w) rfl rfl ?_
    refine sx_RP.step (pc2 := 12) (ls2 := [(0, .ref 0), (1, .int a1), (2, .int a2)]) (st2 := [.int (-1000000001), .ref 0]) (w3 := w) rfl rfl ?_
    refine sx_RP.callp (as2 := [.ref 0, .int (-1000000001)]) (rest2 := []) rfl rfl (sx_inv_v2 (mi := 87) (k := 78) (st := [.int (-1000000001), .ref 0]) (w := w) rfl rfl hI.1.o0 rfl rfl rfl) rfl rfl rfl (S9_0 hI) (show _ = 15 from rfl) ?_
    rintro r4 w7 ⟨rfl, hI8, hs6⟩
    show sx_RP _ _ _ _ _ [.int (-1000000001)] _ _
    refine sx_RP.ret (r := (some (.int (-1000000001)))) rfl rfl ?_
    exact ⟨hI8, fun a _ _ h => hs6 a h⟩
  · refine sx_RP.cu (as := [.int (nI x2), .int 1, .int 4]) (rest2 := []) (st3 := [.int 1]) rfl rfl rfl rfl rfl (cx_8p ⟨nI_le (a := 1) hx3 (by omega), nI_le (b := 4) hx4 (by decide)⟩) rfl ?_
    refine sx_RP.step (pc2 := 16) (ls2 := [(0, .ref 0), (1, .int a1), (2, .int (nI x2))]) (st2 := []) (w3 := w) rfl rfl ?_
    refine sx_RP.step (pc2 := 17) (ls2 := [(0, .ref 0), (1, .int a1), (2, .int (nI x2))]) (st2 := [.ref 0]) (w3 := w) rfl rfl ?_
    refine sx_RP.gf (v := .ref 96) rfl rfl hI.1.o0 rfl rfl (show _ = 20 from rfl) ?_
    refine sx_RP.step (pc2 := 21) (ls2 := [(0, .ref 0), (1, .int a1), (2, .int (nI x2))]) (st2 := [.int (nI x2), .ref 96]) (w3 := w) rfl rfl ?_
    rcases Decidable.em (n + x2 ≤ 120) with c9 | c9
    · refine sx_RP.cu (as := [.ref 96, .int (nI x2)]) (rest2 := []) (st3 := [.int 1]) rfl rfl (sx_inv_v2 (mi := 87) (k := 279) (st := [.int (nI x2), .ref 96]) (w := w) rfl rfl hI.1.o96 rfl rfl rfl) rfl rfl (p88y hI hn h120 (by omega) c9) rfl ?_
      refine sx_RP.step (pc2 := 34) (ls2 := [(0, .ref 0), (1, .int a1), (2, .int (nI x2))]) (st2 := []) (w3 := w) rfl rfl ?_
      refine sx_RP.step (pc2 := 35) (ls2 := [(0, .ref 0), (1, .int a1), (2, .int (nI x2))]) (st2 := [.int (nI x2)]) (w3 := w) rfl rfl ?_
      refine sx_RP.step (pc2 := 36) (ls2 := [(0, .ref 0), (1, .int a1), (2, .int (nI x2))]) (st2 := [.int 1, .int (nI x2)]) (w3 := w) rfl rfl ?_
      refine sx_RP.step (pc2 := 37) (ls2 := [(0, .ref 0), (1, .int a1), (2, .int (nI x2))]) (st2 := [.int ((nI x2) - 1)]) (w3 := w) rfl rfl ?_
      refine sx_RP.step (pc2 := 38) (ls2 := [(3, .int ((nI x2) - 1)), (0, .ref 0), (1, .int a1), (2, .int (nI x2))]) (st2 := []) (w3 := w) rfl rfl ?_
      have key : ∀ k, k = x2 → sx_RP xs (d + 7) 87 38 [(0, .ref 0), (1, .int a1), (2, .int (nI k)), (3, .int (nI k - 1))] [] w (fun r w2 => (r = some (.int (nI (n + k))) ∧ tapC w2 = tapC w ++ bytesOf a1 k) ∧ WI w2 ∧ Off w w2) := by
        intro k hk
        rcases (show k = 1 ∨ k = 2 ∨ k = 3 ∨ k = 4 by omega) with rfl | rfl | rfl | rfl
        · exact X87_0 hI (by omega) hn
        · exact X87_1 hI (by omega) hn
        · exact X87_2 hI (by omega) hn
        · exact X87_3 hI (by omega) hn
      exact sx_RP.ls (sx_lr.cons rfl (sx_lr.cons rfl (sx_lr.cons rfl (sx_lr.cons rfl sx_lr.nil)))) ((key x2 rfl).mono (fun r w2 q => ⟨q.2.1, fun a h1 h2 _ => q.2.2 a h1 h2⟩))
    · refine sx_RP.cu (as := [.ref 96, .int (nI x2)]) (rest2 := []) (st3 := [.int 0]) rfl rfl (sx_inv_v2 (mi := 87) (k := 279) (st := [.int (nI x2), .ref 96]) (w := w) rfl rfl hI.1.o96 rfl rfl rfl) rfl rfl (p88n hI hn h120 (by omega) c9) rfl ?_
      refine sx_RP.step (pc2 := 27) (ls2 := [(0, .ref 0), (1, .int a1), (2, .int (nI x2))]) (st2 := []) (w3 := w) rfl rfl ?_
      refine sx_RP.step (pc2 := 28) (ls2 := [(0, .ref 0), (1, .int a1), (2, .int (nI x2))]) (st2 := [.ref 0]) (w3 := w) rfl rfl ?_
      refine sx_RP.step (pc2 := 30) (ls2 := [(0, .ref 0), (1, .int a1), (2, .int (nI x2))]) (st2 := [.int (-1000000002), .ref 0]) (w3 := w) rfl rfl ?_
      refine sx_RP.callp (as2 := [.ref 0, .int (-1000000002)]) (rest2 := []) rfl rfl (sx_inv_v2 (mi := 87) (k := 78) (st := [.int (-1000000002), .ref 0]) (w := w) rfl rfl hI.1.o0 rfl rfl rfl) rfl rfl rfl (S9_1 hI) (show _ = 33 from rfl) ?_
      rintro r4 w11 ⟨rfl, hI12, hs10⟩
      show sx_RP _ _ _ _ _ [.int (-1000000002)] _ _
      refine sx_RP.ret (r := (some (.int (-1000000002)))) rfl rfl ?_
      exact ⟨hI12, fun a _ _ h => hs10 a h⟩
set_option maxRecDepth 20000 in
set_option maxHeartbeats 4000000 in
theorem Y240 {xs : Option (List Int32)} {d : Nat} {w : List sx_C} (hI : WI w) : sx_RP xs (d + 7) 240 0 (lv_args 0 [.ref 111]) [] w (fun r w2 => (r = some (.int 1) ∧ fi w2 111 4 = 1 ∧ ia w2 113 = ia w 112 ∧ fi w2 111 11 = fi w 111 11) ∧ WI w2 ∧ ∀ a, a ≠ 111 → a ≠ 113 → w2[a]? = w[a]?) := by
  refine sx_RP.step (pc2 := 1) (ls2 := [(0, .ref 111)]) (st2 := [.ref 111]) (w3 := w) rfl rfl ?_
  refine sx_RP.gf (v := .ref 112) rfl rfl hI.1.o111 rfl rfl (show _ = 4 from rfl) ?_
  refine sx_RP.step (pc2 := 5) (ls2 := [(0, .ref 111)]) (st2 := [.ref 111, .ref 112]) (w3 := w) rfl rfl ?_
  refine sx_RP.gf (v := .ref 113) rfl rfl hI.1.o111 rfl rfl (show _ = 8 from rfl) ?_
  refine sx_RP.callp (as2 := [.ref 112, .ref 113]) (rest2 := []) rfl rfl rfl rfl rfl rfl (K175 hI (a := 112) (b := 113) (by decide) (by decide) (by decide)) (show _ = 11 from rfl) ?_
  rintro r4 w2 ⟨rfl, hI3, hl1⟩
  show sx_RP _ _ _ _ _ [] _ _
  refine sx_RP.step (pc2 := 12) (ls2 := [(0, .ref 111)]) (st2 := [.ref 111]) (w3 := w2) rfl rfl ?_
  refine sx_RP.step (pc2 := 13) (ls2 := [(0, .ref 111)]) (st2 := [.int 1, .ref 111]) (w3 := w2) rfl rfl ?_
  refine sx_RP.xJ (k := 4) hI3 rfl rfl (by decide) rfl ⟨1, by decide, rfl⟩ (show _ = 16 from rfl) (fun w4 hI5 hs6 hv7 hr8 => ?_)
  refine sx_RP.step (pc2 := 17) (ls2 := [(0, .ref 111)]) (st2 := [.int 1]) (w3 := w4) rfl rfl ?_
  refine sx_RP.ret (r := (some (.int 1))) rfl rfl ?_
  exact ⟨⟨rfl, hv7, (ia_of (hs6 113 (by decide))).trans hl1.2, (hr8 11 (by decide)).trans (fi_same 11 (hl1.1 111 (by decide)))⟩, hI5, fun a h1 h2 => (hs6 a h1).trans (hl1.1 a h2)⟩
set_option maxRecDepth 20000 in
set_option maxHeartbeats 4000000 in
theorem Y241_0 {xs : Option (List Int32)} {d : Nat} {w : List sx_C} (hI : WI w) (ek : fi w 111 4 = 0) : sx_RP xs (d + 7) 241 0 (lv_args 0 [.ref 111]) [] w (fun r w2 => r = some (.int (-1000000004)) ∧ WI w2 ∧ Same 116 w w2) := by
  refine sx_RP.step (pc2 := 1) (ls2 := [(0, .ref 111)]) (st2 := [.ref 111]) (w3 := w) rfl rfl ?_
  refine sx_RP.gf (v := .int (fi w 111 4)) rfl rfl hI.1.o111 rfl rfl (show _ = 4 from rfl) ?_
  rw [ek]
  refine sx_RP.step (pc2 := 7) (ls2 := [(0, .ref 111)]) (st2 := []) (w3 := w) rfl rfl ?_
  refine sx_RP.step (pc2 := 8) (ls2 := [(0, .ref 111)]) (st2 := [.ref 111]) (w3 := w) rfl rfl ?_
  refine sx_RP.step (pc2 := 9) (ls2 := [(0, .ref 111)]) (st2 := [.int 3, .ref 111]) (w3 := w) rfl rfl ?_
  refine sx_RP.callp (as2 := [.ref 111, .int 3]) (rest2 := []) rfl rfl (sx_inv_v2 (mi := 241) (k := 70) (st := [.int 3, .ref 111]) (w := w) rfl rfl hI.1.o111 rfl rfl rfl) rfl rfl rfl (S133_3 hI) (show _ = 12 from rfl) ?_
  rintro r4 w2 ⟨rfl, hI3, hs1⟩
  show sx_RP _ _ _ _ _ [.int (-1000000004)] _ _
  refine sx_RP.ret (r := (some (.int (-1000000004)))) rfl rfl ?_
  exact ⟨rfl, hI3, hs1⟩
set_option maxRecDepth 20000 in
set_option maxHeartbeats 4000000 in
theorem Y241_1 {xs : Option (List Int32)} {d : Nat} {w : List sx_C} (hI : WI w) (ek : fi w 111 4 = 1) : sx_RP xs (d + 7) 241 0 (lv_args 0 [.ref 111]) [] w (fun r w2 => (r = some (.int ((ia w 113).getD 1 0)) ∧ ia w2 112 = ia w 113) ∧ WI w2 ∧ Same 112 w w2) := by
  refine sx_RP.step (pc2 := 1) (ls2 := [(0, .ref 111)]) (st2 := [.ref 111]) (w3 := w) rfl rfl ?_
  refine sx_RP.gf (v := .int (fi w 111 4)) rfl rfl hI.1.o111 rfl rfl (show _ = 4 from rfl) ?_
  rw [ek]
  refine sx_RP.step (pc2 := 13) (ls2 := [(0, .ref 111)]) (st2 := []) (w3 := w) rfl rfl ?_
  refine sx_RP.step (pc2 := 14) (ls2 := [(0, .ref 111)]) (st2 := [.ref 111]) (w3 := w) rfl rfl ?_
  refine sx_RP.gf (v := .ref 113) rfl rfl hI.1.o111 rfl rfl (show _ = 17 from rfl) ?_
  refine sx_RP.step (pc2 := 18) (ls2 := [(0, .ref 111)]) (st2 := [.ref 111, .ref 113]) (w3 := w) rfl rfl ?_
  refine sx_RP.gf (v := .ref 112) rfl rfl hI.1.o111 rfl rfl (show _ = 21 from rfl) ?_
  refine sx_RP.callp (as2 := [.ref 113, .ref 112]) (rest2 := []) rfl rfl rfl rfl rfl rfl (K175 hI (a := 113) (b := 112) (by decide) (by decide) (by decide)) (show _ = 24 from rfl) ?_
  rintro r4 w2 ⟨rfl, hI3, hl1⟩
  show sx_RP _ _ _ _ _ [] _ _
  refine sx_RP.step (pc2 := 25) (ls2 := [(0, .ref 111)]) (st2 := [.ref 111]) (w3 := w2) rfl rfl ?_
  refine sx_RP.gf (v := .ref 112) rfl rfl hI3.1.o111 rfl rfl (show _ = 28 from rfl) ?_
  refine sx_RP.step (pc2 := 29) (ls2 := [(0, .ref 111)]) (st2 := [.int 1, .ref 112]) (w3 := w2) rfl rfl ?_
  refine sx_RP.ild (c := 1) rfl hI3.1.a112.1 hI3.1.a112.2 (sx_in_nI (show 1 < 172 by omega) (by decide)) (show (nI 1).toNatClampNeg = 1 from nI_clamp (by omega)) (show _ = 30 from rfl) ?_
  obtain ⟨x4, hx5, ex6⟩ : inR ((ia w2 112).getD 1 0) 10 := (hI3.s (1) (by omega)).1 rfl
  rw [ex6]
  refine sx_RP.ret (r := (some (.int (nI x4)))) rfl rfl ?_
  exact ⟨⟨by rw [← ex6, hl1.2], hl1.2⟩, hI3, hl1.1⟩
set_option maxRecDepth 20000 in
set_option maxHeartbeats 4000000 in
theorem Y242 {xs : Option (List Int32)} {d : Nat} {w : List sx_C} (hI : WI w) : sx_RP xs (d + 7) 242 0 (lv_args 0 [.ref 111]) [] w (fun r w2 => (r = some (.int (fi w 111 4)) ∧ fi w2 111 4 = 0 ∧ fi w2 111 11 = fi w 111 11) ∧ WI w2 ∧ Same 111 w w2) := by
  rcases kept_01 hI with ek | ek
  · refine sx_RP.step (pc2 := 1) (ls2 := [(0, .ref 111)]) (st2 := [.ref 111]) (w3 := w) rfl rfl ?_
    refine sx_RP.gf (v := .int (fi w 111 4)) rfl rfl hI.1.o111 rfl rfl (show _ = 4 from rfl) ?_
    rw [ek]
    refine sx_RP.step (pc2 := 11) (ls2 := [(0, .ref 111)]) (st2 := []) (w3 := w) rfl rfl ?_
    refine sx_RP.step (pc2 := 12) (ls2 := [(0, .ref 111)]) (st2 := [.int 0]) (w3 := w) rfl rfl ?_
    refine sx_RP.step (pc2 := 13) (ls2 := [(1, .int 0), (0, .ref 111)]) (st2 := []) (w3 := w) rfl rfl ?_
    refine sx_RP.step (pc2 := 14) (ls2 := [(1, .int 0), (0, .ref 111)]) (st2 := [.ref 111]) (w3 := w) rfl rfl ?_
    refine sx_RP.step (pc2 := 15) (ls2 := [(1, .int 0), (0, .ref 111)]) (st2 := [.int 0, .ref 111]) (w3 := w) rfl rfl ?_
    refine sx_RP.xJ (k := 4) hI rfl rfl (by decide) rfl ⟨0, by decide, rfl⟩ (show _ = 18 from rfl) (fun w1 hI2 hs3 hv4 hr5 => ?_)
    refine sx_RP.step (pc2 := 19) (ls2 := [(1, .int 0), (0, .ref 111)]) (st2 := [.int 0]) (w3 := w1) rfl rfl ?_
    refine sx_RP.ret (r := (some (.int 0))) rfl rfl ?_
    exact ⟨⟨rfl, hv4, hr5 11 (by decide)⟩, hI2, hs3⟩
  · refine sx_RP.step (pc2 := 1) (ls2 := [(0, .ref 111)]) (st2 := [.ref 111]) (w3 := w) rfl rfl ?_
    refine sx_RP.gf (v := .int (fi w 111 4)) rfl rfl hI.1.o111 rfl rfl (show _ = 4 from rfl) ?_
    rw [ek]
    refine sx_RP.step (pc2 := 7) (ls2 := [(0, .ref 111)]) (st2 := []) (w3 := w) rfl rfl ?_
    refine sx_RP.step (pc2 := 8) (ls2 := [(0, .ref 111)]) (st2 := [.int 1]) (w3 := w) rfl rfl ?_
    refine sx_RP.step (pc2 := 12) (ls2 := [(0, .ref 111)]) (st2 := [.int 1]) (w3 := w) rfl rfl ?_
    refine sx_RP.step (pc2 := 13) (ls2 := [(1, .int 1), (0, .ref 111)]) (st2 := []) (w3 := w) rfl rfl ?_
    refine sx_RP.step (pc2 := 14) (ls2 := [(1, .int 1), (0, .ref 111)]) (st2 := [.ref 111]) (w3 := w) rfl rfl ?_
    refine sx_RP.step (pc2 := 15) (ls2 := [(1, .int 1), (0, .ref 111)]) (st2 := [.int 0, .ref 111]) (w3 := w) rfl rfl ?_
    refine sx_RP.xJ (k := 4) hI rfl rfl (by decide) rfl ⟨0, by decide, rfl⟩ (show _ = 18 from rfl) (fun w6 hI7 hs8 hv9 hr10 => ?_)
    refine sx_RP.step (pc2 := 19) (ls2 := [(1, .int 1), (0, .ref 111)]) (st2 := [.int 1]) (w3 := w6) rfl rfl ?_
    refine sx_RP.ret (r := (some (.int 1))) rfl rfl ?_
    exact ⟨⟨rfl, hv9, hr10 11 (by decide)⟩, hI7, hs8⟩
set_option maxRecDepth 20000 in
set_option maxHeartbeats 4000000 in
theorem Y209 {xs : Option (List Int32)} {d : Nat} {w : List sx_C} (hI : WI w) : sx_RP xs (d + 7) 209 0 (lv_args 0 [.ref 111]) [] w (fun r w2 => (r = some (.int (fi w 111 11)) ∧ tapM w2 = [] ∧ fi w2 111 4 = fi w 111 4) ∧ WI w2 ∧ Same 111 w w2) := by
  obtain ⟨n, hn, en⟩ := hI.m.2.1
  refine sx_RP.step (pc2 := 1) (ls2 := [(0, .ref 111)]) (st2 := [.ref 111]) (w3 := w) rfl rfl ?_
  refine sx_RP.gf (v := .int (fi w 111 11)) rfl rfl hI.1.o111 rfl rfl (show _ = 4 from rfl) ?_
  rw [en]
  refine sx_RP.step (pc2 := 5) (ls2 := [(1, .int (nI n)), (0, .ref 111)]) (st2 := []) (w3 := w) rfl rfl ?_
  refine sx_RP.step (pc2 := 6) (ls2 := [(1, .int (nI n)), (0, .ref 111)]) (st2 := [.ref 111]) (w3 := w) rfl rfl ?_
  refine sx_RP.step (pc2 := 7) (ls2 := [(1, .int (nI n)), (0, .ref 111)]) (st2 := [.int 0, .ref 111]) (w3 := w) rfl rfl ?_
  refine sx_RP.xJ (k := 11) hI rfl rfl (by decide) rfl ⟨0, by decide, rfl⟩ (show _ = 10 from rfl) (fun w1 hI2 hs3 hv4 hr5 => ?_)
  refine sx_RP.step (pc2 := 11) (ls2 := [(1, .int (nI n)), (0, .ref 111)]) (st2 := [.int (nI n)]) (w3 := w1) rfl rfl ?_
  refine sx_RP.ret (r := (some (.int (nI n)))) rfl rfl ?_
  exact ⟨⟨by rw [← en], tapM_nil hv4, hr5 4 (by decide)⟩, hI2, hs3⟩
set_option maxRecDepth 20000 in
set_option maxHeartbeats 4000000 in
theorem F208 {xs : Option (List Int32)} {d : Nat} {w : List sx_C} (hI : WI w) (a1 a2 : Int32) : sx_RP xs (d + 7) 208 0 (lv_args 0 [.ref 111, .int a1, .int a2]) [] w (fun r w2 => WI w2 ∧ fi w2 111 4 = fi w 111 4 ∧ ∀ a, a ≠ 111 → a ≠ 121 → a ≠ 116 → w2[a]? = w[a]?) := by
  obtain ⟨n, h120, hn⟩ := hI.m.2.1
  refine sx_RP.step (pc2 := 1) (ls2 := [(0, .ref 111), (1, .int a1), (2, .int a2)]) (st2 := [.int a2]) (w3 := w) rfl rfl ?_
  refine sx_RP.step (pc2 := 2) (ls2 := [(0, .ref 111), (1, .int a1), (2, .int a2)]) (st2 := [.int 1, .int a2]) (w3 := w) rfl rfl ?_
  refine sx_RP.step (pc2 := 3) (ls2 := [(0, .ref 111), (1, .int a1), (2, .int a2)]) (st2 := [.int 4, .int 1, .int a2]) (w3 := w) rfl rfl ?_
  rcases in_cases a2 1 4 (m := 1) (n := 4) rfl rfl (by decide) (by decide) with q1 | ⟨x2, hx3, hx4, rfl⟩
  · refine sx_RP.cu (as := [.int a2, .int 1, .int 4]) (rest2 := []) (st3 := [.int 0]) rfl rfl rfl rfl rfl (cx_132o q1) rfl ?_
    refine sx_RP.step (pc2 := 9) (ls2 := [(0, .ref 111), (1, .int a1), (2, .int a2)]) (st2 := []) (w3 := w) rfl rfl ?_
    refine sx_RP.step (pc2 := 10) (ls2 := [(0, .ref 111), (1, .int a1), (2, .int a2)]) (st2 := [.ref 111]) (w3 := w) rfl rfl ?_
    refine sx_RP.step (pc2 := 11) (ls2 := [(0, .ref 111), (1, .int a1), (2, .int a2)]) (st2 := [.int 0, .ref 111]) (w3 := w) rfl rfl ?_
    refine sx_RP.callp (as2 := [.ref 111, .int 0]) (rest2 := []) rfl rfl (sx_inv_v2 (mi := 208) (k := 70) (st := [.int 0, .ref 111]) (w := w) rfl rfl hI.1.o111 rfl rfl rfl) rfl rfl rfl (S133_0 hI) (show _ = 14 from rfl) ?_
    rintro r4 w7 ⟨rfl, hI8, hs6⟩
    show sx_RP _ _ _ _ _ [.int (-1000000001)] _ _
    refine sx_RP.ret (r := (some (.int (-1000000001)))) rfl rfl ?_
    exact ⟨hI8, fi_same 4 (hs6 111 (by decide)), fun a _ _ h => hs6 a h⟩
  · refine sx_RP.cu (as := [.int (nI x2), .int 1, .int 4]) (rest2 := []) (st3 := [.int 1]) rfl rfl rfl rfl rfl (cx_132p ⟨nI_le (a := 1) hx3 (by omega), nI_le (b := 4) hx4 (by decide)⟩) rfl ?_
    refine sx_RP.step (pc2 := 15) (ls2 := [(0, .ref 111), (1, .int a1), (2, .int (nI x2))]) (st2 := []) (w3 := w) rfl rfl ?_
    refine sx_RP.step (pc2 := 16) (ls2 := [(0, .ref 111), (1, .int a1), (2, .int (nI x2))]) (st2 := [.ref 111]) (w3 := w) rfl rfl ?_
    refine sx_RP.gf (v := .int (fi w 111 11)) rfl rfl hI.1.o111 rfl rfl (show _ = 19 from rfl) ?_
    rw [hn]
    refine sx_RP.step (pc2 := 20) (ls2 := [(0, .ref 111), (1, .int a1), (2, .int (nI x2))]) (st2 := [.int (nI x2), .int (nI n)]) (w3 := w) rfl rfl ?_
    refine sx_RP.step (pc2 := 21) (ls2 := [(0, .ref 111), (1, .int a1), (2, .int (nI x2))]) (st2 := [.int ((nI n) + (nI x2))]) (w3 := w) rfl rfl ?_
    rw [show ((nI n) + (nI x2) : Int32) = nI (n + x2) from nI_add n x2]
    refine sx_RP.step (pc2 := 23) (ls2 := [(0, .ref 111), (1, .int a1), (2, .int (nI x2))]) (st2 := [.int 120, .int (nI (n + x2))]) (w3 := w) rfl rfl ?_
    refine sx_RP.br (p1 := 32) (l1 := [(0, .ref 111), (1, .int a1), (2, .int (nI x2))]) (s1 := []) (v1 := w) (p2 := 26) (l2 := [(0, .ref 111), (1, .int a1), (2, .int (nI x2))]) (s2 := []) (v2 := w) rfl rfl (fun q9 => ?_) (fun q9 => ?_)
    · replace q9 := of_decide_eq_true q9
      replace q9 := (nI_leI (a := (n + x2)) (b := 120) (by omega) (by omega)).mp q9
      refine sx_RP.step (pc2 := 33) (ls2 := [(0, .ref 111), (1, .int a1), (2, .int (nI x2))]) (st2 := [.int (nI x2)]) (w3 := w) rfl rfl ?_
      refine sx_RP.step (pc2 := 34) (ls2 := [(0, .ref 111), (1, .int a1), (2, .int (nI x2))]) (st2 := [.int 1, .int (nI x2)]) (w3 := w) rfl rfl ?_
      refine sx_RP.step (pc2 := 35) (ls2 := [(0, .ref 111), (1, .int a1), (2, .int (nI x2))]) (st2 := [.int ((nI x2) - 1)]) (w3 := w) rfl rfl ?_
      refine sx_RP.step (pc2 := 36) (ls2 := [(3, .int ((nI x2) - 1)), (0, .ref 111), (1, .int a1), (2, .int (nI x2))]) (st2 := []) (w3 := w) rfl rfl ?_
      exact sx_RP.ls (sx_lr.cons rfl (sx_lr.cons rfl (sx_lr.cons rfl sx_lr.nil))) ((X208L a1 x2 n w q9 hn hI).mono (fun r w2 q => ⟨q.2.1, q.1.2.2, fun a h1 h2 _ => q.2.2 a h1 h2⟩))
    · replace q9 := of_decide_eq_false q9
      replace q9 := mt (nI_leI (a := (n + x2)) (b := 120) (by omega) (by omega)).mpr q9
      refine sx_RP.step (pc2 := 27) (ls2 := [(0, .ref 111), (1, .int a1), (2, .int (nI x2))]) (st2 := [.ref 111]) (w3 := w) rfl rfl ?_
      refine sx_RP.step (pc2 := 28) (ls2 := [(0, .ref 111), (1, .int a1), (2, .int (nI x2))]) (st2 := [.int 1, .ref 111]) (w3 := w) rfl rfl ?_
      refine sx_RP.callp (as2 := [.ref 111, .int 1]) (rest2 := []) rfl rfl (sx_inv_v2 (mi := 208) (k := 70) (st := [.int 1, .ref 111]) (w := w) rfl rfl hI.1.o111 rfl rfl rfl) rfl rfl rfl (S133_1 hI) (show _ = 31 from rfl) ?_
      rintro r4 w11 ⟨rfl, hI12, hs10⟩
      show sx_RP _ _ _ _ _ [.int (-1000000002)] _ _
      refine sx_RP.ret (r := (some (.int (-1000000002)))) rfl rfl ?_
      exact ⟨hI12, fi_same 4 (hs10 111 (by decide)), fun a _ _ h => hs10 a h⟩
end
-- 89y13.sheetsS.lean.txt
section
def FCs (w : List sx_C) : Nat → Int32 × Int32 := fun s => if s < 4 then (fi w (103 + 2 * s) 1, fi w (103 + 2 * s) 2) else (0, 0)
def FMs (w : List sx_C) : Nat → Int32 × Int32 := fun s => if s < 4 then ((ia w 122).getD s 0, (ia w 123).getD s 0) else (0, 0)
def shAns (a1 a2 a3 : Int32) : Int32 := if (0 ≤ a1 ∧ a1 ≤ 3) ∧ (a2 = 0 ∨ a2 = 8 ∨ a2 = 16 ∨ a2 = 64) then (if 0 ≤ a3 then (if a3 ≤ 40 then (if a2 = 0 then 0 else a3) else -1000000001) else -1000000007) else -1000000001
def shF (f : Nat → Int32 × Int32) (a1 a2 a3 : Int32) : Nat → Int32 × Int32 := fun s => if ((0 ≤ a1 ∧ a1 ≤ 3) ∧ (a2 = 0 ∨ a2 = 8 ∨ a2 = 16 ∨ a2 = 64)) ∧ (0 ≤ a3 ∧ a3 ≤ 40) ∧ s < 4 ∧ nI s = a1 then (a2, if a2 = 0 then 0 else a3) else f s
theorem sh_1 {a1 a2 a3 : Int32} (h : ¬ ((0 ≤ a1 ∧ a1 ≤ 3) ∧ (a2 = 0 ∨ a2 = 8 ∨ a2 = 16 ∨ a2 = 64))) : shAns a1 a2 a3 = -1000000001 ∧ ∀ f, shF f a1 a2 a3 = f := by
  refine ⟨if_neg h, fun f => funext fun s => if_neg (fun z => h z.1)⟩
theorem sh_2 {a1 a2 a3 : Int32} (h : (0 ≤ a1 ∧ a1 ≤ 3) ∧ (a2 = 0 ∨ a2 = 8 ∨ a2 = 16 ∨ a2 = 64)) (h3 : ¬ 0 ≤ a3) : shAns a1 a2 a3 = -1000000007 ∧ ∀ f, shF f a1 a2 a3 = f := by
  refine ⟨?_, fun f => funext fun s => if_neg (fun z => h3 z.2.1.1)⟩
  unfold shAns
  rw [if_pos h, if_neg h3]
theorem sh_3 {a1 a2 a3 : Int32} (h : (0 ≤ a1 ∧ a1 ≤ 3) ∧ (a2 = 0 ∨ a2 = 8 ∨ a2 = 16 ∨ a2 = 64)) (h3 : 0 ≤ a3) (h4 : ¬ a3 ≤ 40) : shAns a1 a2 a3 = -1000000001 ∧ ∀ f, shF f a1 a2 a3 = f := by
  refine ⟨?_, fun f => funext fun s => if_neg (fun z => h4 z.2.1.2)⟩
  unfold shAns
  rw [if_pos h, if_pos h3, if_neg h4]
theorem sh_4 {a1 a2 a3 : Int32} (h : (0 ≤ a1 ∧ a1 ≤ 3) ∧ (a2 = 0 ∨ a2 = 8 ∨ a2 = 16 ∨ a2 = 64)) (h3 : 0 ≤ a3) (h4 : a3 ≤ 40) : shAns a1 a2 a3 = (if a2 = 0 then 0 else a3) ∧ ∀ f s, s < 4 → shF f a1 a2 a3 s = if nI s = a1 then (a2, if a2 = 0 then 0 else a3) else f s := by
  refine ⟨?_, fun f s hs => ?_⟩
  · unfold shAns
    rw [if_pos h, if_pos h3, if_pos h4]
  · unfold shF
    by_cases e : nI s = a1
    · rw [if_pos ⟨h, ⟨h3, h4⟩, hs, e⟩, if_pos e]
    · rw [if_neg (fun z => e z.2.2.2), if_neg e]
theorem shF_out {f : Nat → Int32 × Int32} {a1 a2 a3 : Int32} {s : Nat} (hs : ¬ s < 4) : shF f a1 a2 a3 s = f s := if_neg (fun z => hs z.2.2.1)
theorem keepS {w w2 : List sx_C} {s : Nat} (hs : s < 4) (hI : WI w) (hI2 : WI w2) (h : (w2[103 + 2 * s]?).map (kp (103 + 2 * s)) = (w[103 + 2 * s]?).map (kp (103 + 2 * s))) : fi w2 (103 + 2 * s) 1 = fi w (103 + 2 * s) 1 ∧ fi w2 (103 + 2 * s) 2 = fi w (103 + 2 * s) 2 := by
  rcases (show s = 0 ∨ s = 1 ∨ s = 2 ∨ s = 3 by omega) with rfl | rfl | rfl | rfl
  · have e := kp_eq h (hI.1.oS (s := 0) (by decide)) (hI2.1.oS (s := 0) (by decide))
    have e1 := (Prod.mk.inj e).1
    exact ⟨Value.int.inj (List.cons.inj e1).1, Value.int.inj (List.cons.inj (List.cons.inj e1).2).1⟩
  · have e := kp_eq h (hI.1.oS (s := 1) (by decide)) (hI2.1.oS (s := 1) (by decide))
    have e1 := (Prod.mk.inj e).1
    exact ⟨Value.int.inj (List.cons.inj e1).1, Value.int.inj (List.cons.inj (List.cons.inj e1).2).1⟩
  · have e := kp_eq h (hI.1.oS (s := 2) (by decide)) (hI2.1.oS (s := 2) (by decide))
    have e1 := (Prod.mk.inj e).1
    exact ⟨Value.int.inj (List.cons.inj e1).1, Value.int.inj (List.cons.inj (List.cons.inj e1).2).1⟩
  · have e := kp_eq h (hI.1.oS (s := 3) (by decide)) (hI2.1.oS (s := 3) (by decide))
    have e1 := (Prod.mk.inj e).1
    exact ⟨Value.int.inj (List.cons.inj e1).1, Value.int.inj (List.cons.inj (List.cons.inj e1).2).1⟩
theorem FCs_ec {w w2 : List sx_C} (hI : WI w) (hI2 : WI w2) (h : EC w w2) : FCs w2 = FCs w := by
  funext s
  unfold FCs
  by_cases hs : s < 4
  · rw [if_pos hs, if_pos hs, (keepS hs hI hI2 ((h _).1 (by omega))).1, (keepS hs hI hI2 ((h _).1 (by omega))).2]
  · rw [if_neg hs, if_neg hs]
theorem FMs_eq {w w2 : List sx_C} (h1 : w2[122]? = w[122]?) (h2 : w2[123]? = w[123]?) : FMs w2 = FMs w := by
  unfold FMs
  rw [ia_of h1, ia_of h2]
theorem kpI {w w2 : List sx_C} {a : Nat} (ha : a = 122 ∨ a = 123) (hI : WI w) (hI2 : WI w2) (h : (w2[a]?).map (kp a) = (w[a]?).map (kp a)) : ia w2 a = ia w a := by
  rcases ha with rfl | rfl
  · exact (Prod.mk.inj (kp_eq h hI.1.a122.1 hI2.1.a122.1)).2
  · exact (Prod.mk.inj (kp_eq h hI.1.a123.1 hI2.1.a123.1)).2
theorem FMs_em {w w2 : List sx_C} (hI : WI w) (hI2 : WI w2) (h : EM w w2) : FMs w2 = FMs w := by
  unfold FMs
  rw [kpI (Or.inl rfl) hI hI2 ((h 122).2 (by decide)), kpI (Or.inr rfl) hI hI2 ((h 123).2 (by decide))]
theorem FCs_put {w w2 : List sx_C} {x : Nat} {b n : Int32} (hx : x < 4) (hI : WI w) (hI2 : WI w2) (hE : EX (103 + 2 * x) w w2) (h1 : fi w2 (103 + 2 * x) 1 = b) (h2 : fi w2 (103 + 2 * x) 2 = n) (g : Nat → Int32 × Int32) (hg : ∀ s, s < 4 → g s = if nI s = nI x then (b, n) else FCs w s) (ho : ∀ s, ¬ s < 4 → g s = FCs w s) : FCs w2 = g := by
  funext s
  by_cases hs : s < 4
  · rw [hg s hs]
    unfold FCs
    rw [if_pos hs]
    by_cases e : s = x
    · subst e
      rw [if_pos rfl, h1, h2]
    · rw [if_neg (fun z => e ((nI_eq (by omega) (by omega)).mp z)), if_pos hs, (keepS hs hI hI2 ((hE _ (by omega)).1 (by omega))).1, (keepS hs hI hI2 ((hE _ (by omega)).1 (by omega))).2]
  · rw [ho s hs]
    unfold FCs
    rw [if_neg hs, if_neg hs]
theorem FMs_put {w w2 : List sx_C} {x : Nat} {b n : Int32} (hx : x < 4) (hI : WI w) (h1 : ia w2 122 = (ia w 122).set x b) (h2 : ia w2 123 = (ia w 123).set x n) (g : Nat → Int32 × Int32) (hg : ∀ s, s < 4 → g s = if nI s = nI x then (b, n) else FMs w s) (ho : ∀ s, ¬ s < 4 → g s = FMs w s) : FMs w2 = g := by
  funext s
  by_cases hs : s < 4
  · rw [hg s hs]
    unfold FMs
    rw [if_pos hs, h1, h2, gd_set (by rw [hI.1.a122.2]; exact hx), gd_set (by rw [hI.1.a123.2]; exact hx)]
    by_cases e : s = x
    · subst e
      rw [if_pos rfl, if_pos rfl, if_pos rfl]
    · rw [if_neg e, if_neg e, if_neg (fun z => e ((nI_eq (by omega) (by omega)).mp z)), if_pos hs]
  · rw [ho s hs]
    unfold FMs
    rw [if_neg hs, if_neg hs]
section SXSH
variable {xs : Option (List Int32)} {d mi pc pc2 idx p : Nat} {ls : sx_L} {r : List Value} {w w0 : List sx_C} {P : Option Value → List sx_C → Prop}
theorem sx_RP.mBt {k : Nat} {x : Int32} (hI : WI w) (hi : sx_ins mi pc = some (.iastore, 1)) (hk : k < 4) (hp : pc + 1 = pc2) (kk : ∀ w2, WI w2 → (∀ a, a ≠ 122 → w2[a]? = w[a]?) → ia w2 122 = (ia w 122).set k x → sx_RP xs d mi pc2 ls r w2 P) : sx_RP xs d mi pc ls (.int x :: .int (nI k) :: .ref 122 :: r) w P := by
  have hw := hI.1.a122
  refine sx_RP.ist hi hw.1 hw.2 (sx_in_nI hk (by decide)) rfl rfl hp (kk _ (hI.set hw.1 sh_set (cOK.free (by omega))) (fun a ha => List.getElem?_set_ne (Ne.symm ha)) ?_)
  unfold ia
  rw [sx_gs2 hw.1, nI_clamp (by omega)]
theorem sx_RP.mSt {k : Nat} {x : Int32} (hI : WI w) (hi : sx_ins mi pc = some (.iastore, 1)) (hk : k < 4) (hx : inR x 40) (hp : pc + 1 = pc2) (kk : ∀ w2, WI w2 → (∀ a, a ≠ 123 → w2[a]? = w[a]?) → ia w2 123 = (ia w 123).set k x → sx_RP xs d mi pc2 ls r w2 P) : sx_RP xs d mi pc ls (.int x :: .int (nI k) :: .ref 123 :: r) w P := by
  have hw := hI.1.a123
  refine sx_RP.ist hi hw.1 hw.2 (sx_in_nI hk (by decide)) rfl rfl hp (kk _ (hI.set hw.1 sh_set (cOK.l (fun j hj => ?_))) (fun a ha => List.getElem?_set_ne (Ne.symm ha)) ?_)
  · rw [nI_clamp (by omega)]
    show inR (((ia w 123).set k x).getD j 0) 40
    rw [gd_set (by rw [hw.2]; exact hk)]
    split
    · exact hx
    · exact hI.l hj
  · unfold ia
    rw [sx_gs2 hw.1, nI_clamp (by omega)]
end SXSH
set_option maxRecDepth 20000 in
set_option maxHeartbeats 4000000 in
theorem p113y {xs : Option (List Int32)} {d : Nat} {w : List sx_C} {x : Int32} (hh : x = 8 ∨ x = 16 ∨ x = 64) : sx_RU xs d 113 0 (lv_args 0 [.int x]) [] w (some (.int 1)) w := by
  have h : sx_RP xs d 113 0 (lv_args 0 [.int x]) [] w (fun r w2 => r = some (.int 1) ∧ w2 = w) := by
    refine sx_RP.step (pc2 := 1) (ls2 := [(0, .int x)]) (st2 := [.int x]) (w3 := w) rfl rfl ?_
    refine sx_RP.step (pc2 := 3) (ls2 := [(0, .int x)]) (st2 := [.int 8, .int x]) (w3 := w) rfl rfl ?_
    refine sx_RP.br (p1 := 18) (l1 := [(0, .int x)]) (s1 := []) (v1 := w) (p2 := 6) (l2 := [(0, .int x)]) (s2 := []) (v2 := w) rfl rfl (fun q1 => ?_) (fun q1 => ?_)
    · replace q1 := of_decide_eq_true q1
      refine sx_RP.step (pc2 := 19) (ls2 := [(0, .int x)]) (st2 := [.int 1]) (w3 := w) rfl rfl ?_
      refine sx_RP.step (pc2 := 23) (ls2 := [(0, .int x)]) (st2 := [.int 1]) (w3 := w) rfl rfl ?_
      refine sx_RP.ret (r := (some (.int 1))) rfl rfl ?_
      first | exact ⟨rfl, rfl⟩ | (rcases hh with hh | hh | hh <;> contradiction) | exact absurd (by first | exact Or.inl ‹_› | exact Or.inr (Or.inl ‹_›) | exact Or.inr (Or.inr ‹_›)) hh
    · replace q1 := of_decide_eq_false q1
      refine sx_RP.step (pc2 := 7) (ls2 := [(0, .int x)]) (st2 := [.int x]) (w3 := w) rfl rfl ?_
      refine sx_RP.step (pc2 := 9) (ls2 := [(0, .int x)]) (st2 := [.int 16, .int x]) (w3 := w) rfl rfl ?_
      refine sx_RP.br (p1 := 18) (l1 := [(0, .int x)]) (s1 := []) (v1 := w) (p2 := 12) (l2 := [(0, .int x)]) (s2 := []) (v2 := w) rfl rfl (fun q2 => ?_) (fun q2 => ?_)
      · replace q2 := of_decide_eq_true q2
        refine sx_RP.step (pc2 := 19) (ls2 := [(0, .int x)]) (st2 := [.int 1]) (w3 := w) rfl rfl ?_
        refine sx_RP.step (pc2 := 23) (ls2 := [(0, .int x)]) (st2 := [.int 1]) (w3 := w) rfl rfl ?_
        refine sx_RP.ret (r := (some (.int 1))) rfl rfl ?_
        first | exact ⟨rfl, rfl⟩ | (rcases hh with hh | hh | hh <;> contradiction) | exact absurd (by first | exact Or.inl ‹_› | exact Or.inr (Or.inl ‹_›) | exact Or.inr (Or.inr ‹_›)) hh
      · replace q2 := of_decide_eq_false q2
        refine sx_RP.step (pc2 := 13) (ls2 := [(0, .int x)]) (st2 := [.int x]) (w3 := w) rfl rfl ?_
        refine sx_RP.step (pc2 := 15) (ls2 := [(0, .int x)]) (st2 := [.int 64, .int x]) (w3 := w) rfl rfl ?_
        refine sx_RP.br (p1 := 22) (l1 := [(0, .int x)]) (s1 := []) (v1 := w) (p2 := 18) (l2 := [(0, .int x)]) (s2 := []) (v2 := w) rfl rfl (fun q3 => ?_) (fun q3 => ?_)
        · replace q3 := of_decide_eq_true q3
          refine sx_RP.step (pc2 := 23) (ls2 := [(0, .int x)]) (st2 := [.int 0]) (w3 := w) rfl rfl ?_
          refine sx_RP.ret (r := (some (.int 0))) rfl rfl ?_
          first | exact ⟨rfl, rfl⟩ | (rcases hh with hh | hh | hh <;> contradiction) | exact absurd (by first | exact Or.inl ‹_› | exact Or.inr (Or.inl ‹_›) | exact Or.inr (Or.inr ‹_›)) hh
        · replace q3 := Decidable.not_not.mp (of_decide_eq_false q3)
          refine sx_RP.step (pc2 := 19) (ls2 := [(0, .int x)]) (st2 := [.int 1]) (w3 := w) rfl rfl ?_
          refine sx_RP.step (pc2 := 23) (ls2 := [(0, .int x)]) (st2 := [.int 1]) (w3 := w) rfl rfl ?_
          refine sx_RP.ret (r := (some (.int 1))) rfl rfl ?_
          first | exact ⟨rfl, rfl⟩ | (rcases hh with hh | hh | hh <;> contradiction) | exact absurd (by first | exact Or.inl ‹_› | exact Or.inr (Or.inl ‹_›) | exact Or.inr (Or.inr ‹_›)) hh
  obtain ⟨r, w2, h1, rfl, rfl⟩ := h
  exact h1
set_option maxRecDepth 20000 in
set_option maxHeartbeats 4000000 in
theorem p113n {xs : Option (List Int32)} {d : Nat} {w : List sx_C} {x : Int32} (hh : ¬ (x = 8 ∨ x = 16 ∨ x = 64)) : sx_RU xs d 113 0 (lv_args 0 [.int x]) [] w (some (.int 0)) w := by
  have h : sx_RP xs d 113 0 (lv_args 0 [.int x]) [] w (fun r w2 => r = some (.int 0) ∧ w2 = w) := by
    refine sx_RP.step (pc2 := 1) (ls2 := [(0, .int x)]) (st2 := [.int x]) (w3 := w) rfl rfl ?_
    refine sx_RP.step (pc2 := 3) (ls2 := [(0, .int x)]) (st2 := [.int 8, .int x]) (w3 := w) rfl rfl ?_
    refine sx_RP.br (p1 := 18) (l1 := [(0, .int x)]) (s1 := []) (v1 := w) (p2 := 6) (l2 := [(0, .int x)]) (s2 := []) (v2 := w) rfl rfl (fun q1 => ?_) (fun q1 => ?_)
    · replace q1 := of_decide_eq_true q1
      refine sx_RP.step (pc2 := 19) (ls2 := [(0, .int x)]) (st2 := [.int 1]) (w3 := w) rfl rfl ?_
      refine sx_RP.step (pc2 := 23) (ls2 := [(0, .int x)]) (st2 := [.int 1]) (w3 := w) rfl rfl ?_
      refine sx_RP.ret (r := (some (.int 1))) rfl rfl ?_
      first | exact ⟨rfl, rfl⟩ | (rcases hh with hh | hh | hh <;> contradiction) | exact absurd (by first | exact Or.inl ‹_› | exact Or.inr (Or.inl ‹_›) | exact Or.inr (Or.inr ‹_›)) hh
    · replace q1 := of_decide_eq_false q1
      refine sx_RP.step (pc2 := 7) (ls2 := [(0, .int x)]) (st2 := [.int x]) (w3 := w) rfl rfl ?_
      refine sx_RP.step (pc2 := 9) (ls2 := [(0, .int x)]) (st2 := [.int 16, .int x]) (w3 := w) rfl rfl ?_
      refine sx_RP.br (p1 := 18) (l1 := [(0, .int x)]) (s1 := []) (v1 := w) (p2 := 12) (l2 := [(0, .int x)]) (s2 := []) (v2 := w) rfl rfl (fun q2 => ?_) (fun q2 => ?_)
      · replace q2 := of_decide_eq_true q2
        refine sx_RP.step (pc2 := 19) (ls2 := [(0, .int x)]) (st2 := [.int 1]) (w3 := w) rfl rfl ?_
        refine sx_RP.step (pc2 := 23) (ls2 := [(0, .int x)]) (st2 := [.int 1]) (w3 := w) rfl rfl ?_
        refine sx_RP.ret (r := (some (.int 1))) rfl rfl ?_
        first | exact ⟨rfl, rfl⟩ | (rcases hh with hh | hh | hh <;> contradiction) | exact absurd (by first | exact Or.inl ‹_› | exact Or.inr (Or.inl ‹_›) | exact Or.inr (Or.inr ‹_›)) hh
      · replace q2 := of_decide_eq_false q2
        refine sx_RP.step (pc2 := 13) (ls2 := [(0, .int x)]) (st2 := [.int x]) (w3 := w) rfl rfl ?_
        refine sx_RP.step (pc2 := 15) (ls2 := [(0, .int x)]) (st2 := [.int 64, .int x]) (w3 := w) rfl rfl ?_
        refine sx_RP.br (p1 := 22) (l1 := [(0, .int x)]) (s1 := []) (v1 := w) (p2 := 18) (l2 := [(0, .int x)]) (s2 := []) (v2 := w) rfl rfl (fun q3 => ?_) (fun q3 => ?_)
        · replace q3 := of_decide_eq_true q3
          refine sx_RP.step (pc2 := 23) (ls2 := [(0, .int x)]) (st2 := [.int 0]) (w3 := w) rfl rfl ?_
          refine sx_RP.ret (r := (some (.int 0))) rfl rfl ?_
          first | exact ⟨rfl, rfl⟩ | (rcases hh with hh | hh | hh <;> contradiction) | exact absurd (by first | exact Or.inl ‹_› | exact Or.inr (Or.inl ‹_›) | exact Or.inr (Or.inr ‹_›)) hh
        · replace q3 := Decidable.not_not.mp (of_decide_eq_false q3)
          refine sx_RP.step (pc2 := 19) (ls2 := [(0, .int x)]) (st2 := [.int 1]) (w3 := w) rfl rfl ?_
          refine sx_RP.step (pc2 := 23) (ls2 := [(0, .int x)]) (st2 := [.int 1]) (w3 := w) rfl rfl ?_
          refine sx_RP.ret (r := (some (.int 1))) rfl rfl ?_
          first | exact ⟨rfl, rfl⟩ | (rcases hh with hh | hh | hh <;> contradiction) | exact absurd (by first | exact Or.inl ‹_› | exact Or.inr (Or.inl ‹_›) | exact Or.inr (Or.inr ‹_›)) hh
  obtain ⟨r, w2, h1, rfl, rfl⟩ := h
  exact h1
set_option maxRecDepth 20000 in
set_option maxHeartbeats 4000000 in
theorem s114CB {xs : Option (List Int32)} {d : Nat} {w w0 : List sx_C} {s : Nat} (hs : s < 4) (b x : Int32) (hI : WI w) (hE : EC w0 w) {j : Nat} (hj : j ≤ 40) (kk : ∀ (w4 : List sx_C), WI w4 → EC w0 w4 → j + 1 ≤ 40 → sx_RP xs d 114 20 [(0, .ref (103 + 2 * s)), (1, .int b), (2, .int x), (3, .int (nI (j + 1)))] [] w4 (fun r w2 => (r = none) ∧ WI w2 ∧ EC w0 w2)) : sx_RP xs d 114 20 [(0, .ref (103 + 2 * s)), (1, .int b), (2, .int x), (3, .int (nI j))] [] w (fun r w2 => (r = none) ∧ WI w2 ∧ EC w0 w2) := by
  refine sx_RP.step (pc2 := 21) (ls2 := [(0, .ref (103 + 2 * s)), (1, .int b), (2, .int x), (3, .int (nI j))]) (st2 := [.int (nI j)]) (w3 := w) rfl rfl ?_
  refine sx_RP.step (pc2 := 23) (ls2 := [(0, .ref (103 + 2 * s)), (1, .int b), (2, .int x), (3, .int (nI j))]) (st2 := [.int 40, .int (nI j)]) (w3 := w) rfl rfl ?_
  refine sx_RP.br (p1 := 39) (l1 := [(0, .ref (103 + 2 * s)), (1, .int b), (2, .int x), (3, .int (nI j))]) (s1 := []) (v1 := w) (p2 := 26) (l2 := [(0, .ref (103 + 2 * s)), (1, .int b), (2, .int x), (3, .int (nI j))]) (s2 := []) (v2 := w) rfl rfl (fun q1 => ?_) (fun q1 => ?_)
  · replace q1 := of_decide_eq_true q1
    replace q1 := (nI_leI (a := 40) (b := j) (by omega) (by omega)).mp q1
    refine sx_RP.ret (r := none) rfl rfl ?_
    exact ⟨rfl, hI, hE⟩
  · replace q1 := of_decide_eq_false q1
    replace q1 := mt (nI_leI (a := 40) (b := j) (by omega) (by omega)).mpr q1
    refine sx_RP.step (pc2 := 27) (ls2 := [(0, .ref (103 + 2 * s)), (1, .int b), (2, .int x), (3, .int (nI j))]) (st2 := [.ref (103 + 2 * s)]) (w3 := w) rfl rfl ?_
    refine sx_RP.gf (v := .ref (104 + 2 * s)) rfl rfl (hI.1.oS (show s < 4 by omega)) rfl rfl (show _ = 30 from rfl) ?_
    refine sx_RP.step (pc2 := 31) (ls2 := [(0, .ref (103 + 2 * s)), (1, .int b), (2, .int x), (3, .int (nI j))]) (st2 := [.int (nI j), .ref (104 + 2 * s)]) (w3 := w) rfl rfl ?_
    refine sx_RP.step (pc2 := 32) (ls2 := [(0, .ref (103 + 2 * s)), (1, .int b), (2, .int x), (3, .int (nI j))]) (st2 := [.long 0, .int (nI j), .ref (104 + 2 * s)]) (w3 := w) rfl rfl ?_
    refine sx_RP.stN hI hE rfl (hI.1.aN (show s < 4 by omega)) (sx_in_nI (show j < 40 by omega) (by decide)) (by omega) (show _ = 33 from rfl) (fun w2 hI3 hE4 => ?_)
    refine sx_RP.step (pc2 := 36) (ls2 := [(3, .int ((nI j) + 1)), (0, .ref (103 + 2 * s)), (1, .int b), (2, .int x)]) (st2 := []) (w3 := w2) rfl rfl ?_
    rw [nI_1 j]
    refine sx_RP.step (pc2 := 20) (ls2 := [(3, .int (nI (j + 1))), (0, .ref (103 + 2 * s)), (1, .int b), (2, .int x)]) (st2 := []) (w3 := w2) rfl rfl ?_
    exact sx_RP.ls (sx_lr.cons rfl (sx_lr.cons rfl (sx_lr.cons rfl (sx_lr.cons rfl sx_lr.nil)))) (kk w2 hI3 hE4 (by omega))
set_option maxRecDepth 20000 in
set_option maxHeartbeats 4000000 in
theorem s114CL {xs : Option (List Int32)} {d : Nat} {w0 : List sx_C} {s : Nat} (hs : s < 4) (b x : Int32) : ∀ (fz j : Nat) (w : List sx_C) , 40 ≤ j + fz * 1 → j ≤ 40 → WI w → EC w0 w → sx_RP xs d 114 20 [(0, .ref (103 + 2 * s)), (1, .int b), (2, .int x), (3, .int (nI j))] [] w (fun r w2 => (r = none) ∧ WI w2 ∧ EC w0 w2)
  | 0, j, w, h, hj, hI, hE => s114CB hs b x hI hE hj   (fun w4  hI4 hE4 hlt  => absurd hlt (by omega)) 
  | fz + 1, j, w, h, hj, hI, hE => s114CB hs b x hI hE hj   (fun w4  hI4 hE4 hlt  => s114CL hs b x  fz (j + 1) w4  (by omega) hlt hI4 hE4 ) 
set_option maxRecDepth 20000 in
set_option maxHeartbeats 4000000 in
theorem s114S {xs : Option (List Int32)} {d : Nat} {w : List sx_C} (hI : WI w) {s : Nat} (hs : s < 4) (b x : Int32) (hx : inR x 40) : sx_RP xs d 114 0 (lv_args 0 [.ref (103 + 2 * s), .int b, .int x]) [] w (fun r w2 => (r = none ∧ fi w2 (103 + 2 * s) 1 = b ∧ fi w2 (103 + 2 * s) 2 = (if b = 0 then 0 else x)) ∧ WI w2 ∧ EX (103 + 2 * s) w w2) := by
  have hE : EX (103 + 2 * s) w w := EX.rf
  refine sx_RP.step (pc2 := 1) (ls2 := [(0, .ref (103 + 2 * s)), (1, .int b), (2, .int x)]) (st2 := [.ref (103 + 2 * s)]) (w3 := w) rfl rfl ?_
  refine sx_RP.step (pc2 := 2) (ls2 := [(0, .ref (103 + 2 * s)), (1, .int b), (2, .int x)]) (st2 := [.int b, .ref (103 + 2 * s)]) (w3 := w) rfl rfl ?_
  refine sx_RP.psb hI (show s < 4 by omega) rfl rfl rfl (show _ = 5 from rfl) (fun w1 hI2 hE4 ht5 => ?_)
  have hE3 := hE.tr hE4
  refine sx_RP.step (pc2 := 6) (ls2 := [(0, .ref (103 + 2 * s)), (1, .int b), (2, .int x)]) (st2 := [.ref (103 + 2 * s)]) (w3 := w1) rfl rfl ?_
  refine sx_RP.step (pc2 := 7) (ls2 := [(0, .ref (103 + 2 * s)), (1, .int b), (2, .int x)]) (st2 := [.int b, .ref (103 + 2 * s)]) (w3 := w1) rfl rfl ?_
  refine sx_RP.br (p1 := 14) (l1 := [(0, .ref (103 + 2 * s)), (1, .int b), (2, .int x)]) (s1 := [.ref (103 + 2 * s)]) (v1 := w1) (p2 := 10) (l2 := [(0, .ref (103 + 2 * s)), (1, .int b), (2, .int x)]) (s2 := [.ref (103 + 2 * s)]) (v2 := w1) rfl rfl (fun q7 => ?_) (fun q7 => ?_)
  · replace q7 := of_decide_eq_true q7
    refine sx_RP.step (pc2 := 15) (ls2 := [(0, .ref (103 + 2 * s)), (1, .int b), (2, .int x)]) (st2 := [.int x, .ref (103 + 2 * s)]) (w3 := w1) rfl rfl ?_
    refine sx_RP.pss hI2 (show s < 4 by omega) rfl rfl rfl hx (show _ = 18 from rfl) (fun w8 hI9 hE11 ht12 ht13 => ?_)
    have hE10 := hE3.tr hE11
    refine sx_RP.step (pc2 := 19) (ls2 := [(0, .ref (103 + 2 * s)), (1, .int b), (2, .int x)]) (st2 := [.int 0]) (w3 := w8) rfl rfl ?_
    refine sx_RP.step (pc2 := 20) (ls2 := [(3, .int 0), (0, .ref (103 + 2 * s)), (1, .int b), (2, .int x)]) (st2 := []) (w3 := w8) rfl rfl ?_
    exact sx_RP.ls (sx_lr.cons rfl (sx_lr.cons rfl (sx_lr.cons rfl (sx_lr.cons rfl sx_lr.nil)))) ((s114CL hs b x 40 0 w8 (by omega) (by omega) hI9 EC.rf).mono (fun r w2 q => ⟨⟨q.1, (keepS hs hI9 q.2.1 ((q.2.2 _).1 (by omega))).1.trans (ht13.trans ht5), by rw [if_neg q7]; exact (keepS hs hI9 q.2.1 ((q.2.2 _).1 (by omega))).2.trans ht12⟩, q.2.1, hE10.tr q.2.2.ex⟩))
  · replace q7 := Decidable.not_not.mp (of_decide_eq_false q7)
    refine sx_RP.step (pc2 := 11) (ls2 := [(0, .ref (103 + 2 * s)), (1, .int b), (2, .int x)]) (st2 := [.int 0, .ref (103 + 2 * s)]) (w3 := w1) rfl rfl ?_
    refine sx_RP.step (pc2 := 15) (ls2 := [(0, .ref (103 + 2 * s)), (1, .int b), (2, .int x)]) (st2 := [.int 0, .ref (103 + 2 * s)]) (w3 := w1) rfl rfl ?_
    refine sx_RP.pss hI2 (show s < 4 by omega) rfl rfl rfl (show inR 0 40 from ⟨0, by decide, rfl⟩) (show _ = 18 from rfl) (fun w14 hI15 hE17 ht18 ht19 => ?_)
    have hE16 := hE3.tr hE17
    refine sx_RP.step (pc2 := 19) (ls2 := [(0, .ref (103 + 2 * s)), (1, .int b), (2, .int x)]) (st2 := [.int 0]) (w3 := w14) rfl rfl ?_
    refine sx_RP.step (pc2 := 20) (ls2 := [(3, .int 0), (0, .ref (103 + 2 * s)), (1, .int b), (2, .int x)]) (st2 := []) (w3 := w14) rfl rfl ?_
    exact sx_RP.ls (sx_lr.cons rfl (sx_lr.cons rfl (sx_lr.cons rfl (sx_lr.cons rfl sx_lr.nil)))) ((s114CL hs b x 40 0 w14 (by omega) (by omega) hI15 EC.rf).mono (fun r w2 q => ⟨⟨q.1, (keepS hs hI15 q.2.1 ((q.2.2 _).1 (by omega))).1.trans (ht19.trans ht5), by rw [if_pos q7]; exact (keepS hs hI15 q.2.1 ((q.2.2 _).1 (by omega))).2.trans ht18⟩, q.2.1, hE16.tr q.2.2.ex⟩))
set_option maxRecDepth 20000 in
set_option maxHeartbeats 4000000 in
theorem s111S {xs : Option (List Int32)} {d : Nat} {w : List sx_C} (hI : WI w) {s : Nat} (hs : s < 4) (a2 a3 : Int32) : sx_RP xs (d + 7) 111 0 (lv_args 0 [.ref 0, .int (nI s), .int a2, .int a3]) [] w (fun r w2 => (r = some (.int (shAns (nI s) a2 a3)) ∧ FCs w2 = shF (FCs w) (nI s) a2 a3) ∧ WI w2 ∧ EX (103 + 2 * s) w w2) := by
  have hE : EX (103 + 2 * s) w w := EX.rf
  refine sx_RP.step (pc2 := 1) (ls2 := [(0, .ref 0), (1, .int (nI s)), (2, .int a2), (3, .int a3)]) (st2 := [.int (nI s)]) (w3 := w) rfl rfl ?_
  refine sx_RP.cu (as := [.int (nI s)]) (rest2 := []) (st3 := [.int 1]) rfl rfl rfl rfl rfl (cx_112p ⟨nI_le (a := 0) (Nat.zero_le _) (by omega), nI_le (b := 3) (show s ≤ 3 by omega) (by decide)⟩) rfl ?_
  refine sx_RP.step (pc2 := 7) (ls2 := [(0, .ref 0), (1, .int (nI s)), (2, .int a2), (3, .int a3)]) (st2 := []) (w3 := w) rfl rfl ?_
  refine sx_RP.step (pc2 := 8) (ls2 := [(0, .ref 0), (1, .int (nI s)), (2, .int a2), (3, .int a3)]) (st2 := [.int a2]) (w3 := w) rfl rfl ?_
  rcases Decidable.em (a2 = 8 ∨ a2 = 16 ∨ a2 = 64) with c1 | c1
  · refine sx_RP.cu (as := [.int a2]) (rest2 := []) (st3 := [.int 1]) rfl rfl rfl rfl rfl (p113y c1) rfl ?_
    refine sx_RP.step (pc2 := 25) (ls2 := [(0, .ref 0), (1, .int (nI s)), (2, .int a2), (3, .int a3)]) (st2 := []) (w3 := w) rfl rfl ?_
    refine sx_RP.step (pc2 := 26) (ls2 := [(0, .ref 0), (1, .int (nI s)), (2, .int a2), (3, .int a3)]) (st2 := [.int a3]) (w3 := w) rfl rfl ?_
    refine sx_RP.br (p1 := 37) (l1 := [(0, .ref 0), (1, .int (nI s)), (2, .int a2), (3, .int a3)]) (s1 := []) (v1 := w) (p2 := 29) (l2 := [(0, .ref 0), (1, .int (nI s)), (2, .int a2), (3, .int a3)]) (s2 := []) (v2 := w) rfl rfl (fun q2 => ?_) (fun q2 => ?_)
    · replace q2 := of_decide_eq_true q2
      refine sx_RP.step (pc2 := 38) (ls2 := [(0, .ref 0), (1, .int (nI s)), (2, .int a2), (3, .int a3)]) (st2 := [.int a3]) (w3 := w) rfl rfl ?_
      refine sx_RP.step (pc2 := 40) (ls2 := [(0, .ref 0), (1, .int (nI s)), (2, .int a2), (3, .int a3)]) (st2 := [.int 40, .int a3]) (w3 := w) rfl rfl ?_
      refine sx_RP.br (p1 := 50) (l1 := [(0, .ref 0), (1, .int (nI s)), (2, .int a2), (3, .int a3)]) (s1 := []) (v1 := w) (p2 := 43) (l2 := [(0, .ref 0), (1, .int (nI s)), (2, .int a2), (3, .int a3)]) (s2 := []) (v2 := w) rfl rfl (fun q3 => ?_) (fun q3 => ?_)
      · replace q3 := of_decide_eq_true q3
        refine sx_RP.step (pc2 := 51) (ls2 := [(0, .ref 0), (1, .int (nI s)), (2, .int a2), (3, .int a3)]) (st2 := [.ref 0]) (w3 := w) rfl rfl ?_
        refine sx_RP.gf (v := .ref 98) rfl rfl hI.1.o0 rfl rfl (show _ = 54 from rfl) ?_
        refine sx_RP.step (pc2 := 55) (ls2 := [(0, .ref 0), (1, .int (nI s)), (2, .int a2), (3, .int a3)]) (st2 := [.int (nI s), .ref 98]) (w3 := w) rfl rfl ?_
        refine sx_RP.ald (v := .ref (103 + 2 * s)) rfl hI.1.a98 rfl (shA_at (show s < 4 by omega)) (show _ = 56 from rfl) ?_
        refine sx_RP.step (pc2 := 57) (ls2 := [(0, .ref 0), (1, .int (nI s)), (2, .int a2), (3, .int a3)]) (st2 := [.int a2, .ref (103 + 2 * s)]) (w3 := w) rfl rfl ?_
        refine sx_RP.step (pc2 := 58) (ls2 := [(0, .ref 0), (1, .int (nI s)), (2, .int a2), (3, .int a3)]) (st2 := [.int a3, .int a2, .ref (103 + 2 * s)]) (w3 := w) rfl rfl ?_
        have hx40 : inR a3 40 := nI_of2 (M := 40) rfl (Int32.not_lt.mpr q2) q3
        refine sx_RP.callp (as2 := [.ref (103 + 2 * s), .int a2, .int a3]) (rest2 := []) rfl rfl (sx_inv_v2 (mi := 111) (k := 303) (st := [.int a3, .int a2, .ref (103 + 2 * s)]) (w := w) rfl rfl (hI.1.oS (show s < 4 by omega)) rfl rfl rfl) rfl rfl rfl (s114S hI hs a2 a3 hx40) (show _ = 61 from rfl) ?_
        rintro r4 w6 ⟨⟨rfl, ht4, ht5⟩, hI7, hE9⟩
        have hE8 := hE.tr (hE9)
        show sx_RP _ _ _ _ _ [] _ _
        refine sx_RP.step (pc2 := 62) (ls2 := [(0, .ref 0), (1, .int (nI s)), (2, .int a2), (3, .int a3)]) (st2 := [.ref 0]) (w3 := w6) rfl rfl ?_
        refine sx_RP.gf (v := .ref 98) rfl rfl hI7.1.o0 rfl rfl (show _ = 65 from rfl) ?_
        refine sx_RP.step (pc2 := 66) (ls2 := [(0, .ref 0), (1, .int (nI s)), (2, .int a2), (3, .int a3)]) (st2 := [.int (nI s), .ref 98]) (w3 := w6) rfl rfl ?_
        refine sx_RP.ald (v := .ref (103 + 2 * s)) rfl hI7.1.a98 rfl (shA_at (show s < 4 by omega)) (show _ = 67 from rfl) ?_
        refine sx_RP.gf (v := .int (fi w6 (103 + 2 * s) 2)) rfl rfl (hI7.1.oS (show s < 4 by omega)) rfl rfl (show _ = 70 from rfl) ?_
        rw [ht5]
        refine sx_RP.ret (r := (some (.int (if a2 = 0 then 0 else a3)))) rfl rfl ?_
        exact ⟨⟨by rw [(sh_4 ⟨⟨nI_le (a := 0) (Nat.zero_le _) (by omega), nI_le (b := 3) (show s ≤ 3 by omega) (by decide)⟩, (Or.inr c1)⟩ q2 q3).1], FCs_put hs hI hI7 hE8 ht4 ht5 _ ((sh_4 ⟨⟨nI_le (a := 0) (Nat.zero_le _) (by omega), nI_le (b := 3) (show s ≤ 3 by omega) (by decide)⟩, (Or.inr c1)⟩ q2 q3).2 _) (fun s hs => shF_out hs)⟩, hI7, hE8⟩
      · replace q3 := of_decide_eq_false q3
        refine sx_RP.step (pc2 := 44) (ls2 := [(0, .ref 0), (1, .int (nI s)), (2, .int a2), (3, .int a3)]) (st2 := [.ref 0]) (w3 := w) rfl rfl ?_
        refine sx_RP.step (pc2 := 46) (ls2 := [(0, .ref 0), (1, .int (nI s)), (2, .int a2), (3, .int a3)]) (st2 := [.int (-1000000001), .ref 0]) (w3 := w) rfl rfl ?_
        refine sx_RP.callp (as2 := [.ref 0, .int (-1000000001)]) (rest2 := []) rfl rfl (sx_inv_v2 (mi := 111) (k := 78) (st := [.int (-1000000001), .ref 0]) (w := w) rfl rfl hI.1.o0 rfl rfl rfl) rfl rfl rfl (s9_0 hI) (show _ = 49 from rfl) ?_
        rintro r4 w10 ⟨rfl, hI11, hE13⟩
        have hE12 := hE.tr (hE13.ex)
        show sx_RP _ _ _ _ _ [.int (-1000000001)] _ _
        refine sx_RP.ret (r := (some (.int (-1000000001)))) rfl rfl ?_
        exact ⟨⟨by rw [(sh_3 ⟨⟨nI_le (a := 0) (Nat.zero_le _) (by omega), nI_le (b := 3) (show s ≤ 3 by omega) (by decide)⟩, (Or.inr c1)⟩ q2 q3).1], by rw [(sh_3 ⟨⟨nI_le (a := 0) (Nat.zero_le _) (by omega), nI_le (b := 3) (show s ≤ 3 by omega) (by decide)⟩, (Or.inr c1)⟩ q2 q3).2]; exact FCs_ec hI hI11 hE13⟩, hI11, hE12⟩
    · replace q2 := of_decide_eq_false q2
      refine sx_RP.step (pc2 := 30) (ls2 := [(0, .ref 0), (1, .int (nI s)), (2, .int a2), (3, .int a3)]) (st2 := [.ref 0]) (w3 := w) rfl rfl ?_
      refine sx_RP.step (pc2 := 33) (ls2 := [(0, .ref 0), (1, .int (nI s)), (2, .int a2), (3, .int a3)]) (st2 := [.int (-1000000007), .ref 0]) (w3 := w) rfl rfl ?_
      refine sx_RP.callp (as2 := [.ref 0, .int (-1000000007)]) (rest2 := []) rfl rfl (sx_inv_v2 (mi := 111) (k := 78) (st := [.int (-1000000007), .ref 0]) (w := w) rfl rfl hI.1.o0 rfl rfl rfl) rfl rfl rfl (s9_6 hI) (show _ = 36 from rfl) ?_
      rintro r4 w14 ⟨rfl, hI15, hE17⟩
      have hE16 := hE.tr (hE17.ex)
      show sx_RP _ _ _ _ _ [.int (-1000000007)] _ _
      refine sx_RP.ret (r := (some (.int (-1000000007)))) rfl rfl ?_
      exact ⟨⟨by rw [(sh_2 ⟨⟨nI_le (a := 0) (Nat.zero_le _) (by omega), nI_le (b := 3) (show s ≤ 3 by omega) (by decide)⟩, (Or.inr c1)⟩ q2).1], by rw [(sh_2 ⟨⟨nI_le (a := 0) (Nat.zero_le _) (by omega), nI_le (b := 3) (show s ≤ 3 by omega) (by decide)⟩, (Or.inr c1)⟩ q2).2]; exact FCs_ec hI hI15 hE17⟩, hI15, hE16⟩
  · refine sx_RP.cu (as := [.int a2]) (rest2 := []) (st3 := [.int 0]) rfl rfl rfl rfl rfl (p113n c1) rfl ?_
    refine sx_RP.step (pc2 := 14) (ls2 := [(0, .ref 0), (1, .int (nI s)), (2, .int a2), (3, .int a3)]) (st2 := []) (w3 := w) rfl rfl ?_
    refine sx_RP.step (pc2 := 15) (ls2 := [(0, .ref 0), (1, .int (nI s)), (2, .int a2), (3, .int a3)]) (st2 := [.int a2]) (w3 := w) rfl rfl ?_
    refine sx_RP.br (p1 := 25) (l1 := [(0, .ref 0), (1, .int (nI s)), (2, .int a2), (3, .int a3)]) (s1 := []) (v1 := w) (p2 := 18) (l2 := [(0, .ref 0), (1, .int (nI s)), (2, .int a2), (3, .int a3)]) (s2 := []) (v2 := w) rfl rfl (fun q18 => ?_) (fun q18 => ?_)
    · replace q18 := of_decide_eq_true q18
      refine sx_RP.step (pc2 := 26) (ls2 := [(0, .ref 0), (1, .int (nI s)), (2, .int a2), (3, .int a3)]) (st2 := [.int a3]) (w3 := w) rfl rfl ?_
      refine sx_RP.br (p1 := 37) (l1 := [(0, .ref 0), (1, .int (nI s)), (2, .int a2), (3, .int a3)]) (s1 := []) (v1 := w) (p2 := 29) (l2 := [(0, .ref 0), (1, .int (nI s)), (2, .int a2), (3, .int a3)]) (s2 := []) (v2 := w) rfl rfl (fun q19 => ?_) (fun q19 => ?_)
      · replace q19 := of_decide_eq_true q19
        refine sx_RP.step (pc2 := 38) (ls2 := [(0, .ref 0), (1, .int (nI s)), (2, .int a2), (3, .int a3)]) (st2 := [.int a3]) (w3 := w) rfl rfl ?_
        refine sx_RP.step (pc2 := 40) (ls2 := [(0, .ref 0), (1, .int (nI s)), (2, .int a2), (3, .int a3)]) (st2 := [.int 40, .int a3]) (w3 := w) rfl rfl ?_
        refine sx_RP.br (p1 := 50) (l1 := [(0, .ref 0), (1, .int (nI s)), (2, .int a2), (3, .int a3)]) (s1 := []) (v1 := w) (p2 := 43) (l2 := [(0, .ref 0), (1, .int (nI s)), (2, .int a2), (3, .int a3)]) (s2 := []) (v2 := w) rfl rfl (fun q20 => ?_) (fun q20 => ?_)
        · replace q20 := of_decide_eq_true q20
          refine sx_RP.step (pc2 := 51) (ls2 := [(0, .ref 0), (1, .int (nI s)), (2, .int a2), (3, .int a3)]) (st2 := [.ref 0]) (w3 := w) rfl rfl ?_
          refine sx_RP.gf (v := .ref 98) rfl rfl hI.1.o0 rfl rfl (show _ = 54 from rfl) ?_
          refine sx_RP.step (pc2 := 55) (ls2 := [(0, .ref 0), (1, .int (nI s)), (2, .int a2), (3, .int a3)]) (st2 := [.int (nI s), .ref 98]) (w3 := w) rfl rfl ?_
          refine sx_RP.ald (v := .ref (103 + 2 * s)) rfl hI.1.a98 rfl (shA_at (show s < 4 by omega)) (show _ = 56 from rfl) ?_
          refine sx_RP.step (pc2 := 57) (ls2 := [(0, .ref 0), (1, .int (nI s)), (2, .int a2), (3, .int a3)]) (st2 := [.int a2, .ref (103 + 2 * s)]) (w3 := w) rfl rfl ?_
          refine sx_RP.step (pc2 := 58) (ls2 := [(0, .ref 0), (1, .int (nI s)), (2, .int a2), (3, .int a3)]) (st2 := [.int a3, .int a2, .ref (103 + 2 * s)]) (w3 := w) rfl rfl ?_
          have hx40 : inR a3 40 := nI_of2 (M := 40) rfl (Int32.not_lt.mpr q19) q20
          refine sx_RP.callp (as2 := [.ref (103 + 2 * s), .int a2, .int a3]) (rest2 := []) rfl rfl (sx_inv_v2 (mi := 111) (k := 303) (st := [.int a3, .int a2, .ref (103 + 2 * s)]) (w := w) rfl rfl (hI.1.oS (show s < 4 by omega)) rfl rfl rfl) rfl rfl rfl (s114S hI hs a2 a3 hx40) (show _ = 61 from rfl) ?_
          rintro r4 w23 ⟨⟨rfl, ht21, ht22⟩, hI24, hE26⟩
          have hE25 := hE.tr (hE26)
          show sx_RP _ _ _ _ _ [] _ _
          refine sx_RP.step (pc2 := 62) (ls2 := [(0, .ref 0), (1, .int (nI s)), (2, .int a2), (3, .int a3)]) (st2 := [.ref 0]) (w3 := w23) rfl rfl ?_
          refine sx_RP.gf (v := .ref 98) rfl rfl hI24.1.o0 rfl rfl (show _ = 65 from rfl) ?_
          refine sx_RP.step (pc2 := 66) (ls2 := [(0, .ref 0), (1, .int (nI s)), (2, .int a2), (3, .int a3)]) (st2 := [.int (nI s), .ref 98]) (w3 := w23) rfl rfl ?_
          refine sx_RP.ald (v := .ref (103 + 2 * s)) rfl hI24.1.a98 rfl (shA_at (show s < 4 by omega)) (show _ = 67 from rfl) ?_
          refine sx_RP.gf (v := .int (fi w23 (103 + 2 * s) 2)) rfl rfl (hI24.1.oS (show s < 4 by omega)) rfl rfl (show _ = 70 from rfl) ?_
          rw [ht22]
          refine sx_RP.ret (r := (some (.int (if a2 = 0 then 0 else a3)))) rfl rfl ?_
          exact ⟨⟨by rw [(sh_4 ⟨⟨nI_le (a := 0) (Nat.zero_le _) (by omega), nI_le (b := 3) (show s ≤ 3 by omega) (by decide)⟩, (Or.inl q18)⟩ q19 q20).1], FCs_put hs hI hI24 hE25 ht21 ht22 _ ((sh_4 ⟨⟨nI_le (a := 0) (Nat.zero_le _) (by omega), nI_le (b := 3) (show s ≤ 3 by omega) (by decide)⟩, (Or.inl q18)⟩ q19 q20).2 _) (fun s hs => shF_out hs)⟩, hI24, hE25⟩
        · replace q20 := of_decide_eq_false q20
          refine sx_RP.step (pc2 := 44) (ls2 := [(0, .ref 0), (1, .int (nI s)), (2, .int a2), (3, .int a3)]) (st2 := [.ref 0]) (w3 := w) rfl rfl ?_
          refine sx_RP.step (pc2 := 46) (ls2 := [(0, .ref 0), (1, .int (nI s)), (2, .int a2), (3, .int a3)]) (st2 := [.int (-1000000001), .ref 0]) (w3 := w) rfl rfl ?_
          refine sx_RP.callp (as2 := [.ref 0, .int (-1000000001)]) (rest2 := []) rfl rfl (sx_inv_v2 (mi := 111) (k := 78) (st := [.int (-1000000001), .ref 0]) (w := w) rfl rfl hI.1.o0 rfl rfl rfl) rfl rfl rfl (s9_0 hI) (show _ = 49 from rfl) ?_
          rintro r4 w27 ⟨rfl, hI28, hE30⟩
          have hE29 := hE.tr (hE30.ex)
          show sx_RP _ _ _ _ _ [.int (-1000000001)] _ _
          refine sx_RP.ret (r := (some (.int (-1000000001)))) rfl rfl ?_
          exact ⟨⟨by rw [(sh_3 ⟨⟨nI_le (a := 0) (Nat.zero_le _) (by omega), nI_le (b := 3) (show s ≤ 3 by omega) (by decide)⟩, (Or.inl q18)⟩ q19 q20).1], by rw [(sh_3 ⟨⟨nI_le (a := 0) (Nat.zero_le _) (by omega), nI_le (b := 3) (show s ≤ 3 by omega) (by decide)⟩, (Or.inl q18)⟩ q19 q20).2]; exact FCs_ec hI hI28 hE30⟩, hI28, hE29⟩
      · replace q19 := of_decide_eq_false q19
        refine sx_RP.step (pc2 := 30) (ls2 := [(0, .ref 0), (1, .int (nI s)), (2, .int a2), (3, .int a3)]) (st2 := [.ref 0]) (w3 := w) rfl rfl ?_
        refine sx_RP.step (pc2 := 33) (ls2 := [(0, .ref 0), (1, .int (nI s)), (2, .int a2), (3, .int a3)]) (st2 := [.int (-1000000007), .ref 0]) (w3 := w) rfl rfl ?_
        refine sx_RP.callp (as2 := [.ref 0, .int (-1000000007)]) (rest2 := []) rfl rfl (sx_inv_v2 (mi := 111) (k := 78) (st := [.int (-1000000007), .ref 0]) (w := w) rfl rfl hI.1.o0 rfl rfl rfl) rfl rfl rfl (s9_6 hI) (show _ = 36 from rfl) ?_
        rintro r4 w31 ⟨rfl, hI32, hE34⟩
        have hE33 := hE.tr (hE34.ex)
        show sx_RP _ _ _ _ _ [.int (-1000000007)] _ _
        refine sx_RP.ret (r := (some (.int (-1000000007)))) rfl rfl ?_
        exact ⟨⟨by rw [(sh_2 ⟨⟨nI_le (a := 0) (Nat.zero_le _) (by omega), nI_le (b := 3) (show s ≤ 3 by omega) (by decide)⟩, (Or.inl q18)⟩ q19).1], by rw [(sh_2 ⟨⟨nI_le (a := 0) (Nat.zero_le _) (by omega), nI_le (b := 3) (show s ≤ 3 by omega) (by decide)⟩, (Or.inl q18)⟩ q19).2]; exact FCs_ec hI hI32 hE34⟩, hI32, hE33⟩
    · replace q18 := of_decide_eq_false q18
      refine sx_RP.step (pc2 := 19) (ls2 := [(0, .ref 0), (1, .int (nI s)), (2, .int a2), (3, .int a3)]) (st2 := [.ref 0]) (w3 := w) rfl rfl ?_
      refine sx_RP.step (pc2 := 21) (ls2 := [(0, .ref 0), (1, .int (nI s)), (2, .int a2), (3, .int a3)]) (st2 := [.int (-1000000001), .ref 0]) (w3 := w) rfl rfl ?_
      refine sx_RP.callp (as2 := [.ref 0, .int (-1000000001)]) (rest2 := []) rfl rfl (sx_inv_v2 (mi := 111) (k := 78) (st := [.int (-1000000001), .ref 0]) (w := w) rfl rfl hI.1.o0 rfl rfl rfl) rfl rfl rfl (s9_0 hI) (show _ = 24 from rfl) ?_
      rintro r4 w35 ⟨rfl, hI36, hE38⟩
      have hE37 := hE.tr (hE38.ex)
      show sx_RP _ _ _ _ _ [.int (-1000000001)] _ _
      refine sx_RP.ret (r := (some (.int (-1000000001)))) rfl rfl ?_
      exact ⟨⟨by rw [(sh_1 (fun z => z.2.elim q18 c1)).1], by rw [(sh_1 (fun z => z.2.elim q18 c1)).2]; exact FCs_ec hI hI36 hE38⟩, hI36, hE37⟩
set_option maxRecDepth 20000 in
set_option maxHeartbeats 4000000 in
theorem s111Sn {xs : Option (List Int32)} {d : Nat} {w : List sx_C} (hI : WI w) (a1 a2 a3 : Int32) (hn : ¬ (0 ≤ a1 ∧ a1 ≤ 3)) : sx_RP xs (d + 7) 111 0 (lv_args 0 [.ref 0, .int a1, .int a2, .int a3]) [] w (fun r w2 => (r = some (.int (shAns a1 a2 a3)) ∧ FCs w2 = shF (FCs w) a1 a2 a3) ∧ WI w2 ∧ EC w w2) := by
  have hE : EC w w := EC.rf
  refine sx_RP.step (pc2 := 1) (ls2 := [(0, .ref 0), (1, .int a1), (2, .int a2), (3, .int a3)]) (st2 := [.int a1]) (w3 := w) rfl rfl ?_
  refine sx_RP.cu (as := [.int a1]) (rest2 := []) (st3 := [.int 0]) rfl rfl rfl rfl rfl (cx_112n hn) rfl ?_
  refine sx_RP.step (pc2 := 18) (ls2 := [(0, .ref 0), (1, .int a1), (2, .int a2), (3, .int a3)]) (st2 := []) (w3 := w) rfl rfl ?_
  refine sx_RP.step (pc2 := 19) (ls2 := [(0, .ref 0), (1, .int a1), (2, .int a2), (3, .int a3)]) (st2 := [.ref 0]) (w3 := w) rfl rfl ?_
  refine sx_RP.step (pc2 := 21) (ls2 := [(0, .ref 0), (1, .int a1), (2, .int a2), (3, .int a3)]) (st2 := [.int (-1000000001), .ref 0]) (w3 := w) rfl rfl ?_
  refine sx_RP.callp (as2 := [.ref 0, .int (-1000000001)]) (rest2 := []) rfl rfl (sx_inv_v2 (mi := 111) (k := 78) (st := [.int (-1000000001), .ref 0]) (w := w) rfl rfl hI.1.o0 rfl rfl rfl) rfl rfl rfl (s9_0 hI) (show _ = 24 from rfl) ?_
  rintro r4 w1 ⟨rfl, hI2, hE4⟩
  have hE3 := hE.tr (hE4)
  show sx_RP _ _ _ _ _ [.int (-1000000001)] _ _
  refine sx_RP.ret (r := (some (.int (-1000000001)))) rfl rfl ?_
  exact ⟨⟨by rw [(sh_1 (fun z => hn z.1)).1], by rw [(sh_1 (fun z => hn z.1)).2]; exact FCs_ec hI hI2 hE3⟩, hI2, hE3⟩
set_option maxRecDepth 20000 in
set_option maxHeartbeats 4000000 in
theorem s230MB {xs : Option (List Int32)} {d : Nat} {w w0 : List sx_C} {k : Nat} (hk : k < 4) (hI : WI w) (hE : EM w0 w) {j : Nat} (hj : j ≤ 40) (kk : ∀ (w4 : List sx_C), WI w4 → EM w0 w4 → j + 1 ≤ 40 → sx_RP xs (d + 7) 230 83 [(0, .ref 111), (1, .int (nI k)), (4, .int (nI (j + 1)))] [] w4 (fun r w2 => (r = some (.int ((ia w2 123).getD k 0))) ∧ WI w2 ∧ EM w0 w2)) : sx_RP xs (d + 7) 230 83 [(0, .ref 111), (1, .int (nI k)), (4, .int (nI j))] [] w (fun r w2 => (r = some (.int ((ia w2 123).getD k 0))) ∧ WI w2 ∧ EM w0 w2) := by
  refine sx_RP.step (pc2 := 85) (ls2 := [(0, .ref 111), (1, .int (nI k)), (4, .int (nI j))]) (st2 := [.int (nI j)]) (w3 := w) rfl rfl ?_
  refine sx_RP.step (pc2 := 87) (ls2 := [(0, .ref 111), (1, .int (nI k)), (4, .int (nI j))]) (st2 := [.int 40, .int (nI j)]) (w3 := w) rfl rfl ?_
  refine sx_RP.br (p1 := 109) (l1 := [(0, .ref 111), (1, .int (nI k)), (4, .int (nI j))]) (s1 := []) (v1 := w) (p2 := 90) (l2 := [(0, .ref 111), (1, .int (nI k)), (4, .int (nI j))]) (s2 := []) (v2 := w) rfl rfl (fun q1 => ?_) (fun q1 => ?_)
  · replace q1 := of_decide_eq_true q1
    replace q1 := (nI_leI (a := 40) (b := j) (by omega) (by omega)).mp q1
    refine sx_RP.step (pc2 := 110) (ls2 := [(0, .ref 111), (1, .int (nI k)), (4, .int (nI j))]) (st2 := [.ref 111]) (w3 := w) rfl rfl ?_
    refine sx_RP.gf (v := .ref 123) rfl rfl hI.1.o111 rfl rfl (show _ = 113 from rfl) ?_
    refine sx_RP.step (pc2 := 114) (ls2 := [(0, .ref 111), (1, .int (nI k)), (4, .int (nI j))]) (st2 := [.int (nI k), .ref 123]) (w3 := w) rfl rfl ?_
    refine sx_RP.ild (c := k) rfl hI.1.a123.1 hI.1.a123.2 (sx_in_nI (show k < 4 by omega) (by decide)) (show (nI k).toNatClampNeg = k from nI_clamp (by omega)) (show _ = 115 from rfl) ?_
    obtain ⟨x2, hx3, ex4⟩ : inR ((ia w 123).getD k 0) 40 := hI.l (show k < 4 by omega)
    rw [ex4]
    refine sx_RP.ret (r := (some (.int (nI x2)))) rfl rfl ?_
    exact ⟨(by rw [ex4]), hI, hE⟩
  · replace q1 := of_decide_eq_false q1
    replace q1 := mt (nI_leI (a := 40) (b := j) (by omega) (by omega)).mpr q1
    refine sx_RP.step (pc2 := 91) (ls2 := [(0, .ref 111), (1, .int (nI k)), (4, .int (nI j))]) (st2 := [.ref 111]) (w3 := w) rfl rfl ?_
    refine sx_RP.gf (v := .ref 124) rfl rfl hI.1.o111 rfl rfl (show _ = 94 from rfl) ?_
    refine sx_RP.step (pc2 := 96) (ls2 := [(0, .ref 111), (1, .int (nI k)), (4, .int (nI j))]) (st2 := [.int 40, .ref 124]) (w3 := w) rfl rfl ?_
    refine sx_RP.step (pc2 := 97) (ls2 := [(0, .ref 111), (1, .int (nI k)), (4, .int (nI j))]) (st2 := [.int (nI k), .int 40, .ref 124]) (w3 := w) rfl rfl ?_
    refine sx_RP.step (pc2 := 98) (ls2 := [(0, .ref 111), (1, .int (nI k)), (4, .int (nI j))]) (st2 := [.int (40 * (nI k)), .ref 124]) (w3 := w) rfl rfl ?_
    rw [show (40 * (nI k) : Int32) = nI (40 * k) from nI_mul 40 k]
    refine sx_RP.step (pc2 := 100) (ls2 := [(0, .ref 111), (1, .int (nI k)), (4, .int (nI j))]) (st2 := [.int (nI j), .int (nI (40 * k)), .ref 124]) (w3 := w) rfl rfl ?_
    refine sx_RP.step (pc2 := 101) (ls2 := [(0, .ref 111), (1, .int (nI k)), (4, .int (nI j))]) (st2 := [.int ((nI (40 * k)) + (nI j)), .ref 124]) (w3 := w) rfl rfl ?_
    rw [show ((nI (40 * k)) + (nI j) : Int32) = nI ((40 * k) + j) from nI_add (40 * k) j]
    refine sx_RP.step (pc2 := 102) (ls2 := [(0, .ref 111), (1, .int (nI k)), (4, .int (nI j))]) (st2 := [.long 0, .int (nI ((40 * k) + j)), .ref 124]) (w3 := w) rfl rfl ?_
    refine sx_RP.mN hI hE rfl hI.1.a124 (sx_in_nI (show ((40 * k) + j) < 160 by omega) (by decide)) (by decide) (show _ = 103 from rfl) (fun w5 hI6 hE7 hk8 => ?_)
    refine sx_RP.step (pc2 := 106) (ls2 := [(4, .int ((nI j) + 1)), (0, .ref 111), (1, .int (nI k))]) (st2 := []) (w3 := w5) rfl rfl ?_
    rw [nI_1 j]
    refine sx_RP.step (pc2 := 83) (ls2 := [(4, .int (nI (j + 1))), (0, .ref 111), (1, .int (nI k))]) (st2 := []) (w3 := w5) rfl rfl ?_
    exact sx_RP.ls (sx_lr.cons rfl (sx_lr.cons rfl (sx_lr.cons rfl sx_lr.nil))) (kk w5 hI6 hE7 (by omega))
set_option maxRecDepth 20000 in
set_option maxHeartbeats 4000000 in
theorem s230ML {xs : Option (List Int32)} {d : Nat} {w0 : List sx_C} {k : Nat} (hk : k < 4) : ∀ (fz j : Nat) (w : List sx_C) , 40 ≤ j + fz * 1 → j ≤ 40 → WI w → EM w0 w → sx_RP xs (d + 7) 230 83 [(0, .ref 111), (1, .int (nI k)), (4, .int (nI j))] [] w (fun r w2 => (r = some (.int ((ia w2 123).getD k 0))) ∧ WI w2 ∧ EM w0 w2)
  | 0, j, w, h, hj, hI, hE => s230MB hk hI hE hj   (fun w4  hI4 hE4 hlt  => absurd hlt (by omega)) 
  | fz + 1, j, w, h, hj, hI, hE => s230MB hk hI hE hj   (fun w4  hI4 hE4 hlt  => s230ML hk  fz (j + 1) w4  (by omega) hlt hI4 hE4 ) 
set_option maxRecDepth 20000 in
set_option maxHeartbeats 4000000 in
theorem s230S {xs : Option (List Int32)} {d : Nat} {w : List sx_C} (hI : WI w) {k : Nat} (hk : k < 4) (a2 a3 : Int32) : sx_RP xs (d + 7) 230 0 (lv_args 0 [.ref 111, .int (nI k), .int a2, .int a3]) [] w (fun r w2 => (r = some (.int (shAns (nI k) a2 a3)) ∧ FMs w2 = shF (FMs w) (nI k) a2 a3) ∧ WI w2 ∧ ∀ a, a < 111 → w2[a]? = w[a]?) := by
  have hE : EM w w := EM.rf
  refine sx_RP.step (pc2 := 1) (ls2 := [(0, .ref 111), (1, .int (nI k)), (2, .int a2), (3, .int a3)]) (st2 := [.int (nI k)]) (w3 := w) rfl rfl ?_
  refine sx_RP.cu (as := [.int (nI k)]) (rest2 := []) (st3 := [.int 1]) rfl rfl rfl rfl rfl (cx_231p ⟨nI_le (a := 0) (Nat.zero_le _) (by omega), nI_le (b := 3) (show k ≤ 3 by omega) (by decide)⟩) rfl ?_
  refine sx_RP.step (pc2 := 7) (ls2 := [(0, .ref 111), (1, .int (nI k)), (2, .int a2), (3, .int a3)]) (st2 := []) (w3 := w) rfl rfl ?_
  refine sx_RP.step (pc2 := 8) (ls2 := [(0, .ref 111), (1, .int (nI k)), (2, .int a2), (3, .int a3)]) (st2 := [.int a2]) (w3 := w) rfl rfl ?_
  refine sx_RP.br (p1 := 35) (l1 := [(0, .ref 111), (1, .int (nI k)), (2, .int a2), (3, .int a3)]) (s1 := []) (v1 := w) (p2 := 11) (l2 := [(0, .ref 111), (1, .int (nI k)), (2, .int a2), (3, .int a3)]) (s2 := []) (v2 := w) rfl rfl (fun q1 => ?_) (fun q1 => ?_)
  · replace q1 := of_decide_eq_true q1
    refine sx_RP.step (pc2 := 36) (ls2 := [(0, .ref 111), (1, .int (nI k)), (2, .int a2), (3, .int a3)]) (st2 := [.int a3]) (w3 := w) rfl rfl ?_
    refine sx_RP.br (p1 := 46) (l1 := [(0, .ref 111), (1, .int (nI k)), (2, .int a2), (3, .int a3)]) (s1 := []) (v1 := w) (p2 := 39) (l2 := [(0, .ref 111), (1, .int (nI k)), (2, .int a2), (3, .int a3)]) (s2 := []) (v2 := w) rfl rfl (fun q2 => ?_) (fun q2 => ?_)
    · replace q2 := of_decide_eq_true q2
      refine sx_RP.step (pc2 := 47) (ls2 := [(0, .ref 111), (1, .int (nI k)), (2, .int a2), (3, .int a3)]) (st2 := [.int a3]) (w3 := w) rfl rfl ?_
      refine sx_RP.step (pc2 := 49) (ls2 := [(0, .ref 111), (1, .int (nI k)), (2, .int a2), (3, .int a3)]) (st2 := [.int 40, .int a3]) (w3 := w) rfl rfl ?_
      refine sx_RP.br (p1 := 58) (l1 := [(0, .ref 111), (1, .int (nI k)), (2, .int a2), (3, .int a3)]) (s1 := []) (v1 := w) (p2 := 52) (l2 := [(0, .ref 111), (1, .int (nI k)), (2, .int a2), (3, .int a3)]) (s2 := []) (v2 := w) rfl rfl (fun q3 => ?_) (fun q3 => ?_)
      · replace q3 := of_decide_eq_true q3
        refine sx_RP.step (pc2 := 59) (ls2 := [(0, .ref 111), (1, .int (nI k)), (2, .int a2), (3, .int a3)]) (st2 := [.ref 111]) (w3 := w) rfl rfl ?_
        refine sx_RP.gf (v := .ref 122) rfl rfl hI.1.o111 rfl rfl (show _ = 62 from rfl) ?_
        refine sx_RP.step (pc2 := 63) (ls2 := [(0, .ref 111), (1, .int (nI k)), (2, .int a2), (3, .int a3)]) (st2 := [.int (nI k), .ref 122]) (w3 := w) rfl rfl ?_
        refine sx_RP.step (pc2 := 64) (ls2 := [(0, .ref 111), (1, .int (nI k)), (2, .int a2), (3, .int a3)]) (st2 := [.int a2, .int (nI k), .ref 122]) (w3 := w) rfl rfl ?_
        refine sx_RP.mBt (k := k) hI rfl hk (show _ = 65 from rfl) (fun w4 hI5 hF6 ex7 => ?_)
        refine sx_RP.step (pc2 := 66) (ls2 := [(0, .ref 111), (1, .int (nI k)), (2, .int a2), (3, .int a3)]) (st2 := [.ref 111]) (w3 := w4) rfl rfl ?_
        refine sx_RP.gf (v := .ref 123) rfl rfl hI5.1.o111 rfl rfl (show _ = 69 from rfl) ?_
        refine sx_RP.step (pc2 := 70) (ls2 := [(0, .ref 111), (1, .int (nI k)), (2, .int a2), (3, .int a3)]) (st2 := [.int (nI k), .ref 123]) (w3 := w4) rfl rfl ?_
        refine sx_RP.step (pc2 := 71) (ls2 := [(0, .ref 111), (1, .int (nI k)), (2, .int a2), (3, .int a3)]) (st2 := [.int a2, .int (nI k), .ref 123]) (w3 := w4) rfl rfl ?_
        refine sx_RP.br (p1 := 78) (l1 := [(0, .ref 111), (1, .int (nI k)), (2, .int a2), (3, .int a3)]) (s1 := [.int (nI k), .ref 123]) (v1 := w4) (p2 := 74) (l2 := [(0, .ref 111), (1, .int (nI k)), (2, .int a2), (3, .int a3)]) (s2 := [.int (nI k), .ref 123]) (v2 := w4) rfl rfl (fun q8 => ?_) (fun q8 => ?_)
        · replace q8 := of_decide_eq_true q8
          refine sx_RP.step (pc2 := 79) (ls2 := [(0, .ref 111), (1, .int (nI k)), (2, .int a2), (3, .int a3)]) (st2 := [.int a3, .int (nI k), .ref 123]) (w3 := w4) rfl rfl ?_
          refine sx_RP.mSt (k := k) hI5 rfl hk (sz_of (Int32.not_lt.mpr q2) q3) (show _ = 80 from rfl) (fun w9 hI10 hF11 ex12 => ?_)
          refine sx_RP.step (pc2 := 81) (ls2 := [(0, .ref 111), (1, .int (nI k)), (2, .int a2), (3, .int a3)]) (st2 := [.int 0]) (w3 := w9) rfl rfl ?_
          refine sx_RP.step (pc2 := 83) (ls2 := [(4, .int 0), (0, .ref 111), (1, .int (nI k)), (2, .int a2), (3, .int a3)]) (st2 := []) (w3 := w9) rfl rfl ?_
          refine sx_RP.ls (sx_lr.cons rfl (sx_lr.cons rfl (sx_lr.cons rfl sx_lr.nil))) ((s230ML hk 40 0 w9 (by omega) (by omega) hI10 EM.rf).mono (fun r w2 q => ?_))
          have i2 := kpI (a := 122) (Or.inl rfl) hI10 q.2.1 ((q.2.2 122).2 (by decide))
          have i3 := kpI (a := 123) (Or.inr rfl) hI10 q.2.1 ((q.2.2 123).2 (by decide))
          have j2 : ia w2 122 = (ia w 122).set k a2 := i2.trans ((ia_of (hF11 122 (by decide))).trans ex7)
          have j3 : ia w2 123 = (ia w 123).set k (if a2 = 0 then 0 else a3) := by rw [if_neg q8]; exact i3.trans (ex12.trans (by rw [ia_of (hF6 123 (by decide))]))
          refine ⟨⟨?_, FMs_put hk hI j2 j3 _ ((sh_4 ⟨⟨nI_le (a := 0) (Nat.zero_le _) (by omega), nI_le (b := 3) (show k ≤ 3 by omega) (by decide)⟩, (Or.inl q1)⟩ q2 q3).2 _) (fun s hs => shF_out hs)⟩, q.2.1, fun a ha => ((q.2.2 a).1 ha).trans ((hF11 a (by omega)).trans (hF6 a (by omega)))⟩
          rw [q.1, j3, gd_set (by rw [hI.1.a123.2]; exact hk), if_pos rfl, (sh_4 ⟨⟨nI_le (a := 0) (Nat.zero_le _) (by omega), nI_le (b := 3) (show k ≤ 3 by omega) (by decide)⟩, (Or.inl q1)⟩ q2 q3).1]
        · replace q8 := Decidable.not_not.mp (of_decide_eq_false q8)
          refine sx_RP.step (pc2 := 75) (ls2 := [(0, .ref 111), (1, .int (nI k)), (2, .int a2), (3, .int a3)]) (st2 := [.int 0, .int (nI k), .ref 123]) (w3 := w4) rfl rfl ?_
          refine sx_RP.step (pc2 := 79) (ls2 := [(0, .ref 111), (1, .int (nI k)), (2, .int a2), (3, .int a3)]) (st2 := [.int 0, .int (nI k), .ref 123]) (w3 := w4) rfl rfl ?_
          refine sx_RP.mSt (k := k) hI5 rfl hk ⟨0, by decide, rfl⟩ (show _ = 80 from rfl) (fun w13 hI14 hF15 ex16 => ?_)
          refine sx_RP.step (pc2 := 81) (ls2 := [(0, .ref 111), (1, .int (nI k)), (2, .int a2), (3, .int a3)]) (st2 := [.int 0]) (w3 := w13) rfl rfl ?_
          refine sx_RP.step (pc2 := 83) (ls2 := [(4, .int 0), (0, .ref 111), (1, .int (nI k)), (2, .int a2), (3, .int a3)]) (st2 := []) (w3 := w13) rfl rfl ?_
          refine sx_RP.ls (sx_lr.cons rfl (sx_lr.cons rfl (sx_lr.cons rfl sx_lr.nil))) ((s230ML hk 40 0 w13 (by omega) (by omega) hI14 EM.rf).mono (fun r w2 q => ?_))
          have i2 := kpI (a := 122) (Or.inl rfl) hI14 q.2.1 ((q.2.2 122).2 (by decide))
          have i3 := kpI (a := 123) (Or.inr rfl) hI14 q.2.1 ((q.2.2 123).2 (by decide))
          have j2 : ia w2 122 = (ia w 122).set k a2 := i2.trans ((ia_of (hF15 122 (by decide))).trans ex7)
          have j3 : ia w2 123 = (ia w 123).set k (if a2 = 0 then 0 else a3) := by rw [if_pos q8]; exact i3.trans (ex16.trans (by rw [ia_of (hF6 123 (by decide))]))
          refine ⟨⟨?_, FMs_put hk hI j2 j3 _ ((sh_4 ⟨⟨nI_le (a := 0) (Nat.zero_le _) (by omega), nI_le (b := 3) (show k ≤ 3 by omega) (by decide)⟩, (Or.inl q1)⟩ q2 q3).2 _) (fun s hs => shF_out hs)⟩, q.2.1, fun a ha => ((q.2.2 a).1 ha).trans ((hF15 a (by omega)).trans (hF6 a (by omega)))⟩
          rw [q.1, j3, gd_set (by rw [hI.1.a123.2]; exact hk), if_pos rfl, (sh_4 ⟨⟨nI_le (a := 0) (Nat.zero_le _) (by omega), nI_le (b := 3) (show k ≤ 3 by omega) (by decide)⟩, (Or.inl q1)⟩ q2 q3).1]
      · replace q3 := of_decide_eq_false q3
        refine sx_RP.step (pc2 := 53) (ls2 := [(0, .ref 111), (1, .int (nI k)), (2, .int a2), (3, .int a3)]) (st2 := [.ref 111]) (w3 := w) rfl rfl ?_
        refine sx_RP.step (pc2 := 54) (ls2 := [(0, .ref 111), (1, .int (nI k)), (2, .int a2), (3, .int a3)]) (st2 := [.int 0, .ref 111]) (w3 := w) rfl rfl ?_
        refine sx_RP.callp (as2 := [.ref 111, .int 0]) (rest2 := []) rfl rfl (sx_inv_v2 (mi := 230) (k := 70) (st := [.int 0, .ref 111]) (w := w) rfl rfl hI.1.o111 rfl rfl rfl) rfl rfl rfl (s133_0 hI) (show _ = 57 from rfl) ?_
        rintro r4 w17 ⟨rfl, hI18, hE20⟩
        have hE19 := hE.tr (hE20)
        show sx_RP _ _ _ _ _ [.int (-1000000001)] _ _
        refine sx_RP.ret (r := (some (.int (-1000000001)))) rfl rfl ?_
        exact ⟨⟨by rw [(sh_3 ⟨⟨nI_le (a := 0) (Nat.zero_le _) (by omega), nI_le (b := 3) (show k ≤ 3 by omega) (by decide)⟩, (Or.inl q1)⟩ q2 q3).1], by rw [(sh_3 ⟨⟨nI_le (a := 0) (Nat.zero_le _) (by omega), nI_le (b := 3) (show k ≤ 3 by omega) (by decide)⟩, (Or.inl q1)⟩ q2 q3).2]; exact FMs_em hI hI18 hE20⟩, hI18, fun a ha => (hE20 a).1 ha⟩
    · replace q2 := of_decide_eq_false q2
      refine sx_RP.step (pc2 := 40) (ls2 := [(0, .ref 111), (1, .int (nI k)), (2, .int a2), (3, .int a3)]) (st2 := [.ref 111]) (w3 := w) rfl rfl ?_
      refine sx_RP.step (pc2 := 42) (ls2 := [(0, .ref 111), (1, .int (nI k)), (2, .int a2), (3, .int a3)]) (st2 := [.int 6, .ref 111]) (w3 := w) rfl rfl ?_
      refine sx_RP.callp (as2 := [.ref 111, .int 6]) (rest2 := []) rfl rfl (sx_inv_v2 (mi := 230) (k := 70) (st := [.int 6, .ref 111]) (w := w) rfl rfl hI.1.o111 rfl rfl rfl) rfl rfl rfl (s133_6 hI) (show _ = 45 from rfl) ?_
      rintro r4 w21 ⟨rfl, hI22, hE24⟩
      have hE23 := hE.tr (hE24)
      show sx_RP _ _ _ _ _ [.int (-1000000007)] _ _
      refine sx_RP.ret (r := (some (.int (-1000000007)))) rfl rfl ?_
      exact ⟨⟨by rw [(sh_2 ⟨⟨nI_le (a := 0) (Nat.zero_le _) (by omega), nI_le (b := 3) (show k ≤ 3 by omega) (by decide)⟩, (Or.inl q1)⟩ q2).1], by rw [(sh_2 ⟨⟨nI_le (a := 0) (Nat.zero_le _) (by omega), nI_le (b := 3) (show k ≤ 3 by omega) (by decide)⟩, (Or.inl q1)⟩ q2).2]; exact FMs_em hI hI22 hE24⟩, hI22, fun a ha => (hE24 a).1 ha⟩
  · replace q1 := of_decide_eq_false q1
    refine sx_RP.step (pc2 := 12) (ls2 := [(0, .ref 111), (1, .int (nI k)), (2, .int a2), (3, .int a3)]) (st2 := [.int a2]) (w3 := w) rfl rfl ?_
    refine sx_RP.step (pc2 := 14) (ls2 := [(0, .ref 111), (1, .int (nI k)), (2, .int a2), (3, .int a3)]) (st2 := [.int 8, .int a2]) (w3 := w) rfl rfl ?_
    refine sx_RP.br (p1 := 35) (l1 := [(0, .ref 111), (1, .int (nI k)), (2, .int a2), (3, .int a3)]) (s1 := []) (v1 := w) (p2 := 17) (l2 := [(0, .ref 111), (1, .int (nI k)), (2, .int a2), (3, .int a3)]) (s2 := []) (v2 := w) rfl rfl (fun q25 => ?_) (fun q25 => ?_)
    · replace q25 := of_decide_eq_true q25
      refine sx_RP.step (pc2 := 36) (ls2 := [(0, .ref 111), (1, .int (nI k)), (2, .int a2), (3, .int a3)]) (st2 := [.int a3]) (w3 := w) rfl rfl ?_
      refine sx_RP.br (p1 := 46) (l1 := [(0, .ref 111), (1, .int (nI k)), (2, .int a2), (3, .int a3)]) (s1 := []) (v1 := w) (p2 := 39) (l2 := [(0, .ref 111), (1, .int (nI k)), (2, .int a2), (3, .int a3)]) (s2 := []) (v2 := w) rfl rfl (fun q26 => ?_) (fun q26 => ?_)
      · replace q26 := of_decide_eq_true q26
        refine sx_RP.step (pc2 := 47) (ls2 := [(0, .ref 111), (1, .int (nI k)), (2, .int a2), (3, .int a3)]) (st2 := [.int a3]) (w3 := w) rfl rfl ?_
        refine sx_RP.step (pc2 := 49) (ls2 := [(0, .ref 111), (1, .int (nI k)), (2, .int a2), (3, .int a3)]) (st2 := [.int 40, .int a3]) (w3 := w) rfl rfl ?_
        refine sx_RP.br (p1 := 58) (l1 := [(0, .ref 111), (1, .int (nI k)), (2, .int a2), (3, .int a3)]) (s1 := []) (v1 := w) (p2 := 52) (l2 := [(0, .ref 111), (1, .int (nI k)), (2, .int a2), (3, .int a3)]) (s2 := []) (v2 := w) rfl rfl (fun q27 => ?_) (fun q27 => ?_)
        · replace q27 := of_decide_eq_true q27
          refine sx_RP.step (pc2 := 59) (ls2 := [(0, .ref 111), (1, .int (nI k)), (2, .int a2), (3, .int a3)]) (st2 := [.ref 111]) (w3 := w) rfl rfl ?_
          refine sx_RP.gf (v := .ref 122) rfl rfl hI.1.o111 rfl rfl (show _ = 62 from rfl) ?_
          refine sx_RP.step (pc2 := 63) (ls2 := [(0, .ref 111), (1, .int (nI k)), (2, .int a2), (3, .int a3)]) (st2 := [.int (nI k), .ref 122]) (w3 := w) rfl rfl ?_
          refine sx_RP.step (pc2 := 64) (ls2 := [(0, .ref 111), (1, .int (nI k)), (2, .int a2), (3, .int a3)]) (st2 := [.int a2, .int (nI k), .ref 122]) (w3 := w) rfl rfl ?_
          refine sx_RP.mBt (k := k) hI rfl hk (show _ = 65 from rfl) (fun w28 hI29 hF30 ex31 => ?_)
          refine sx_RP.step (pc2 := 66) (ls2 := [(0, .ref 111), (1, .int (nI k)), (2, .int a2), (3, .int a3)]) (st2 := [.ref 111]) (w3 := w28) rfl rfl ?_
          refine sx_RP.gf (v := .ref 123) rfl rfl hI29.1.o111 rfl rfl (show _ = 69 from rfl) ?_
          refine sx_RP.step (pc2 := 70) (ls2 := [(0, .ref 111), (1, .int (nI k)), (2, .int a2), (3, .int a3)]) (st2 := [.int (nI k), .ref 123]) (w3 := w28) rfl rfl ?_
          refine sx_RP.step (pc2 := 71) (ls2 := [(0, .ref 111), (1, .int (nI k)), (2, .int a2), (3, .int a3)]) (st2 := [.int a2, .int (nI k), .ref 123]) (w3 := w28) rfl rfl ?_
          refine sx_RP.br (p1 := 78) (l1 := [(0, .ref 111), (1, .int (nI k)), (2, .int a2), (3, .int a3)]) (s1 := [.int (nI k), .ref 123]) (v1 := w28) (p2 := 74) (l2 := [(0, .ref 111), (1, .int (nI k)), (2, .int a2), (3, .int a3)]) (s2 := [.int (nI k), .ref 123]) (v2 := w28) rfl rfl (fun q32 => ?_) (fun q32 => ?_)
          · replace q32 := of_decide_eq_true q32
            refine sx_RP.step (pc2 := 79) (ls2 := [(0, .ref 111), (1, .int (nI k)), (2, .int a2), (3, .int a3)]) (st2 := [.int a3, .int (nI k), .ref 123]) (w3 := w28) rfl rfl ?_
            refine sx_RP.mSt (k := k) hI29 rfl hk (sz_of (Int32.not_lt.mpr q26) q27) (show _ = 80 from rfl) (fun w33 hI34 hF35 ex36 => ?_)
            refine sx_RP.step (pc2 := 81) (ls2 := [(0, .ref 111), (1, .int (nI k)), (2, .int a2), (3, .int a3)]) (st2 := [.int 0]) (w3 := w33) rfl rfl ?_
            refine sx_RP.step (pc2 := 83) (ls2 := [(4, .int 0), (0, .ref 111), (1, .int (nI k)), (2, .int a2), (3, .int a3)]) (st2 := []) (w3 := w33) rfl rfl ?_
            refine sx_RP.ls (sx_lr.cons rfl (sx_lr.cons rfl (sx_lr.cons rfl sx_lr.nil))) ((s230ML hk 40 0 w33 (by omega) (by omega) hI34 EM.rf).mono (fun r w2 q => ?_))
            have i2 := kpI (a := 122) (Or.inl rfl) hI34 q.2.1 ((q.2.2 122).2 (by decide))
            have i3 := kpI (a := 123) (Or.inr rfl) hI34 q.2.1 ((q.2.2 123).2 (by decide))
            have j2 : ia w2 122 = (ia w 122).set k a2 := i2.trans ((ia_of (hF35 122 (by decide))).trans ex31)
            have j3 : ia w2 123 = (ia w 123).set k (if a2 = 0 then 0 else a3) := by rw [if_neg q32]; exact i3.trans (ex36.trans (by rw [ia_of (hF30 123 (by decide))]))
            refine ⟨⟨?_, FMs_put hk hI j2 j3 _ ((sh_4 ⟨⟨nI_le (a := 0) (Nat.zero_le _) (by omega), nI_le (b := 3) (show k ≤ 3 by omega) (by decide)⟩, (Or.inr (Or.inl q25))⟩ q26 q27).2 _) (fun s hs => shF_out hs)⟩, q.2.1, fun a ha => ((q.2.2 a).1 ha).trans ((hF35 a (by omega)).trans (hF30 a (by omega)))⟩
            rw [q.1, j3, gd_set (by rw [hI.1.a123.2]; exact hk), if_pos rfl, (sh_4 ⟨⟨nI_le (a := 0) (Nat.zero_le _) (by omega), nI_le (b := 3) (show k ≤ 3 by omega) (by decide)⟩, (Or.inr (Or.inl q25))⟩ q26 q27).1]
          · replace q32 := Decidable.not_not.mp (of_decide_eq_false q32)
            refine sx_RP.step (pc2 := 75) (ls2 := [(0, .ref 111), (1, .int (nI k)), (2, .int a2), (3, .int a3)]) (st2 := [.int 0, .int (nI k), .ref 123]) (w3 := w28) rfl rfl ?_
            refine sx_RP.step (pc2 := 79) (ls2 := [(0, .ref 111), (1, .int (nI k)), (2, .int a2), (3, .int a3)]) (st2 := [.int 0, .int (nI k), .ref 123]) (w3 := w28) rfl rfl ?_
            refine sx_RP.mSt (k := k) hI29 rfl hk ⟨0, by decide, rfl⟩ (show _ = 80 from rfl) (fun w37 hI38 hF39 ex40 => ?_)
            refine sx_RP.step (pc2 := 81) (ls2 := [(0, .ref 111), (1, .int (nI k)), (2, .int a2), (3, .int a3)]) (st2 := [.int 0]) (w3 := w37) rfl rfl ?_
            refine sx_RP.step (pc2 := 83) (ls2 := [(4, .int 0), (0, .ref 111), (1, .int (nI k)), (2, .int a2), (3, .int a3)]) (st2 := []) (w3 := w37) rfl rfl ?_
            refine sx_RP.ls (sx_lr.cons rfl (sx_lr.cons rfl (sx_lr.cons rfl sx_lr.nil))) ((s230ML hk 40 0 w37 (by omega) (by omega) hI38 EM.rf).mono (fun r w2 q => ?_))
            have i2 := kpI (a := 122) (Or.inl rfl) hI38 q.2.1 ((q.2.2 122).2 (by decide))
            have i3 := kpI (a := 123) (Or.inr rfl) hI38 q.2.1 ((q.2.2 123).2 (by decide))
            have j2 : ia w2 122 = (ia w 122).set k a2 := i2.trans ((ia_of (hF39 122 (by decide))).trans ex31)
            have j3 : ia w2 123 = (ia w 123).set k (if a2 = 0 then 0 else a3) := by rw [if_pos q32]; exact i3.trans (ex40.trans (by rw [ia_of (hF30 123 (by decide))]))
            refine ⟨⟨?_, FMs_put hk hI j2 j3 _ ((sh_4 ⟨⟨nI_le (a := 0) (Nat.zero_le _) (by omega), nI_le (b := 3) (show k ≤ 3 by omega) (by decide)⟩, (Or.inl q32)⟩ q26 q27).2 _) (fun s hs => shF_out hs)⟩, q.2.1, fun a ha => ((q.2.2 a).1 ha).trans ((hF39 a (by omega)).trans (hF30 a (by omega)))⟩
            rw [q.1, j3, gd_set (by rw [hI.1.a123.2]; exact hk), if_pos rfl, (sh_4 ⟨⟨nI_le (a := 0) (Nat.zero_le _) (by omega), nI_le (b := 3) (show k ≤ 3 by omega) (by decide)⟩, (Or.inl q32)⟩ q26 q27).1]
        · replace q27 := of_decide_eq_false q27
          refine sx_RP.step (pc2 := 53) (ls2 := [(0, .ref 111), (1, .int (nI k)), (2, .int a2), (3, .int a3)]) (st2 := [.ref 111]) (w3 := w) rfl rfl ?_
          refine sx_RP.step (pc2 := 54) (ls2 := [(0, .ref 111), (1, .int (nI k)), (2, .int a2), (3, .int a3)]) (st2 := [.int 0, .ref 111]) (w3 := w) rfl rfl ?_
          refine sx_RP.callp (as2 := [.ref 111, .int 0]) (rest2 := []) rfl rfl (sx_inv_v2 (mi := 230) (k := 70) (st := [.int 0, .ref 111]) (w := w) rfl rfl hI.1.o111 rfl rfl rfl) rfl rfl rfl (s133_0 hI) (show _ = 57 from rfl) ?_
          rintro r4 w41 ⟨rfl, hI42, hE44⟩
          have hE43 := hE.tr (hE44)
          show sx_RP _ _ _ _ _ [.int (-1000000001)] _ _
          refine sx_RP.ret (r := (some (.int (-1000000001)))) rfl rfl ?_
          exact ⟨⟨by rw [(sh_3 ⟨⟨nI_le (a := 0) (Nat.zero_le _) (by omega), nI_le (b := 3) (show k ≤ 3 by omega) (by decide)⟩, (Or.inr (Or.inl q25))⟩ q26 q27).1], by rw [(sh_3 ⟨⟨nI_le (a := 0) (Nat.zero_le _) (by omega), nI_le (b := 3) (show k ≤ 3 by omega) (by decide)⟩, (Or.inr (Or.inl q25))⟩ q26 q27).2]; exact FMs_em hI hI42 hE44⟩, hI42, fun a ha => (hE44 a).1 ha⟩
      · replace q26 := of_decide_eq_false q26
        refine sx_RP.step (pc2 := 40) (ls2 := [(0, .ref 111), (1, .int (nI k)), (2, .int a2), (3, .int a3)]) (st2 := [.ref 111]) (w3 := w) rfl rfl ?_
        refine sx_RP.step (pc2 := 42) (ls2 := [(0, .ref 111), (1, .int (nI k)), (2, .int a2), (3, .int a3)]) (st2 := [.int 6, .ref 111]) (w3 := w) rfl rfl ?_
        refine sx_RP.callp (as2 := [.ref 111, .int 6]) (rest2 := []) rfl rfl (sx_inv_v2 (mi := 230) (k := 70) (st := [.int 6, .ref 111]) (w := w) rfl rfl hI.1.o111 rfl rfl rfl) rfl rfl rfl (s133_6 hI) (show _ = 45 from rfl) ?_
        rintro r4 w45 ⟨rfl, hI46, hE48⟩
        have hE47 := hE.tr (hE48)
        show sx_RP _ _ _ _ _ [.int (-1000000007)] _ _
        refine sx_RP.ret (r := (some (.int (-1000000007)))) rfl rfl ?_
        exact ⟨⟨by rw [(sh_2 ⟨⟨nI_le (a := 0) (Nat.zero_le _) (by omega), nI_le (b := 3) (show k ≤ 3 by omega) (by decide)⟩, (Or.inr (Or.inl q25))⟩ q26).1], by rw [(sh_2 ⟨⟨nI_le (a := 0) (Nat.zero_le _) (by omega), nI_le (b := 3) (show k ≤ 3 by omega) (by decide)⟩, (Or.inr (Or.inl q25))⟩ q26).2]; exact FMs_em hI hI46 hE48⟩, hI46, fun a ha => (hE48 a).1 ha⟩
    · replace q25 := of_decide_eq_false q25
      refine sx_RP.step (pc2 := 18) (ls2 := [(0, .ref 111), (1, .int (nI k)), (2, .int a2), (3, .int a3)]) (st2 := [.int a2]) (w3 := w) rfl rfl ?_
      refine sx_RP.step (pc2 := 20) (ls2 := [(0, .ref 111), (1, .int (nI k)), (2, .int a2), (3, .int a3)]) (st2 := [.int 16, .int a2]) (w3 := w) rfl rfl ?_
      refine sx_RP.br (p1 := 35) (l1 := [(0, .ref 111), (1, .int (nI k)), (2, .int a2), (3, .int a3)]) (s1 := []) (v1 := w) (p2 := 23) (l2 := [(0, .ref 111), (1, .int (nI k)), (2, .int a2), (3, .int a3)]) (s2 := []) (v2 := w) rfl rfl (fun q49 => ?_) (fun q49 => ?_)
      · replace q49 := of_decide_eq_true q49
        refine sx_RP.step (pc2 := 36) (ls2 := [(0, .ref 111), (1, .int (nI k)), (2, .int a2), (3, .int a3)]) (st2 := [.int a3]) (w3 := w) rfl rfl ?_
        refine sx_RP.br (p1 := 46) (l1 := [(0, .ref 111), (1, .int (nI k)), (2, .int a2), (3, .int a3)]) (s1 := []) (v1 := w) (p2 := 39) (l2 := [(0, .ref 111), (1, .int (nI k)), (2, .int a2), (3, .int a3)]) (s2 := []) (v2 := w) rfl rfl (fun q50 => ?_) (fun q50 => ?_)
        · replace q50 := of_decide_eq_true q50
          refine sx_RP.step (pc2 := 47) (ls2 := [(0, .ref 111), (1, .int (nI k)), (2, .int a2), (3, .int a3)]) (st2 := [.int a3]) (w3 := w) rfl rfl ?_
          refine sx_RP.step (pc2 := 49) (ls2 := [(0, .ref 111), (1, .int (nI k)), (2, .int a2), (3, .int a3)]) (st2 := [.int 40, .int a3]) (w3 := w) rfl rfl ?_
          refine sx_RP.br (p1 := 58) (l1 := [(0, .ref 111), (1, .int (nI k)), (2, .int a2), (3, .int a3)]) (s1 := []) (v1 := w) (p2 := 52) (l2 := [(0, .ref 111), (1, .int (nI k)), (2, .int a2), (3, .int a3)]) (s2 := []) (v2 := w) rfl rfl (fun q51 => ?_) (fun q51 => ?_)
          · replace q51 := of_decide_eq_true q51
            refine sx_RP.step (pc2 := 59) (ls2 := [(0, .ref 111), (1, .int (nI k)), (2, .int a2), (3, .int a3)]) (st2 := [.ref 111]) (w3 := w) rfl rfl ?_
            refine sx_RP.gf (v := .ref 122) rfl rfl hI.1.o111 rfl rfl (show _ = 62 from rfl) ?_
            refine sx_RP.step (pc2 := 63) (ls2 := [(0, .ref 111), (1, .int (nI k)), (2, .int a2), (3, .int a3)]) (st2 := [.int (nI k), .ref 122]) (w3 := w) rfl rfl ?_
            refine sx_RP.step (pc2 := 64) (ls2 := [(0, .ref 111), (1, .int (nI k)), (2, .int a2), (3, .int a3)]) (st2 := [.int a2, .int (nI k), .ref 122]) (w3 := w) rfl rfl ?_
            refine sx_RP.mBt (k := k) hI rfl hk (show _ = 65 from rfl) (fun w52 hI53 hF54 ex55 => ?_)
            refine sx_RP.step (pc2 := 66) (ls2 := [(0, .ref 111), (1, .int (nI k)), (2, .int a2), (3, .int a3)]) (st2 := [.ref 111]) (w3 := w52) rfl rfl ?_
            refine sx_RP.gf (v := .ref 123) rfl rfl hI53.1.o111 rfl rfl (show _ = 69 from rfl) ?_
            refine sx_RP.step (pc2 := 70) (ls2 := [(0, .ref 111), (1, .int (nI k)), (2, .int a2), (3, .int a3)]) (st2 := [.int (nI k), .ref 123]) (w3 := w52) rfl rfl ?_
            refine sx_RP.step (pc2 := 71) (ls2 := [(0, .ref 111), (1, .int (nI k)), (2, .int a2), (3, .int a3)]) (st2 := [.int a2, .int (nI k), .ref 123]) (w3 := w52) rfl rfl ?_
            refine sx_RP.br (p1 := 78) (l1 := [(0, .ref 111), (1, .int (nI k)), (2, .int a2), (3, .int a3)]) (s1 := [.int (nI k), .ref 123]) (v1 := w52) (p2 := 74) (l2 := [(0, .ref 111), (1, .int (nI k)), (2, .int a2), (3, .int a3)]) (s2 := [.int (nI k), .ref 123]) (v2 := w52) rfl rfl (fun q56 => ?_) (fun q56 => ?_)
            · replace q56 := of_decide_eq_true q56
              refine sx_RP.step (pc2 := 79) (ls2 := [(0, .ref 111), (1, .int (nI k)), (2, .int a2), (3, .int a3)]) (st2 := [.int a3, .int (nI k), .ref 123]) (w3 := w52) rfl rfl ?_
              refine sx_RP.mSt (k := k) hI53 rfl hk (sz_of (Int32.not_lt.mpr q50) q51) (show _ = 80 from rfl) (fun w57 hI58 hF59 ex60 => ?_)
              refine sx_RP.step (pc2 := 81) (ls2 := [(0, .ref 111), (1, .int (nI k)), (2, .int a2), (3, .int a3)]) (st2 := [.int 0]) (w3 := w57) rfl rfl ?_
              refine sx_RP.step (pc2 := 83) (ls2 := [(4, .int 0), (0, .ref 111), (1, .int (nI k)), (2, .int a2), (3, .int a3)]) (st2 := []) (w3 := w57) rfl rfl ?_
              refine sx_RP.ls (sx_lr.cons rfl (sx_lr.cons rfl (sx_lr.cons rfl sx_lr.nil))) ((s230ML hk 40 0 w57 (by omega) (by omega) hI58 EM.rf).mono (fun r w2 q => ?_))
              have i2 := kpI (a := 122) (Or.inl rfl) hI58 q.2.1 ((q.2.2 122).2 (by decide))
              have i3 := kpI (a := 123) (Or.inr rfl) hI58 q.2.1 ((q.2.2 123).2 (by decide))
              have j2 : ia w2 122 = (ia w 122).set k a2 := i2.trans ((ia_of (hF59 122 (by decide))).trans ex55)
              have j3 : ia w2 123 = (ia w 123).set k (if a2 = 0 then 0 else a3) := by rw [if_neg q56]; exact i3.trans (ex60.trans (by rw [ia_of (hF54 123 (by decide))]))
              refine ⟨⟨?_, FMs_put hk hI j2 j3 _ ((sh_4 ⟨⟨nI_le (a := 0) (Nat.zero_le _) (by omega), nI_le (b := 3) (show k ≤ 3 by omega) (by decide)⟩, (Or.inr (Or.inr (Or.inl q49)))⟩ q50 q51).2 _) (fun s hs => shF_out hs)⟩, q.2.1, fun a ha => ((q.2.2 a).1 ha).trans ((hF59 a (by omega)).trans (hF54 a (by omega)))⟩
              rw [q.1, j3, gd_set (by rw [hI.1.a123.2]; exact hk), if_pos rfl, (sh_4 ⟨⟨nI_le (a := 0) (Nat.zero_le _) (by omega), nI_le (b := 3) (show k ≤ 3 by omega) (by decide)⟩, (Or.inr (Or.inr (Or.inl q49)))⟩ q50 q51).1]
            · replace q56 := Decidable.not_not.mp (of_decide_eq_false q56)
              refine sx_RP.step (pc2 := 75) (ls2 := [(0, .ref 111), (1, .int (nI k)), (2, .int a2), (3, .int a3)]) (st2 := [.int 0, .int (nI k), .ref 123]) (w3 := w52) rfl rfl ?_
              refine sx_RP.step (pc2 := 79) (ls2 := [(0, .ref 111), (1, .int (nI k)), (2, .int a2), (3, .int a3)]) (st2 := [.int 0, .int (nI k), .ref 123]) (w3 := w52) rfl rfl ?_
              refine sx_RP.mSt (k := k) hI53 rfl hk ⟨0, by decide, rfl⟩ (show _ = 80 from rfl) (fun w61 hI62 hF63 ex64 => ?_)
              refine sx_RP.step (pc2 := 81) (ls2 := [(0, .ref 111), (1, .int (nI k)), (2, .int a2), (3, .int a3)]) (st2 := [.int 0]) (w3 := w61) rfl rfl ?_
              refine sx_RP.step (pc2 := 83) (ls2 := [(4, .int 0), (0, .ref 111), (1, .int (nI k)), (2, .int a2), (3, .int a3)]) (st2 := []) (w3 := w61) rfl rfl ?_
              refine sx_RP.ls (sx_lr.cons rfl (sx_lr.cons rfl (sx_lr.cons rfl sx_lr.nil))) ((s230ML hk 40 0 w61 (by omega) (by omega) hI62 EM.rf).mono (fun r w2 q => ?_))
              have i2 := kpI (a := 122) (Or.inl rfl) hI62 q.2.1 ((q.2.2 122).2 (by decide))
              have i3 := kpI (a := 123) (Or.inr rfl) hI62 q.2.1 ((q.2.2 123).2 (by decide))
              have j2 : ia w2 122 = (ia w 122).set k a2 := i2.trans ((ia_of (hF63 122 (by decide))).trans ex55)
              have j3 : ia w2 123 = (ia w 123).set k (if a2 = 0 then 0 else a3) := by rw [if_pos q56]; exact i3.trans (ex64.trans (by rw [ia_of (hF54 123 (by decide))]))
              refine ⟨⟨?_, FMs_put hk hI j2 j3 _ ((sh_4 ⟨⟨nI_le (a := 0) (Nat.zero_le _) (by omega), nI_le (b := 3) (show k ≤ 3 by omega) (by decide)⟩, (Or.inl q56)⟩ q50 q51).2 _) (fun s hs => shF_out hs)⟩, q.2.1, fun a ha => ((q.2.2 a).1 ha).trans ((hF63 a (by omega)).trans (hF54 a (by omega)))⟩
              rw [q.1, j3, gd_set (by rw [hI.1.a123.2]; exact hk), if_pos rfl, (sh_4 ⟨⟨nI_le (a := 0) (Nat.zero_le _) (by omega), nI_le (b := 3) (show k ≤ 3 by omega) (by decide)⟩, (Or.inl q56)⟩ q50 q51).1]
          · replace q51 := of_decide_eq_false q51
            refine sx_RP.step (pc2 := 53) (ls2 := [(0, .ref 111), (1, .int (nI k)), (2, .int a2), (3, .int a3)]) (st2 := [.ref 111]) (w3 := w) rfl rfl ?_
            refine sx_RP.step (pc2 := 54) (ls2 := [(0, .ref 111), (1, .int (nI k)), (2, .int a2), (3, .int a3)]) (st2 := [.int 0, .ref 111]) (w3 := w) rfl rfl ?_
            refine sx_RP.callp (as2 := [.ref 111, .int 0]) (rest2 := []) rfl rfl (sx_inv_v2 (mi := 230) (k := 70) (st := [.int 0, .ref 111]) (w := w) rfl rfl hI.1.o111 rfl rfl rfl) rfl rfl rfl (s133_0 hI) (show _ = 57 from rfl) ?_
            rintro r4 w65 ⟨rfl, hI66, hE68⟩
            have hE67 := hE.tr (hE68)
            show sx_RP _ _ _ _ _ [.int (-1000000001)] _ _
            refine sx_RP.ret (r := (some (.int (-1000000001)))) rfl rfl ?_
            exact ⟨⟨by rw [(sh_3 ⟨⟨nI_le (a := 0) (Nat.zero_le _) (by omega), nI_le (b := 3) (show k ≤ 3 by omega) (by decide)⟩, (Or.inr (Or.inr (Or.inl q49)))⟩ q50 q51).1], by rw [(sh_3 ⟨⟨nI_le (a := 0) (Nat.zero_le _) (by omega), nI_le (b := 3) (show k ≤ 3 by omega) (by decide)⟩, (Or.inr (Or.inr (Or.inl q49)))⟩ q50 q51).2]; exact FMs_em hI hI66 hE68⟩, hI66, fun a ha => (hE68 a).1 ha⟩
        · replace q50 := of_decide_eq_false q50
          refine sx_RP.step (pc2 := 40) (ls2 := [(0, .ref 111), (1, .int (nI k)), (2, .int a2), (3, .int a3)]) (st2 := [.ref 111]) (w3 := w) rfl rfl ?_
          refine sx_RP.step (pc2 := 42) (ls2 := [(0, .ref 111), (1, .int (nI k)), (2, .int a2), (3, .int a3)]) (st2 := [.int 6, .ref 111]) (w3 := w) rfl rfl ?_
          refine sx_RP.callp (as2 := [.ref 111, .int 6]) (rest2 := []) rfl rfl (sx_inv_v2 (mi := 230) (k := 70) (st := [.int 6, .ref 111]) (w := w) rfl rfl hI.1.o111 rfl rfl rfl) rfl rfl rfl (s133_6 hI) (show _ = 45 from rfl) ?_
          rintro r4 w69 ⟨rfl, hI70, hE72⟩
          have hE71 := hE.tr (hE72)
          show sx_RP _ _ _ _ _ [.int (-1000000007)] _ _
          refine sx_RP.ret (r := (some (.int (-1000000007)))) rfl rfl ?_
          exact ⟨⟨by rw [(sh_2 ⟨⟨nI_le (a := 0) (Nat.zero_le _) (by omega), nI_le (b := 3) (show k ≤ 3 by omega) (by decide)⟩, (Or.inr (Or.inr (Or.inl q49)))⟩ q50).1], by rw [(sh_2 ⟨⟨nI_le (a := 0) (Nat.zero_le _) (by omega), nI_le (b := 3) (show k ≤ 3 by omega) (by decide)⟩, (Or.inr (Or.inr (Or.inl q49)))⟩ q50).2]; exact FMs_em hI hI70 hE72⟩, hI70, fun a ha => (hE72 a).1 ha⟩
      · replace q49 := of_decide_eq_false q49
        refine sx_RP.step (pc2 := 24) (ls2 := [(0, .ref 111), (1, .int (nI k)), (2, .int a2), (3, .int a3)]) (st2 := [.int a2]) (w3 := w) rfl rfl ?_
        refine sx_RP.step (pc2 := 26) (ls2 := [(0, .ref 111), (1, .int (nI k)), (2, .int a2), (3, .int a3)]) (st2 := [.int 64, .int a2]) (w3 := w) rfl rfl ?_
        refine sx_RP.br (p1 := 35) (l1 := [(0, .ref 111), (1, .int (nI k)), (2, .int a2), (3, .int a3)]) (s1 := []) (v1 := w) (p2 := 29) (l2 := [(0, .ref 111), (1, .int (nI k)), (2, .int a2), (3, .int a3)]) (s2 := []) (v2 := w) rfl rfl (fun q73 => ?_) (fun q73 => ?_)
        · replace q73 := of_decide_eq_true q73
          refine sx_RP.step (pc2 := 36) (ls2 := [(0, .ref 111), (1, .int (nI k)), (2, .int a2), (3, .int a3)]) (st2 := [.int a3]) (w3 := w) rfl rfl ?_
          refine sx_RP.br (p1 := 46) (l1 := [(0, .ref 111), (1, .int (nI k)), (2, .int a2), (3, .int a3)]) (s1 := []) (v1 := w) (p2 := 39) (l2 := [(0, .ref 111), (1, .int (nI k)), (2, .int a2), (3, .int a3)]) (s2 := []) (v2 := w) rfl rfl (fun q74 => ?_) (fun q74 => ?_)
          · replace q74 := of_decide_eq_true q74
            refine sx_RP.step (pc2 := 47) (ls2 := [(0, .ref 111), (1, .int (nI k)), (2, .int a2), (3, .int a3)]) (st2 := [.int a3]) (w3 := w) rfl rfl ?_
            refine sx_RP.step (pc2 := 49) (ls2 := [(0, .ref 111), (1, .int (nI k)), (2, .int a2), (3, .int a3)]) (st2 := [.int 40, .int a3]) (w3 := w) rfl rfl ?_
            refine sx_RP.br (p1 := 58) (l1 := [(0, .ref 111), (1, .int (nI k)), (2, .int a2), (3, .int a3)]) (s1 := []) (v1 := w) (p2 := 52) (l2 := [(0, .ref 111), (1, .int (nI k)), (2, .int a2), (3, .int a3)]) (s2 := []) (v2 := w) rfl rfl (fun q75 => ?_) (fun q75 => ?_)
            · replace q75 := of_decide_eq_true q75
              refine sx_RP.step (pc2 := 59) (ls2 := [(0, .ref 111), (1, .int (nI k)), (2, .int a2), (3, .int a3)]) (st2 := [.ref 111]) (w3 := w) rfl rfl ?_
              refine sx_RP.gf (v := .ref 122) rfl rfl hI.1.o111 rfl rfl (show _ = 62 from rfl) ?_
              refine sx_RP.step (pc2 := 63) (ls2 := [(0, .ref 111), (1, .int (nI k)), (2, .int a2), (3, .int a3)]) (st2 := [.int (nI k), .ref 122]) (w3 := w) rfl rfl ?_
              refine sx_RP.step (pc2 := 64) (ls2 := [(0, .ref 111), (1, .int (nI k)), (2, .int a2), (3, .int a3)]) (st2 := [.int a2, .int (nI k), .ref 122]) (w3 := w) rfl rfl ?_
              refine sx_RP.mBt (k := k) hI rfl hk (show _ = 65 from rfl) (fun w76 hI77 hF78 ex79 => ?_)
              refine sx_RP.step (pc2 := 66) (ls2 := [(0, .ref 111), (1, .int (nI k)), (2, .int a2), (3, .int a3)]) (st2 := [.ref 111]) (w3 := w76) rfl rfl ?_
              refine sx_RP.gf (v := .ref 123) rfl rfl hI77.1.o111 rfl rfl (show _ = 69 from rfl) ?_
              refine sx_RP.step (pc2 := 70) (ls2 := [(0, .ref 111), (1, .int (nI k)), (2, .int a2), (3, .int a3)]) (st2 := [.int (nI k), .ref 123]) (w3 := w76) rfl rfl ?_
              refine sx_RP.step (pc2 := 71) (ls2 := [(0, .ref 111), (1, .int (nI k)), (2, .int a2), (3, .int a3)]) (st2 := [.int a2, .int (nI k), .ref 123]) (w3 := w76) rfl rfl ?_
              refine sx_RP.br (p1 := 78) (l1 := [(0, .ref 111), (1, .int (nI k)), (2, .int a2), (3, .int a3)]) (s1 := [.int (nI k), .ref 123]) (v1 := w76) (p2 := 74) (l2 := [(0, .ref 111), (1, .int (nI k)), (2, .int a2), (3, .int a3)]) (s2 := [.int (nI k), .ref 123]) (v2 := w76) rfl rfl (fun q80 => ?_) (fun q80 => ?_)
              · replace q80 := of_decide_eq_true q80
                refine sx_RP.step (pc2 := 79) (ls2 := [(0, .ref 111), (1, .int (nI k)), (2, .int a2), (3, .int a3)]) (st2 := [.int a3, .int (nI k), .ref 123]) (w3 := w76) rfl rfl ?_
                refine sx_RP.mSt (k := k) hI77 rfl hk (sz_of (Int32.not_lt.mpr q74) q75) (show _ = 80 from rfl) (fun w81 hI82 hF83 ex84 => ?_)
                refine sx_RP.step (pc2 := 81) (ls2 := [(0, .ref 111), (1, .int (nI k)), (2, .int a2), (3, .int a3)]) (st2 := [.int 0]) (w3 := w81) rfl rfl ?_
                refine sx_RP.step (pc2 := 83) (ls2 := [(4, .int 0), (0, .ref 111), (1, .int (nI k)), (2, .int a2), (3, .int a3)]) (st2 := []) (w3 := w81) rfl rfl ?_
                refine sx_RP.ls (sx_lr.cons rfl (sx_lr.cons rfl (sx_lr.cons rfl sx_lr.nil))) ((s230ML hk 40 0 w81 (by omega) (by omega) hI82 EM.rf).mono (fun r w2 q => ?_))
                have i2 := kpI (a := 122) (Or.inl rfl) hI82 q.2.1 ((q.2.2 122).2 (by decide))
                have i3 := kpI (a := 123) (Or.inr rfl) hI82 q.2.1 ((q.2.2 123).2 (by decide))
                have j2 : ia w2 122 = (ia w 122).set k a2 := i2.trans ((ia_of (hF83 122 (by decide))).trans ex79)
                have j3 : ia w2 123 = (ia w 123).set k (if a2 = 0 then 0 else a3) := by rw [if_neg q80]; exact i3.trans (ex84.trans (by rw [ia_of (hF78 123 (by decide))]))
                refine ⟨⟨?_, FMs_put hk hI j2 j3 _ ((sh_4 ⟨⟨nI_le (a := 0) (Nat.zero_le _) (by omega), nI_le (b := 3) (show k ≤ 3 by omega) (by decide)⟩, (Or.inr (Or.inr (Or.inr q73)))⟩ q74 q75).2 _) (fun s hs => shF_out hs)⟩, q.2.1, fun a ha => ((q.2.2 a).1 ha).trans ((hF83 a (by omega)).trans (hF78 a (by omega)))⟩
                rw [q.1, j3, gd_set (by rw [hI.1.a123.2]; exact hk), if_pos rfl, (sh_4 ⟨⟨nI_le (a := 0) (Nat.zero_le _) (by omega), nI_le (b := 3) (show k ≤ 3 by omega) (by decide)⟩, (Or.inr (Or.inr (Or.inr q73)))⟩ q74 q75).1]
              · replace q80 := Decidable.not_not.mp (of_decide_eq_false q80)
                refine sx_RP.step (pc2 := 75) (ls2 := [(0, .ref 111), (1, .int (nI k)), (2, .int a2), (3, .int a3)]) (st2 := [.int 0, .int (nI k), .ref 123]) (w3 := w76) rfl rfl ?_
                refine sx_RP.step (pc2 := 79) (ls2 := [(0, .ref 111), (1, .int (nI k)), (2, .int a2), (3, .int a3)]) (st2 := [.int 0, .int (nI k), .ref 123]) (w3 := w76) rfl rfl ?_
                refine sx_RP.mSt (k := k) hI77 rfl hk ⟨0, by decide, rfl⟩ (show _ = 80 from rfl) (fun w85 hI86 hF87 ex88 => ?_)
                refine sx_RP.step (pc2 := 81) (ls2 := [(0, .ref 111), (1, .int (nI k)), (2, .int a2), (3, .int a3)]) (st2 := [.int 0]) (w3 := w85) rfl rfl ?_
                refine sx_RP.step (pc2 := 83) (ls2 := [(4, .int 0), (0, .ref 111), (1, .int (nI k)), (2, .int a2), (3, .int a3)]) (st2 := []) (w3 := w85) rfl rfl ?_
                refine sx_RP.ls (sx_lr.cons rfl (sx_lr.cons rfl (sx_lr.cons rfl sx_lr.nil))) ((s230ML hk 40 0 w85 (by omega) (by omega) hI86 EM.rf).mono (fun r w2 q => ?_))
                have i2 := kpI (a := 122) (Or.inl rfl) hI86 q.2.1 ((q.2.2 122).2 (by decide))
                have i3 := kpI (a := 123) (Or.inr rfl) hI86 q.2.1 ((q.2.2 123).2 (by decide))
                have j2 : ia w2 122 = (ia w 122).set k a2 := i2.trans ((ia_of (hF87 122 (by decide))).trans ex79)
                have j3 : ia w2 123 = (ia w 123).set k (if a2 = 0 then 0 else a3) := by rw [if_pos q80]; exact i3.trans (ex88.trans (by rw [ia_of (hF78 123 (by decide))]))
                refine ⟨⟨?_, FMs_put hk hI j2 j3 _ ((sh_4 ⟨⟨nI_le (a := 0) (Nat.zero_le _) (by omega), nI_le (b := 3) (show k ≤ 3 by omega) (by decide)⟩, (Or.inl q80)⟩ q74 q75).2 _) (fun s hs => shF_out hs)⟩, q.2.1, fun a ha => ((q.2.2 a).1 ha).trans ((hF87 a (by omega)).trans (hF78 a (by omega)))⟩
                rw [q.1, j3, gd_set (by rw [hI.1.a123.2]; exact hk), if_pos rfl, (sh_4 ⟨⟨nI_le (a := 0) (Nat.zero_le _) (by omega), nI_le (b := 3) (show k ≤ 3 by omega) (by decide)⟩, (Or.inl q80)⟩ q74 q75).1]
            · replace q75 := of_decide_eq_false q75
              refine sx_RP.step (pc2 := 53) (ls2 := [(0, .ref 111), (1, .int (nI k)), (2, .int a2), (3, .int a3)]) (st2 := [.ref 111]) (w3 := w) rfl rfl ?_
              refine sx_RP.step (pc2 := 54) (ls2 := [(0, .ref 111), (1, .int (nI k)), (2, .int a2), (3, .int a3)]) (st2 := [.int 0, .ref 111]) (w3 := w) rfl rfl ?_
              refine sx_RP.callp (as2 := [.ref 111, .int 0]) (rest2 := []) rfl rfl (sx_inv_v2 (mi := 230) (k := 70) (st := [.int 0, .ref 111]) (w := w) rfl rfl hI.1.o111 rfl rfl rfl) rfl rfl rfl (s133_0 hI) (show _ = 57 from rfl) ?_
              rintro r4 w89 ⟨rfl, hI90, hE92⟩
              have hE91 := hE.tr (hE92)
              show sx_RP _ _ _ _ _ [.int (-1000000001)] _ _
              refine sx_RP.ret (r := (some (.int (-1000000001)))) rfl rfl ?_
              exact ⟨⟨by rw [(sh_3 ⟨⟨nI_le (a := 0) (Nat.zero_le _) (by omega), nI_le (b := 3) (show k ≤ 3 by omega) (by decide)⟩, (Or.inr (Or.inr (Or.inr q73)))⟩ q74 q75).1], by rw [(sh_3 ⟨⟨nI_le (a := 0) (Nat.zero_le _) (by omega), nI_le (b := 3) (show k ≤ 3 by omega) (by decide)⟩, (Or.inr (Or.inr (Or.inr q73)))⟩ q74 q75).2]; exact FMs_em hI hI90 hE92⟩, hI90, fun a ha => (hE92 a).1 ha⟩
          · replace q74 := of_decide_eq_false q74
            refine sx_RP.step (pc2 := 40) (ls2 := [(0, .ref 111), (1, .int (nI k)), (2, .int a2), (3, .int a3)]) (st2 := [.ref 111]) (w3 := w) rfl rfl ?_
            refine sx_RP.step (pc2 := 42) (ls2 := [(0, .ref 111), (1, .int (nI k)), (2, .int a2), (3, .int a3)]) (st2 := [.int 6, .ref 111]) (w3 := w) rfl rfl ?_
            refine sx_RP.callp (as2 := [.ref 111, .int 6]) (rest2 := []) rfl rfl (sx_inv_v2 (mi := 230) (k := 70) (st := [.int 6, .ref 111]) (w := w) rfl rfl hI.1.o111 rfl rfl rfl) rfl rfl rfl (s133_6 hI) (show _ = 45 from rfl) ?_
            rintro r4 w93 ⟨rfl, hI94, hE96⟩
            have hE95 := hE.tr (hE96)
            show sx_RP _ _ _ _ _ [.int (-1000000007)] _ _
            refine sx_RP.ret (r := (some (.int (-1000000007)))) rfl rfl ?_
            exact ⟨⟨by rw [(sh_2 ⟨⟨nI_le (a := 0) (Nat.zero_le _) (by omega), nI_le (b := 3) (show k ≤ 3 by omega) (by decide)⟩, (Or.inr (Or.inr (Or.inr q73)))⟩ q74).1], by rw [(sh_2 ⟨⟨nI_le (a := 0) (Nat.zero_le _) (by omega), nI_le (b := 3) (show k ≤ 3 by omega) (by decide)⟩, (Or.inr (Or.inr (Or.inr q73)))⟩ q74).2]; exact FMs_em hI hI94 hE96⟩, hI94, fun a ha => (hE96 a).1 ha⟩
        · replace q73 := of_decide_eq_false q73
          refine sx_RP.step (pc2 := 30) (ls2 := [(0, .ref 111), (1, .int (nI k)), (2, .int a2), (3, .int a3)]) (st2 := [.ref 111]) (w3 := w) rfl rfl ?_
          refine sx_RP.step (pc2 := 31) (ls2 := [(0, .ref 111), (1, .int (nI k)), (2, .int a2), (3, .int a3)]) (st2 := [.int 0, .ref 111]) (w3 := w) rfl rfl ?_
          refine sx_RP.callp (as2 := [.ref 111, .int 0]) (rest2 := []) rfl rfl (sx_inv_v2 (mi := 230) (k := 70) (st := [.int 0, .ref 111]) (w := w) rfl rfl hI.1.o111 rfl rfl rfl) rfl rfl rfl (s133_0 hI) (show _ = 34 from rfl) ?_
          rintro r4 w97 ⟨rfl, hI98, hE100⟩
          have hE99 := hE.tr (hE100)
          show sx_RP _ _ _ _ _ [.int (-1000000001)] _ _
          refine sx_RP.ret (r := (some (.int (-1000000001)))) rfl rfl ?_
          exact ⟨⟨by rw [(sh_1 (fun z => z.2.elim q1 (fun z => z.elim q25 (fun z => z.elim q49 q73)))).1], by rw [(sh_1 (fun z => z.2.elim q1 (fun z => z.elim q25 (fun z => z.elim q49 q73)))).2]; exact FMs_em hI hI98 hE100⟩, hI98, fun a ha => (hE100 a).1 ha⟩
set_option maxRecDepth 20000 in
set_option maxHeartbeats 4000000 in
theorem s230Sn {xs : Option (List Int32)} {d : Nat} {w : List sx_C} (hI : WI w) (a1 a2 a3 : Int32) (hn : ¬ (0 ≤ a1 ∧ a1 ≤ 3)) : sx_RP xs (d + 7) 230 0 (lv_args 0 [.ref 111, .int a1, .int a2, .int a3]) [] w (fun r w2 => (r = some (.int (shAns a1 a2 a3)) ∧ FMs w2 = shF (FMs w) a1 a2 a3) ∧ WI w2 ∧ ∀ a, a < 111 → w2[a]? = w[a]?) := by
  have hE : EM w w := EM.rf
  refine sx_RP.step (pc2 := 1) (ls2 := [(0, .ref 111), (1, .int a1), (2, .int a2), (3, .int a3)]) (st2 := [.int a1]) (w3 := w) rfl rfl ?_
  refine sx_RP.cu (as := [.int a1]) (rest2 := []) (st3 := [.int 0]) rfl rfl rfl rfl rfl (cx_231n hn) rfl ?_
  refine sx_RP.step (pc2 := 29) (ls2 := [(0, .ref 111), (1, .int a1), (2, .int a2), (3, .int a3)]) (st2 := []) (w3 := w) rfl rfl ?_
  refine sx_RP.step (pc2 := 30) (ls2 := [(0, .ref 111), (1, .int a1), (2, .int a2), (3, .int a3)]) (st2 := [.ref 111]) (w3 := w) rfl rfl ?_
  refine sx_RP.step (pc2 := 31) (ls2 := [(0, .ref 111), (1, .int a1), (2, .int a2), (3, .int a3)]) (st2 := [.int 0, .ref 111]) (w3 := w) rfl rfl ?_
  refine sx_RP.callp (as2 := [.ref 111, .int 0]) (rest2 := []) rfl rfl (sx_inv_v2 (mi := 230) (k := 70) (st := [.int 0, .ref 111]) (w := w) rfl rfl hI.1.o111 rfl rfl rfl) rfl rfl rfl (s133_0 hI) (show _ = 34 from rfl) ?_
  rintro r4 w1 ⟨rfl, hI2, hE4⟩
  have hE3 := hE.tr (hE4)
  show sx_RP _ _ _ _ _ [.int (-1000000001)] _ _
  refine sx_RP.ret (r := (some (.int (-1000000001)))) rfl rfl ?_
  exact ⟨⟨by rw [(sh_1 (fun z => hn z.1)).1], by rw [(sh_1 (fun z => hn z.1)).2]; exact FMs_em hI hI2 hE3⟩, hI2, fun a ha => (hE3 a).1 ha⟩
def EFS (w w2 : List sx_C) : Prop := EF w w2 ∧ ia w2 122 = ia w 122 ∧ ia w2 123 = ia w 123
theorem EFS.rf {w : List sx_C} : EFS w w := ⟨EF.rf, rfl, rfl⟩
theorem EFS.tr {w w1 w2 : List sx_C} (h : EFS w w1) (h2 : EFS w1 w2) : EFS w w2 := ⟨h.1.tr h2.1, h2.2.1.trans h.2.1, h2.2.2.trans h.2.2⟩
theorem EFS.set {w0 w : List sx_C} {a : Nat} {c : sx_C} (h : EFS w0 w) (ha : 112 ≤ a ∧ a ≠ 122 ∧ a ≠ 123) : EFS w0 (w.set a c) := h.tr ⟨EF.rf.set ha.1, ia_ne (by omega), ia_ne (by omega)⟩
section SXEFS
variable {xs : Option (List Int32)} {d mi pc pc2 idx p : Nat} {ls : sx_L} {r : List Value} {w w0 : List sx_C} {P : Option Value → List sx_C → Prop}
end SXEFS
end
-- 89y13b.copies.lean.txt
section
def runB (sz f n : Int32) : Bool := decide (0 ≤ f.toInt ∧ 0 ≤ n.toInt ∧ f.toInt + n.toInt ≤ sz.toInt)
theorem sub_toI {z : Nat} {y : Int32} (hz : z ≤ 40) (hy : 0 ≤ y.toInt) : (nI z - y).toInt = (z : Int) - y.toInt := by
  have h1 := Int32.toInt_lt y
  rw [Int32.toInt_sub, nI_toInt (by omega), Int.bmod_def]
  split <;> omega
theorem run_iff2 {z : Nat} {x y : Int32} (hz : z ≤ 40) : runB (nI z) x y = true ↔ (¬ y < 0 ∧ ¬ x < 0 ∧ ¬ nI z - y < x) := by
  unfold runB
  rw [decide_eq_true_iff, Int32.lt_iff_toInt_lt, Int32.lt_iff_toInt_lt, Int32.lt_iff_toInt_lt, nI_toInt (by omega), show (0 : Int32).toInt = 0 by decide]
  by_cases hy : y.toInt < 0
  · constructor <;> intro h <;> omega
  · rw [sub_toI hz (by omega)]
    constructor <;> intro h <;> omega
theorem run_iff1 {z : Nat} {x y : Int32} (hz : z ≤ 40) : runB (nI z) x y = true ↔ (¬ x < 0 ∧ ¬ y < 0 ∧ ¬ nI z < x ∧ ¬ nI z - x < y) := by
  unfold runB
  rw [decide_eq_true_iff, Int32.lt_iff_toInt_lt, Int32.lt_iff_toInt_lt, Int32.lt_iff_toInt_lt, Int32.lt_iff_toInt_lt, nI_toInt (by omega), show (0 : Int32).toInt = 0 by decide]
  by_cases hx : x.toInt < 0
  · constructor <;> intro h <;> omega
  · rw [sub_toI hz (by omega)]
    constructor <;> intro h <;> omega
theorem run_nat {sz x y : Int32} (hz : inR sz 40) (h : runB sz x y = true) : ∃ f m, x = nI f ∧ y = nI m ∧ f + m ≤ 40 := by
  obtain ⟨z, hz, rfl⟩ := hz
  have h2 := (run_iff2 hz).mp h
  obtain ⟨f, m, h3, h4, h5⟩ := cop_of hz h2.2.1 h2.1 h2.2.2
  exact ⟨f, m, h3, h4, by omega⟩
def cpAns (g : Nat → Int32 × Int32) (a1 a2 a3 a4 a5 : Int32) : Int32 := if (0 ≤ a1 ∧ a1 ≤ 3) ∧ (0 ≤ a3 ∧ a3 ≤ 3) then (if (g a1.toInt.toNat).1 = 0 ∨ (g a3.toInt.toNat).1 = 0 then -1000000006 else (if (g a1.toInt.toNat).1 = (g a3.toInt.toNat).1 then (if runB (g a1.toInt.toNat).2 a2 a5 = true ∧ runB (g a3.toInt.toNat).2 a4 a5 = true then a5 else -1000000001) else -1000000003)) else -1000000001
section SXCP
variable {g : Nat → Int32 × Int32} {s t : Nat} {a1 a2 a3 a4 a5 b1 b2 z1 z2 : Int32}
theorem cp_1 (h : ¬ ((0 ≤ a1 ∧ a1 ≤ 3) ∧ (0 ≤ a3 ∧ a3 ≤ 3))) : cpAns g a1 a2 a3 a4 a5 = -1000000001 := if_neg h
theorem cp_r {x : Nat} (h : x < 4) : (0 : Int32) ≤ nI x ∧ nI x ≤ 3 := ⟨nI_le (a := 0) (Nat.zero_le _) (by omega), nI_le (b := 3) (by omega) (by decide)⟩
theorem cp_0 (hs : s < 4) (ht : t < 4) (e1 : g s = (b1, z1)) (e2 : g t = (b2, z2)) : cpAns g (nI s) a2 (nI t) a4 a5 = (if b1 = 0 ∨ b2 = 0 then -1000000006 else (if b1 = b2 then (if runB z1 a2 a5 = true ∧ runB z2 a4 a5 = true then a5 else -1000000001) else -1000000003)) := by
  unfold cpAns
  rw [if_pos ⟨cp_r hs, cp_r ht⟩, nI_toInt (by omega), nI_toInt (by omega), Int.toNat_natCast, Int.toNat_natCast, e1, e2]
theorem cp_2 (hs : s < 4) (ht : t < 4) (e1 : g s = (b1, z1)) (e2 : g t = (b2, z2)) (h : b1 = 0 ∨ b2 = 0) : cpAns g (nI s) a2 (nI t) a4 a5 = -1000000006 := by rw [cp_0 hs ht e1 e2, if_pos h]
theorem cp_3 (hs : s < 4) (ht : t < 4) (e1 : g s = (b1, z1)) (e2 : g t = (b2, z2)) (h : ¬ b1 = 0) (h' : ¬ b2 = 0) (h2 : ¬ b1 = b2) : cpAns g (nI s) a2 (nI t) a4 a5 = -1000000003 := by rw [cp_0 hs ht e1 e2, if_neg (fun z => z.elim h h'), if_neg h2]
theorem cp_4 (hs : s < 4) (ht : t < 4) (e1 : g s = (b1, z1)) (e2 : g t = (b2, z2)) (h : ¬ b1 = 0) (h' : ¬ b2 = 0) (h2 : b1 = b2) (h3 : ¬ (runB z1 a2 a5 = true ∧ runB z2 a4 a5 = true)) : cpAns g (nI s) a2 (nI t) a4 a5 = -1000000001 := by rw [cp_0 hs ht e1 e2, if_neg (fun z => z.elim h h'), if_pos h2, if_neg h3]
theorem cp_5 (hs : s < 4) (ht : t < 4) (e1 : g s = (b1, z1)) (e2 : g t = (b2, z2)) (h : ¬ b1 = 0) (h' : ¬ b2 = 0) (h2 : b1 = b2) (h3 : runB z1 a2 a5 = true) (h4 : runB z2 a4 a5 = true) : cpAns g (nI s) a2 (nI t) a4 a5 = a5 := by rw [cp_0 hs ht e1 e2, if_neg (fun z => z.elim h h'), if_pos h2, if_pos ⟨h3, h4⟩]
end SXCP
theorem FCs_at {w : List sx_C} {s : Nat} (hs : s < 4) : FCs w s = (fi w (103 + 2 * s) 1, fi w (103 + 2 * s) 2) := if_pos hs
theorem FMs_at {w : List sx_C} {s : Nat} (hs : s < 4) {z : Int32} (hz : (ia w 123).getD s 0 = z) : FMs w s = ((ia w 122).getD s 0, z) := by rw [← hz]; exact if_pos hs
theorem FMs_at0 {w : List sx_C} {s : Nat} (hs : s < 4) : FMs w s = ((ia w 122).getD s 0, (ia w 123).getD s 0) := if_pos hs
set_option maxRecDepth 20000 in
set_option maxHeartbeats 4000000 in
theorem p116y {xs : Option (List Int32)} {d : Nat} {w : List sx_C} (hI : WI w) {s : Nat} (hs : s < 4) (hh : fi w (103 + 2 * s) 1 = 0) : sx_RU xs d 116 0 (lv_args 0 [.ref (103 + 2 * s)]) [] w (some (.int 1)) w := by
  have h : sx_RP xs d 116 0 (lv_args 0 [.ref (103 + 2 * s)]) [] w (fun r w2 => r = some (.int 1) ∧ w2 = w) := by
    refine sx_RP.step (pc2 := 1) (ls2 := [(0, .ref (103 + 2 * s))]) (st2 := [.ref (103 + 2 * s)]) (w3 := w) rfl rfl ?_
    refine sx_RP.gf (v := .int (fi w (103 + 2 * s) 1)) rfl rfl (hI.1.oS (show s < 4 by omega)) rfl rfl (show _ = 4 from rfl) ?_
    refine sx_RP.br (p1 := 11) (l1 := [(0, .ref (103 + 2 * s))]) (s1 := []) (v1 := w) (p2 := 7) (l2 := [(0, .ref (103 + 2 * s))]) (s2 := []) (v2 := w) rfl rfl (fun q1 => ?_) (fun q1 => ?_)
    · replace q1 := of_decide_eq_true q1
      refine sx_RP.step (pc2 := 12) (ls2 := [(0, .ref (103 + 2 * s))]) (st2 := [.int 0]) (w3 := w) rfl rfl ?_
      refine sx_RP.ret (r := (some (.int 0))) rfl rfl ?_
      first | exact ⟨rfl, rfl⟩ | contradiction
    · replace q1 := Decidable.not_not.mp (of_decide_eq_false q1)
      refine sx_RP.step (pc2 := 8) (ls2 := [(0, .ref (103 + 2 * s))]) (st2 := [.int 1]) (w3 := w) rfl rfl ?_
      refine sx_RP.step (pc2 := 12) (ls2 := [(0, .ref (103 + 2 * s))]) (st2 := [.int 1]) (w3 := w) rfl rfl ?_
      refine sx_RP.ret (r := (some (.int 1))) rfl rfl ?_
      first | exact ⟨rfl, rfl⟩ | contradiction
  obtain ⟨r, w2, h1, rfl, rfl⟩ := h
  exact h1
set_option maxRecDepth 20000 in
set_option maxHeartbeats 4000000 in
theorem p116n {xs : Option (List Int32)} {d : Nat} {w : List sx_C} (hI : WI w) {s : Nat} (hs : s < 4) (hh : ¬ fi w (103 + 2 * s) 1 = 0) : sx_RU xs d 116 0 (lv_args 0 [.ref (103 + 2 * s)]) [] w (some (.int 0)) w := by
  have h : sx_RP xs d 116 0 (lv_args 0 [.ref (103 + 2 * s)]) [] w (fun r w2 => r = some (.int 0) ∧ w2 = w) := by
    refine sx_RP.step (pc2 := 1) (ls2 := [(0, .ref (103 + 2 * s))]) (st2 := [.ref (103 + 2 * s)]) (w3 := w) rfl rfl ?_
    refine sx_RP.gf (v := .int (fi w (103 + 2 * s) 1)) rfl rfl (hI.1.oS (show s < 4 by omega)) rfl rfl (show _ = 4 from rfl) ?_
    refine sx_RP.br (p1 := 11) (l1 := [(0, .ref (103 + 2 * s))]) (s1 := []) (v1 := w) (p2 := 7) (l2 := [(0, .ref (103 + 2 * s))]) (s2 := []) (v2 := w) rfl rfl (fun q1 => ?_) (fun q1 => ?_)
    · replace q1 := of_decide_eq_true q1
      refine sx_RP.step (pc2 := 12) (ls2 := [(0, .ref (103 + 2 * s))]) (st2 := [.int 0]) (w3 := w) rfl rfl ?_
      refine sx_RP.ret (r := (some (.int 0))) rfl rfl ?_
      first | exact ⟨rfl, rfl⟩ | contradiction
    · replace q1 := Decidable.not_not.mp (of_decide_eq_false q1)
      refine sx_RP.step (pc2 := 8) (ls2 := [(0, .ref (103 + 2 * s))]) (st2 := [.int 1]) (w3 := w) rfl rfl ?_
      refine sx_RP.step (pc2 := 12) (ls2 := [(0, .ref (103 + 2 * s))]) (st2 := [.int 1]) (w3 := w) rfl rfl ?_
      refine sx_RP.ret (r := (some (.int 1))) rfl rfl ?_
      first | exact ⟨rfl, rfl⟩ | contradiction
  obtain ⟨r, w2, h1, rfl, rfl⟩ := h
  exact h1
set_option maxRecDepth 20000 in
set_option maxHeartbeats 4000000 in
theorem p119y {xs : Option (List Int32)} {d : Nat} {w : List sx_C} (hI : WI w) {s : Nat} (hs : s < 4) {x y : Int32} (hh : runB (fi w (103 + 2 * s) 2) x y = true) : sx_RU xs d 119 0 (lv_args 0 [.ref (103 + 2 * s), .int x, .int y]) [] w (some (.int 1)) w := by
  obtain ⟨z, hzz, ez⟩ := hI.sh hs
  rw [ez] at hh
  have h : sx_RP xs d 119 0 (lv_args 0 [.ref (103 + 2 * s), .int x, .int y]) [] w (fun r w2 => r = some (.int 1) ∧ w2 = w) := by
    refine sx_RP.step (pc2 := 1) (ls2 := [(0, .ref (103 + 2 * s)), (1, .int x), (2, .int y)]) (st2 := [.int x]) (w3 := w) rfl rfl ?_
    refine sx_RP.br (p1 := 30) (l1 := [(0, .ref (103 + 2 * s)), (1, .int x), (2, .int y)]) (s1 := []) (v1 := w) (p2 := 4) (l2 := [(0, .ref (103 + 2 * s)), (1, .int x), (2, .int y)]) (s2 := []) (v2 := w) rfl rfl (fun q1 => ?_) (fun q1 => ?_)
    · replace q1 := of_decide_eq_true q1
      refine sx_RP.step (pc2 := 31) (ls2 := [(0, .ref (103 + 2 * s)), (1, .int x), (2, .int y)]) (st2 := [.int 0]) (w3 := w) rfl rfl ?_
      refine sx_RP.ret (r := (some (.int 0))) rfl rfl ?_
      first | exact ⟨rfl, rfl⟩ | exact absurd ((run_iff1 hzz).mpr ⟨by assumption, by assumption, by first | assumption | exact Int32.not_lt.mpr (by assumption), by first | assumption | exact Int32.not_lt.mpr (by assumption)⟩) hh | (have hq := (run_iff1 hzz).mp hh; first | exact absurd (by assumption) hq.1 | exact absurd (by assumption) hq.2.1 | exact absurd (by first | assumption | exact Int32.not_le.mp (by assumption)) hq.2.2.1 | exact absurd (by first | assumption | exact Int32.not_le.mp (by assumption)) hq.2.2.2)
    · replace q1 := of_decide_eq_false q1
      refine sx_RP.step (pc2 := 5) (ls2 := [(0, .ref (103 + 2 * s)), (1, .int x), (2, .int y)]) (st2 := [.int y]) (w3 := w) rfl rfl ?_
      refine sx_RP.br (p1 := 30) (l1 := [(0, .ref (103 + 2 * s)), (1, .int x), (2, .int y)]) (s1 := []) (v1 := w) (p2 := 8) (l2 := [(0, .ref (103 + 2 * s)), (1, .int x), (2, .int y)]) (s2 := []) (v2 := w) rfl rfl (fun q2 => ?_) (fun q2 => ?_)
      · replace q2 := of_decide_eq_true q2
        refine sx_RP.step (pc2 := 31) (ls2 := [(0, .ref (103 + 2 * s)), (1, .int x), (2, .int y)]) (st2 := [.int 0]) (w3 := w) rfl rfl ?_
        refine sx_RP.ret (r := (some (.int 0))) rfl rfl ?_
        first | exact ⟨rfl, rfl⟩ | exact absurd ((run_iff1 hzz).mpr ⟨by assumption, by assumption, by first | assumption | exact Int32.not_lt.mpr (by assumption), by first | assumption | exact Int32.not_lt.mpr (by assumption)⟩) hh | (have hq := (run_iff1 hzz).mp hh; first | exact absurd (by assumption) hq.1 | exact absurd (by assumption) hq.2.1 | exact absurd (by first | assumption | exact Int32.not_le.mp (by assumption)) hq.2.2.1 | exact absurd (by first | assumption | exact Int32.not_le.mp (by assumption)) hq.2.2.2)
      · replace q2 := of_decide_eq_false q2
        refine sx_RP.step (pc2 := 9) (ls2 := [(0, .ref (103 + 2 * s)), (1, .int x), (2, .int y)]) (st2 := [.int x]) (w3 := w) rfl rfl ?_
        refine sx_RP.step (pc2 := 10) (ls2 := [(0, .ref (103 + 2 * s)), (1, .int x), (2, .int y)]) (st2 := [.ref (103 + 2 * s), .int x]) (w3 := w) rfl rfl ?_
        refine sx_RP.gf (v := .int (fi w (103 + 2 * s) 2)) rfl rfl (hI.1.oS (show s < 4 by omega)) rfl rfl (show _ = 13 from rfl) ?_
        rw [ez]
        refine sx_RP.br (p1 := 30) (l1 := [(0, .ref (103 + 2 * s)), (1, .int x), (2, .int y)]) (s1 := []) (v1 := w) (p2 := 16) (l2 := [(0, .ref (103 + 2 * s)), (1, .int x), (2, .int y)]) (s2 := []) (v2 := w) rfl rfl (fun q3 => ?_) (fun q3 => ?_)
        · replace q3 := of_decide_eq_true q3
          refine sx_RP.step (pc2 := 31) (ls2 := [(0, .ref (103 + 2 * s)), (1, .int x), (2, .int y)]) (st2 := [.int 0]) (w3 := w) rfl rfl ?_
          refine sx_RP.ret (r := (some (.int 0))) rfl rfl ?_
          first | exact ⟨rfl, rfl⟩ | exact absurd ((run_iff1 hzz).mpr ⟨by assumption, by assumption, by first | assumption | exact Int32.not_lt.mpr (by assumption), by first | assumption | exact Int32.not_lt.mpr (by assumption)⟩) hh | (have hq := (run_iff1 hzz).mp hh; first | exact absurd (by assumption) hq.1 | exact absurd (by assumption) hq.2.1 | exact absurd (by first | assumption | exact Int32.not_le.mp (by assumption)) hq.2.2.1 | exact absurd (by first | assumption | exact Int32.not_le.mp (by assumption)) hq.2.2.2)
        · replace q3 := of_decide_eq_false q3
          refine sx_RP.step (pc2 := 17) (ls2 := [(0, .ref (103 + 2 * s)), (1, .int x), (2, .int y)]) (st2 := [.int y]) (w3 := w) rfl rfl ?_
          refine sx_RP.step (pc2 := 18) (ls2 := [(0, .ref (103 + 2 * s)), (1, .int x), (2, .int y)]) (st2 := [.ref (103 + 2 * s), .int y]) (w3 := w) rfl rfl ?_
          refine sx_RP.gf (v := .int (fi w (103 + 2 * s) 2)) rfl rfl (hI.1.oS (show s < 4 by omega)) rfl rfl (show _ = 21 from rfl) ?_
          rw [ez]
          refine sx_RP.step (pc2 := 22) (ls2 := [(0, .ref (103 + 2 * s)), (1, .int x), (2, .int y)]) (st2 := [.int x, .int (nI z), .int y]) (w3 := w) rfl rfl ?_
          refine sx_RP.step (pc2 := 23) (ls2 := [(0, .ref (103 + 2 * s)), (1, .int x), (2, .int y)]) (st2 := [.int ((nI z) - x), .int y]) (w3 := w) rfl rfl ?_
          refine sx_RP.br (p1 := 30) (l1 := [(0, .ref (103 + 2 * s)), (1, .int x), (2, .int y)]) (s1 := []) (v1 := w) (p2 := 26) (l2 := [(0, .ref (103 + 2 * s)), (1, .int x), (2, .int y)]) (s2 := []) (v2 := w) rfl rfl (fun q4 => ?_) (fun q4 => ?_)
          · replace q4 := of_decide_eq_true q4
            refine sx_RP.step (pc2 := 31) (ls2 := [(0, .ref (103 + 2 * s)), (1, .int x), (2, .int y)]) (st2 := [.int 0]) (w3 := w) rfl rfl ?_
            refine sx_RP.ret (r := (some (.int 0))) rfl rfl ?_
            first | exact ⟨rfl, rfl⟩ | exact absurd ((run_iff1 hzz).mpr ⟨by assumption, by assumption, by first | assumption | exact Int32.not_lt.mpr (by assumption), by first | assumption | exact Int32.not_lt.mpr (by assumption)⟩) hh | (have hq := (run_iff1 hzz).mp hh; first | exact absurd (by assumption) hq.1 | exact absurd (by assumption) hq.2.1 | exact absurd (by first | assumption | exact Int32.not_le.mp (by assumption)) hq.2.2.1 | exact absurd (by first | assumption | exact Int32.not_le.mp (by assumption)) hq.2.2.2)
          · replace q4 := of_decide_eq_false q4
            refine sx_RP.step (pc2 := 27) (ls2 := [(0, .ref (103 + 2 * s)), (1, .int x), (2, .int y)]) (st2 := [.int 1]) (w3 := w) rfl rfl ?_
            refine sx_RP.step (pc2 := 31) (ls2 := [(0, .ref (103 + 2 * s)), (1, .int x), (2, .int y)]) (st2 := [.int 1]) (w3 := w) rfl rfl ?_
            refine sx_RP.ret (r := (some (.int 1))) rfl rfl ?_
            first | exact ⟨rfl, rfl⟩ | exact absurd ((run_iff1 hzz).mpr ⟨by assumption, by assumption, by first | assumption | exact Int32.not_lt.mpr (by assumption), by first | assumption | exact Int32.not_lt.mpr (by assumption)⟩) hh | (have hq := (run_iff1 hzz).mp hh; first | exact absurd (by assumption) hq.1 | exact absurd (by assumption) hq.2.1 | exact absurd (by first | assumption | exact Int32.not_le.mp (by assumption)) hq.2.2.1 | exact absurd (by first | assumption | exact Int32.not_le.mp (by assumption)) hq.2.2.2)
  obtain ⟨r, w2, h1, rfl, rfl⟩ := h
  exact h1
set_option maxRecDepth 20000 in
set_option maxHeartbeats 4000000 in
theorem p119n {xs : Option (List Int32)} {d : Nat} {w : List sx_C} (hI : WI w) {s : Nat} (hs : s < 4) {x y : Int32} (hh : ¬ runB (fi w (103 + 2 * s) 2) x y = true) : sx_RU xs d 119 0 (lv_args 0 [.ref (103 + 2 * s), .int x, .int y]) [] w (some (.int 0)) w := by
  obtain ⟨z, hzz, ez⟩ := hI.sh hs
  rw [ez] at hh
  have h : sx_RP xs d 119 0 (lv_args 0 [.ref (103 + 2 * s), .int x, .int y]) [] w (fun r w2 => r = some (.int 0) ∧ w2 = w) := by
    refine sx_RP.step (pc2 := 1) (ls2 := [(0, .ref (103 + 2 * s)), (1, .int x), (2, .int y)]) (st2 := [.int x]) (w3 := w) rfl rfl ?_
    refine sx_RP.br (p1 := 30) (l1 := [(0, .ref (103 + 2 * s)), (1, .int x), (2, .int y)]) (s1 := []) (v1 := w) (p2 := 4) (l2 := [(0, .ref (103 + 2 * s)), (1, .int x), (2, .int y)]) (s2 := []) (v2 := w) rfl rfl (fun q1 => ?_) (fun q1 => ?_)
    · replace q1 := of_decide_eq_true q1
      refine sx_RP.step (pc2 := 31) (ls2 := [(0, .ref (103 + 2 * s)), (1, .int x), (2, .int y)]) (st2 := [.int 0]) (w3 := w) rfl rfl ?_
      refine sx_RP.ret (r := (some (.int 0))) rfl rfl ?_
      first | exact ⟨rfl, rfl⟩ | exact absurd ((run_iff1 hzz).mpr ⟨by assumption, by assumption, by first | assumption | exact Int32.not_lt.mpr (by assumption), by first | assumption | exact Int32.not_lt.mpr (by assumption)⟩) hh | (have hq := (run_iff1 hzz).mp hh; first | exact absurd (by assumption) hq.1 | exact absurd (by assumption) hq.2.1 | exact absurd (by first | assumption | exact Int32.not_le.mp (by assumption)) hq.2.2.1 | exact absurd (by first | assumption | exact Int32.not_le.mp (by assumption)) hq.2.2.2)
    · replace q1 := of_decide_eq_false q1
      refine sx_RP.step (pc2 := 5) (ls2 := [(0, .ref (103 + 2 * s)), (1, .int x), (2, .int y)]) (st2 := [.int y]) (w3 := w) rfl rfl ?_
      refine sx_RP.br (p1 := 30) (l1 := [(0, .ref (103 + 2 * s)), (1, .int x), (2, .int y)]) (s1 := []) (v1 := w) (p2 := 8) (l2 := [(0, .ref (103 + 2 * s)), (1, .int x), (2, .int y)]) (s2 := []) (v2 := w) rfl rfl (fun q2 => ?_) (fun q2 => ?_)
      · replace q2 := of_decide_eq_true q2
        refine sx_RP.step (pc2 := 31) (ls2 := [(0, .ref (103 + 2 * s)), (1, .int x), (2, .int y)]) (st2 := [.int 0]) (w3 := w) rfl rfl ?_
        refine sx_RP.ret (r := (some (.int 0))) rfl rfl ?_
        first | exact ⟨rfl, rfl⟩ | exact absurd ((run_iff1 hzz).mpr ⟨by assumption, by assumption, by first | assumption | exact Int32.not_lt.mpr (by assumption), by first | assumption | exact Int32.not_lt.mpr (by assumption)⟩) hh | (have hq := (run_iff1 hzz).mp hh; first | exact absurd (by assumption) hq.1 | exact absurd (by assumption) hq.2.1 | exact absurd (by first | assumption | exact Int32.not_le.mp (by assumption)) hq.2.2.1 | exact absurd (by first | assumption | exact Int32.not_le.mp (by assumption)) hq.2.2.2)
      · replace q2 := of_decide_eq_false q2
        refine sx_RP.step (pc2 := 9) (ls2 := [(0, .ref (103 + 2 * s)), (1, .int x), (2, .int y)]) (st2 := [.int x]) (w3 := w) rfl rfl ?_
        refine sx_RP.step (pc2 := 10) (ls2 := [(0, .ref (103 + 2 * s)), (1, .int x), (2, .int y)]) (st2 := [.ref (103 + 2 * s), .int x]) (w3 := w) rfl rfl ?_
        refine sx_RP.gf (v := .int (fi w (103 + 2 * s) 2)) rfl rfl (hI.1.oS (show s < 4 by omega)) rfl rfl (show _ = 13 from rfl) ?_
        rw [ez]
        refine sx_RP.br (p1 := 30) (l1 := [(0, .ref (103 + 2 * s)), (1, .int x), (2, .int y)]) (s1 := []) (v1 := w) (p2 := 16) (l2 := [(0, .ref (103 + 2 * s)), (1, .int x), (2, .int y)]) (s2 := []) (v2 := w) rfl rfl (fun q3 => ?_) (fun q3 => ?_)
        · replace q3 := of_decide_eq_true q3
          refine sx_RP.step (pc2 := 31) (ls2 := [(0, .ref (103 + 2 * s)), (1, .int x), (2, .int y)]) (st2 := [.int 0]) (w3 := w) rfl rfl ?_
          refine sx_RP.ret (r := (some (.int 0))) rfl rfl ?_
          first | exact ⟨rfl, rfl⟩ | exact absurd ((run_iff1 hzz).mpr ⟨by assumption, by assumption, by first | assumption | exact Int32.not_lt.mpr (by assumption), by first | assumption | exact Int32.not_lt.mpr (by assumption)⟩) hh | (have hq := (run_iff1 hzz).mp hh; first | exact absurd (by assumption) hq.1 | exact absurd (by assumption) hq.2.1 | exact absurd (by first | assumption | exact Int32.not_le.mp (by assumption)) hq.2.2.1 | exact absurd (by first | assumption | exact Int32.not_le.mp (by assumption)) hq.2.2.2)
        · replace q3 := of_decide_eq_false q3
          refine sx_RP.step (pc2 := 17) (ls2 := [(0, .ref (103 + 2 * s)), (1, .int x), (2, .int y)]) (st2 := [.int y]) (w3 := w) rfl rfl ?_
          refine sx_RP.step (pc2 := 18) (ls2 := [(0, .ref (103 + 2 * s)), (1, .int x), (2, .int y)]) (st2 := [.ref (103 + 2 * s), .int y]) (w3 := w) rfl rfl ?_
          refine sx_RP.gf (v := .int (fi w (103 + 2 * s) 2)) rfl rfl (hI.1.oS (show s < 4 by omega)) rfl rfl (show _ = 21 from rfl) ?_
          rw [ez]
          refine sx_RP.step (pc2 := 22) (ls2 := [(0, .ref (103 + 2 * s)), (1, .int x), (2, .int y)]) (st2 := [.int x, .int (nI z), .int y]) (w3 := w) rfl rfl ?_
          refine sx_RP.step (pc2 := 23) (ls2 := [(0, .ref (103 + 2 * s)), (1, .int x), (2, .int y)]) (st2 := [.int ((nI z) - x), .int y]) (w3 := w) rfl rfl ?_
          refine sx_RP.br (p1 := 30) (l1 := [(0, .ref (103 + 2 * s)), (1, .int x), (2, .int y)]) (s1 := []) (v1 := w) (p2 := 26) (l2 := [(0, .ref (103 + 2 * s)), (1, .int x), (2, .int y)]) (s2 := []) (v2 := w) rfl rfl (fun q4 => ?_) (fun q4 => ?_)
          · replace q4 := of_decide_eq_true q4
            refine sx_RP.step (pc2 := 31) (ls2 := [(0, .ref (103 + 2 * s)), (1, .int x), (2, .int y)]) (st2 := [.int 0]) (w3 := w) rfl rfl ?_
            refine sx_RP.ret (r := (some (.int 0))) rfl rfl ?_
            first | exact ⟨rfl, rfl⟩ | exact absurd ((run_iff1 hzz).mpr ⟨by assumption, by assumption, by first | assumption | exact Int32.not_lt.mpr (by assumption), by first | assumption | exact Int32.not_lt.mpr (by assumption)⟩) hh | (have hq := (run_iff1 hzz).mp hh; first | exact absurd (by assumption) hq.1 | exact absurd (by assumption) hq.2.1 | exact absurd (by first | assumption | exact Int32.not_le.mp (by assumption)) hq.2.2.1 | exact absurd (by first | assumption | exact Int32.not_le.mp (by assumption)) hq.2.2.2)
          · replace q4 := of_decide_eq_false q4
            refine sx_RP.step (pc2 := 27) (ls2 := [(0, .ref (103 + 2 * s)), (1, .int x), (2, .int y)]) (st2 := [.int 1]) (w3 := w) rfl rfl ?_
            refine sx_RP.step (pc2 := 31) (ls2 := [(0, .ref (103 + 2 * s)), (1, .int x), (2, .int y)]) (st2 := [.int 1]) (w3 := w) rfl rfl ?_
            refine sx_RP.ret (r := (some (.int 1))) rfl rfl ?_
            first | exact ⟨rfl, rfl⟩ | exact absurd ((run_iff1 hzz).mpr ⟨by assumption, by assumption, by first | assumption | exact Int32.not_lt.mpr (by assumption), by first | assumption | exact Int32.not_lt.mpr (by assumption)⟩) hh | (have hq := (run_iff1 hzz).mp hh; first | exact absurd (by assumption) hq.1 | exact absurd (by assumption) hq.2.1 | exact absurd (by first | assumption | exact Int32.not_le.mp (by assumption)) hq.2.2.1 | exact absurd (by first | assumption | exact Int32.not_le.mp (by assumption)) hq.2.2.2)
  obtain ⟨r, w2, h1, rfl, rfl⟩ := h
  exact h1
end
