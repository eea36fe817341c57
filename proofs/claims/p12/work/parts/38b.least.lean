def lb1 (s : List Int32) (n m : Int32) : Int32 := if n = -1 then m else if m ≤ s.getD n.toNatClampNeg 0 then m else s.getD n.toNatClampNeg 0
def lbF (s : List Int32) (c : Nat) : Nat → Nat → Int32 → Int32
  | 0, _, m => m
  | k + 1, j, m => lbF s c k (j + 1) (lb1 s (bsd c j) m)
set_option maxRecDepth 20000 in
set_option maxHeartbeats 4000000 in
theorem cq_19 {xs : Option (List Int32)} {d : Nat} {w : List sx_C} {P : Option Value → List sx_C → Prop} {b c j : Nat} {m : Int32} {s : List Int32} (hb : w[b]? = some (.inl (0, s))) (hs : s.length = 48) (hc : c < 48) (hj : j < 4) (k : sx_RP xs (d + 1) 19 5 [(0, .int (nI c)), (1, .ref b), (2, .int (lb1 s (bsd c j) m)), (3, .int (nI (j + 1)))] [] w P) : sx_RP xs (d + 1) 19 5 [(0, .int (nI c)), (1, .ref b), (2, .int m), (3, .int (nI j))] [] w P := by
  refine sx_RP.step (pc2 := 6) (ls2 := [(0, .int (nI c)), (1, .ref b), (2, .int m), (3, .int (nI j))]) (st2 := [.int (nI j)]) (w3 := w) rfl rfl ?_
  refine sx_RP.step (pc2 := 7) (ls2 := [(0, .int (nI c)), (1, .ref b), (2, .int m), (3, .int (nI j))]) (st2 := [.int 4, .int (nI j)]) (w3 := w) rfl rfl ?_
  refine sx_RP.br (p2 := 10) (l2 := [(0, .int (nI c)), (1, .ref b), (2, .int m), (3, .int (nI j))]) (s2 := []) (v2 := w) rfl rfl (fun q => absurd (of_decide_eq_true q) (nI_ge (b := 4) hj (by omega))) (fun _ => ?_)
  refine sx_RP.step (pc2 := 11) (ls2 := [(0, .int (nI c)), (1, .ref b), (2, .int m), (3, .int (nI j))]) (st2 := [.int (nI c)]) (w3 := w) rfl rfl ?_
  refine sx_RP.step (pc2 := 12) (ls2 := [(0, .int (nI c)), (1, .ref b), (2, .int m), (3, .int (nI j))]) (st2 := [.int (nI j), .int (nI c)]) (w3 := w) rfl rfl ?_
  refine sx_RP.cu (as := [.int (nI c), .int (nI j)]) (rest2 := []) (st3 := [.int (bsd c j)]) rfl rfl rfl rfl rfl (cb_20 hc j hj) rfl ?_
  refine sx_RP.step (pc2 := 17) (ls2 := [(4, .int (bsd c j)), (0, .int (nI c)), (1, .ref b), (2, .int m), (3, .int (nI j))]) (st2 := []) (w3 := w) rfl rfl ?_
  refine sx_RP.step (pc2 := 19) (ls2 := [(4, .int (bsd c j)), (0, .int (nI c)), (1, .ref b), (2, .int m), (3, .int (nI j))]) (st2 := [.int (bsd c j)]) (w3 := w) rfl rfl ?_
  refine sx_RP.step (pc2 := 20) (ls2 := [(4, .int (bsd c j)), (0, .int (nI c)), (1, .ref b), (2, .int m), (3, .int (nI j))]) (st2 := [.int (-1), .int (bsd c j)]) (w3 := w) rfl rfl ?_
  refine sx_RP.br (p1 := 36) (l1 := [(4, .int (bsd c j)), (0, .int (nI c)), (1, .ref b), (2, .int m), (3, .int (nI j))]) (s1 := []) (v1 := w) (p2 := 23) (l2 := [(4, .int (bsd c j)), (0, .int (nI c)), (1, .ref b), (2, .int m), (3, .int (nI j))]) (s2 := []) (v2 := w) rfl rfl (fun q1 => ?_) (fun q1 => ?_)
  · replace q1 := of_decide_eq_true q1
    refine sx_RP.step (pc2 := 39) (ls2 := [(3, .int ((nI j) + 1)), (4, .int (bsd c j)), (0, .int (nI c)), (1, .ref b), (2, .int m)]) (st2 := []) (w3 := w) rfl rfl ?_
    refine sx_RP.step (pc2 := 5) (ls2 := [(3, .int ((nI j) + 1)), (4, .int (bsd c j)), (0, .int (nI c)), (1, .ref b), (2, .int m)]) (st2 := []) (w3 := w) rfl rfl ?_
    rw [show lb1 s (bsd c j) m = m from by rw [lb1]; rw [if_pos q1]] at k
    rw [nI_1 j]
    exact sx_RP.ls (sx_lr.cons rfl (sx_lr.cons rfl (sx_lr.cons rfl (sx_lr.cons rfl sx_lr.nil)))) k
  · replace q1 := of_decide_eq_false q1
    refine sx_RP.step (pc2 := 24) (ls2 := [(4, .int (bsd c j)), (0, .int (nI c)), (1, .ref b), (2, .int m), (3, .int (nI j))]) (st2 := [.ref b]) (w3 := w) rfl rfl ?_
    refine sx_RP.step (pc2 := 26) (ls2 := [(4, .int (bsd c j)), (0, .int (nI c)), (1, .ref b), (2, .int m), (3, .int (nI j))]) (st2 := [.int (bsd c j), .ref b]) (w3 := w) rfl rfl ?_
    refine sx_RP.ild (c := ((bsd c j).toNatClampNeg)) rfl hb hs ((bsd_in c hc j hj).resolve_left q1) rfl (show _ = 27 from rfl) ?_
    refine sx_RP.step (pc2 := 28) (ls2 := [(4, .int (bsd c j)), (0, .int (nI c)), (1, .ref b), (2, .int m), (3, .int (nI j))]) (st2 := [.int m, .int (s.getD ((bsd c j).toNatClampNeg) 0)]) (w3 := w) rfl rfl ?_
    refine sx_RP.br (p1 := 36) (l1 := [(4, .int (bsd c j)), (0, .int (nI c)), (1, .ref b), (2, .int m), (3, .int (nI j))]) (s1 := []) (v1 := w) (p2 := 31) (l2 := [(4, .int (bsd c j)), (0, .int (nI c)), (1, .ref b), (2, .int m), (3, .int (nI j))]) (s2 := []) (v2 := w) rfl rfl (fun q2 => ?_) (fun q2 => ?_)
    · replace q2 := of_decide_eq_true q2
      refine sx_RP.step (pc2 := 39) (ls2 := [(3, .int ((nI j) + 1)), (4, .int (bsd c j)), (0, .int (nI c)), (1, .ref b), (2, .int m)]) (st2 := []) (w3 := w) rfl rfl ?_
      refine sx_RP.step (pc2 := 5) (ls2 := [(3, .int ((nI j) + 1)), (4, .int (bsd c j)), (0, .int (nI c)), (1, .ref b), (2, .int m)]) (st2 := []) (w3 := w) rfl rfl ?_
      rw [show lb1 s (bsd c j) m = m from by rw [lb1]; rw [if_neg q1, if_pos q2]] at k
      rw [nI_1 j]
      exact sx_RP.ls (sx_lr.cons rfl (sx_lr.cons rfl (sx_lr.cons rfl (sx_lr.cons rfl sx_lr.nil)))) k
    · replace q2 := of_decide_eq_false q2
      refine sx_RP.step (pc2 := 32) (ls2 := [(4, .int (bsd c j)), (0, .int (nI c)), (1, .ref b), (2, .int m), (3, .int (nI j))]) (st2 := [.ref b]) (w3 := w) rfl rfl ?_
      refine sx_RP.step (pc2 := 34) (ls2 := [(4, .int (bsd c j)), (0, .int (nI c)), (1, .ref b), (2, .int m), (3, .int (nI j))]) (st2 := [.int (bsd c j), .ref b]) (w3 := w) rfl rfl ?_
      refine sx_RP.ild (c := ((bsd c j).toNatClampNeg)) rfl hb hs ((bsd_in c hc j hj).resolve_left q1) rfl (show _ = 35 from rfl) ?_
      refine sx_RP.step (pc2 := 36) (ls2 := [(2, .int (s.getD ((bsd c j).toNatClampNeg) 0)), (4, .int (bsd c j)), (0, .int (nI c)), (1, .ref b), (3, .int (nI j))]) (st2 := []) (w3 := w) rfl rfl ?_
      refine sx_RP.step (pc2 := 39) (ls2 := [(3, .int ((nI j) + 1)), (2, .int (s.getD ((bsd c j).toNatClampNeg) 0)), (4, .int (bsd c j)), (0, .int (nI c)), (1, .ref b)]) (st2 := []) (w3 := w) rfl rfl ?_
      refine sx_RP.step (pc2 := 5) (ls2 := [(3, .int ((nI j) + 1)), (2, .int (s.getD ((bsd c j).toNatClampNeg) 0)), (4, .int (bsd c j)), (0, .int (nI c)), (1, .ref b)]) (st2 := []) (w3 := w) rfl rfl ?_
      rw [show lb1 s (bsd c j) m = s.getD ((bsd c j).toNatClampNeg) 0 from by rw [lb1]; rw [if_neg q1, if_neg q2]] at k
      rw [nI_1 j]
      exact sx_RP.ls (sx_lr.cons rfl (sx_lr.cons rfl (sx_lr.cons rfl (sx_lr.cons rfl sx_lr.nil)))) k
set_option maxRecDepth 20000 in
set_option maxHeartbeats 4000000 in
theorem cp_19L {xs : Option (List Int32)} {d : Nat} {w : List sx_C} {b c : Nat} {s : List Int32} (hb : w[b]? = some (.inl (0, s))) (hs : s.length = 48) (hc : c < 48) : ∀ (k j : Nat) (m : Int32), j + k = 4 → sx_RP xs (d + 1) 19 5 [(0, .int (nI c)), (1, .ref b), (2, .int m), (3, .int (nI j))] [] w (fun r w2 => r = some (.int (lbF s c k j m)) ∧ w2 = w)
  | 0, j, m, h => by
    obtain rfl : j = 4 := by omega
    refine sx_RP.step (pc2 := 6) (ls2 := [(0, .int (nI c)), (1, .ref b), (2, .int m), (3, .int (nI 4))]) (st2 := [.int (nI 4)]) (w3 := w) rfl rfl ?_
    refine sx_RP.step (pc2 := 7) (ls2 := [(0, .int (nI c)), (1, .ref b), (2, .int m), (3, .int (nI 4))]) (st2 := [.int 4, .int (nI 4)]) (w3 := w) rfl rfl ?_
    refine sx_RP.step (pc2 := 42) (ls2 := [(0, .int (nI c)), (1, .ref b), (2, .int m), (3, .int (nI 4))]) (st2 := []) (w3 := w) rfl rfl ?_
    refine sx_RP.step (pc2 := 43) (ls2 := [(0, .int (nI c)), (1, .ref b), (2, .int m), (3, .int (nI 4))]) (st2 := [.int m]) (w3 := w) rfl rfl ?_
    refine sx_RP.ret (r := (some (.int m))) rfl rfl ?_
    exact ⟨rfl, rfl⟩
  | k + 1, j, m, h => cq_19 hb hs hc (by omega) (cp_19L hb hs hc k (j + 1) (lb1 s (bsd c j) m) (by omega))
set_option maxRecDepth 20000 in
set_option maxHeartbeats 4000000 in
theorem cp_19 {xs : Option (List Int32)} {d : Nat} {w : List sx_C} {b c : Nat} {s : List Int32} (hb : w[b]? = some (.inl (0, s))) (hs : s.length = 48) (hc : c < 48) : sx_RU xs (d + 1) 19 0 (lv_args 0 [.int (nI c), .ref b]) [] w (some (.int (lbF s c 4 0 1000000))) w := by
  have h : sx_RP xs (d + 1) 19 0 (lv_args 0 [.int (nI c), .ref b]) [] w (fun r w2 => r = (some (.int (lbF s c 4 0 1000000))) ∧ w2 = w) := by
    refine sx_RP.step (pc2 := 2) (ls2 := [(0, .int (nI c)), (1, .ref b)]) (st2 := [.int 1000000]) (w3 := w) rfl rfl ?_
    refine sx_RP.step (pc2 := 3) (ls2 := [(2, .int 1000000), (0, .int (nI c)), (1, .ref b)]) (st2 := []) (w3 := w) rfl rfl ?_
    refine sx_RP.step (pc2 := 4) (ls2 := [(2, .int 1000000), (0, .int (nI c)), (1, .ref b)]) (st2 := [.int 0]) (w3 := w) rfl rfl ?_
    refine sx_RP.step (pc2 := 5) (ls2 := [(3, .int 0), (2, .int 1000000), (0, .int (nI c)), (1, .ref b)]) (st2 := []) (w3 := w) rfl rfl ?_
    exact sx_RP.ls (sx_lr.cons rfl (sx_lr.cons rfl (sx_lr.cons rfl (sx_lr.cons rfl sx_lr.nil)))) (cp_19L hb hs hc 4 0 1000000 rfl)
  obtain ⟨r, w2, h1, rfl, rfl⟩ := h
  exact h1
