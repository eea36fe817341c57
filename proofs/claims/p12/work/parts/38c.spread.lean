def rx (cs : List Int32) (p : List Int32 × Int32) (c : Nat) : List Int32 × Int32 := if cs.getD c 0 = -1 then p else if p.1.getD c 0 ≤ lbF p.1 c 4 0 1000000 + cs.getD c 0 then p else (p.1.set c (lbF p.1 c 4 0 1000000 + cs.getD c 0), 1)
def swF (cs : List Int32) (e : Bool) : Nat → Nat → List Int32 × Int32 → List Int32 × Int32
  | 0, _, p => p
  | k + 1, i, p => swF cs e k (i + 1) (rx cs p (cond e i (47 - i)))
def evn (r : Nat) : Bool := Nat.beq (r % 2) 0
def rdF (cs : List Int32) : Nat → Nat → List Int32 × Int32 → List Int32
  | 0, _, p => p.1
  | k + 1, r, p => if p.2 = 0 then p.1 else rdF cs k (r + 1) (swF cs (evn r) 48 0 (p.1, 0))
def flF (v : Int32) : Nat → Nat → List Int32 → List Int32
  | 0, _, l => l
  | k + 1, j, l => flF v k (j + 1) (l.set j v)
def spF (cs : List Int32) (src : Nat) (l : List Int32) : List Int32 := rdF cs 48 0 ((flF 1000000 48 0 l).set src 0, 1)
theorem evn_t : ∀ r, r < 48 → (evn r = true → nI r - nI r / 2 * 2 = 0) ∧ (evn r = false → ¬ nI r - nI r / 2 * 2 = 0) := by decide +kernel
theorem rx_len {cs : List Int32} {p : List Int32 × Int32} {c n : Nat} (h : p.1.length = n) : (rx cs p c).1.length = n := by
  unfold rx
  (repeat' split) <;> simp [h]
theorem swF_len {cs : List Int32} {e : Bool} {n : Nat} : ∀ (k i : Nat) (p : List Int32 × Int32), p.1.length = n → (swF cs e k i p).1.length = n
  | 0, _, _, h => h
  | k + 1, i, p, h => swF_len k (i + 1) _ (rx_len h)
theorem flF_len {v : Int32} {n : Nat} : ∀ (k j : Nat) (l : List Int32), l.length = n → (flF v k j l).length = n
  | 0, _, _, h => h
  | k + 1, j, l, h => flF_len k (j + 1) _ (by rw [List.length_set]; exact h)
theorem rdF_len {cs : List Int32} {n : Nat} : ∀ (k r : Nat) (p : List Int32 × Int32), p.1.length = n → (rdF cs k r p).length = n
  | 0, _, _, h => h
  | k + 1, r, p, h => by
    unfold rdF
    split
    · exact h
    · exact rdF_len k (r + 1) _ (swF_len 48 0 _ h)
theorem spF_len {cs l : List Int32} {src : Nat} (h : l.length = 48) : (spF cs src l).length = 48 := rdF_len _ _ _ (by rw [List.length_set]; exact flF_len _ _ _ h)
set_option maxRecDepth 20000 in
set_option maxHeartbeats 4000000 in
theorem cq_18e {xs : Option (List Int32)} {d : Nat} {w : List sx_C} {P : Option Value → List sx_C → Prop} {a b : Nat} {cs s0 : List Int32} (ha : w[a]? = some (.inl (0, cs))) (hb : w[b]? = some (.inl (0, s0))) (hab : a ≠ b) (hcs : cs.length = 48) {src ch : Int32} {cur : List Int32} {r i : Nat} (hcu : cur.length = 48) (hr : r < 48) (he : evn r = true) (hi : i < 48) (k : sx_RP xs (d + 2) 18 44 [(0, .int src), (1, .ref a), (2, .ref b), (3, .int ((rx cs (cur, ch) i).2)), (4, .int (nI r)), (5, .int (nI (i + 1)))] [] (w.set b (.inl (0, (rx cs (cur, ch) i).1))) P) : sx_RP xs (d + 2) 18 44 [(0, .int src), (1, .ref a), (2, .ref b), (3, .int ch), (4, .int (nI r)), (5, .int (nI i))] [] (w.set b (.inl (0, cur))) P := by
  refine sx_RP.step (pc2 := 46) (ls2 := [(0, .int src), (1, .ref a), (2, .ref b), (3, .int ch), (4, .int (nI r)), (5, .int (nI i))]) (st2 := [.int (nI i)]) (w3 := (w.set b (.inl (0, cur)))) rfl rfl ?_
  refine sx_RP.step (pc2 := 48) (ls2 := [(0, .int src), (1, .ref a), (2, .ref b), (3, .int ch), (4, .int (nI r)), (5, .int (nI i))]) (st2 := [.int 48, .int (nI i)]) (w3 := (w.set b (.inl (0, cur)))) rfl rfl ?_
  refine sx_RP.br (p2 := 51) (l2 := [(0, .int src), (1, .ref a), (2, .ref b), (3, .int ch), (4, .int (nI r)), (5, .int (nI i))]) (s2 := []) (v2 := (w.set b (.inl (0, cur)))) rfl rfl (fun q => absurd (of_decide_eq_true q) (nI_ge (b := 48) hi (by omega))) (fun _ => ?_)
  refine sx_RP.step (pc2 := 53) (ls2 := [(0, .int src), (1, .ref a), (2, .ref b), (3, .int ch), (4, .int (nI r)), (5, .int (nI i))]) (st2 := [.int (nI r)]) (w3 := (w.set b (.inl (0, cur)))) rfl rfl ?_
  refine sx_RP.step (pc2 := 54) (ls2 := [(0, .int src), (1, .ref a), (2, .ref b), (3, .int ch), (4, .int (nI r)), (5, .int (nI i))]) (st2 := [.int 2, .int (nI r)]) (w3 := (w.set b (.inl (0, cur)))) rfl rfl ?_
  refine sx_RP.step (pc2 := 55) (ls2 := [(0, .int src), (1, .ref a), (2, .ref b), (3, .int ch), (4, .int (nI r)), (5, .int (nI i))]) (st2 := [.int ((nI r) - (nI r) / 2 * 2)]) (w3 := (w.set b (.inl (0, cur)))) rfl rfl ?_
  refine sx_RP.br (p2 := 58) (l2 := [(0, .int src), (1, .ref a), (2, .ref b), (3, .int ch), (4, .int (nI r)), (5, .int (nI i))]) (s2 := []) (v2 := (w.set b (.inl (0, cur)))) rfl rfl (fun q => absurd (of_decide_eq_true q) (fun z => z ((evn_t r hr).1 he))) (fun _ => ?_)
  refine sx_RP.step (pc2 := 60) (ls2 := [(0, .int src), (1, .ref a), (2, .ref b), (3, .int ch), (4, .int (nI r)), (5, .int (nI i))]) (st2 := [.int (nI i)]) (w3 := (w.set b (.inl (0, cur)))) rfl rfl ?_
  refine sx_RP.step (pc2 := 68) (ls2 := [(0, .int src), (1, .ref a), (2, .ref b), (3, .int ch), (4, .int (nI r)), (5, .int (nI i))]) (st2 := [.int (nI i)]) (w3 := (w.set b (.inl (0, cur)))) rfl rfl ?_
  refine sx_RP.step (pc2 := 70) (ls2 := [(6, .int (nI i)), (0, .int src), (1, .ref a), (2, .ref b), (3, .int ch), (4, .int (nI r)), (5, .int (nI i))]) (st2 := []) (w3 := (w.set b (.inl (0, cur)))) rfl rfl ?_
  refine sx_RP.step (pc2 := 72) (ls2 := [(6, .int (nI i)), (0, .int src), (1, .ref a), (2, .ref b), (3, .int ch), (4, .int (nI r)), (5, .int (nI i))]) (st2 := [.int (nI i)]) (w3 := (w.set b (.inl (0, cur)))) rfl rfl ?_
  refine sx_RP.step (pc2 := 73) (ls2 := [(6, .int (nI i)), (0, .int src), (1, .ref a), (2, .ref b), (3, .int ch), (4, .int (nI r)), (5, .int (nI i))]) (st2 := [.ref b, .int (nI i)]) (w3 := (w.set b (.inl (0, cur)))) rfl rfl ?_
  refine sx_RP.cu (as := [.int (nI i), .ref b]) (rest2 := []) (st3 := [.int (lbF cur i 4 0 1000000)]) rfl rfl rfl rfl rfl (cp_19 (sx_gs2 hb) hcu hi) rfl ?_
  refine sx_RP.step (pc2 := 77) (ls2 := [(6, .int (nI i)), (0, .int src), (1, .ref a), (2, .ref b), (3, .int ch), (4, .int (nI r)), (5, .int (nI i))]) (st2 := [.ref a, .int (lbF cur i 4 0 1000000)]) (w3 := (w.set b (.inl (0, cur)))) rfl rfl ?_
  refine sx_RP.step (pc2 := 79) (ls2 := [(6, .int (nI i)), (0, .int src), (1, .ref a), (2, .ref b), (3, .int ch), (4, .int (nI r)), (5, .int (nI i))]) (st2 := [.int (nI i), .ref a, .int (lbF cur i 4 0 1000000)]) (w3 := (w.set b (.inl (0, cur)))) rfl rfl ?_
  refine sx_RP.ild (c := i) rfl (sx_gn2 hab ha) hcs (sx_in_nI hi (by decide)) (nI_clamp (by have := hi; omega)) (show _ = 80 from rfl) ?_
  refine sx_RP.step (pc2 := 81) (ls2 := [(6, .int (nI i)), (0, .int src), (1, .ref a), (2, .ref b), (3, .int ch), (4, .int (nI r)), (5, .int (nI i))]) (st2 := [.int ((lbF cur i 4 0 1000000) + (cs.getD i 0))]) (w3 := (w.set b (.inl (0, cur)))) rfl rfl ?_
  refine sx_RP.step (pc2 := 83) (ls2 := [(7, .int ((lbF cur i 4 0 1000000) + (cs.getD i 0))), (6, .int (nI i)), (0, .int src), (1, .ref a), (2, .ref b), (3, .int ch), (4, .int (nI r)), (5, .int (nI i))]) (st2 := []) (w3 := (w.set b (.inl (0, cur)))) rfl rfl ?_
  refine sx_RP.step (pc2 := 84) (ls2 := [(7, .int ((lbF cur i 4 0 1000000) + (cs.getD i 0))), (6, .int (nI i)), (0, .int src), (1, .ref a), (2, .ref b), (3, .int ch), (4, .int (nI r)), (5, .int (nI i))]) (st2 := [.ref a]) (w3 := (w.set b (.inl (0, cur)))) rfl rfl ?_
  refine sx_RP.step (pc2 := 86) (ls2 := [(7, .int ((lbF cur i 4 0 1000000) + (cs.getD i 0))), (6, .int (nI i)), (0, .int src), (1, .ref a), (2, .ref b), (3, .int ch), (4, .int (nI r)), (5, .int (nI i))]) (st2 := [.int (nI i), .ref a]) (w3 := (w.set b (.inl (0, cur)))) rfl rfl ?_
  refine sx_RP.ild (c := i) rfl (sx_gn2 hab ha) hcs (sx_in_nI hi (by decide)) (nI_clamp (by have := hi; omega)) (show _ = 87 from rfl) ?_
  refine sx_RP.step (pc2 := 88) (ls2 := [(7, .int ((lbF cur i 4 0 1000000) + (cs.getD i 0))), (6, .int (nI i)), (0, .int src), (1, .ref a), (2, .ref b), (3, .int ch), (4, .int (nI r)), (5, .int (nI i))]) (st2 := [.int (-1), .int (cs.getD i 0)]) (w3 := (w.set b (.inl (0, cur)))) rfl rfl ?_
  refine sx_RP.br (p1 := 108) (l1 := [(7, .int ((lbF cur i 4 0 1000000) + (cs.getD i 0))), (6, .int (nI i)), (0, .int src), (1, .ref a), (2, .ref b), (3, .int ch), (4, .int (nI r)), (5, .int (nI i))]) (s1 := []) (v1 := (w.set b (.inl (0, cur)))) (p2 := 91) (l2 := [(7, .int ((lbF cur i 4 0 1000000) + (cs.getD i 0))), (6, .int (nI i)), (0, .int src), (1, .ref a), (2, .ref b), (3, .int ch), (4, .int (nI r)), (5, .int (nI i))]) (s2 := []) (v2 := (w.set b (.inl (0, cur)))) rfl rfl (fun q1 => ?_) (fun q1 => ?_)
  · replace q1 := of_decide_eq_true q1
    refine sx_RP.step (pc2 := 111) (ls2 := [(5, .int ((nI i) + 1)), (7, .int ((lbF cur i 4 0 1000000) + (cs.getD i 0))), (6, .int (nI i)), (0, .int src), (1, .ref a), (2, .ref b), (3, .int ch), (4, .int (nI r))]) (st2 := []) (w3 := (w.set b (.inl (0, cur)))) rfl rfl ?_
    refine sx_RP.step (pc2 := 44) (ls2 := [(5, .int ((nI i) + 1)), (7, .int ((lbF cur i 4 0 1000000) + (cs.getD i 0))), (6, .int (nI i)), (0, .int src), (1, .ref a), (2, .ref b), (3, .int ch), (4, .int (nI r))]) (st2 := []) (w3 := (w.set b (.inl (0, cur)))) rfl rfl ?_
    rw [show rx cs (cur, ch) i = (cur, ch) from by rw [rx]; simp only [if_pos q1]] at k
    rw [nI_1 i]
    exact sx_RP.ls (sx_lr.cons rfl (sx_lr.cons rfl (sx_lr.cons rfl (sx_lr.cons rfl (sx_lr.cons rfl (sx_lr.cons rfl sx_lr.nil)))))) k
  · replace q1 := of_decide_eq_false q1
    refine sx_RP.step (pc2 := 93) (ls2 := [(7, .int ((lbF cur i 4 0 1000000) + (cs.getD i 0))), (6, .int (nI i)), (0, .int src), (1, .ref a), (2, .ref b), (3, .int ch), (4, .int (nI r)), (5, .int (nI i))]) (st2 := [.int ((lbF cur i 4 0 1000000) + (cs.getD i 0))]) (w3 := (w.set b (.inl (0, cur)))) rfl rfl ?_
    refine sx_RP.step (pc2 := 94) (ls2 := [(7, .int ((lbF cur i 4 0 1000000) + (cs.getD i 0))), (6, .int (nI i)), (0, .int src), (1, .ref a), (2, .ref b), (3, .int ch), (4, .int (nI r)), (5, .int (nI i))]) (st2 := [.ref b, .int ((lbF cur i 4 0 1000000) + (cs.getD i 0))]) (w3 := (w.set b (.inl (0, cur)))) rfl rfl ?_
    refine sx_RP.step (pc2 := 96) (ls2 := [(7, .int ((lbF cur i 4 0 1000000) + (cs.getD i 0))), (6, .int (nI i)), (0, .int src), (1, .ref a), (2, .ref b), (3, .int ch), (4, .int (nI r)), (5, .int (nI i))]) (st2 := [.int (nI i), .ref b, .int ((lbF cur i 4 0 1000000) + (cs.getD i 0))]) (w3 := (w.set b (.inl (0, cur)))) rfl rfl ?_
    refine sx_RP.ild (c := i) rfl (sx_gs2 hb) hcu (sx_in_nI hi (by decide)) (nI_clamp (by have := hi; omega)) (show _ = 97 from rfl) ?_
    refine sx_RP.br (p1 := 108) (l1 := [(7, .int ((lbF cur i 4 0 1000000) + (cs.getD i 0))), (6, .int (nI i)), (0, .int src), (1, .ref a), (2, .ref b), (3, .int ch), (4, .int (nI r)), (5, .int (nI i))]) (s1 := []) (v1 := (w.set b (.inl (0, cur)))) (p2 := 100) (l2 := [(7, .int ((lbF cur i 4 0 1000000) + (cs.getD i 0))), (6, .int (nI i)), (0, .int src), (1, .ref a), (2, .ref b), (3, .int ch), (4, .int (nI r)), (5, .int (nI i))]) (s2 := []) (v2 := (w.set b (.inl (0, cur)))) rfl rfl (fun q2 => ?_) (fun q2 => ?_)
    · replace q2 := of_decide_eq_true q2
      refine sx_RP.step (pc2 := 111) (ls2 := [(5, .int ((nI i) + 1)), (7, .int ((lbF cur i 4 0 1000000) + (cs.getD i 0))), (6, .int (nI i)), (0, .int src), (1, .ref a), (2, .ref b), (3, .int ch), (4, .int (nI r))]) (st2 := []) (w3 := (w.set b (.inl (0, cur)))) rfl rfl ?_
      refine sx_RP.step (pc2 := 44) (ls2 := [(5, .int ((nI i) + 1)), (7, .int ((lbF cur i 4 0 1000000) + (cs.getD i 0))), (6, .int (nI i)), (0, .int src), (1, .ref a), (2, .ref b), (3, .int ch), (4, .int (nI r))]) (st2 := []) (w3 := (w.set b (.inl (0, cur)))) rfl rfl ?_
      rw [show rx cs (cur, ch) i = (cur, ch) from by rw [rx]; simp only [if_neg q1, if_pos q2]] at k
      rw [nI_1 i]
      exact sx_RP.ls (sx_lr.cons rfl (sx_lr.cons rfl (sx_lr.cons rfl (sx_lr.cons rfl (sx_lr.cons rfl (sx_lr.cons rfl sx_lr.nil)))))) k
    · replace q2 := of_decide_eq_false q2
      refine sx_RP.step (pc2 := 101) (ls2 := [(7, .int ((lbF cur i 4 0 1000000) + (cs.getD i 0))), (6, .int (nI i)), (0, .int src), (1, .ref a), (2, .ref b), (3, .int ch), (4, .int (nI r)), (5, .int (nI i))]) (st2 := [.ref b]) (w3 := (w.set b (.inl (0, cur)))) rfl rfl ?_
      refine sx_RP.step (pc2 := 103) (ls2 := [(7, .int ((lbF cur i 4 0 1000000) + (cs.getD i 0))), (6, .int (nI i)), (0, .int src), (1, .ref a), (2, .ref b), (3, .int ch), (4, .int (nI r)), (5, .int (nI i))]) (st2 := [.int (nI i), .ref b]) (w3 := (w.set b (.inl (0, cur)))) rfl rfl ?_
      refine sx_RP.step (pc2 := 105) (ls2 := [(7, .int ((lbF cur i 4 0 1000000) + (cs.getD i 0))), (6, .int (nI i)), (0, .int src), (1, .ref a), (2, .ref b), (3, .int ch), (4, .int (nI r)), (5, .int (nI i))]) (st2 := [.int ((lbF cur i 4 0 1000000) + (cs.getD i 0)), .int (nI i), .ref b]) (w3 := (w.set b (.inl (0, cur)))) rfl rfl ?_
      refine sx_RP.ist (c := i) (w2 := (w.set b (.inl (0, cur.set i ((lbF cur i 4 0 1000000) + (cs.getD i 0)))))) rfl (sx_gs2 hb) hcu (sx_in_nI hi (by decide)) (nI_clamp (by have := hi; omega)) (List.set_set ..) (show _ = 106 from rfl) ?_
      refine sx_RP.step (pc2 := 107) (ls2 := [(7, .int ((lbF cur i 4 0 1000000) + (cs.getD i 0))), (6, .int (nI i)), (0, .int src), (1, .ref a), (2, .ref b), (3, .int ch), (4, .int (nI r)), (5, .int (nI i))]) (st2 := [.int 1]) (w3 := (w.set b (.inl (0, cur.set i ((lbF cur i 4 0 1000000) + (cs.getD i 0)))))) rfl rfl ?_
      refine sx_RP.step (pc2 := 108) (ls2 := [(3, .int 1), (7, .int ((lbF cur i 4 0 1000000) + (cs.getD i 0))), (6, .int (nI i)), (0, .int src), (1, .ref a), (2, .ref b), (4, .int (nI r)), (5, .int (nI i))]) (st2 := []) (w3 := (w.set b (.inl (0, cur.set i ((lbF cur i 4 0 1000000) + (cs.getD i 0)))))) rfl rfl ?_
      refine sx_RP.step (pc2 := 111) (ls2 := [(5, .int ((nI i) + 1)), (3, .int 1), (7, .int ((lbF cur i 4 0 1000000) + (cs.getD i 0))), (6, .int (nI i)), (0, .int src), (1, .ref a), (2, .ref b), (4, .int (nI r))]) (st2 := []) (w3 := (w.set b (.inl (0, cur.set i ((lbF cur i 4 0 1000000) + (cs.getD i 0)))))) rfl rfl ?_
      refine sx_RP.step (pc2 := 44) (ls2 := [(5, .int ((nI i) + 1)), (3, .int 1), (7, .int ((lbF cur i 4 0 1000000) + (cs.getD i 0))), (6, .int (nI i)), (0, .int src), (1, .ref a), (2, .ref b), (4, .int (nI r))]) (st2 := []) (w3 := (w.set b (.inl (0, cur.set i ((lbF cur i 4 0 1000000) + (cs.getD i 0)))))) rfl rfl ?_
      rw [show rx cs (cur, ch) i = (cur.set i ((lbF cur i 4 0 1000000) + (cs.getD i 0)), 1) from by rw [rx]; simp only [if_neg q1, if_neg q2]] at k
      rw [nI_1 i]
      exact sx_RP.ls (sx_lr.cons rfl (sx_lr.cons rfl (sx_lr.cons rfl (sx_lr.cons rfl (sx_lr.cons rfl (sx_lr.cons rfl sx_lr.nil)))))) k
set_option maxRecDepth 20000 in
set_option maxHeartbeats 4000000 in
theorem cq_18o {xs : Option (List Int32)} {d : Nat} {w : List sx_C} {P : Option Value → List sx_C → Prop} {a b : Nat} {cs s0 : List Int32} (ha : w[a]? = some (.inl (0, cs))) (hb : w[b]? = some (.inl (0, s0))) (hab : a ≠ b) (hcs : cs.length = 48) {src ch : Int32} {cur : List Int32} {r i : Nat} (hcu : cur.length = 48) (hr : r < 48) (he : evn r = false) (hi : i < 48) (k : sx_RP xs (d + 2) 18 44 [(0, .int src), (1, .ref a), (2, .ref b), (3, .int ((rx cs (cur, ch) (47 - i)).2)), (4, .int (nI r)), (5, .int (nI (i + 1)))] [] (w.set b (.inl (0, (rx cs (cur, ch) (47 - i)).1))) P) : sx_RP xs (d + 2) 18 44 [(0, .int src), (1, .ref a), (2, .ref b), (3, .int ch), (4, .int (nI r)), (5, .int (nI i))] [] (w.set b (.inl (0, cur))) P := by
  refine sx_RP.step (pc2 := 46) (ls2 := [(0, .int src), (1, .ref a), (2, .ref b), (3, .int ch), (4, .int (nI r)), (5, .int (nI i))]) (st2 := [.int (nI i)]) (w3 := (w.set b (.inl (0, cur)))) rfl rfl ?_
  refine sx_RP.step (pc2 := 48) (ls2 := [(0, .int src), (1, .ref a), (2, .ref b), (3, .int ch), (4, .int (nI r)), (5, .int (nI i))]) (st2 := [.int 48, .int (nI i)]) (w3 := (w.set b (.inl (0, cur)))) rfl rfl ?_
  refine sx_RP.br (p2 := 51) (l2 := [(0, .int src), (1, .ref a), (2, .ref b), (3, .int ch), (4, .int (nI r)), (5, .int (nI i))]) (s2 := []) (v2 := (w.set b (.inl (0, cur)))) rfl rfl (fun q => absurd (of_decide_eq_true q) (nI_ge (b := 48) hi (by omega))) (fun _ => ?_)
  refine sx_RP.step (pc2 := 53) (ls2 := [(0, .int src), (1, .ref a), (2, .ref b), (3, .int ch), (4, .int (nI r)), (5, .int (nI i))]) (st2 := [.int (nI r)]) (w3 := (w.set b (.inl (0, cur)))) rfl rfl ?_
  refine sx_RP.step (pc2 := 54) (ls2 := [(0, .int src), (1, .ref a), (2, .ref b), (3, .int ch), (4, .int (nI r)), (5, .int (nI i))]) (st2 := [.int 2, .int (nI r)]) (w3 := (w.set b (.inl (0, cur)))) rfl rfl ?_
  refine sx_RP.step (pc2 := 55) (ls2 := [(0, .int src), (1, .ref a), (2, .ref b), (3, .int ch), (4, .int (nI r)), (5, .int (nI i))]) (st2 := [.int ((nI r) - (nI r) / 2 * 2)]) (w3 := (w.set b (.inl (0, cur)))) rfl rfl ?_
  refine sx_RP.br (p1 := 63) (l1 := [(0, .int src), (1, .ref a), (2, .ref b), (3, .int ch), (4, .int (nI r)), (5, .int (nI i))]) (s1 := []) (v1 := (w.set b (.inl (0, cur)))) rfl rfl (fun _ => ?_) (fun q => absurd ((evn_t r hr).2 he) (of_decide_eq_false q))
  refine sx_RP.step (pc2 := 65) (ls2 := [(0, .int src), (1, .ref a), (2, .ref b), (3, .int ch), (4, .int (nI r)), (5, .int (nI i))]) (st2 := [.int 47]) (w3 := (w.set b (.inl (0, cur)))) rfl rfl ?_
  refine sx_RP.step (pc2 := 67) (ls2 := [(0, .int src), (1, .ref a), (2, .ref b), (3, .int ch), (4, .int (nI r)), (5, .int (nI i))]) (st2 := [.int (nI i), .int 47]) (w3 := (w.set b (.inl (0, cur)))) rfl rfl ?_
  refine sx_RP.step (pc2 := 68) (ls2 := [(0, .int src), (1, .ref a), (2, .ref b), (3, .int ch), (4, .int (nI r)), (5, .int (nI i))]) (st2 := [.int (47 - (nI i))]) (w3 := (w.set b (.inl (0, cur)))) rfl rfl ?_
  rw [cl_47 i hi]
  refine sx_RP.step (pc2 := 70) (ls2 := [(6, .int (nI (47 - i))), (0, .int src), (1, .ref a), (2, .ref b), (3, .int ch), (4, .int (nI r)), (5, .int (nI i))]) (st2 := []) (w3 := (w.set b (.inl (0, cur)))) rfl rfl ?_
  refine sx_RP.step (pc2 := 72) (ls2 := [(6, .int (nI (47 - i))), (0, .int src), (1, .ref a), (2, .ref b), (3, .int ch), (4, .int (nI r)), (5, .int (nI i))]) (st2 := [.int (nI (47 - i))]) (w3 := (w.set b (.inl (0, cur)))) rfl rfl ?_
  refine sx_RP.step (pc2 := 73) (ls2 := [(6, .int (nI (47 - i))), (0, .int src), (1, .ref a), (2, .ref b), (3, .int ch), (4, .int (nI r)), (5, .int (nI i))]) (st2 := [.ref b, .int (nI (47 - i))]) (w3 := (w.set b (.inl (0, cur)))) rfl rfl ?_
  refine sx_RP.cu (as := [.int (nI (47 - i)), .ref b]) (rest2 := []) (st3 := [.int (lbF cur (47 - i) 4 0 1000000)]) rfl rfl rfl rfl rfl (cp_19 (sx_gs2 hb) hcu (by omega)) rfl ?_
  refine sx_RP.step (pc2 := 77) (ls2 := [(6, .int (nI (47 - i))), (0, .int src), (1, .ref a), (2, .ref b), (3, .int ch), (4, .int (nI r)), (5, .int (nI i))]) (st2 := [.ref a, .int (lbF cur (47 - i) 4 0 1000000)]) (w3 := (w.set b (.inl (0, cur)))) rfl rfl ?_
  refine sx_RP.step (pc2 := 79) (ls2 := [(6, .int (nI (47 - i))), (0, .int src), (1, .ref a), (2, .ref b), (3, .int ch), (4, .int (nI r)), (5, .int (nI i))]) (st2 := [.int (nI (47 - i)), .ref a, .int (lbF cur (47 - i) 4 0 1000000)]) (w3 := (w.set b (.inl (0, cur)))) rfl rfl ?_
  refine sx_RP.ild (c := (47 - i)) rfl (sx_gn2 hab ha) hcs (sx_in_nI (show 47 - i < 48 by omega) (by decide)) (nI_clamp (by have := (show 47 - i < 48 by omega); omega)) (show _ = 80 from rfl) ?_
  refine sx_RP.step (pc2 := 81) (ls2 := [(6, .int (nI (47 - i))), (0, .int src), (1, .ref a), (2, .ref b), (3, .int ch), (4, .int (nI r)), (5, .int (nI i))]) (st2 := [.int ((lbF cur (47 - i) 4 0 1000000) + (cs.getD (47 - i) 0))]) (w3 := (w.set b (.inl (0, cur)))) rfl rfl ?_
  refine sx_RP.step (pc2 := 83) (ls2 := [(7, .int ((lbF cur (47 - i) 4 0 1000000) + (cs.getD (47 - i) 0))), (6, .int (nI (47 - i))), (0, .int src), (1, .ref a), (2, .ref b), (3, .int ch), (4, .int (nI r)), (5, .int (nI i))]) (st2 := []) (w3 := (w.set b (.inl (0, cur)))) rfl rfl ?_
  refine sx_RP.step (pc2 := 84) (ls2 := [(7, .int ((lbF cur (47 - i) 4 0 1000000) + (cs.getD (47 - i) 0))), (6, .int (nI (47 - i))), (0, .int src), (1, .ref a), (2, .ref b), (3, .int ch), (4, .int (nI r)), (5, .int (nI i))]) (st2 := [.ref a]) (w3 := (w.set b (.inl (0, cur)))) rfl rfl ?_
  refine sx_RP.step (pc2 := 86) (ls2 := [(7, .int ((lbF cur (47 - i) 4 0 1000000) + (cs.getD (47 - i) 0))), (6, .int (nI (47 - i))), (0, .int src), (1, .ref a), (2, .ref b), (3, .int ch), (4, .int (nI r)), (5, .int (nI i))]) (st2 := [.int (nI (47 - i)), .ref a]) (w3 := (w.set b (.inl (0, cur)))) rfl rfl ?_
  refine sx_RP.ild (c := (47 - i)) rfl (sx_gn2 hab ha) hcs (sx_in_nI (show 47 - i < 48 by omega) (by decide)) (nI_clamp (by have := (show 47 - i < 48 by omega); omega)) (show _ = 87 from rfl) ?_
  refine sx_RP.step (pc2 := 88) (ls2 := [(7, .int ((lbF cur (47 - i) 4 0 1000000) + (cs.getD (47 - i) 0))), (6, .int (nI (47 - i))), (0, .int src), (1, .ref a), (2, .ref b), (3, .int ch), (4, .int (nI r)), (5, .int (nI i))]) (st2 := [.int (-1), .int (cs.getD (47 - i) 0)]) (w3 := (w.set b (.inl (0, cur)))) rfl rfl ?_
  refine sx_RP.br (p1 := 108) (l1 := [(7, .int ((lbF cur (47 - i) 4 0 1000000) + (cs.getD (47 - i) 0))), (6, .int (nI (47 - i))), (0, .int src), (1, .ref a), (2, .ref b), (3, .int ch), (4, .int (nI r)), (5, .int (nI i))]) (s1 := []) (v1 := (w.set b (.inl (0, cur)))) (p2 := 91) (l2 := [(7, .int ((lbF cur (47 - i) 4 0 1000000) + (cs.getD (47 - i) 0))), (6, .int (nI (47 - i))), (0, .int src), (1, .ref a), (2, .ref b), (3, .int ch), (4, .int (nI r)), (5, .int (nI i))]) (s2 := []) (v2 := (w.set b (.inl (0, cur)))) rfl rfl (fun q1 => ?_) (fun q1 => ?_)
  · replace q1 := of_decide_eq_true q1
    refine sx_RP.step (pc2 := 111) (ls2 := [(5, .int ((nI i) + 1)), (7, .int ((lbF cur (47 - i) 4 0 1000000) + (cs.getD (47 - i) 0))), (6, .int (nI (47 - i))), (0, .int src), (1, .ref a), (2, .ref b), (3, .int ch), (4, .int (nI r))]) (st2 := []) (w3 := (w.set b (.inl (0, cur)))) rfl rfl ?_
    refine sx_RP.step (pc2 := 44) (ls2 := [(5, .int ((nI i) + 1)), (7, .int ((lbF cur (47 - i) 4 0 1000000) + (cs.getD (47 - i) 0))), (6, .int (nI (47 - i))), (0, .int src), (1, .ref a), (2, .ref b), (3, .int ch), (4, .int (nI r))]) (st2 := []) (w3 := (w.set b (.inl (0, cur)))) rfl rfl ?_
    rw [show rx cs (cur, ch) (47 - i) = (cur, ch) from by rw [rx]; simp only [if_pos q1]] at k
    rw [nI_1 i]
    exact sx_RP.ls (sx_lr.cons rfl (sx_lr.cons rfl (sx_lr.cons rfl (sx_lr.cons rfl (sx_lr.cons rfl (sx_lr.cons rfl sx_lr.nil)))))) k
  · replace q1 := of_decide_eq_false q1
    refine sx_RP.step (pc2 := 93) (ls2 := [(7, .int ((lbF cur (47 - i) 4 0 1000000) + (cs.getD (47 - i) 0))), (6, .int (nI (47 - i))), (0, .int src), (1, .ref a), (2, .ref b), (3, .int ch), (4, .int (nI r)), (5, .int (nI i))]) (st2 := [.int ((lbF cur (47 - i) 4 0 1000000) + (cs.getD (47 - i) 0))]) (w3 := (w.set b (.inl (0, cur)))) rfl rfl ?_
    refine sx_RP.step (pc2 := 94) (ls2 := [(7, .int ((lbF cur (47 - i) 4 0 1000000) + (cs.getD (47 - i) 0))), (6, .int (nI (47 - i))), (0, .int src), (1, .ref a), (2, .ref b), (3, .int ch), (4, .int (nI r)), (5, .int (nI i))]) (st2 := [.ref b, .int ((lbF cur (47 - i) 4 0 1000000) + (cs.getD (47 - i) 0))]) (w3 := (w.set b (.inl (0, cur)))) rfl rfl ?_
    refine sx_RP.step (pc2 := 96) (ls2 := [(7, .int ((lbF cur (47 - i) 4 0 1000000) + (cs.getD (47 - i) 0))), (6, .int (nI (47 - i))), (0, .int src), (1, .ref a), (2, .ref b), (3, .int ch), (4, .int (nI r)), (5, .int (nI i))]) (st2 := [.int (nI (47 - i)), .ref b, .int ((lbF cur (47 - i) 4 0 1000000) + (cs.getD (47 - i) 0))]) (w3 := (w.set b (.inl (0, cur)))) rfl rfl ?_
    refine sx_RP.ild (c := (47 - i)) rfl (sx_gs2 hb) hcu (sx_in_nI (show 47 - i < 48 by omega) (by decide)) (nI_clamp (by have := (show 47 - i < 48 by omega); omega)) (show _ = 97 from rfl) ?_
    refine sx_RP.br (p1 := 108) (l1 := [(7, .int ((lbF cur (47 - i) 4 0 1000000) + (cs.getD (47 - i) 0))), (6, .int (nI (47 - i))), (0, .int src), (1, .ref a), (2, .ref b), (3, .int ch), (4, .int (nI r)), (5, .int (nI i))]) (s1 := []) (v1 := (w.set b (.inl (0, cur)))) (p2 := 100) (l2 := [(7, .int ((lbF cur (47 - i) 4 0 1000000) + (cs.getD (47 - i) 0))), (6, .int (nI (47 - i))), (0, .int src), (1, .ref a), (2, .ref b), (3, .int ch), (4, .int (nI r)), (5, .int (nI i))]) (s2 := []) (v2 := (w.set b (.inl (0, cur)))) rfl rfl (fun q2 => ?_) (fun q2 => ?_)
    · replace q2 := of_decide_eq_true q2
      refine sx_RP.step (pc2 := 111) (ls2 := [(5, .int ((nI i) + 1)), (7, .int ((lbF cur (47 - i) 4 0 1000000) + (cs.getD (47 - i) 0))), (6, .int (nI (47 - i))), (0, .int src), (1, .ref a), (2, .ref b), (3, .int ch), (4, .int (nI r))]) (st2 := []) (w3 := (w.set b (.inl (0, cur)))) rfl rfl ?_
      refine sx_RP.step (pc2 := 44) (ls2 := [(5, .int ((nI i) + 1)), (7, .int ((lbF cur (47 - i) 4 0 1000000) + (cs.getD (47 - i) 0))), (6, .int (nI (47 - i))), (0, .int src), (1, .ref a), (2, .ref b), (3, .int ch), (4, .int (nI r))]) (st2 := []) (w3 := (w.set b (.inl (0, cur)))) rfl rfl ?_
      rw [show rx cs (cur, ch) (47 - i) = (cur, ch) from by rw [rx]; simp only [if_neg q1, if_pos q2]] at k
      rw [nI_1 i]
      exact sx_RP.ls (sx_lr.cons rfl (sx_lr.cons rfl (sx_lr.cons rfl (sx_lr.cons rfl (sx_lr.cons rfl (sx_lr.cons rfl sx_lr.nil)))))) k
    · replace q2 := of_decide_eq_false q2
      refine sx_RP.step (pc2 := 101) (ls2 := [(7, .int ((lbF cur (47 - i) 4 0 1000000) + (cs.getD (47 - i) 0))), (6, .int (nI (47 - i))), (0, .int src), (1, .ref a), (2, .ref b), (3, .int ch), (4, .int (nI r)), (5, .int (nI i))]) (st2 := [.ref b]) (w3 := (w.set b (.inl (0, cur)))) rfl rfl ?_
      refine sx_RP.step (pc2 := 103) (ls2 := [(7, .int ((lbF cur (47 - i) 4 0 1000000) + (cs.getD (47 - i) 0))), (6, .int (nI (47 - i))), (0, .int src), (1, .ref a), (2, .ref b), (3, .int ch), (4, .int (nI r)), (5, .int (nI i))]) (st2 := [.int (nI (47 - i)), .ref b]) (w3 := (w.set b (.inl (0, cur)))) rfl rfl ?_
      refine sx_RP.step (pc2 := 105) (ls2 := [(7, .int ((lbF cur (47 - i) 4 0 1000000) + (cs.getD (47 - i) 0))), (6, .int (nI (47 - i))), (0, .int src), (1, .ref a), (2, .ref b), (3, .int ch), (4, .int (nI r)), (5, .int (nI i))]) (st2 := [.int ((lbF cur (47 - i) 4 0 1000000) + (cs.getD (47 - i) 0)), .int (nI (47 - i)), .ref b]) (w3 := (w.set b (.inl (0, cur)))) rfl rfl ?_
      refine sx_RP.ist (c := (47 - i)) (w2 := (w.set b (.inl (0, cur.set (47 - i) ((lbF cur (47 - i) 4 0 1000000) + (cs.getD (47 - i) 0)))))) rfl (sx_gs2 hb) hcu (sx_in_nI (show 47 - i < 48 by omega) (by decide)) (nI_clamp (by have := (show 47 - i < 48 by omega); omega)) (List.set_set ..) (show _ = 106 from rfl) ?_
      refine sx_RP.step (pc2 := 107) (ls2 := [(7, .int ((lbF cur (47 - i) 4 0 1000000) + (cs.getD (47 - i) 0))), (6, .int (nI (47 - i))), (0, .int src), (1, .ref a), (2, .ref b), (3, .int ch), (4, .int (nI r)), (5, .int (nI i))]) (st2 := [.int 1]) (w3 := (w.set b (.inl (0, cur.set (47 - i) ((lbF cur (47 - i) 4 0 1000000) + (cs.getD (47 - i) 0)))))) rfl rfl ?_
      refine sx_RP.step (pc2 := 108) (ls2 := [(3, .int 1), (7, .int ((lbF cur (47 - i) 4 0 1000000) + (cs.getD (47 - i) 0))), (6, .int (nI (47 - i))), (0, .int src), (1, .ref a), (2, .ref b), (4, .int (nI r)), (5, .int (nI i))]) (st2 := []) (w3 := (w.set b (.inl (0, cur.set (47 - i) ((lbF cur (47 - i) 4 0 1000000) + (cs.getD (47 - i) 0)))))) rfl rfl ?_
      refine sx_RP.step (pc2 := 111) (ls2 := [(5, .int ((nI i) + 1)), (3, .int 1), (7, .int ((lbF cur (47 - i) 4 0 1000000) + (cs.getD (47 - i) 0))), (6, .int (nI (47 - i))), (0, .int src), (1, .ref a), (2, .ref b), (4, .int (nI r))]) (st2 := []) (w3 := (w.set b (.inl (0, cur.set (47 - i) ((lbF cur (47 - i) 4 0 1000000) + (cs.getD (47 - i) 0)))))) rfl rfl ?_
      refine sx_RP.step (pc2 := 44) (ls2 := [(5, .int ((nI i) + 1)), (3, .int 1), (7, .int ((lbF cur (47 - i) 4 0 1000000) + (cs.getD (47 - i) 0))), (6, .int (nI (47 - i))), (0, .int src), (1, .ref a), (2, .ref b), (4, .int (nI r))]) (st2 := []) (w3 := (w.set b (.inl (0, cur.set (47 - i) ((lbF cur (47 - i) 4 0 1000000) + (cs.getD (47 - i) 0)))))) rfl rfl ?_
      rw [show rx cs (cur, ch) (47 - i) = (cur.set (47 - i) ((lbF cur (47 - i) 4 0 1000000) + (cs.getD (47 - i) 0)), 1) from by rw [rx]; simp only [if_neg q1, if_neg q2]] at k
      rw [nI_1 i]
      exact sx_RP.ls (sx_lr.cons rfl (sx_lr.cons rfl (sx_lr.cons rfl (sx_lr.cons rfl (sx_lr.cons rfl (sx_lr.cons rfl sx_lr.nil)))))) k
