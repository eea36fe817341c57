set_option maxRecDepth 20000 in
set_option maxHeartbeats 4000000 in
theorem cp_18i {xs : Option (List Int32)} {d : Nat} {w : List sx_C} {a b : Nat} {cs s0 : List Int32} (ha : w[a]? = some (.inl (0, cs))) (hb : w[b]? = some (.inl (0, s0))) (hab : a ≠ b) (hcs : cs.length = 48) {P : Option Value → List sx_C → Prop} {src : Int32} {r : Nat} (hr : r < 48) : ∀ (k i : Nat) (p : List Int32 × Int32), i + k = 48 → p.1.length = 48 → sx_RP xs (d + 2) 18 28 [(0, .int src), (1, .ref a), (2, .ref b), (3, .int ((swF cs (evn r) k i p).2)), (4, .int (nI (r + 1)))] [] (w.set b (.inl (0, (swF cs (evn r) k i p).1))) P → sx_RP xs (d + 2) 18 44 [(0, .int src), (1, .ref a), (2, .ref b), (3, .int p.2), (4, .int (nI r)), (5, .int (nI i))] [] (w.set b (.inl (0, p.1))) P
  | 0, i, p, h, hp, kk => by
    obtain rfl : i = 48 := by omega
    refine sx_RP.step (pc2 := 46) (ls2 := [(0, .int src), (1, .ref a), (2, .ref b), (3, .int p.2), (4, .int (nI r)), (5, .int (nI 48))]) (st2 := [.int (nI 48)]) (w3 := (w.set b (.inl (0, p.1)))) rfl rfl ?_
    refine sx_RP.step (pc2 := 48) (ls2 := [(0, .int src), (1, .ref a), (2, .ref b), (3, .int p.2), (4, .int (nI r)), (5, .int (nI 48))]) (st2 := [.int 48, .int (nI 48)]) (w3 := (w.set b (.inl (0, p.1)))) rfl rfl ?_
    refine sx_RP.step (pc2 := 114) (ls2 := [(0, .int src), (1, .ref a), (2, .ref b), (3, .int p.2), (4, .int (nI r)), (5, .int (nI 48))]) (st2 := []) (w3 := (w.set b (.inl (0, p.1)))) rfl rfl ?_
    refine sx_RP.step (pc2 := 117) (ls2 := [(4, .int ((nI r) + 1)), (0, .int src), (1, .ref a), (2, .ref b), (3, .int p.2), (5, .int (nI 48))]) (st2 := []) (w3 := (w.set b (.inl (0, p.1)))) rfl rfl ?_
    refine sx_RP.step (pc2 := 28) (ls2 := [(4, .int ((nI r) + 1)), (0, .int src), (1, .ref a), (2, .ref b), (3, .int p.2), (5, .int (nI 48))]) (st2 := []) (w3 := (w.set b (.inl (0, p.1)))) rfl rfl ?_
    rw [nI_1 r]
    exact sx_RP.ls (sx_lr.cons rfl (sx_lr.cons rfl (sx_lr.cons rfl (sx_lr.cons rfl (sx_lr.cons rfl sx_lr.nil))))) kk
  | k + 1, i, (cur, ch), h, hp, kk => by
    have hi : i < 48 := by omega
    have IH := cp_18i (xs := xs) (d := d) (src := src) (P := P) ha hb hab hcs hr k (i + 1) (rx cs (cur, ch) (cond (evn r) i (47 - i))) (by omega) (rx_len hp) kk
    cases he : evn r with
    | true =>
      rw [he] at IH
      exact cq_18e ha hb hab hcs hp hr he hi IH
    | false =>
      rw [he] at IH
      exact cq_18o ha hb hab hcs hp hr he hi IH
set_option maxRecDepth 20000 in
set_option maxHeartbeats 4000000 in
theorem cp_18r {xs : Option (List Int32)} {d : Nat} {w : List sx_C} {a b : Nat} {cs s0 : List Int32} (ha : w[a]? = some (.inl (0, cs))) (hb : w[b]? = some (.inl (0, s0))) (hab : a ≠ b) (hcs : cs.length = 48) {P : Option Value → List sx_C → Prop} {src : Int32} : ∀ (k r : Nat) (p : List Int32 × Int32), r + k = 48 → p.1.length = 48 → P none (w.set b (.inl (0, rdF cs k r p))) → sx_RP xs (d + 2) 18 28 [(0, .int src), (1, .ref a), (2, .ref b), (3, .int p.2), (4, .int (nI r))] [] (w.set b (.inl (0, p.1))) P
  | 0, r, p, h, hp, kk => by
    obtain rfl : r = 48 := by omega
    refine sx_RP.step (pc2 := 30) (ls2 := [(0, .int src), (1, .ref a), (2, .ref b), (3, .int p.2), (4, .int (nI 48))]) (st2 := [.int (nI 48)]) (w3 := (w.set b (.inl (0, p.1)))) rfl rfl ?_
    refine sx_RP.step (pc2 := 32) (ls2 := [(0, .int src), (1, .ref a), (2, .ref b), (3, .int p.2), (4, .int (nI 48))]) (st2 := [.int 48, .int (nI 48)]) (w3 := (w.set b (.inl (0, p.1)))) rfl rfl ?_
    refine sx_RP.step (pc2 := 120) (ls2 := [(0, .int src), (1, .ref a), (2, .ref b), (3, .int p.2), (4, .int (nI 48))]) (st2 := []) (w3 := (w.set b (.inl (0, p.1)))) rfl rfl ?_
    refine sx_RP.ret (r := none) rfl rfl ?_
    exact kk
  | k + 1, r, (cur, ch), h, hp, kk => by
    have hr : r < 48 := by omega
    refine sx_RP.step (pc2 := 30) (ls2 := [(0, .int src), (1, .ref a), (2, .ref b), (3, .int ch), (4, .int (nI r))]) (st2 := [.int (nI r)]) (w3 := w.set b (.inl (0, cur))) rfl rfl ?_
    refine sx_RP.step (pc2 := 32) (ls2 := [(0, .int src), (1, .ref a), (2, .ref b), (3, .int ch), (4, .int (nI r))]) (st2 := [.int 48, .int (nI r)]) (w3 := w.set b (.inl (0, cur))) rfl rfl ?_
    refine sx_RP.br (p2 := 35) (l2 := [(0, .int src), (1, .ref a), (2, .ref b), (3, .int ch), (4, .int (nI r))]) (s2 := []) (v2 := w.set b (.inl (0, cur))) rfl rfl (fun q => absurd (of_decide_eq_true q) (nI_ge (b := 48) hr (by omega))) (fun _ => ?_)
    refine sx_RP.step (pc2 := 36) (ls2 := [(0, .int src), (1, .ref a), (2, .ref b), (3, .int ch), (4, .int (nI r))]) (st2 := [.int ch]) (w3 := w.set b (.inl (0, cur))) rfl rfl ?_
    refine sx_RP.br (p1 := 120) (l1 := [(0, .int src), (1, .ref a), (2, .ref b), (3, .int ch), (4, .int (nI r))]) (s1 := []) (v1 := w.set b (.inl (0, cur))) (p2 := 39) (l2 := [(0, .int src), (1, .ref a), (2, .ref b), (3, .int ch), (4, .int (nI r))]) (s2 := []) (v2 := w.set b (.inl (0, cur))) rfl rfl (fun q => ?_) (fun q => ?_)
    · replace q := of_decide_eq_true q
      refine sx_RP.ret rfl rfl ?_
      rw [show rdF cs (k + 1) r (cur, ch) = cur from by rw [rdF]; rw [if_pos q]] at kk
      exact kk
    · replace q := of_decide_eq_false q
      rw [show rdF cs (k + 1) r (cur, ch) = rdF cs k (r + 1) (swF cs (evn r) 48 0 (cur, 0)) from by rw [rdF]; rw [if_neg q]] at kk
      refine sx_RP.step (pc2 := 40) (ls2 := [(0, .int src), (1, .ref a), (2, .ref b), (3, .int ch), (4, .int (nI r))]) (st2 := [.int 0]) (w3 := w.set b (.inl (0, cur))) rfl rfl ?_
      refine sx_RP.step (pc2 := 41) (ls2 := [(3, .int 0), (0, .int src), (1, .ref a), (2, .ref b), (4, .int (nI r))]) (st2 := []) (w3 := w.set b (.inl (0, cur))) rfl rfl ?_
      refine sx_RP.step (pc2 := 42) (ls2 := [(3, .int 0), (0, .int src), (1, .ref a), (2, .ref b), (4, .int (nI r))]) (st2 := [.int 0]) (w3 := w.set b (.inl (0, cur))) rfl rfl ?_
      refine sx_RP.step (pc2 := 44) (ls2 := [(5, .int 0), (3, .int 0), (0, .int src), (1, .ref a), (2, .ref b), (4, .int (nI r))]) (st2 := []) (w3 := w.set b (.inl (0, cur))) rfl rfl ?_
      exact sx_RP.ls (sx_lr.cons rfl (sx_lr.cons rfl (sx_lr.cons rfl (sx_lr.cons rfl (sx_lr.cons rfl (sx_lr.cons rfl sx_lr.nil)))))) (cp_18i ha hb hab hcs hr 48 0 (cur, 0) rfl hp (cp_18r ha hb hab hcs k (r + 1) _ (by omega) (swF_len 48 0 _ hp) kk))
set_option maxRecDepth 20000 in
set_option maxHeartbeats 4000000 in
theorem cq_18f {xs : Option (List Int32)} {d : Nat} {w : List sx_C} {P : Option Value → List sx_C → Prop} {a b : Nat} {s0 : List Int32} (hb : w[b]? = some (.inl (0, s0))) {src : Int32} {cur : List Int32} {j : Nat} (hcu : cur.length = 48) (hj : j < 48) (k : sx_RP xs d 18 2 [(0, .int src), (1, .ref a), (2, .ref b), (3, .int (nI (j + 1)))] [] (w.set b (.inl (0, cur.set j 1000000))) P) : sx_RP xs d 18 2 [(0, .int src), (1, .ref a), (2, .ref b), (3, .int (nI j))] [] (w.set b (.inl (0, cur))) P := by
  refine sx_RP.step (pc2 := 3) (ls2 := [(0, .int src), (1, .ref a), (2, .ref b), (3, .int (nI j))]) (st2 := [.int (nI j)]) (w3 := (w.set b (.inl (0, cur)))) rfl rfl ?_
  refine sx_RP.step (pc2 := 5) (ls2 := [(0, .int src), (1, .ref a), (2, .ref b), (3, .int (nI j))]) (st2 := [.int 48, .int (nI j)]) (w3 := (w.set b (.inl (0, cur)))) rfl rfl ?_
  refine sx_RP.br (p2 := 8) (l2 := [(0, .int src), (1, .ref a), (2, .ref b), (3, .int (nI j))]) (s2 := []) (v2 := (w.set b (.inl (0, cur)))) rfl rfl (fun q => absurd (of_decide_eq_true q) (nI_ge (b := 48) hj (by omega))) (fun _ => ?_)
  refine sx_RP.step (pc2 := 9) (ls2 := [(0, .int src), (1, .ref a), (2, .ref b), (3, .int (nI j))]) (st2 := [.ref b]) (w3 := (w.set b (.inl (0, cur)))) rfl rfl ?_
  refine sx_RP.step (pc2 := 10) (ls2 := [(0, .int src), (1, .ref a), (2, .ref b), (3, .int (nI j))]) (st2 := [.int (nI j), .ref b]) (w3 := (w.set b (.inl (0, cur)))) rfl rfl ?_
  refine sx_RP.step (pc2 := 12) (ls2 := [(0, .int src), (1, .ref a), (2, .ref b), (3, .int (nI j))]) (st2 := [.int 1000000, .int (nI j), .ref b]) (w3 := (w.set b (.inl (0, cur)))) rfl rfl ?_
  refine sx_RP.ist (c := j) (w2 := (w.set b (.inl (0, cur.set j 1000000)))) rfl (sx_gs2 hb) hcu (sx_in_nI hj (by decide)) (nI_clamp (by have := hj; omega)) (List.set_set ..) (show _ = 13 from rfl) ?_
  refine sx_RP.step (pc2 := 16) (ls2 := [(3, .int ((nI j) + 1)), (0, .int src), (1, .ref a), (2, .ref b)]) (st2 := []) (w3 := (w.set b (.inl (0, cur.set j 1000000)))) rfl rfl ?_
  refine sx_RP.step (pc2 := 2) (ls2 := [(3, .int ((nI j) + 1)), (0, .int src), (1, .ref a), (2, .ref b)]) (st2 := []) (w3 := (w.set b (.inl (0, cur.set j 1000000)))) rfl rfl ?_
  rw [nI_1 j]
  exact sx_RP.ls (sx_lr.cons rfl (sx_lr.cons rfl (sx_lr.cons rfl (sx_lr.cons rfl sx_lr.nil)))) k
set_option maxRecDepth 20000 in
set_option maxHeartbeats 4000000 in
theorem cp_18f {xs : Option (List Int32)} {d : Nat} {w : List sx_C} {a b : Nat} {s0 : List Int32} (hb : w[b]? = some (.inl (0, s0))) {P : Option Value → List sx_C → Prop} {src : Int32} : ∀ (k j : Nat) (l : List Int32), j + k = 48 → l.length = 48 → sx_RP xs d 18 19 [(0, .int src), (1, .ref a), (2, .ref b)] [] (w.set b (.inl (0, flF 1000000 k j l))) P → sx_RP xs d 18 2 [(0, .int src), (1, .ref a), (2, .ref b), (3, .int (nI j))] [] (w.set b (.inl (0, l))) P
  | 0, j, l, h, hl, kk => by
    obtain rfl : j = 48 := by omega
    refine sx_RP.step (pc2 := 3) (ls2 := [(0, .int src), (1, .ref a), (2, .ref b), (3, .int (nI 48))]) (st2 := [.int (nI 48)]) (w3 := (w.set b (.inl (0, l)))) rfl rfl ?_
    refine sx_RP.step (pc2 := 5) (ls2 := [(0, .int src), (1, .ref a), (2, .ref b), (3, .int (nI 48))]) (st2 := [.int 48, .int (nI 48)]) (w3 := (w.set b (.inl (0, l)))) rfl rfl ?_
    refine sx_RP.step (pc2 := 19) (ls2 := [(0, .int src), (1, .ref a), (2, .ref b), (3, .int (nI 48))]) (st2 := []) (w3 := (w.set b (.inl (0, l)))) rfl rfl ?_
    exact sx_RP.ls (sx_lr.cons rfl (sx_lr.cons rfl (sx_lr.cons rfl sx_lr.nil))) kk
  | k + 1, j, l, h, hl, kk => cq_18f hb hl (by omega) (cp_18f hb k (j + 1) (l.set j 1000000) (by omega) (by rw [List.length_set]; exact hl) kk)
set_option maxRecDepth 20000 in
set_option maxHeartbeats 4000000 in
theorem cp_18s {xs : Option (List Int32)} {d : Nat} {w : List sx_C} {a b : Nat} {cs s0 : List Int32} (ha : w[a]? = some (.inl (0, cs))) (hb : w[b]? = some (.inl (0, s0))) (hab : a ≠ b) (hcs : cs.length = 48) {P : Option Value → List sx_C → Prop} {src : Nat} (F : List Int32) (hF : F.length = 48) (kk : P none (w.set b (.inl (0, rdF cs 48 0 (F, 1))))) : sx_RP xs (d + 2) 18 28 [(4, .int 0), (3, .int 1), (0, .int (nI src)), (1, .ref a), (2, .ref b)] [] (w.set b (.inl (0, F))) P := sx_RP.ls (sx_lr.cons rfl (sx_lr.cons rfl (sx_lr.cons rfl (sx_lr.cons rfl (sx_lr.cons rfl sx_lr.nil))))) (cp_18r (src := nI src) ha hb hab hcs 48 0 (F, 1) rfl hF kk)
set_option maxRecDepth 20000 in
set_option maxHeartbeats 4000000 in
theorem cp_18 {xs : Option (List Int32)} {d : Nat} {w : List sx_C} {a b : Nat} {cs s0 : List Int32} (ha : w[a]? = some (.inl (0, cs))) (hb : w[b]? = some (.inl (0, s0))) (hab : a ≠ b) (hcs : cs.length = 48) (hs0 : s0.length = 48) {src : Nat} (hsrc : src < 48) : sx_RU xs (d + 2) 18 0 (lv_args 0 [.int (nI src), .ref a, .ref b]) [] w none (w.set b (.inl (0, spF cs src s0))) := by
  have h : sx_RP xs (d + 2) 18 0 (lv_args 0 [.int (nI src), .ref a, .ref b]) [] w (fun r w2 => r = none ∧ w2 = w.set b (.inl (0, spF cs src s0))) := by
    refine sx_RP.step (pc2 := 1) (ls2 := [(0, .int (nI src)), (1, .ref a), (2, .ref b)]) (st2 := [.int 0]) (w3 := w) rfl rfl ?_
    refine sx_RP.step (pc2 := 2) (ls2 := [(3, .int 0), (0, .int (nI src)), (1, .ref a), (2, .ref b)]) (st2 := []) (w3 := w) rfl rfl ?_
    have e0 : w = w.set b (.inl (0, s0)) := sx_same hb
    rw [e0]
    refine sx_RP.ls (sx_lr.cons rfl (sx_lr.cons rfl (sx_lr.cons rfl (sx_lr.cons rfl sx_lr.nil)))) (cp_18f (a := a) (src := nI src) (P := fun r w2 => r = none ∧ w2 = (w.set b (.inl (0, s0))).set b (.inl (0, spF cs src s0))) hb 48 0 s0 rfl hs0 ?_)
    rw [List.set_set]
    refine sx_RP.step (pc2 := 20) (ls2 := [(0, .int (nI src)), (1, .ref a), (2, .ref b)]) (st2 := [.ref b]) (w3 := (w.set b (.inl (0, flF 1000000 48 0 s0)))) rfl rfl ?_
    refine sx_RP.step (pc2 := 21) (ls2 := [(0, .int (nI src)), (1, .ref a), (2, .ref b)]) (st2 := [.int (nI src), .ref b]) (w3 := (w.set b (.inl (0, flF 1000000 48 0 s0)))) rfl rfl ?_
    refine sx_RP.step (pc2 := 22) (ls2 := [(0, .int (nI src)), (1, .ref a), (2, .ref b)]) (st2 := [.int 0, .int (nI src), .ref b]) (w3 := (w.set b (.inl (0, flF 1000000 48 0 s0)))) rfl rfl ?_
    refine sx_RP.ist (c := src) (w2 := (w.set b (.inl (0, (flF 1000000 48 0 s0).set src 0)))) rfl (sx_gs2 hb) (flF_len 48 0 _ hs0) (sx_in_nI hsrc (by decide)) (nI_clamp (by have := hsrc; omega)) (List.set_set ..) (show _ = 23 from rfl) ?_
    refine sx_RP.step (pc2 := 24) (ls2 := [(0, .int (nI src)), (1, .ref a), (2, .ref b)]) (st2 := [.int 1]) (w3 := (w.set b (.inl (0, (flF 1000000 48 0 s0).set src 0)))) rfl rfl ?_
    refine sx_RP.step (pc2 := 25) (ls2 := [(3, .int 1), (0, .int (nI src)), (1, .ref a), (2, .ref b)]) (st2 := []) (w3 := (w.set b (.inl (0, (flF 1000000 48 0 s0).set src 0)))) rfl rfl ?_
    refine sx_RP.step (pc2 := 26) (ls2 := [(3, .int 1), (0, .int (nI src)), (1, .ref a), (2, .ref b)]) (st2 := [.int 0]) (w3 := (w.set b (.inl (0, (flF 1000000 48 0 s0).set src 0)))) rfl rfl ?_
    refine sx_RP.step (pc2 := 28) (ls2 := [(4, .int 0), (3, .int 1), (0, .int (nI src)), (1, .ref a), (2, .ref b)]) (st2 := []) (w3 := (w.set b (.inl (0, (flF 1000000 48 0 s0).set src 0)))) rfl rfl ?_
    exact cp_18s ha hb hab hcs ((flF 1000000 48 0 s0).set src 0) (by rw [List.length_set]; exact flF_len 48 0 _ hs0) ⟨rfl, by rw [spF]⟩
  obtain ⟨r, w2, h1, rfl, rfl⟩ := h
  exact h1
