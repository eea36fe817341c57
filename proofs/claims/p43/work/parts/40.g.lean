-- 40.walks.lean.txt
section
set_option maxRecDepth 20000 in
set_option maxHeartbeats 4000000 in
theorem cp_146 {xs : Option (List Int32)} {d : Nat} {w : List sx_C} {mk mt mh mf mv : Int32} {s : List Int32} (h111 : w[111]? = some (.inr (.inr (.inr (6, [.ref 112, .ref 113, .ref 114, .ref 115, .int mk, .ref 116, .ref 117, .ref 118, .ref 119, .ref 120, .ref 121, .int mt, .int mh, .int mf, .int mv, .ref 122, .ref 123, .ref 124, .ref 125]))))) (h112 : w[112]? = some (.inl (0, s))) (hs : s.length = 172) {c : Nat} (hc : c < 48) : sx_RU xs d 146 0 (lv_args 0 [.ref 111, .int (nI c)]) [] w (some (.int (crF (s.getD (7 + c) 0)))) w := by
  have h : sx_RP xs d 146 0 (lv_args 0 [.ref 111, .int (nI c)]) [] w (fun r w2 => r = (some (.int (crF (s.getD (7 + c) 0)))) ∧ w2 = w) := by
    refine sx_RP.step (pc2 := 1) (ls2 := [(0, .ref 111), (1, .int (nI c))]) (st2 := [.ref 111]) (w3 := w) rfl rfl ?_
    refine sx_RP.gf (v := .ref 112) rfl rfl h111 rfl rfl (show _ = 4 from rfl) ?_
    refine sx_RP.step (pc2 := 6) (ls2 := [(0, .ref 111), (1, .int (nI c))]) (st2 := [.int 7, .ref 112]) (w3 := w) rfl rfl ?_
    refine sx_RP.step (pc2 := 7) (ls2 := [(0, .ref 111), (1, .int (nI c))]) (st2 := [.int (nI c), .int 7, .ref 112]) (w3 := w) rfl rfl ?_
    refine sx_RP.step (pc2 := 8) (ls2 := [(0, .ref 111), (1, .int (nI c))]) (st2 := [.int (7 + (nI c)), .ref 112]) (w3 := w) rfl rfl ?_
    rw [cl_7 c]
    refine sx_RP.ild (c := (7 + c)) rfl h112 hs (sx_in_nI (show 7 + c < 172 by omega) (by decide)) (nI_clamp (by have := (show 7 + c < 172 by omega); omega)) (show _ = 9 from rfl) ?_
    refine sx_RP.step (pc2 := 10) (ls2 := [(2, .int (s.getD (7 + c) 0)), (0, .ref 111), (1, .int (nI c))]) (st2 := []) (w3 := w) rfl rfl ?_
    refine sx_RP.step (pc2 := 11) (ls2 := [(2, .int (s.getD (7 + c) 0)), (0, .ref 111), (1, .int (nI c))]) (st2 := [.int (s.getD (7 + c) 0)]) (w3 := w) rfl rfl ?_
    refine sx_RP.step (pc2 := 12) (ls2 := [(2, .int (s.getD (7 + c) 0)), (0, .ref 111), (1, .int (nI c))]) (st2 := [.int 1, .int (s.getD (7 + c) 0)]) (w3 := w) rfl rfl ?_
    refine sx_RP.br (p1 := 19) (l1 := [(2, .int (s.getD (7 + c) 0)), (0, .ref 111), (1, .int (nI c))]) (s1 := []) (v1 := w) (p2 := 15) (l2 := [(2, .int (s.getD (7 + c) 0)), (0, .ref 111), (1, .int (nI c))]) (s2 := []) (v2 := w) rfl rfl (fun q1 => ?_) (fun q1 => ?_)
    · replace q1 := of_decide_eq_true q1
      refine sx_RP.step (pc2 := 20) (ls2 := [(2, .int (s.getD (7 + c) 0)), (0, .ref 111), (1, .int (nI c))]) (st2 := [.int (s.getD (7 + c) 0)]) (w3 := w) rfl rfl ?_
      refine sx_RP.step (pc2 := 21) (ls2 := [(2, .int (s.getD (7 + c) 0)), (0, .ref 111), (1, .int (nI c))]) (st2 := [.int 3, .int (s.getD (7 + c) 0)]) (w3 := w) rfl rfl ?_
      refine sx_RP.br (p1 := 28) (l1 := [(2, .int (s.getD (7 + c) 0)), (0, .ref 111), (1, .int (nI c))]) (s1 := []) (v1 := w) (p2 := 24) (l2 := [(2, .int (s.getD (7 + c) 0)), (0, .ref 111), (1, .int (nI c))]) (s2 := []) (v2 := w) rfl rfl (fun q2 => ?_) (fun q2 => ?_)
      · replace q2 := of_decide_eq_true q2
        refine sx_RP.step (pc2 := 29) (ls2 := [(2, .int (s.getD (7 + c) 0)), (0, .ref 111), (1, .int (nI c))]) (st2 := [.int 1]) (w3 := w) rfl rfl ?_
        refine sx_RP.ret (r := (some (.int 1))) rfl rfl ?_
        exact ⟨congrArg (fun z => some (Value.int z)) (show _ = crF (s.getD (7 + c) 0) from by rw [crF]; simp only [if_neg q1, if_neg q2]), rfl⟩
      · replace q2 := Decidable.not_not.mp (of_decide_eq_false q2)
        refine sx_RP.step (pc2 := 25) (ls2 := [(2, .int (s.getD (7 + c) 0)), (0, .ref 111), (1, .int (nI c))]) (st2 := [.int 4]) (w3 := w) rfl rfl ?_
        refine sx_RP.step (pc2 := 29) (ls2 := [(2, .int (s.getD (7 + c) 0)), (0, .ref 111), (1, .int (nI c))]) (st2 := [.int 4]) (w3 := w) rfl rfl ?_
        refine sx_RP.ret (r := (some (.int 4))) rfl rfl ?_
        exact ⟨congrArg (fun z => some (Value.int z)) (show _ = crF (s.getD (7 + c) 0) from by rw [crF]; simp only [if_neg q1, if_pos q2]), rfl⟩
    · replace q1 := Decidable.not_not.mp (of_decide_eq_false q1)
      refine sx_RP.step (pc2 := 16) (ls2 := [(2, .int (s.getD (7 + c) 0)), (0, .ref 111), (1, .int (nI c))]) (st2 := [.int 2]) (w3 := w) rfl rfl ?_
      refine sx_RP.step (pc2 := 29) (ls2 := [(2, .int (s.getD (7 + c) 0)), (0, .ref 111), (1, .int (nI c))]) (st2 := [.int 2]) (w3 := w) rfl rfl ?_
      refine sx_RP.ret (r := (some (.int 2))) rfl rfl ?_
      exact ⟨congrArg (fun z => some (Value.int z)) (show _ = crF (s.getD (7 + c) 0) from by rw [crF]; simp only [if_pos q1]), rfl⟩
  obtain ⟨r, w2, h1, rfl, rfl⟩ := h
  exact h1
theorem cp_146x {xs : Option (List Int32)} {d : Nat} {w : List sx_C} {mk mt mh mf mv : Int32} {s : List Int32} (h111 : w[111]? = some (.inr (.inr (.inr (6, [.ref 112, .ref 113, .ref 114, .ref 115, .int mk, .ref 116, .ref 117, .ref 118, .ref 119, .ref 120, .ref 121, .int mt, .int mh, .int mf, .int mv, .ref 122, .ref 123, .ref 124, .ref 125]))))) (h112 : w[112]? = some (.inl (0, s))) (hs : s.length = 172) {x : Int32} (hx : sx_in x 48 = true) : sx_RU xs d 146 0 (lv_args 0 [.ref 111, .int x]) [] w (some (.int (crF (s.getD (7 + x.toNatClampNeg) 0)))) w := by
  obtain ⟨c, hc, rfl, e⟩ := sx_in_c hx
  rw [e]
  exact cp_146 h111 h112 hs hc
def nr1 (wy su : List Int32) (b : Int32) (c : Nat) : Int32 := if ¬ su.getD c 0 = 0 then b else if wy.getD c 0 < 0 then b else if b < 0 then nI c else if wy.getD b.toNatClampNeg 0 ≤ wy.getD c 0 then b else nI c
def nrF (wy su : List Int32) : Nat → Nat → Int32 → Int32
  | 0, _, b => b
  | k + 1, c, b => nrF wy su k (c + 1) (nr1 wy su b c)
def nrOK (su : List Int32) (b : Int32) : Prop := b < 0 ∨ ∃ c, c < 48 ∧ b = nI c ∧ su.getD c 0 = 0
theorem nr1_ok {wy su : List Int32} {b : Int32} {c : Nat} (hc : c < 48) (h : nrOK su b) : nrOK su (nr1 wy su b c) := by
  unfold nr1
  (repeat' split)
  · exact h
  · exact h
  · exact Or.inr ⟨c, hc, rfl, Decidable.not_not.mp (by assumption)⟩
  · exact h
  · exact Or.inr ⟨c, hc, rfl, Decidable.not_not.mp (by assumption)⟩
theorem nrF_ok {wy su : List Int32} : ∀ (k c : Nat) (b : Int32), c + k = 48 → nrOK su b → nrOK su (nrF wy su k c b)
  | 0, _, _, _, h => h
  | k + 1, c, b, e, h => nrF_ok k (c + 1) _ (by omega) (nr1_ok (by omega) h)
theorem nrOK.at {su : List Int32} {b : Int32} (h : nrOK su b) (hn : ¬ b < 0) : sx_in b 48 = true := by
  rcases h with h | ⟨c, hc, rfl, _⟩
  · exact absurd h hn
  · exact sx_in_nI hc (by decide)
set_option maxRecDepth 20000 in
set_option maxHeartbeats 4000000 in
theorem cq_149 {xs : Option (List Int32)} {d : Nat} {w : List sx_C} {P : Option Value → List sx_C → Prop} {mk mt mh mf mv : Int32} {wy su : List Int32} (h111 : w[111]? = some (.inr (.inr (.inr (6, [.ref 112, .ref 113, .ref 114, .ref 115, .int mk, .ref 116, .ref 117, .ref 118, .ref 119, .ref 120, .ref 121, .int mt, .int mh, .int mf, .int mv, .ref 122, .ref 123, .ref 124, .ref 125]))))) (h117 : w[117]? = some (.inl (0, wy))) (h118 : w[118]? = some (.inl (1, su))) (hwy : wy.length = 48) (hsu : su.length = 48) {b : Int32} {c : Nat} (hb : nrOK su b) (hc : c < 48) (k : sx_RP xs d 149 4 [(0, .ref 111), (1, .int (nr1 wy su b c)), (2, .int (nI (c + 1)))] [] w P) : sx_RP xs d 149 4 [(0, .ref 111), (1, .int b), (2, .int (nI c))] [] w P := by
  refine sx_RP.step (pc2 := 5) (ls2 := [(0, .ref 111), (1, .int b), (2, .int (nI c))]) (st2 := [.int (nI c)]) (w3 := w) rfl rfl ?_
  refine sx_RP.step (pc2 := 7) (ls2 := [(0, .ref 111), (1, .int b), (2, .int (nI c))]) (st2 := [.int 48, .int (nI c)]) (w3 := w) rfl rfl ?_
  refine sx_RP.br (p2 := 10) (l2 := [(0, .ref 111), (1, .int b), (2, .int (nI c))]) (s2 := []) (v2 := w) rfl rfl (fun q => absurd (of_decide_eq_true q) (nI_ge (b := 48) hc (by omega))) (fun _ => ?_)
  refine sx_RP.step (pc2 := 11) (ls2 := [(0, .ref 111), (1, .int b), (2, .int (nI c))]) (st2 := [.ref 111]) (w3 := w) rfl rfl ?_
  refine sx_RP.gf (v := .ref 118) rfl rfl h111 rfl rfl (show _ = 14 from rfl) ?_
  refine sx_RP.step (pc2 := 15) (ls2 := [(0, .ref 111), (1, .int b), (2, .int (nI c))]) (st2 := [.int (nI c), .ref 118]) (w3 := w) rfl rfl ?_
  refine sx_RP.bld1 (c := c) rfl h118 hsu (sx_in_nI hc (by decide)) (nI_clamp (by have := hc; omega)) (show _ = 16 from rfl) ?_
  refine sx_RP.br (p1 := 32) (l1 := [(0, .ref 111), (1, .int b), (2, .int (nI c))]) (s1 := []) (v1 := w) (p2 := 19) (l2 := [(0, .ref 111), (1, .int b), (2, .int (nI c))]) (s2 := []) (v2 := w) rfl rfl (fun q1 => ?_) (fun q1 => ?_)
  · replace q1 := of_decide_eq_true q1
    refine sx_RP.step (pc2 := 33) (ls2 := [(0, .ref 111), (1, .int b), (2, .int (nI c))]) (st2 := [.int 0]) (w3 := w) rfl rfl ?_
    refine sx_RP.step (pc2 := 34) (ls2 := [(3, .int 0), (0, .ref 111), (1, .int b), (2, .int (nI c))]) (st2 := []) (w3 := w) rfl rfl ?_
    refine sx_RP.step (pc2 := 35) (ls2 := [(3, .int 0), (0, .ref 111), (1, .int b), (2, .int (nI c))]) (st2 := [.int 0]) (w3 := w) rfl rfl ?_
    refine sx_RP.step (pc2 := 61) (ls2 := [(3, .int 0), (0, .ref 111), (1, .int b), (2, .int (nI c))]) (st2 := []) (w3 := w) rfl rfl ?_
    refine sx_RP.step (pc2 := 62) (ls2 := [(3, .int 0), (0, .ref 111), (1, .int b), (2, .int (nI c))]) (st2 := [.int b]) (w3 := w) rfl rfl ?_
    refine sx_RP.step (pc2 := 63) (ls2 := [(1, .int b), (3, .int 0), (0, .ref 111), (2, .int (nI c))]) (st2 := []) (w3 := w) rfl rfl ?_
    refine sx_RP.step (pc2 := 66) (ls2 := [(2, .int ((nI c) + 1)), (1, .int b), (3, .int 0), (0, .ref 111)]) (st2 := []) (w3 := w) rfl rfl ?_
    refine sx_RP.step (pc2 := 4) (ls2 := [(2, .int ((nI c) + 1)), (1, .int b), (3, .int 0), (0, .ref 111)]) (st2 := []) (w3 := w) rfl rfl ?_
    rw [show nr1 wy su b c = b from by rw [nr1]; simp only [if_pos q1]] at k
    rw [nI_1 c]
    exact sx_RP.ls (sx_lr.cons rfl (sx_lr.cons rfl (sx_lr.cons rfl sx_lr.nil))) k
  · replace q1 := Decidable.not_not.mp (of_decide_eq_false q1)
    refine sx_RP.step (pc2 := 20) (ls2 := [(0, .ref 111), (1, .int b), (2, .int (nI c))]) (st2 := [.ref 111]) (w3 := w) rfl rfl ?_
    refine sx_RP.gf (v := .ref 117) rfl rfl h111 rfl rfl (show _ = 23 from rfl) ?_
    refine sx_RP.step (pc2 := 24) (ls2 := [(0, .ref 111), (1, .int b), (2, .int (nI c))]) (st2 := [.int (nI c), .ref 117]) (w3 := w) rfl rfl ?_
    refine sx_RP.ild (c := c) rfl h117 hwy (sx_in_nI hc (by decide)) (nI_clamp (by have := hc; omega)) (show _ = 25 from rfl) ?_
    refine sx_RP.br (p1 := 32) (l1 := [(0, .ref 111), (1, .int b), (2, .int (nI c))]) (s1 := []) (v1 := w) (p2 := 28) (l2 := [(0, .ref 111), (1, .int b), (2, .int (nI c))]) (s2 := []) (v2 := w) rfl rfl (fun q2 => ?_) (fun q2 => ?_)
    · replace q2 := of_decide_eq_true q2
      refine sx_RP.step (pc2 := 33) (ls2 := [(0, .ref 111), (1, .int b), (2, .int (nI c))]) (st2 := [.int 0]) (w3 := w) rfl rfl ?_
      refine sx_RP.step (pc2 := 34) (ls2 := [(3, .int 0), (0, .ref 111), (1, .int b), (2, .int (nI c))]) (st2 := []) (w3 := w) rfl rfl ?_
      refine sx_RP.step (pc2 := 35) (ls2 := [(3, .int 0), (0, .ref 111), (1, .int b), (2, .int (nI c))]) (st2 := [.int 0]) (w3 := w) rfl rfl ?_
      refine sx_RP.step (pc2 := 61) (ls2 := [(3, .int 0), (0, .ref 111), (1, .int b), (2, .int (nI c))]) (st2 := []) (w3 := w) rfl rfl ?_
      refine sx_RP.step (pc2 := 62) (ls2 := [(3, .int 0), (0, .ref 111), (1, .int b), (2, .int (nI c))]) (st2 := [.int b]) (w3 := w) rfl rfl ?_
      refine sx_RP.step (pc2 := 63) (ls2 := [(1, .int b), (3, .int 0), (0, .ref 111), (2, .int (nI c))]) (st2 := []) (w3 := w) rfl rfl ?_
      refine sx_RP.step (pc2 := 66) (ls2 := [(2, .int ((nI c) + 1)), (1, .int b), (3, .int 0), (0, .ref 111)]) (st2 := []) (w3 := w) rfl rfl ?_
      refine sx_RP.step (pc2 := 4) (ls2 := [(2, .int ((nI c) + 1)), (1, .int b), (3, .int 0), (0, .ref 111)]) (st2 := []) (w3 := w) rfl rfl ?_
      rw [show nr1 wy su b c = b from by rw [nr1]; simp only [if_neg (not_not_intro q1), if_pos q2]] at k
      rw [nI_1 c]
      exact sx_RP.ls (sx_lr.cons rfl (sx_lr.cons rfl (sx_lr.cons rfl sx_lr.nil))) k
    · replace q2 := of_decide_eq_false q2
      refine sx_RP.step (pc2 := 29) (ls2 := [(0, .ref 111), (1, .int b), (2, .int (nI c))]) (st2 := [.int 1]) (w3 := w) rfl rfl ?_
      refine sx_RP.step (pc2 := 33) (ls2 := [(0, .ref 111), (1, .int b), (2, .int (nI c))]) (st2 := [.int 1]) (w3 := w) rfl rfl ?_
      refine sx_RP.step (pc2 := 34) (ls2 := [(3, .int 1), (0, .ref 111), (1, .int b), (2, .int (nI c))]) (st2 := []) (w3 := w) rfl rfl ?_
      refine sx_RP.step (pc2 := 35) (ls2 := [(3, .int 1), (0, .ref 111), (1, .int b), (2, .int (nI c))]) (st2 := [.int 1]) (w3 := w) rfl rfl ?_
      refine sx_RP.step (pc2 := 38) (ls2 := [(3, .int 1), (0, .ref 111), (1, .int b), (2, .int (nI c))]) (st2 := []) (w3 := w) rfl rfl ?_
      refine sx_RP.step (pc2 := 39) (ls2 := [(3, .int 1), (0, .ref 111), (1, .int b), (2, .int (nI c))]) (st2 := [.int b]) (w3 := w) rfl rfl ?_
      refine sx_RP.br (p1 := 57) (l1 := [(3, .int 1), (0, .ref 111), (1, .int b), (2, .int (nI c))]) (s1 := []) (v1 := w) (p2 := 42) (l2 := [(3, .int 1), (0, .ref 111), (1, .int b), (2, .int (nI c))]) (s2 := []) (v2 := w) rfl rfl (fun q3 => ?_) (fun q3 => ?_)
      · replace q3 := of_decide_eq_true q3
        refine sx_RP.step (pc2 := 58) (ls2 := [(3, .int 1), (0, .ref 111), (1, .int b), (2, .int (nI c))]) (st2 := [.int (nI c)]) (w3 := w) rfl rfl ?_
        refine sx_RP.step (pc2 := 62) (ls2 := [(3, .int 1), (0, .ref 111), (1, .int b), (2, .int (nI c))]) (st2 := [.int (nI c)]) (w3 := w) rfl rfl ?_
        refine sx_RP.step (pc2 := 63) (ls2 := [(1, .int (nI c)), (3, .int 1), (0, .ref 111), (2, .int (nI c))]) (st2 := []) (w3 := w) rfl rfl ?_
        refine sx_RP.step (pc2 := 66) (ls2 := [(2, .int ((nI c) + 1)), (1, .int (nI c)), (3, .int 1), (0, .ref 111)]) (st2 := []) (w3 := w) rfl rfl ?_
        refine sx_RP.step (pc2 := 4) (ls2 := [(2, .int ((nI c) + 1)), (1, .int (nI c)), (3, .int 1), (0, .ref 111)]) (st2 := []) (w3 := w) rfl rfl ?_
        rw [show nr1 wy su b c = nI c from by rw [nr1]; simp only [if_neg (not_not_intro q1), if_neg q2, if_pos q3]] at k
        rw [nI_1 c]
        exact sx_RP.ls (sx_lr.cons rfl (sx_lr.cons rfl (sx_lr.cons rfl sx_lr.nil))) k
      · replace q3 := of_decide_eq_false q3
        refine sx_RP.step (pc2 := 43) (ls2 := [(3, .int 1), (0, .ref 111), (1, .int b), (2, .int (nI c))]) (st2 := [.ref 111]) (w3 := w) rfl rfl ?_
        refine sx_RP.gf (v := .ref 117) rfl rfl h111 rfl rfl (show _ = 46 from rfl) ?_
        refine sx_RP.step (pc2 := 47) (ls2 := [(3, .int 1), (0, .ref 111), (1, .int b), (2, .int (nI c))]) (st2 := [.int (nI c), .ref 117]) (w3 := w) rfl rfl ?_
        refine sx_RP.ild (c := c) rfl h117 hwy (sx_in_nI hc (by decide)) (nI_clamp (by have := hc; omega)) (show _ = 48 from rfl) ?_
        refine sx_RP.step (pc2 := 49) (ls2 := [(3, .int 1), (0, .ref 111), (1, .int b), (2, .int (nI c))]) (st2 := [.ref 111, .int (wy.getD c 0)]) (w3 := w) rfl rfl ?_
        refine sx_RP.gf (v := .ref 117) rfl rfl h111 rfl rfl (show _ = 52 from rfl) ?_
        refine sx_RP.step (pc2 := 53) (ls2 := [(3, .int 1), (0, .ref 111), (1, .int b), (2, .int (nI c))]) (st2 := [.int b, .ref 117, .int (wy.getD c 0)]) (w3 := w) rfl rfl ?_
        refine sx_RP.ild (c := b.toNatClampNeg) rfl h117 hwy (hb.at q3) rfl (show _ = 54 from rfl) ?_
        refine sx_RP.br (p1 := 61) (l1 := [(3, .int 1), (0, .ref 111), (1, .int b), (2, .int (nI c))]) (s1 := []) (v1 := w) (p2 := 57) (l2 := [(3, .int 1), (0, .ref 111), (1, .int b), (2, .int (nI c))]) (s2 := []) (v2 := w) rfl rfl (fun q4 => ?_) (fun q4 => ?_)
        · replace q4 := of_decide_eq_true q4
          refine sx_RP.step (pc2 := 62) (ls2 := [(3, .int 1), (0, .ref 111), (1, .int b), (2, .int (nI c))]) (st2 := [.int b]) (w3 := w) rfl rfl ?_
          refine sx_RP.step (pc2 := 63) (ls2 := [(1, .int b), (3, .int 1), (0, .ref 111), (2, .int (nI c))]) (st2 := []) (w3 := w) rfl rfl ?_
          refine sx_RP.step (pc2 := 66) (ls2 := [(2, .int ((nI c) + 1)), (1, .int b), (3, .int 1), (0, .ref 111)]) (st2 := []) (w3 := w) rfl rfl ?_
          refine sx_RP.step (pc2 := 4) (ls2 := [(2, .int ((nI c) + 1)), (1, .int b), (3, .int 1), (0, .ref 111)]) (st2 := []) (w3 := w) rfl rfl ?_
          rw [show nr1 wy su b c = b from by rw [nr1]; simp only [if_neg (not_not_intro q1), if_neg q2, if_neg q3, if_pos q4]] at k
          rw [nI_1 c]
          exact sx_RP.ls (sx_lr.cons rfl (sx_lr.cons rfl (sx_lr.cons rfl sx_lr.nil))) k
        · replace q4 := of_decide_eq_false q4
          refine sx_RP.step (pc2 := 58) (ls2 := [(3, .int 1), (0, .ref 111), (1, .int b), (2, .int (nI c))]) (st2 := [.int (nI c)]) (w3 := w) rfl rfl ?_
          refine sx_RP.step (pc2 := 62) (ls2 := [(3, .int 1), (0, .ref 111), (1, .int b), (2, .int (nI c))]) (st2 := [.int (nI c)]) (w3 := w) rfl rfl ?_
          refine sx_RP.step (pc2 := 63) (ls2 := [(1, .int (nI c)), (3, .int 1), (0, .ref 111), (2, .int (nI c))]) (st2 := []) (w3 := w) rfl rfl ?_
          refine sx_RP.step (pc2 := 66) (ls2 := [(2, .int ((nI c) + 1)), (1, .int (nI c)), (3, .int 1), (0, .ref 111)]) (st2 := []) (w3 := w) rfl rfl ?_
          refine sx_RP.step (pc2 := 4) (ls2 := [(2, .int ((nI c) + 1)), (1, .int (nI c)), (3, .int 1), (0, .ref 111)]) (st2 := []) (w3 := w) rfl rfl ?_
          rw [show nr1 wy su b c = nI c from by rw [nr1]; simp only [if_neg (not_not_intro q1), if_neg q2, if_neg q3, if_neg q4]] at k
          rw [nI_1 c]
          exact sx_RP.ls (sx_lr.cons rfl (sx_lr.cons rfl (sx_lr.cons rfl sx_lr.nil))) k
set_option maxRecDepth 20000 in
set_option maxHeartbeats 4000000 in
theorem cp_149L {xs : Option (List Int32)} {d : Nat} {w : List sx_C} {mk mt mh mf mv : Int32} {wy su : List Int32} (h111 : w[111]? = some (.inr (.inr (.inr (6, [.ref 112, .ref 113, .ref 114, .ref 115, .int mk, .ref 116, .ref 117, .ref 118, .ref 119, .ref 120, .ref 121, .int mt, .int mh, .int mf, .int mv, .ref 122, .ref 123, .ref 124, .ref 125]))))) (h117 : w[117]? = some (.inl (0, wy))) (h118 : w[118]? = some (.inl (1, su))) (hwy : wy.length = 48) (hsu : su.length = 48) : ∀ (k c : Nat) (b : Int32), c + k = 48 → nrOK su b → sx_RP xs d 149 4 [(0, .ref 111), (1, .int b), (2, .int (nI c))] [] w (fun r w2 => r = some (.int (nrF wy su k c b)) ∧ w2 = w)
  | 0, c, b, h, hb => by
    obtain rfl : c = 48 := by omega
    refine sx_RP.step (pc2 := 5) (ls2 := [(0, .ref 111), (1, .int b), (2, .int (nI 48))]) (st2 := [.int (nI 48)]) (w3 := w) rfl rfl ?_
    refine sx_RP.step (pc2 := 7) (ls2 := [(0, .ref 111), (1, .int b), (2, .int (nI 48))]) (st2 := [.int 48, .int (nI 48)]) (w3 := w) rfl rfl ?_
    refine sx_RP.step (pc2 := 69) (ls2 := [(0, .ref 111), (1, .int b), (2, .int (nI 48))]) (st2 := []) (w3 := w) rfl rfl ?_
    refine sx_RP.step (pc2 := 70) (ls2 := [(0, .ref 111), (1, .int b), (2, .int (nI 48))]) (st2 := [.int b]) (w3 := w) rfl rfl ?_
    refine sx_RP.ret (r := (some (.int b))) rfl rfl ?_
    exact ⟨rfl, rfl⟩
  | k + 1, c, b, h, hb => cq_149 h111 h117 h118 hwy hsu hb (by omega) (cp_149L h111 h117 h118 hwy hsu k (c + 1) (nr1 wy su b c) (by omega) (nr1_ok (by omega) hb))
set_option maxRecDepth 20000 in
set_option maxHeartbeats 4000000 in
theorem cp_149 {xs : Option (List Int32)} {d : Nat} {w : List sx_C} {mk mt mh mf mv : Int32} {wy su : List Int32} (h111 : w[111]? = some (.inr (.inr (.inr (6, [.ref 112, .ref 113, .ref 114, .ref 115, .int mk, .ref 116, .ref 117, .ref 118, .ref 119, .ref 120, .ref 121, .int mt, .int mh, .int mf, .int mv, .ref 122, .ref 123, .ref 124, .ref 125]))))) (h117 : w[117]? = some (.inl (0, wy))) (h118 : w[118]? = some (.inl (1, su))) (hwy : wy.length = 48) (hsu : su.length = 48) : sx_RU xs d 149 0 (lv_args 0 [.ref 111]) [] w (some (.int (nrF wy su 48 0 (-1)))) w := by
  have h : sx_RP xs d 149 0 (lv_args 0 [.ref 111]) [] w (fun r w2 => r = (some (.int (nrF wy su 48 0 (-1)))) ∧ w2 = w) := by
    refine sx_RP.step (pc2 := 1) (ls2 := [(0, .ref 111)]) (st2 := [.int (-1)]) (w3 := w) rfl rfl ?_
    refine sx_RP.step (pc2 := 2) (ls2 := [(1, .int (-1)), (0, .ref 111)]) (st2 := []) (w3 := w) rfl rfl ?_
    refine sx_RP.step (pc2 := 3) (ls2 := [(1, .int (-1)), (0, .ref 111)]) (st2 := [.int 0]) (w3 := w) rfl rfl ?_
    refine sx_RP.step (pc2 := 4) (ls2 := [(2, .int 0), (1, .int (-1)), (0, .ref 111)]) (st2 := []) (w3 := w) rfl rfl ?_
    exact sx_RP.ls (sx_lr.cons rfl (sx_lr.cons rfl (sx_lr.cons rfl sx_lr.nil))) (cp_149L h111 h117 h118 hwy hsu 48 0 (-1) rfl (Or.inl (by decide)))
  obtain ⟨r, w2, h1, rfl, rfl⟩ := h
  exact h1
def wr1 (s : List Int32) (c : Nat) (wy : List Int32) (n : Int32) : List Int32 := if n < 0 then wy else if wy.getD n.toNatClampNeg 0 < 0 then wy.set n.toNatClampNeg (wy.getD c 0 + crF (s.getD (7 + n.toNatClampNeg) 0)) else if wy.getD n.toNatClampNeg 0 ≤ wy.getD c 0 + crF (s.getD (7 + n.toNatClampNeg) 0) then wy else wy.set n.toNatClampNeg (wy.getD c 0 + crF (s.getD (7 + n.toNatClampNeg) 0))
def wrF (s : List Int32) (c : Nat) : Nat → Nat → List Int32 → List Int32
  | 0, _, wy => wy
  | k + 1, j, wy => wrF s c k (j + 1) (wr1 s c wy (bsd c j))
theorem wr1_len {s wy : List Int32} {c m : Nat} {n : Int32} (h : wy.length = m) : (wr1 s c wy n).length = m := by
  unfold wr1
  (repeat' split) <;> simp [h]
theorem wrF_len {s : List Int32} {c m : Nat} : ∀ (k j : Nat) (wy : List Int32), wy.length = m → (wrF s c k j wy).length = m
  | 0, _, _, h => h
  | k + 1, j, wy, h => wrF_len k (j + 1) _ (wr1_len h)
def wkF (s : List Int32) : Nat → Int32 → List Int32 → List Int32 → List Int32 × List Int32
  | 0, _, wy, su => (wy, su)
  | f + 1, b, wy, su => if b < 0 then (wy, su) else wkF s f (nrF (wrF s b.toNatClampNeg 4 0 wy) (su.set b.toNatClampNeg 1) 48 0 (-1)) (wrF s b.toNatClampNeg 4 0 wy) (su.set b.toNatClampNeg 1)
def wiF (src : Nat) : Nat → Nat → List Int32 → List Int32
  | 0, _, wy => wy
  | k + 1, j, wy => wiF src k (j + 1) (wy.set j (if nI j = nI src then 0 else -1))
theorem wiF_len {src m : Nat} : ∀ (k j : Nat) (wy : List Int32), wy.length = m → (wiF src k j wy).length = m
  | 0, _, _, h => h
  | k + 1, j, wy, h => wiF_len k (j + 1) _ (by rw [List.length_set]; exact h)
set_option maxRecDepth 20000 in
set_option maxHeartbeats 4000000 in
theorem cq_141i {xs : Option (List Int32)} {d : Nat} {w : List sx_C} {P : Option Value → List sx_C → Prop} {mk mt mh mf mv : Int32} {s wy0 su0 : List Int32} (h111 : w[111]? = some (.inr (.inr (.inr (6, [.ref 112, .ref 113, .ref 114, .ref 115, .int mk, .ref 116, .ref 117, .ref 118, .ref 119, .ref 120, .ref 121, .int mt, .int mh, .int mf, .int mv, .ref 122, .ref 123, .ref 124, .ref 125]))))) (h112 : w[112]? = some (.inl (0, s))) (h117 : w[117]? = some (.inl (0, wy0))) (h118 : w[118]? = some (.inl (1, su0))) (hs : s.length = 172) {wy su : List Int32} {src j : Nat} (hwy : wy.length = 48) (hsu : su.length = 48) (hj : j < 48) (k : sx_RP xs d 141 2 [(0, .ref 111), (1, .int (nI src)), (2, .int (-1)), (3, .int (nI (j + 1)))] [] ((w.set 117 (.inl (0, wy.set j (if nI j = nI src then 0 else -1)))).set 118 (.inl (1, su.set j 0))) P) : sx_RP xs d 141 2 [(0, .ref 111), (1, .int (nI src)), (2, .int (-1)), (3, .int (nI j))] [] ((w.set 117 (.inl (0, wy))).set 118 (.inl (1, su))) P := by
  refine sx_RP.step (pc2 := 3) (ls2 := [(0, .ref 111), (1, .int (nI src)), (2, .int (-1)), (3, .int (nI j))]) (st2 := [.int (nI j)]) (w3 := ((w.set 117 (.inl (0, wy))).set 118 (.inl (1, su)))) rfl rfl ?_
  refine sx_RP.step (pc2 := 5) (ls2 := [(0, .ref 111), (1, .int (nI src)), (2, .int (-1)), (3, .int (nI j))]) (st2 := [.int 48, .int (nI j)]) (w3 := ((w.set 117 (.inl (0, wy))).set 118 (.inl (1, su)))) rfl rfl ?_
  refine sx_RP.br (p2 := 8) (l2 := [(0, .ref 111), (1, .int (nI src)), (2, .int (-1)), (3, .int (nI j))]) (s2 := []) (v2 := ((w.set 117 (.inl (0, wy))).set 118 (.inl (1, su)))) rfl rfl (fun q => absurd (of_decide_eq_true q) (nI_ge (b := 48) hj (by omega))) (fun _ => ?_)
  refine sx_RP.step (pc2 := 9) (ls2 := [(0, .ref 111), (1, .int (nI src)), (2, .int (-1)), (3, .int (nI j))]) (st2 := [.ref 111]) (w3 := ((w.set 117 (.inl (0, wy))).set 118 (.inl (1, su)))) rfl rfl ?_
  refine sx_RP.gf (v := .ref 117) rfl rfl (sx_gn2 (by decide) (sx_gn2 (by decide) h111)) rfl rfl (show _ = 12 from rfl) ?_
  refine sx_RP.step (pc2 := 13) (ls2 := [(0, .ref 111), (1, .int (nI src)), (2, .int (-1)), (3, .int (nI j))]) (st2 := [.int (nI j), .ref 117]) (w3 := ((w.set 117 (.inl (0, wy))).set 118 (.inl (1, su)))) rfl rfl ?_
  refine sx_RP.step (pc2 := 14) (ls2 := [(0, .ref 111), (1, .int (nI src)), (2, .int (-1)), (3, .int (nI j))]) (st2 := [.int (nI j), .int (nI j), .ref 117]) (w3 := ((w.set 117 (.inl (0, wy))).set 118 (.inl (1, su)))) rfl rfl ?_
  refine sx_RP.step (pc2 := 15) (ls2 := [(0, .ref 111), (1, .int (nI src)), (2, .int (-1)), (3, .int (nI j))]) (st2 := [.int (nI src), .int (nI j), .int (nI j), .ref 117]) (w3 := ((w.set 117 (.inl (0, wy))).set 118 (.inl (1, su)))) rfl rfl ?_
  refine sx_RP.br (p1 := 22) (l1 := [(0, .ref 111), (1, .int (nI src)), (2, .int (-1)), (3, .int (nI j))]) (s1 := [.int (nI j), .ref 117]) (v1 := ((w.set 117 (.inl (0, wy))).set 118 (.inl (1, su)))) (p2 := 18) (l2 := [(0, .ref 111), (1, .int (nI src)), (2, .int (-1)), (3, .int (nI j))]) (s2 := [.int (nI j), .ref 117]) (v2 := ((w.set 117 (.inl (0, wy))).set 118 (.inl (1, su)))) rfl rfl (fun q1 => ?_) (fun q1 => ?_)
  · replace q1 := of_decide_eq_true q1
    refine sx_RP.step (pc2 := 23) (ls2 := [(0, .ref 111), (1, .int (nI src)), (2, .int (-1)), (3, .int (nI j))]) (st2 := [.int (-1), .int (nI j), .ref 117]) (w3 := ((w.set 117 (.inl (0, wy))).set 118 (.inl (1, su)))) rfl rfl ?_
    refine sx_RP.ist (c := j) (w2 := ((w.set 117 (.inl (0, wy.set j (-1)))).set 118 (.inl (1, su)))) rfl (sx_gn2 (by decide) (sx_gs2 h117)) hwy (sx_in_nI hj (by decide)) (nI_clamp (by have := hj; omega)) (sx_set1 (by decide)) (show _ = 24 from rfl) ?_
    refine sx_RP.step (pc2 := 25) (ls2 := [(0, .ref 111), (1, .int (nI src)), (2, .int (-1)), (3, .int (nI j))]) (st2 := [.ref 111]) (w3 := ((w.set 117 (.inl (0, wy.set j (-1)))).set 118 (.inl (1, su)))) rfl rfl ?_
    refine sx_RP.gf (v := .ref 118) rfl rfl (sx_gn2 (by decide) (sx_gn2 (by decide) h111)) rfl rfl (show _ = 28 from rfl) ?_
    refine sx_RP.step (pc2 := 29) (ls2 := [(0, .ref 111), (1, .int (nI src)), (2, .int (-1)), (3, .int (nI j))]) (st2 := [.int (nI j), .ref 118]) (w3 := ((w.set 117 (.inl (0, wy.set j (-1)))).set 118 (.inl (1, su)))) rfl rfl ?_
    refine sx_RP.step (pc2 := 30) (ls2 := [(0, .ref 111), (1, .int (nI src)), (2, .int (-1)), (3, .int (nI j))]) (st2 := [.int 0, .int (nI j), .ref 118]) (w3 := ((w.set 117 (.inl (0, wy.set j (-1)))).set 118 (.inl (1, su)))) rfl rfl ?_
    refine sx_RP.bst1 (c := j) (w2 := ((w.set 117 (.inl (0, wy.set j (-1)))).set 118 (.inl (1, su.set j 0)))) rfl (sx_gs2 (sx_gn2 (by decide) h118)) hsu (sx_in_nI hj (by decide)) (nI_clamp (by have := hj; omega)) (List.set_set ..) (show _ = 31 from rfl) ?_
    refine sx_RP.step (pc2 := 34) (ls2 := [(3, .int ((nI j) + 1)), (0, .ref 111), (1, .int (nI src)), (2, .int (-1))]) (st2 := []) (w3 := ((w.set 117 (.inl (0, wy.set j (-1)))).set 118 (.inl (1, su.set j 0)))) rfl rfl ?_
    refine sx_RP.step (pc2 := 2) (ls2 := [(3, .int ((nI j) + 1)), (0, .ref 111), (1, .int (nI src)), (2, .int (-1))]) (st2 := []) (w3 := ((w.set 117 (.inl (0, wy.set j (-1)))).set 118 (.inl (1, su.set j 0)))) rfl rfl ?_
    rw [if_neg q1] at k
    rw [nI_1 j]
    exact sx_RP.ls (sx_lr.cons rfl (sx_lr.cons rfl (sx_lr.cons rfl (sx_lr.cons rfl sx_lr.nil)))) k
  · replace q1 := Decidable.not_not.mp (of_decide_eq_false q1)
    refine sx_RP.step (pc2 := 19) (ls2 := [(0, .ref 111), (1, .int (nI src)), (2, .int (-1)), (3, .int (nI j))]) (st2 := [.int 0, .int (nI j), .ref 117]) (w3 := ((w.set 117 (.inl (0, wy))).set 118 (.inl (1, su)))) rfl rfl ?_
    refine sx_RP.step (pc2 := 23) (ls2 := [(0, .ref 111), (1, .int (nI src)), (2, .int (-1)), (3, .int (nI j))]) (st2 := [.int 0, .int (nI j), .ref 117]) (w3 := ((w.set 117 (.inl (0, wy))).set 118 (.inl (1, su)))) rfl rfl ?_
    refine sx_RP.ist (c := j) (w2 := ((w.set 117 (.inl (0, wy.set j 0))).set 118 (.inl (1, su)))) rfl (sx_gn2 (by decide) (sx_gs2 h117)) hwy (sx_in_nI hj (by decide)) (nI_clamp (by have := hj; omega)) (sx_set1 (by decide)) (show _ = 24 from rfl) ?_
    refine sx_RP.step (pc2 := 25) (ls2 := [(0, .ref 111), (1, .int (nI src)), (2, .int (-1)), (3, .int (nI j))]) (st2 := [.ref 111]) (w3 := ((w.set 117 (.inl (0, wy.set j 0))).set 118 (.inl (1, su)))) rfl rfl ?_
    refine sx_RP.gf (v := .ref 118) rfl rfl (sx_gn2 (by decide) (sx_gn2 (by decide) h111)) rfl rfl (show _ = 28 from rfl) ?_
    refine sx_RP.step (pc2 := 29) (ls2 := [(0, .ref 111), (1, .int (nI src)), (2, .int (-1)), (3, .int (nI j))]) (st2 := [.int (nI j), .ref 118]) (w3 := ((w.set 117 (.inl (0, wy.set j 0))).set 118 (.inl (1, su)))) rfl rfl ?_
    refine sx_RP.step (pc2 := 30) (ls2 := [(0, .ref 111), (1, .int (nI src)), (2, .int (-1)), (3, .int (nI j))]) (st2 := [.int 0, .int (nI j), .ref 118]) (w3 := ((w.set 117 (.inl (0, wy.set j 0))).set 118 (.inl (1, su)))) rfl rfl ?_
    refine sx_RP.bst1 (c := j) (w2 := ((w.set 117 (.inl (0, wy.set j 0))).set 118 (.inl (1, su.set j 0)))) rfl (sx_gs2 (sx_gn2 (by decide) h118)) hsu (sx_in_nI hj (by decide)) (nI_clamp (by have := hj; omega)) (List.set_set ..) (show _ = 31 from rfl) ?_
    refine sx_RP.step (pc2 := 34) (ls2 := [(3, .int ((nI j) + 1)), (0, .ref 111), (1, .int (nI src)), (2, .int (-1))]) (st2 := []) (w3 := ((w.set 117 (.inl (0, wy.set j 0))).set 118 (.inl (1, su.set j 0)))) rfl rfl ?_
    refine sx_RP.step (pc2 := 2) (ls2 := [(3, .int ((nI j) + 1)), (0, .ref 111), (1, .int (nI src)), (2, .int (-1))]) (st2 := []) (w3 := ((w.set 117 (.inl (0, wy.set j 0))).set 118 (.inl (1, su.set j 0)))) rfl rfl ?_
    rw [if_pos q1] at k
    rw [nI_1 j]
    exact sx_RP.ls (sx_lr.cons rfl (sx_lr.cons rfl (sx_lr.cons rfl (sx_lr.cons rfl sx_lr.nil)))) k
set_option maxRecDepth 20000 in
set_option maxHeartbeats 4000000 in
theorem cp_141i {xs : Option (List Int32)} {d : Nat} {w : List sx_C} {mk mt mh mf mv : Int32} {s wy0 su0 : List Int32} (h111 : w[111]? = some (.inr (.inr (.inr (6, [.ref 112, .ref 113, .ref 114, .ref 115, .int mk, .ref 116, .ref 117, .ref 118, .ref 119, .ref 120, .ref 121, .int mt, .int mh, .int mf, .int mv, .ref 122, .ref 123, .ref 124, .ref 125]))))) (h112 : w[112]? = some (.inl (0, s))) (h117 : w[117]? = some (.inl (0, wy0))) (h118 : w[118]? = some (.inl (1, su0))) (hs : s.length = 172) {P : Option Value → List sx_C → Prop} {src : Nat} : ∀ (k j : Nat) (wy su : List Int32), j + k = 48 → wy.length = 48 → su.length = 48 → sx_RP xs d 141 39 [(0, .ref 111), (1, .int (nI src)), (2, .int (-1)), (3, .int (nI src))] [] ((w.set 117 (.inl (0, wiF src k j wy))).set 118 (.inl (1, flF 0 k j su))) P → sx_RP xs d 141 2 [(0, .ref 111), (1, .int (nI src)), (2, .int (-1)), (3, .int (nI j))] [] ((w.set 117 (.inl (0, wy))).set 118 (.inl (1, su))) P
  | 0, j, wy, su, h, h1, h2, kk => by
    obtain rfl : j = 48 := by omega
    refine sx_RP.step (pc2 := 3) (ls2 := [(0, .ref 111), (1, .int (nI src)), (2, .int (-1)), (3, .int (nI 48))]) (st2 := [.int (nI 48)]) (w3 := ((w.set 117 (.inl (0, wy))).set 118 (.inl (1, su)))) rfl rfl ?_
    refine sx_RP.step (pc2 := 5) (ls2 := [(0, .ref 111), (1, .int (nI src)), (2, .int (-1)), (3, .int (nI 48))]) (st2 := [.int 48, .int (nI 48)]) (w3 := ((w.set 117 (.inl (0, wy))).set 118 (.inl (1, su)))) rfl rfl ?_
    refine sx_RP.step (pc2 := 37) (ls2 := [(0, .ref 111), (1, .int (nI src)), (2, .int (-1)), (3, .int (nI 48))]) (st2 := []) (w3 := ((w.set 117 (.inl (0, wy))).set 118 (.inl (1, su)))) rfl rfl ?_
    refine sx_RP.step (pc2 := 38) (ls2 := [(0, .ref 111), (1, .int (nI src)), (2, .int (-1)), (3, .int (nI 48))]) (st2 := [.int (nI src)]) (w3 := ((w.set 117 (.inl (0, wy))).set 118 (.inl (1, su)))) rfl rfl ?_
    refine sx_RP.step (pc2 := 39) (ls2 := [(3, .int (nI src)), (0, .ref 111), (1, .int (nI src)), (2, .int (-1))]) (st2 := []) (w3 := ((w.set 117 (.inl (0, wy))).set 118 (.inl (1, su)))) rfl rfl ?_
    exact sx_RP.ls (sx_lr.cons rfl (sx_lr.cons rfl (sx_lr.cons rfl (sx_lr.cons rfl sx_lr.nil)))) kk
  | k + 1, j, wy, su, h, h1, h2, kk => cq_141i h111 h112 h117 h118 hs h1 h2 (by omega) (cp_141i h111 h112 h117 h118 hs k (j + 1) _ _ (by omega) (by rw [List.length_set]; exact h1) (by rw [List.length_set]; exact h2) kk)
set_option maxRecDepth 20000 in
set_option maxHeartbeats 4000000 in
theorem cq_141w {xs : Option (List Int32)} {d : Nat} {w : List sx_C} {P : Option Value → List sx_C → Prop} {mk mt mh mf mv : Int32} {s wy0 su0 : List Int32} (h111 : w[111]? = some (.inr (.inr (.inr (6, [.ref 112, .ref 113, .ref 114, .ref 115, .int mk, .ref 116, .ref 117, .ref 118, .ref 119, .ref 120, .ref 121, .int mt, .int mh, .int mf, .int mv, .ref 122, .ref 123, .ref 124, .ref 125]))))) (h112 : w[112]? = some (.inl (0, s))) (h117 : w[117]? = some (.inl (0, wy0))) (h118 : w[118]? = some (.inl (1, su0))) (hs : s.length = 172) {wy su : List Int32} {src c j : Nat} (hwy : wy.length = 48) (hc : c < 48) (hj : j < 4) (k : sx_RP xs (d + 1) 141 53 [(0, .ref 111), (1, .int (nI src)), (2, .int (-1)), (3, .int (nI c)), (4, .int (nI (j + 1)))] [] ((w.set 117 (.inl (0, wr1 s c wy (bsd c j)))).set 118 (.inl (1, su))) P) : sx_RP xs (d + 1) 141 53 [(0, .ref 111), (1, .int (nI src)), (2, .int (-1)), (3, .int (nI c)), (4, .int (nI j))] [] ((w.set 117 (.inl (0, wy))).set 118 (.inl (1, su))) P := by
  refine sx_RP.step (pc2 := 55) (ls2 := [(0, .ref 111), (1, .int (nI src)), (2, .int (-1)), (3, .int (nI c)), (4, .int (nI j))]) (st2 := [.int (nI j)]) (w3 := ((w.set 117 (.inl (0, wy))).set 118 (.inl (1, su)))) rfl rfl ?_
  refine sx_RP.step (pc2 := 56) (ls2 := [(0, .ref 111), (1, .int (nI src)), (2, .int (-1)), (3, .int (nI c)), (4, .int (nI j))]) (st2 := [.int 4, .int (nI j)]) (w3 := ((w.set 117 (.inl (0, wy))).set 118 (.inl (1, su)))) rfl rfl ?_
  refine sx_RP.br (p2 := 59) (l2 := [(0, .ref 111), (1, .int (nI src)), (2, .int (-1)), (3, .int (nI c)), (4, .int (nI j))]) (s2 := []) (v2 := ((w.set 117 (.inl (0, wy))).set 118 (.inl (1, su)))) rfl rfl (fun q => absurd (of_decide_eq_true q) (nI_ge (b := 4) hj (by omega))) (fun _ => ?_)
  refine sx_RP.step (pc2 := 60) (ls2 := [(0, .ref 111), (1, .int (nI src)), (2, .int (-1)), (3, .int (nI c)), (4, .int (nI j))]) (st2 := [.int (nI c)]) (w3 := ((w.set 117 (.inl (0, wy))).set 118 (.inl (1, su)))) rfl rfl ?_
  refine sx_RP.step (pc2 := 62) (ls2 := [(0, .ref 111), (1, .int (nI src)), (2, .int (-1)), (3, .int (nI c)), (4, .int (nI j))]) (st2 := [.int (nI j), .int (nI c)]) (w3 := ((w.set 117 (.inl (0, wy))).set 118 (.inl (1, su)))) rfl rfl ?_
  refine sx_RP.cu (as := [.int (nI c), .int (nI j)]) (rest2 := []) (st3 := [.int (bsd c j)]) rfl rfl rfl rfl rfl (cb_142 hc j hj) rfl ?_
  refine sx_RP.step (pc2 := 67) (ls2 := [(5, .int (bsd c j)), (0, .ref 111), (1, .int (nI src)), (2, .int (-1)), (3, .int (nI c)), (4, .int (nI j))]) (st2 := []) (w3 := ((w.set 117 (.inl (0, wy))).set 118 (.inl (1, su)))) rfl rfl ?_
  refine sx_RP.step (pc2 := 69) (ls2 := [(5, .int (bsd c j)), (0, .ref 111), (1, .int (nI src)), (2, .int (-1)), (3, .int (nI c)), (4, .int (nI j))]) (st2 := [.int (bsd c j)]) (w3 := ((w.set 117 (.inl (0, wy))).set 118 (.inl (1, su)))) rfl rfl ?_
  refine sx_RP.br (p1 := 90) (l1 := [(5, .int (bsd c j)), (0, .ref 111), (1, .int (nI src)), (2, .int (-1)), (3, .int (nI c)), (4, .int (nI j))]) (s1 := []) (v1 := ((w.set 117 (.inl (0, wy))).set 118 (.inl (1, su)))) (p2 := 72) (l2 := [(5, .int (bsd c j)), (0, .ref 111), (1, .int (nI src)), (2, .int (-1)), (3, .int (nI c)), (4, .int (nI j))]) (s2 := []) (v2 := ((w.set 117 (.inl (0, wy))).set 118 (.inl (1, su)))) rfl rfl (fun q1 => ?_) (fun q1 => ?_)
  · replace q1 := of_decide_eq_true q1
    refine sx_RP.step (pc2 := 91) (ls2 := [(5, .int (bsd c j)), (0, .ref 111), (1, .int (nI src)), (2, .int (-1)), (3, .int (nI c)), (4, .int (nI j))]) (st2 := [.int 0]) (w3 := ((w.set 117 (.inl (0, wy))).set 118 (.inl (1, su)))) rfl rfl ?_
    refine sx_RP.step (pc2 := 93) (ls2 := [(6, .int 0), (5, .int (bsd c j)), (0, .ref 111), (1, .int (nI src)), (2, .int (-1)), (3, .int (nI c)), (4, .int (nI j))]) (st2 := []) (w3 := ((w.set 117 (.inl (0, wy))).set 118 (.inl (1, su)))) rfl rfl ?_
    refine sx_RP.step (pc2 := 95) (ls2 := [(6, .int 0), (5, .int (bsd c j)), (0, .ref 111), (1, .int (nI src)), (2, .int (-1)), (3, .int (nI c)), (4, .int (nI j))]) (st2 := [.int 0]) (w3 := ((w.set 117 (.inl (0, wy))).set 118 (.inl (1, su)))) rfl rfl ?_
    refine sx_RP.step (pc2 := 98) (ls2 := [(6, .int 0), (5, .int (bsd c j)), (0, .ref 111), (1, .int (nI src)), (2, .int (-1)), (3, .int (nI c)), (4, .int (nI j))]) (st2 := []) (w3 := ((w.set 117 (.inl (0, wy))).set 118 (.inl (1, su)))) rfl rfl ?_
    refine sx_RP.step (pc2 := 99) (ls2 := [(6, .int 0), (5, .int (bsd c j)), (0, .ref 111), (1, .int (nI src)), (2, .int (-1)), (3, .int (nI c)), (4, .int (nI j))]) (st2 := [.int 0]) (w3 := ((w.set 117 (.inl (0, wy))).set 118 (.inl (1, su)))) rfl rfl ?_
    refine sx_RP.step (pc2 := 129) (ls2 := [(6, .int 0), (5, .int (bsd c j)), (0, .ref 111), (1, .int (nI src)), (2, .int (-1)), (3, .int (nI c)), (4, .int (nI j))]) (st2 := [.int 0]) (w3 := ((w.set 117 (.inl (0, wy))).set 118 (.inl (1, su)))) rfl rfl ?_
    refine sx_RP.step (pc2 := 131) (ls2 := [(7, .int 0), (6, .int 0), (5, .int (bsd c j)), (0, .ref 111), (1, .int (nI src)), (2, .int (-1)), (3, .int (nI c)), (4, .int (nI j))]) (st2 := []) (w3 := ((w.set 117 (.inl (0, wy))).set 118 (.inl (1, su)))) rfl rfl ?_
    refine sx_RP.step (pc2 := 133) (ls2 := [(7, .int 0), (6, .int 0), (5, .int (bsd c j)), (0, .ref 111), (1, .int (nI src)), (2, .int (-1)), (3, .int (nI c)), (4, .int (nI j))]) (st2 := [.int 0]) (w3 := ((w.set 117 (.inl (0, wy))).set 118 (.inl (1, su)))) rfl rfl ?_
    refine sx_RP.step (pc2 := 167) (ls2 := [(7, .int 0), (6, .int 0), (5, .int (bsd c j)), (0, .ref 111), (1, .int (nI src)), (2, .int (-1)), (3, .int (nI c)), (4, .int (nI j))]) (st2 := []) (w3 := ((w.set 117 (.inl (0, wy))).set 118 (.inl (1, su)))) rfl rfl ?_
    refine sx_RP.step (pc2 := 170) (ls2 := [(4, .int ((nI j) + 1)), (7, .int 0), (6, .int 0), (5, .int (bsd c j)), (0, .ref 111), (1, .int (nI src)), (2, .int (-1)), (3, .int (nI c))]) (st2 := []) (w3 := ((w.set 117 (.inl (0, wy))).set 118 (.inl (1, su)))) rfl rfl ?_
    refine sx_RP.step (pc2 := 53) (ls2 := [(4, .int ((nI j) + 1)), (7, .int 0), (6, .int 0), (5, .int (bsd c j)), (0, .ref 111), (1, .int (nI src)), (2, .int (-1)), (3, .int (nI c))]) (st2 := []) (w3 := ((w.set 117 (.inl (0, wy))).set 118 (.inl (1, su)))) rfl rfl ?_
    rw [show wr1 s c wy (bsd c j) = wy from by rw [wr1]; simp only [if_pos q1]] at k
    rw [nI_1 j]
    exact sx_RP.ls (sx_lr.cons rfl (sx_lr.cons rfl (sx_lr.cons rfl (sx_lr.cons rfl (sx_lr.cons rfl sx_lr.nil))))) k
  · replace q1 := of_decide_eq_false q1
    refine sx_RP.step (pc2 := 73) (ls2 := [(5, .int (bsd c j)), (0, .ref 111), (1, .int (nI src)), (2, .int (-1)), (3, .int (nI c)), (4, .int (nI j))]) (st2 := [.int (-1)]) (w3 := ((w.set 117 (.inl (0, wy))).set 118 (.inl (1, su)))) rfl rfl ?_
    refine sx_RP.step (pc2 := 86) (ls2 := [(5, .int (bsd c j)), (0, .ref 111), (1, .int (nI src)), (2, .int (-1)), (3, .int (nI c)), (4, .int (nI j))]) (st2 := []) (w3 := ((w.set 117 (.inl (0, wy))).set 118 (.inl (1, su)))) rfl rfl ?_
    refine sx_RP.step (pc2 := 87) (ls2 := [(5, .int (bsd c j)), (0, .ref 111), (1, .int (nI src)), (2, .int (-1)), (3, .int (nI c)), (4, .int (nI j))]) (st2 := [.int 1]) (w3 := ((w.set 117 (.inl (0, wy))).set 118 (.inl (1, su)))) rfl rfl ?_
    refine sx_RP.step (pc2 := 91) (ls2 := [(5, .int (bsd c j)), (0, .ref 111), (1, .int (nI src)), (2, .int (-1)), (3, .int (nI c)), (4, .int (nI j))]) (st2 := [.int 1]) (w3 := ((w.set 117 (.inl (0, wy))).set 118 (.inl (1, su)))) rfl rfl ?_
    refine sx_RP.step (pc2 := 93) (ls2 := [(6, .int 1), (5, .int (bsd c j)), (0, .ref 111), (1, .int (nI src)), (2, .int (-1)), (3, .int (nI c)), (4, .int (nI j))]) (st2 := []) (w3 := ((w.set 117 (.inl (0, wy))).set 118 (.inl (1, su)))) rfl rfl ?_
    refine sx_RP.step (pc2 := 95) (ls2 := [(6, .int 1), (5, .int (bsd c j)), (0, .ref 111), (1, .int (nI src)), (2, .int (-1)), (3, .int (nI c)), (4, .int (nI j))]) (st2 := [.int 1]) (w3 := ((w.set 117 (.inl (0, wy))).set 118 (.inl (1, su)))) rfl rfl ?_
    refine sx_RP.step (pc2 := 102) (ls2 := [(6, .int 1), (5, .int (bsd c j)), (0, .ref 111), (1, .int (nI src)), (2, .int (-1)), (3, .int (nI c)), (4, .int (nI j))]) (st2 := []) (w3 := ((w.set 117 (.inl (0, wy))).set 118 (.inl (1, su)))) rfl rfl ?_
    refine sx_RP.step (pc2 := 103) (ls2 := [(6, .int 1), (5, .int (bsd c j)), (0, .ref 111), (1, .int (nI src)), (2, .int (-1)), (3, .int (nI c)), (4, .int (nI j))]) (st2 := [.ref 111]) (w3 := ((w.set 117 (.inl (0, wy))).set 118 (.inl (1, su)))) rfl rfl ?_
    refine sx_RP.gf (v := .ref 117) rfl rfl (sx_gn2 (by decide) (sx_gn2 (by decide) h111)) rfl rfl (show _ = 106 from rfl) ?_
    refine sx_RP.step (pc2 := 107) (ls2 := [(6, .int 1), (5, .int (bsd c j)), (0, .ref 111), (1, .int (nI src)), (2, .int (-1)), (3, .int (nI c)), (4, .int (nI j))]) (st2 := [.int (nI c), .ref 117]) (w3 := ((w.set 117 (.inl (0, wy))).set 118 (.inl (1, su)))) rfl rfl ?_
    refine sx_RP.ild (c := c) rfl (sx_gn2 (by decide) (sx_gs2 h117)) hwy (sx_in_nI hc (by decide)) (nI_clamp (by have := hc; omega)) (show _ = 108 from rfl) ?_
    refine sx_RP.step (pc2 := 109) (ls2 := [(6, .int 1), (5, .int (bsd c j)), (0, .ref 111), (1, .int (nI src)), (2, .int (-1)), (3, .int (nI c)), (4, .int (nI j))]) (st2 := [.int (-1), .int (wy.getD c 0)]) (w3 := ((w.set 117 (.inl (0, wy))).set 118 (.inl (1, su)))) rfl rfl ?_
    refine sx_RP.step (pc2 := 112) (ls2 := [(6, .int 1), (5, .int (bsd c j)), (0, .ref 111), (1, .int (nI src)), (2, .int (-1)), (3, .int (nI c)), (4, .int (nI j))]) (st2 := [.int (wy.getD c 0)]) (w3 := ((w.set 117 (.inl (0, wy))).set 118 (.inl (1, su)))) rfl rfl ?_
    refine sx_RP.step (pc2 := 113) (ls2 := [(6, .int 1), (5, .int (bsd c j)), (0, .ref 111), (1, .int (nI src)), (2, .int (-1)), (3, .int (nI c)), (4, .int (nI j))]) (st2 := [.ref 111, .int (wy.getD c 0)]) (w3 := ((w.set 117 (.inl (0, wy))).set 118 (.inl (1, su)))) rfl rfl ?_
    refine sx_RP.step (pc2 := 115) (ls2 := [(6, .int 1), (5, .int (bsd c j)), (0, .ref 111), (1, .int (nI src)), (2, .int (-1)), (3, .int (nI c)), (4, .int (nI j))]) (st2 := [.int (bsd c j), .ref 111, .int (wy.getD c 0)]) (w3 := ((w.set 117 (.inl (0, wy))).set 118 (.inl (1, su)))) rfl rfl ?_
    refine sx_RP.cu (as := [.ref 111, .int (bsd c j)]) (rest2 := [.int (wy.getD c 0)]) (st3 := [.int (crF (s.getD (7 + (bsd c j).toNatClampNeg) 0)), .int (wy.getD c 0)]) rfl rfl (sx_inv_v2 (mi := 141) (k := 84) (st := [.int (bsd c j), .ref 111, .int (wy.getD c 0)]) (w := ((w.set 117 (.inl (0, wy))).set 118 (.inl (1, su)))) rfl rfl (sx_gn2 (by decide) (sx_gn2 (by decide) h111)) rfl rfl rfl) rfl rfl (cp_146x (sx_gn2 (by decide) (sx_gn2 (by decide) h111)) (sx_gn2 (by decide) (sx_gn2 (by decide) h112)) hs ((bsd_in c hc j hj).resolve_left (fun z => q1 ((bsd_lt c hc j hj).mpr z)))) rfl ?_
    refine sx_RP.step (pc2 := 128) (ls2 := [(6, .int 1), (5, .int (bsd c j)), (0, .ref 111), (1, .int (nI src)), (2, .int (-1)), (3, .int (nI c)), (4, .int (nI j))]) (st2 := [.int (crF (s.getD (7 + (bsd c j).toNatClampNeg) 0)), .int (wy.getD c 0)]) (w3 := ((w.set 117 (.inl (0, wy))).set 118 (.inl (1, su)))) rfl rfl ?_
    refine sx_RP.step (pc2 := 129) (ls2 := [(6, .int 1), (5, .int (bsd c j)), (0, .ref 111), (1, .int (nI src)), (2, .int (-1)), (3, .int (nI c)), (4, .int (nI j))]) (st2 := [.int ((wy.getD c 0) + (crF (s.getD (7 + (bsd c j).toNatClampNeg) 0)))]) (w3 := ((w.set 117 (.inl (0, wy))).set 118 (.inl (1, su)))) rfl rfl ?_
    refine sx_RP.step (pc2 := 131) (ls2 := [(7, .int ((wy.getD c 0) + (crF (s.getD (7 + (bsd c j).toNatClampNeg) 0)))), (6, .int 1), (5, .int (bsd c j)), (0, .ref 111), (1, .int (nI src)), (2, .int (-1)), (3, .int (nI c)), (4, .int (nI j))]) (st2 := []) (w3 := ((w.set 117 (.inl (0, wy))).set 118 (.inl (1, su)))) rfl rfl ?_
    refine sx_RP.step (pc2 := 133) (ls2 := [(7, .int ((wy.getD c 0) + (crF (s.getD (7 + (bsd c j).toNatClampNeg) 0)))), (6, .int 1), (5, .int (bsd c j)), (0, .ref 111), (1, .int (nI src)), (2, .int (-1)), (3, .int (nI c)), (4, .int (nI j))]) (st2 := [.int 1]) (w3 := ((w.set 117 (.inl (0, wy))).set 118 (.inl (1, su)))) rfl rfl ?_
    refine sx_RP.step (pc2 := 136) (ls2 := [(7, .int ((wy.getD c 0) + (crF (s.getD (7 + (bsd c j).toNatClampNeg) 0)))), (6, .int 1), (5, .int (bsd c j)), (0, .ref 111), (1, .int (nI src)), (2, .int (-1)), (3, .int (nI c)), (4, .int (nI j))]) (st2 := []) (w3 := ((w.set 117 (.inl (0, wy))).set 118 (.inl (1, su)))) rfl rfl ?_
    refine sx_RP.step (pc2 := 137) (ls2 := [(7, .int ((wy.getD c 0) + (crF (s.getD (7 + (bsd c j).toNatClampNeg) 0)))), (6, .int 1), (5, .int (bsd c j)), (0, .ref 111), (1, .int (nI src)), (2, .int (-1)), (3, .int (nI c)), (4, .int (nI j))]) (st2 := [.ref 111]) (w3 := ((w.set 117 (.inl (0, wy))).set 118 (.inl (1, su)))) rfl rfl ?_
    refine sx_RP.gf (v := .ref 117) rfl rfl (sx_gn2 (by decide) (sx_gn2 (by decide) h111)) rfl rfl (show _ = 140 from rfl) ?_
    refine sx_RP.step (pc2 := 142) (ls2 := [(7, .int ((wy.getD c 0) + (crF (s.getD (7 + (bsd c j).toNatClampNeg) 0)))), (6, .int 1), (5, .int (bsd c j)), (0, .ref 111), (1, .int (nI src)), (2, .int (-1)), (3, .int (nI c)), (4, .int (nI j))]) (st2 := [.int (bsd c j), .ref 117]) (w3 := ((w.set 117 (.inl (0, wy))).set 118 (.inl (1, su)))) rfl rfl ?_
    refine sx_RP.ild (c := ((bsd c j).toNatClampNeg)) rfl (sx_gn2 (by decide) (sx_gs2 h117)) hwy ((bsd_in c hc j hj).resolve_left (fun z => q1 ((bsd_lt c hc j hj).mpr z))) rfl (show _ = 143 from rfl) ?_
    refine sx_RP.br (p1 := 158) (l1 := [(7, .int ((wy.getD c 0) + (crF (s.getD (7 + (bsd c j).toNatClampNeg) 0)))), (6, .int 1), (5, .int (bsd c j)), (0, .ref 111), (1, .int (nI src)), (2, .int (-1)), (3, .int (nI c)), (4, .int (nI j))]) (s1 := []) (v1 := ((w.set 117 (.inl (0, wy))).set 118 (.inl (1, su)))) (p2 := 146) (l2 := [(7, .int ((wy.getD c 0) + (crF (s.getD (7 + (bsd c j).toNatClampNeg) 0)))), (6, .int 1), (5, .int (bsd c j)), (0, .ref 111), (1, .int (nI src)), (2, .int (-1)), (3, .int (nI c)), (4, .int (nI j))]) (s2 := []) (v2 := ((w.set 117 (.inl (0, wy))).set 118 (.inl (1, su)))) rfl rfl (fun q2 => ?_) (fun q2 => ?_)
    · replace q2 := of_decide_eq_true q2
      refine sx_RP.step (pc2 := 159) (ls2 := [(7, .int ((wy.getD c 0) + (crF (s.getD (7 + (bsd c j).toNatClampNeg) 0)))), (6, .int 1), (5, .int (bsd c j)), (0, .ref 111), (1, .int (nI src)), (2, .int (-1)), (3, .int (nI c)), (4, .int (nI j))]) (st2 := [.ref 111]) (w3 := ((w.set 117 (.inl (0, wy))).set 118 (.inl (1, su)))) rfl rfl ?_
      refine sx_RP.gf (v := .ref 117) rfl rfl (sx_gn2 (by decide) (sx_gn2 (by decide) h111)) rfl rfl (show _ = 162 from rfl) ?_
      refine sx_RP.step (pc2 := 164) (ls2 := [(7, .int ((wy.getD c 0) + (crF (s.getD (7 + (bsd c j).toNatClampNeg) 0)))), (6, .int 1), (5, .int (bsd c j)), (0, .ref 111), (1, .int (nI src)), (2, .int (-1)), (3, .int (nI c)), (4, .int (nI j))]) (st2 := [.int (bsd c j), .ref 117]) (w3 := ((w.set 117 (.inl (0, wy))).set 118 (.inl (1, su)))) rfl rfl ?_
      refine sx_RP.step (pc2 := 166) (ls2 := [(7, .int ((wy.getD c 0) + (crF (s.getD (7 + (bsd c j).toNatClampNeg) 0)))), (6, .int 1), (5, .int (bsd c j)), (0, .ref 111), (1, .int (nI src)), (2, .int (-1)), (3, .int (nI c)), (4, .int (nI j))]) (st2 := [.int ((wy.getD c 0) + (crF (s.getD (7 + (bsd c j).toNatClampNeg) 0))), .int (bsd c j), .ref 117]) (w3 := ((w.set 117 (.inl (0, wy))).set 118 (.inl (1, su)))) rfl rfl ?_
      refine sx_RP.ist (c := ((bsd c j).toNatClampNeg)) (w2 := ((w.set 117 (.inl (0, wy.set ((bsd c j).toNatClampNeg) ((wy.getD c 0) + (crF (s.getD (7 + (bsd c j).toNatClampNeg) 0)))))).set 118 (.inl (1, su)))) rfl (sx_gn2 (by decide) (sx_gs2 h117)) hwy ((bsd_in c hc j hj).resolve_left (fun z => q1 ((bsd_lt c hc j hj).mpr z))) rfl (sx_set1 (by decide)) (show _ = 167 from rfl) ?_
      refine sx_RP.step (pc2 := 170) (ls2 := [(4, .int ((nI j) + 1)), (7, .int ((wy.getD c 0) + (crF (s.getD (7 + (bsd c j).toNatClampNeg) 0)))), (6, .int 1), (5, .int (bsd c j)), (0, .ref 111), (1, .int (nI src)), (2, .int (-1)), (3, .int (nI c))]) (st2 := []) (w3 := ((w.set 117 (.inl (0, wy.set ((bsd c j).toNatClampNeg) ((wy.getD c 0) + (crF (s.getD (7 + (bsd c j).toNatClampNeg) 0)))))).set 118 (.inl (1, su)))) rfl rfl ?_
      refine sx_RP.step (pc2 := 53) (ls2 := [(4, .int ((nI j) + 1)), (7, .int ((wy.getD c 0) + (crF (s.getD (7 + (bsd c j).toNatClampNeg) 0)))), (6, .int 1), (5, .int (bsd c j)), (0, .ref 111), (1, .int (nI src)), (2, .int (-1)), (3, .int (nI c))]) (st2 := []) (w3 := ((w.set 117 (.inl (0, wy.set ((bsd c j).toNatClampNeg) ((wy.getD c 0) + (crF (s.getD (7 + (bsd c j).toNatClampNeg) 0)))))).set 118 (.inl (1, su)))) rfl rfl ?_
      rw [show wr1 s c wy (bsd c j) = wy.set ((bsd c j).toNatClampNeg) ((wy.getD c 0) + (crF (s.getD (7 + (bsd c j).toNatClampNeg) 0))) from by rw [wr1]; simp only [if_neg q1, if_pos q2]] at k
      rw [nI_1 j]
      exact sx_RP.ls (sx_lr.cons rfl (sx_lr.cons rfl (sx_lr.cons rfl (sx_lr.cons rfl (sx_lr.cons rfl sx_lr.nil))))) k
    · replace q2 := of_decide_eq_false q2
      refine sx_RP.step (pc2 := 148) (ls2 := [(7, .int ((wy.getD c 0) + (crF (s.getD (7 + (bsd c j).toNatClampNeg) 0)))), (6, .int 1), (5, .int (bsd c j)), (0, .ref 111), (1, .int (nI src)), (2, .int (-1)), (3, .int (nI c)), (4, .int (nI j))]) (st2 := [.int ((wy.getD c 0) + (crF (s.getD (7 + (bsd c j).toNatClampNeg) 0)))]) (w3 := ((w.set 117 (.inl (0, wy))).set 118 (.inl (1, su)))) rfl rfl ?_
      refine sx_RP.step (pc2 := 149) (ls2 := [(7, .int ((wy.getD c 0) + (crF (s.getD (7 + (bsd c j).toNatClampNeg) 0)))), (6, .int 1), (5, .int (bsd c j)), (0, .ref 111), (1, .int (nI src)), (2, .int (-1)), (3, .int (nI c)), (4, .int (nI j))]) (st2 := [.ref 111, .int ((wy.getD c 0) + (crF (s.getD (7 + (bsd c j).toNatClampNeg) 0)))]) (w3 := ((w.set 117 (.inl (0, wy))).set 118 (.inl (1, su)))) rfl rfl ?_
      refine sx_RP.gf (v := .ref 117) rfl rfl (sx_gn2 (by decide) (sx_gn2 (by decide) h111)) rfl rfl (show _ = 152 from rfl) ?_
      refine sx_RP.step (pc2 := 154) (ls2 := [(7, .int ((wy.getD c 0) + (crF (s.getD (7 + (bsd c j).toNatClampNeg) 0)))), (6, .int 1), (5, .int (bsd c j)), (0, .ref 111), (1, .int (nI src)), (2, .int (-1)), (3, .int (nI c)), (4, .int (nI j))]) (st2 := [.int (bsd c j), .ref 117, .int ((wy.getD c 0) + (crF (s.getD (7 + (bsd c j).toNatClampNeg) 0)))]) (w3 := ((w.set 117 (.inl (0, wy))).set 118 (.inl (1, su)))) rfl rfl ?_
      refine sx_RP.ild (c := ((bsd c j).toNatClampNeg)) rfl (sx_gn2 (by decide) (sx_gs2 h117)) hwy ((bsd_in c hc j hj).resolve_left (fun z => q1 ((bsd_lt c hc j hj).mpr z))) rfl (show _ = 155 from rfl) ?_
      refine sx_RP.br (p1 := 167) (l1 := [(7, .int ((wy.getD c 0) + (crF (s.getD (7 + (bsd c j).toNatClampNeg) 0)))), (6, .int 1), (5, .int (bsd c j)), (0, .ref 111), (1, .int (nI src)), (2, .int (-1)), (3, .int (nI c)), (4, .int (nI j))]) (s1 := []) (v1 := ((w.set 117 (.inl (0, wy))).set 118 (.inl (1, su)))) (p2 := 158) (l2 := [(7, .int ((wy.getD c 0) + (crF (s.getD (7 + (bsd c j).toNatClampNeg) 0)))), (6, .int 1), (5, .int (bsd c j)), (0, .ref 111), (1, .int (nI src)), (2, .int (-1)), (3, .int (nI c)), (4, .int (nI j))]) (s2 := []) (v2 := ((w.set 117 (.inl (0, wy))).set 118 (.inl (1, su)))) rfl rfl (fun q3 => ?_) (fun q3 => ?_)
      · replace q3 := of_decide_eq_true q3
        refine sx_RP.step (pc2 := 170) (ls2 := [(4, .int ((nI j) + 1)), (7, .int ((wy.getD c 0) + (crF (s.getD (7 + (bsd c j).toNatClampNeg) 0)))), (6, .int 1), (5, .int (bsd c j)), (0, .ref 111), (1, .int (nI src)), (2, .int (-1)), (3, .int (nI c))]) (st2 := []) (w3 := ((w.set 117 (.inl (0, wy))).set 118 (.inl (1, su)))) rfl rfl ?_
        refine sx_RP.step (pc2 := 53) (ls2 := [(4, .int ((nI j) + 1)), (7, .int ((wy.getD c 0) + (crF (s.getD (7 + (bsd c j).toNatClampNeg) 0)))), (6, .int 1), (5, .int (bsd c j)), (0, .ref 111), (1, .int (nI src)), (2, .int (-1)), (3, .int (nI c))]) (st2 := []) (w3 := ((w.set 117 (.inl (0, wy))).set 118 (.inl (1, su)))) rfl rfl ?_
        rw [show wr1 s c wy (bsd c j) = wy from by rw [wr1]; simp only [if_neg q1, if_neg q2, if_pos q3]] at k
        rw [nI_1 j]
        exact sx_RP.ls (sx_lr.cons rfl (sx_lr.cons rfl (sx_lr.cons rfl (sx_lr.cons rfl (sx_lr.cons rfl sx_lr.nil))))) k
      · replace q3 := of_decide_eq_false q3
        refine sx_RP.step (pc2 := 159) (ls2 := [(7, .int ((wy.getD c 0) + (crF (s.getD (7 + (bsd c j).toNatClampNeg) 0)))), (6, .int 1), (5, .int (bsd c j)), (0, .ref 111), (1, .int (nI src)), (2, .int (-1)), (3, .int (nI c)), (4, .int (nI j))]) (st2 := [.ref 111]) (w3 := ((w.set 117 (.inl (0, wy))).set 118 (.inl (1, su)))) rfl rfl ?_
        refine sx_RP.gf (v := .ref 117) rfl rfl (sx_gn2 (by decide) (sx_gn2 (by decide) h111)) rfl rfl (show _ = 162 from rfl) ?_
        refine sx_RP.step (pc2 := 164) (ls2 := [(7, .int ((wy.getD c 0) + (crF (s.getD (7 + (bsd c j).toNatClampNeg) 0)))), (6, .int 1), (5, .int (bsd c j)), (0, .ref 111), (1, .int (nI src)), (2, .int (-1)), (3, .int (nI c)), (4, .int (nI j))]) (st2 := [.int (bsd c j), .ref 117]) (w3 := ((w.set 117 (.inl (0, wy))).set 118 (.inl (1, su)))) rfl rfl ?_
        refine sx_RP.step (pc2 := 166) (ls2 := [(7, .int ((wy.getD c 0) + (crF (s.getD (7 + (bsd c j).toNatClampNeg) 0)))), (6, .int 1), (5, .int (bsd c j)), (0, .ref 111), (1, .int (nI src)), (2, .int (-1)), (3, .int (nI c)), (4, .int (nI j))]) (st2 := [.int ((wy.getD c 0) + (crF (s.getD (7 + (bsd c j).toNatClampNeg) 0))), .int (bsd c j), .ref 117]) (w3 := ((w.set 117 (.inl (0, wy))).set 118 (.inl (1, su)))) rfl rfl ?_
        refine sx_RP.ist (c := ((bsd c j).toNatClampNeg)) (w2 := ((w.set 117 (.inl (0, wy.set ((bsd c j).toNatClampNeg) ((wy.getD c 0) + (crF (s.getD (7 + (bsd c j).toNatClampNeg) 0)))))).set 118 (.inl (1, su)))) rfl (sx_gn2 (by decide) (sx_gs2 h117)) hwy ((bsd_in c hc j hj).resolve_left (fun z => q1 ((bsd_lt c hc j hj).mpr z))) rfl (sx_set1 (by decide)) (show _ = 167 from rfl) ?_
        refine sx_RP.step (pc2 := 170) (ls2 := [(4, .int ((nI j) + 1)), (7, .int ((wy.getD c 0) + (crF (s.getD (7 + (bsd c j).toNatClampNeg) 0)))), (6, .int 1), (5, .int (bsd c j)), (0, .ref 111), (1, .int (nI src)), (2, .int (-1)), (3, .int (nI c))]) (st2 := []) (w3 := ((w.set 117 (.inl (0, wy.set ((bsd c j).toNatClampNeg) ((wy.getD c 0) + (crF (s.getD (7 + (bsd c j).toNatClampNeg) 0)))))).set 118 (.inl (1, su)))) rfl rfl ?_
        refine sx_RP.step (pc2 := 53) (ls2 := [(4, .int ((nI j) + 1)), (7, .int ((wy.getD c 0) + (crF (s.getD (7 + (bsd c j).toNatClampNeg) 0)))), (6, .int 1), (5, .int (bsd c j)), (0, .ref 111), (1, .int (nI src)), (2, .int (-1)), (3, .int (nI c))]) (st2 := []) (w3 := ((w.set 117 (.inl (0, wy.set ((bsd c j).toNatClampNeg) ((wy.getD c 0) + (crF (s.getD (7 + (bsd c j).toNatClampNeg) 0)))))).set 118 (.inl (1, su)))) rfl rfl ?_
        rw [show wr1 s c wy (bsd c j) = wy.set ((bsd c j).toNatClampNeg) ((wy.getD c 0) + (crF (s.getD (7 + (bsd c j).toNatClampNeg) 0))) from by rw [wr1]; simp only [if_neg q1, if_neg q2, if_neg q3]] at k
        rw [nI_1 j]
        exact sx_RP.ls (sx_lr.cons rfl (sx_lr.cons rfl (sx_lr.cons rfl (sx_lr.cons rfl (sx_lr.cons rfl sx_lr.nil))))) k
set_option maxRecDepth 20000 in
set_option maxHeartbeats 4000000 in
theorem cp_141w {xs : Option (List Int32)} {d : Nat} {w : List sx_C} {mk mt mh mf mv : Int32} {s wy0 su0 : List Int32} (h111 : w[111]? = some (.inr (.inr (.inr (6, [.ref 112, .ref 113, .ref 114, .ref 115, .int mk, .ref 116, .ref 117, .ref 118, .ref 119, .ref 120, .ref 121, .int mt, .int mh, .int mf, .int mv, .ref 122, .ref 123, .ref 124, .ref 125]))))) (h112 : w[112]? = some (.inl (0, s))) (h117 : w[117]? = some (.inl (0, wy0))) (h118 : w[118]? = some (.inl (1, su0))) (hs : s.length = 172) {P : Option Value → List sx_C → Prop} {su : List Int32} {src c : Nat} (hc : c < 48) : ∀ (k j : Nat) (wy : List Int32), j + k = 4 → wy.length = 48 → sx_RP xs (d + 1) 141 173 [(0, .ref 111), (1, .int (nI src)), (2, .int (-1))] [] ((w.set 117 (.inl (0, wrF s c k j wy))).set 118 (.inl (1, su))) P → sx_RP xs (d + 1) 141 53 [(0, .ref 111), (1, .int (nI src)), (2, .int (-1)), (3, .int (nI c)), (4, .int (nI j))] [] ((w.set 117 (.inl (0, wy))).set 118 (.inl (1, su))) P
  | 0, j, wy, h, h1, kk => by
    obtain rfl : j = 4 := by omega
    refine sx_RP.step (pc2 := 55) (ls2 := [(0, .ref 111), (1, .int (nI src)), (2, .int (-1)), (3, .int (nI c)), (4, .int (nI 4))]) (st2 := [.int (nI 4)]) (w3 := ((w.set 117 (.inl (0, wy))).set 118 (.inl (1, su)))) rfl rfl ?_
    refine sx_RP.step (pc2 := 56) (ls2 := [(0, .ref 111), (1, .int (nI src)), (2, .int (-1)), (3, .int (nI c)), (4, .int (nI 4))]) (st2 := [.int 4, .int (nI 4)]) (w3 := ((w.set 117 (.inl (0, wy))).set 118 (.inl (1, su)))) rfl rfl ?_
    refine sx_RP.step (pc2 := 173) (ls2 := [(0, .ref 111), (1, .int (nI src)), (2, .int (-1)), (3, .int (nI c)), (4, .int (nI 4))]) (st2 := []) (w3 := ((w.set 117 (.inl (0, wy))).set 118 (.inl (1, su)))) rfl rfl ?_
    exact sx_RP.ls (sx_lr.cons rfl (sx_lr.cons rfl (sx_lr.cons rfl sx_lr.nil))) kk
  | k + 1, j, wy, h, h1, kk => cq_141w h111 h112 h117 h118 hs h1 hc (by omega) (cp_141w h111 h112 h117 h118 hs hc k (j + 1) _ (by omega) (wr1_len h1) kk)
set_option maxRecDepth 20000 in
set_option maxHeartbeats 4000000 in
theorem cq_141m {xs : Option (List Int32)} {d : Nat} {w : List sx_C} {mk mt mh mf mv : Int32} {s wy0 su0 : List Int32} (h111 : w[111]? = some (.inr (.inr (.inr (6, [.ref 112, .ref 113, .ref 114, .ref 115, .int mk, .ref 116, .ref 117, .ref 118, .ref 119, .ref 120, .ref 121, .int mt, .int mh, .int mf, .int mv, .ref 122, .ref 123, .ref 124, .ref 125]))))) (h112 : w[112]? = some (.inl (0, s))) (h117 : w[117]? = some (.inl (0, wy0))) (h118 : w[118]? = some (.inl (1, su0))) (hs : s.length = 172) {P : Option Value → List sx_C → Prop} {wy su : List Int32} {src c : Nat} (hwy : wy.length = 48) (hsu : su.length = 48) (hc : c < 48) (kk : sx_RP xs (d + 1) 141 39 [(0, .ref 111), (1, .int (nI src)), (2, .int (-1)), (3, .int (nrF (wrF s c 4 0 wy) (su.set c 1) 48 0 (-1)))] [] ((w.set 117 (.inl (0, wrF s c 4 0 wy))).set 118 (.inl (1, su.set c 1))) P) : sx_RP xs (d + 1) 141 39 [(0, .ref 111), (1, .int (nI src)), (2, .int (-1)), (3, .int (nI c))] [] ((w.set 117 (.inl (0, wy))).set 118 (.inl (1, su))) P := by
  refine sx_RP.step (pc2 := 40) (ls2 := [(0, .ref 111), (1, .int (nI src)), (2, .int (-1)), (3, .int (nI c))]) (st2 := [.int (nI c)]) (w3 := ((w.set 117 (.inl (0, wy))).set 118 (.inl (1, su)))) rfl rfl ?_
  refine sx_RP.br (p2 := 43) (l2 := [(0, .ref 111), (1, .int (nI src)), (2, .int (-1)), (3, .int (nI c))]) (s2 := []) (v2 := ((w.set 117 (.inl (0, wy))).set 118 (.inl (1, su)))) rfl rfl (fun q => absurd (of_decide_eq_true q) (nI_pos (by omega))) (fun _ => ?_)
  refine sx_RP.step (pc2 := 44) (ls2 := [(0, .ref 111), (1, .int (nI src)), (2, .int (-1)), (3, .int (nI c))]) (st2 := [.ref 111]) (w3 := ((w.set 117 (.inl (0, wy))).set 118 (.inl (1, su)))) rfl rfl ?_
  refine sx_RP.gf (v := .ref 118) rfl rfl (sx_gn2 (by decide) (sx_gn2 (by decide) h111)) rfl rfl (show _ = 47 from rfl) ?_
  refine sx_RP.step (pc2 := 48) (ls2 := [(0, .ref 111), (1, .int (nI src)), (2, .int (-1)), (3, .int (nI c))]) (st2 := [.int (nI c), .ref 118]) (w3 := ((w.set 117 (.inl (0, wy))).set 118 (.inl (1, su)))) rfl rfl ?_
  refine sx_RP.step (pc2 := 49) (ls2 := [(0, .ref 111), (1, .int (nI src)), (2, .int (-1)), (3, .int (nI c))]) (st2 := [.int 1, .int (nI c), .ref 118]) (w3 := ((w.set 117 (.inl (0, wy))).set 118 (.inl (1, su)))) rfl rfl ?_
  refine sx_RP.bst1 (c := c) (w2 := ((w.set 117 (.inl (0, wy))).set 118 (.inl (1, su.set c 1)))) rfl (sx_gs2 (sx_gn2 (by decide) h118)) hsu (sx_in_nI hc (by decide)) (nI_clamp (by have := hc; omega)) (List.set_set ..) (show _ = 50 from rfl) ?_
  refine sx_RP.step (pc2 := 51) (ls2 := [(0, .ref 111), (1, .int (nI src)), (2, .int (-1)), (3, .int (nI c))]) (st2 := [.int 0]) (w3 := ((w.set 117 (.inl (0, wy))).set 118 (.inl (1, su.set c 1)))) rfl rfl ?_
  refine sx_RP.step (pc2 := 53) (ls2 := [(4, .int 0), (0, .ref 111), (1, .int (nI src)), (2, .int (-1)), (3, .int (nI c))]) (st2 := []) (w3 := ((w.set 117 (.inl (0, wy))).set 118 (.inl (1, su.set c 1)))) rfl rfl ?_
  refine sx_RP.ls (sx_lr.cons rfl (sx_lr.cons rfl (sx_lr.cons rfl (sx_lr.cons rfl (sx_lr.cons rfl sx_lr.nil))))) (cp_141w h111 h112 h117 h118 hs hc 4 0 wy rfl hwy ?_)
  refine sx_RP.step (pc2 := 174) (ls2 := [(0, .ref 111), (1, .int (nI src)), (2, .int (-1))]) (st2 := [.ref 111]) (w3 := ((w.set 117 (.inl (0, wrF s c 4 0 wy))).set 118 (.inl (1, su.set c 1)))) rfl rfl ?_
  refine sx_RP.cu (as := [.ref 111]) (rest2 := []) (st3 := [.int (nrF (wrF s c 4 0 wy) (su.set c 1) 48 0 (-1))]) rfl rfl (sx_inv_v2 (mi := 141) (k := 90) (st := [.ref 111]) (w := ((w.set 117 (.inl (0, wrF s c 4 0 wy))).set 118 (.inl (1, su.set c 1)))) rfl rfl (sx_gn2 (by decide) (sx_gn2 (by decide) h111)) rfl rfl rfl) rfl rfl (cp_149 (sx_gn2 (by decide) (sx_gn2 (by decide) h111)) (sx_gn2 (by decide) (sx_gs2 h117)) (sx_gs2 (sx_gn2 (by decide) h118)) (wrF_len 4 0 _ hwy) (sx_ls hsu)) rfl ?_
  refine sx_RP.step (pc2 := 178) (ls2 := [(3, .int (nrF (wrF s c 4 0 wy) (su.set c 1) 48 0 (-1))), (0, .ref 111), (1, .int (nI src)), (2, .int (-1))]) (st2 := []) (w3 := ((w.set 117 (.inl (0, wrF s c 4 0 wy))).set 118 (.inl (1, su.set c 1)))) rfl rfl ?_
  refine sx_RP.step (pc2 := 39) (ls2 := [(3, .int (nrF (wrF s c 4 0 wy) (su.set c 1) 48 0 (-1))), (0, .ref 111), (1, .int (nI src)), (2, .int (-1))]) (st2 := []) (w3 := ((w.set 117 (.inl (0, wrF s c 4 0 wy))).set 118 (.inl (1, su.set c 1)))) rfl rfl ?_
  exact sx_RP.ls (sx_lr.cons rfl (sx_lr.cons rfl (sx_lr.cons rfl (sx_lr.cons rfl sx_lr.nil)))) kk
theorem cnt_set {su : List Int32} {c f : Nat} (hc : c < su.length) (h0 : su.getD c 0 = 0) (h : su.count 0 ≤ f + 1) : (su.set c 1).count 0 ≤ f := by
  have e : su[c] = 0 := by
    rw [List.getD_eq_getElem?_getD, List.getElem?_eq_getElem hc] at h0
    exact h0
  rw [List.count_set hc, e]
  simp
  omega
theorem cnt_pos {su : List Int32} {c : Nat} (hc : c < su.length) (h0 : su.getD c 0 = 0) : 0 < su.count 0 := by
  have e : su[c] = 0 := by
    rw [List.getD_eq_getElem?_getD, List.getElem?_eq_getElem hc] at h0
    exact h0
  rw [List.count_pos_iff, ← e]
  exact List.getElem_mem hc
set_option maxRecDepth 20000 in
set_option maxHeartbeats 4000000 in
theorem cp_141z {xs : Option (List Int32)} {d : Nat} {w : List sx_C} {P : Option Value → List sx_C → Prop} {src : Nat} {b : Int32} {wy su : List Int32} (q : b < 0) (kk : P none ((w.set 117 (.inl (0, wy))).set 118 (.inl (1, su)))) : sx_RP xs d 141 39 [(0, .ref 111), (1, .int (nI src)), (2, .int (-1)), (3, .int b)] [] ((w.set 117 (.inl (0, wy))).set 118 (.inl (1, su))) P := by
  refine sx_RP.step (pc2 := 40) (ls2 := [(0, .ref 111), (1, .int (nI src)), (2, .int (-1)), (3, .int b)]) (st2 := [.int b]) (w3 := ((w.set 117 (.inl (0, wy))).set 118 (.inl (1, su)))) rfl rfl ?_
  refine sx_RP.br (p1 := 181) (l1 := [(0, .ref 111), (1, .int (nI src)), (2, .int (-1)), (3, .int b)]) (s1 := []) (v1 := ((w.set 117 (.inl (0, wy))).set 118 (.inl (1, su)))) rfl rfl (fun _ => ?_) (fun z => absurd q (of_decide_eq_false z))
  refine sx_RP.ret rfl rfl ?_
  exact kk
set_option maxRecDepth 20000 in
set_option maxHeartbeats 4000000 in
theorem cp_141m {xs : Option (List Int32)} {d : Nat} {w : List sx_C} {mk mt mh mf mv : Int32} {s wy0 su0 : List Int32} (h111 : w[111]? = some (.inr (.inr (.inr (6, [.ref 112, .ref 113, .ref 114, .ref 115, .int mk, .ref 116, .ref 117, .ref 118, .ref 119, .ref 120, .ref 121, .int mt, .int mh, .int mf, .int mv, .ref 122, .ref 123, .ref 124, .ref 125]))))) (h112 : w[112]? = some (.inl (0, s))) (h117 : w[117]? = some (.inl (0, wy0))) (h118 : w[118]? = some (.inl (1, su0))) (hs : s.length = 172) {P : Option Value → List sx_C → Prop} {src : Nat} : ∀ (f : Nat) (b : Int32) (wy su : List Int32), su.count 0 ≤ f → nrOK su b → wy.length = 48 → su.length = 48 → (∀ wy2 su2, wkF s (f + 1) b wy su = (wy2, su2) → P none ((w.set 117 (.inl (0, wy2))).set 118 (.inl (1, su2)))) → sx_RP xs (d + 1) 141 39 [(0, .ref 111), (1, .int (nI src)), (2, .int (-1)), (3, .int b)] [] ((w.set 117 (.inl (0, wy))).set 118 (.inl (1, su))) P
  | 0, b, wy, su, hf, hb, h1, h2, kk => by
    rcases hb with hb | ⟨c, hc, rfl, h0⟩
    · exact cp_141z hb (kk wy su (by rw [wkF]; rw [if_pos hb]))
    · exact absurd (cnt_pos (by omega) h0) (by omega)
  | f + 1, b, wy, su, hf, hb, h1, h2, kk => by
    rcases hb with hb | ⟨c, hc, rfl, h0⟩
    · exact cp_141z hb (kk wy su (by rw [wkF]; rw [if_pos hb]))
    · refine cq_141m h111 h112 h117 h118 hs h1 h2 hc (cp_141m h111 h112 h117 h118 hs f _ _ _ (cnt_set (by omega) h0 hf) (nrF_ok 48 0 _ rfl (Or.inl (by decide))) (wrF_len 4 0 _ h1) (sx_ls h2) ?_)
      intro wy2 su2 e2
      refine kk wy2 su2 ?_
      rw [wkF]
      rw [if_neg (nI_pos (by omega)), nI_clamp (by omega)]
      exact e2
def wlF (s : List Int32) (src : Nat) (wy0 su0 : List Int32) : List Int32 × List Int32 := wkF s 49 (nI src) (wiF src 48 0 wy0) (flF 0 48 0 su0)
theorem flF_at {v : Int32} : ∀ (k j : Nat) (l : List Int32), j + k = l.length → ∀ c, c < l.length → (j ≤ c → (flF v k j l).getD c 0 = v) ∧ (c < j → (flF v k j l).getD c 0 = l.getD c 0)
  | 0, j, l, h, c, hc => ⟨fun z => by omega, fun _ => rfl⟩
  | k + 1, j, l, h, c, hc => by
    have IH := flF_at (v := v) k (j + 1) (l.set j v) (by rw [List.length_set]; omega) c (by rw [List.length_set]; exact hc)
    refine ⟨fun z => ?_, fun z => ?_⟩
    · by_cases e : c = j
      · subst e
        show (flF v k (c + 1) (l.set c v)).getD c 0 = v
        rw [IH.2 (by omega), List.getD_eq_getElem?_getD, List.getElem?_set_self hc]
        rfl
      · exact IH.1 (by omega)
    · show (flF v k (j + 1) (l.set j v)).getD c 0 = l.getD c 0
      rw [IH.2 (by omega), List.getD_eq_getElem?_getD, List.getElem?_set_ne (by omega), ← List.getD_eq_getElem?_getD]
set_option maxRecDepth 20000 in
set_option maxHeartbeats 4000000 in
theorem cp_141 {xs : Option (List Int32)} {d : Nat} {w : List sx_C} {mk mt mh mf mv : Int32} {s wy0 su0 : List Int32} (h111 : w[111]? = some (.inr (.inr (.inr (6, [.ref 112, .ref 113, .ref 114, .ref 115, .int mk, .ref 116, .ref 117, .ref 118, .ref 119, .ref 120, .ref 121, .int mt, .int mh, .int mf, .int mv, .ref 122, .ref 123, .ref 124, .ref 125]))))) (h112 : w[112]? = some (.inl (0, s))) (h117 : w[117]? = some (.inl (0, wy0))) (h118 : w[118]? = some (.inl (1, su0))) (hs : s.length = 172) (hwy0 : wy0.length = 48) (hsu0 : su0.length = 48) {src : Nat} (hsrc : src < 48) : sx_RU xs (d + 1) 141 0 (lv_args 0 [.ref 111, .int (nI src), .int (-1)]) [] w none ((w.set 117 (.inl (0, (wlF s src wy0 su0).1))).set 118 (.inl (1, (wlF s src wy0 su0).2))) := by
  have h : sx_RP xs (d + 1) 141 0 (lv_args 0 [.ref 111, .int (nI src), .int (-1)]) [] w (fun r w2 => r = none ∧ w2 = ((w.set 117 (.inl (0, (wlF s src wy0 su0).1))).set 118 (.inl (1, (wlF s src wy0 su0).2)))) := by
    refine sx_RP.step (pc2 := 1) (ls2 := [(0, .ref 111), (1, .int (nI src)), (2, .int (-1))]) (st2 := [.int 0]) (w3 := w) rfl rfl ?_
    refine sx_RP.step (pc2 := 2) (ls2 := [(3, .int 0), (0, .ref 111), (1, .int (nI src)), (2, .int (-1))]) (st2 := []) (w3 := w) rfl rfl ?_
    have k2 := cp_141i (xs := xs) (d := d + 1) h111 h112 h117 h118 hs (P := fun r w2 => r = none ∧ w2 = ((w.set 117 (.inl (0, (wlF s src wy0 su0).1))).set 118 (.inl (1, (wlF s src wy0 su0).2)))) (src := src) 48 0 wy0 su0 rfl hwy0 hsu0 (cp_141m h111 h112 h117 h118 hs 48 (nI src) (wiF src 48 0 wy0) (flF 0 48 0 su0) (Nat.le_trans List.count_le_length (by rw [flF_len 48 0 _ hsu0]; exact Nat.le_refl _)) (Or.inr ⟨src, hsrc, rfl, (flF_at 48 0 su0 (by omega) src (by omega)).1 (Nat.zero_le _)⟩) (wiF_len 48 0 _ hwy0) (flF_len 48 0 _ hsu0) (fun wy2 su2 e => ⟨rfl, by rw [wlF, e]⟩))
    rw [← sx_same h117, ← sx_same h118] at k2
    exact sx_RP.ls (sx_lr.cons rfl (sx_lr.cons rfl (sx_lr.cons rfl (sx_lr.cons rfl sx_lr.nil)))) k2
  obtain ⟨r, w2, h1, rfl, rfl⟩ := h
  exact h1
end
-- 41.ty.lean.txt
section
def sx_zv (v : Value) : Value := match v with
  | .int _ => .int 0
  | .long _ => .long 0
  | v => v
def sx_sh (c : sx_C) : sx_C := match c with
  | .inl (t, l) => .inl (t, List.replicate l.length 0)
  | .inr (.inl (t, l)) => .inr (.inl (t, List.replicate l.length 0))
  | .inr (.inr (.inl p)) => .inr (.inr (.inl p))
  | .inr (.inr (.inr (ci, fs))) => .inr (.inr (.inr (ci, fs.map sx_zv)))
def Ty (w : List sx_C) : Prop := w.map sx_sh = sx_w0.map sx_sh
def ia (w : List sx_C) (a : Nat) : List Int32 := match w[a]? with
  | some (.inl (_, l)) => l
  | _ => []
def ja (w : List sx_C) (a : Nat) : List Int64 := match w[a]? with
  | some (.inr (.inl (_, l))) => l
  | _ => []
def vi (v : Option Value) : Int32 := match v with
  | some (.int x) => x
  | _ => 0
def vj (v : Option Value) : Int64 := match v with
  | some (.long x) => x
  | _ => 0
def fs_ (w : List sx_C) (a : Nat) : List Value := match w[a]? with
  | some (.inr (.inr (.inr (_, fs)))) => fs
  | _ => []
def fi (w : List sx_C) (a k : Nat) : Int32 := vi (fs_ w a)[k]?
def fj (w : List sx_C) (a k : Nat) : Int64 := vj (fs_ w a)[k]?
theorem Ty.at {w : List sx_C} {a : Nat} {c0 : sx_C} (h : Ty w) (h0 : sx_w0[a]? = some c0) : ∃ c, w[a]? = some c ∧ sx_sh c = sx_sh c0 := by
  have e : (w.map sx_sh)[a]? = (sx_w0.map sx_sh)[a]? := by rw [h]
  rw [List.getElem?_map, List.getElem?_map, h0] at e
  cases hw : w[a]? with
  | none => rw [hw] at e; cases e
  | some c =>
    rw [hw] at e
    exact ⟨c, rfl, Option.some.inj e⟩
theorem Ty.set {w : List sx_C} {a : Nat} {c c2 : sx_C} (h : Ty w) (hw : w[a]? = some c) (hs : sx_sh c2 = sx_sh c) : Ty (w.set a c2) := by
  unfold Ty at h ⊢
  rw [List.map_set, ← h, hs]
  apply List.ext_getElem?
  intro i
  by_cases e : a = i
  · subst e
    have hl : a < (w.map sx_sh).length := by rw [List.length_map]; exact (List.getElem?_eq_some_iff.mp hw).1
    rw [List.getElem?_set_self hl, List.getElem?_map, hw]
    rfl
  · rw [List.getElem?_set_ne e]
theorem Ty.ai {w : List sx_C} {a t : Nat} {l0 : List Int32} (h : Ty w) (h0 : sx_w0[a]? = some (.inl (t, l0))) : w[a]? = some (.inl (t, ia w a)) ∧ (ia w a).length = l0.length := by
  obtain ⟨c, hc, hs⟩ := h.at h0
  match c, hs, hc with
  | .inl (t2, l), hs, hc =>
    have e1 : t2 = t ∧ List.replicate l.length (0 : Int32) = List.replicate l0.length 0 := by
      have := Sum.inl.inj hs
      exact Prod.mk.inj this
    have e2 : l.length = l0.length := by
      have := congrArg List.length e1.2
      rw [List.length_replicate, List.length_replicate] at this
      exact this
    have e3 : ia w a = l := by unfold ia; rw [hc]
    rw [e3, hc, e1.1]
    exact ⟨rfl, e2⟩
theorem Ty.aj {w : List sx_C} {a t : Nat} {l0 : List Int64} (h : Ty w) (h0 : sx_w0[a]? = some (.inr (.inl (t, l0)))) : w[a]? = some (.inr (.inl (t, ja w a))) ∧ (ja w a).length = l0.length := by
  obtain ⟨c, hc, hs⟩ := h.at h0
  match c, hs, hc with
  | .inr (.inl (t2, l)), hs, hc =>
    have e1 : t2 = t ∧ List.replicate l.length (0 : Int64) = List.replicate l0.length 0 := by
      have := Sum.inl.inj (Sum.inr.inj hs)
      exact Prod.mk.inj this
    have e2 : l.length = l0.length := by
      have := congrArg List.length e1.2
      rw [List.length_replicate, List.length_replicate] at this
      exact this
    have e3 : ja w a = l := by unfold ja; rw [hc]
    rw [e3, hc, e1.1]
    exact ⟨rfl, e2⟩
theorem Ty.rf {w : List sx_C} {a : Nat} {p : Nat × List (Option Nat)} (h : Ty w) (h0 : sx_w0[a]? = some (.inr (.inr (.inl p)))) : w[a]? = some (.inr (.inr (.inl p))) := by
  obtain ⟨c, hc, hs⟩ := h.at h0
  match c, hs, hc with
  | .inr (.inr (.inl q)), hs, hc =>
    have e : q = p := Sum.inl.inj (Sum.inr.inj (Sum.inr.inj hs))
    rw [hc, e]
def rb (fs : List Value) : Nat → List Value → List Value
  | _, [] => []
  | k, .int _ :: r => .int (vi fs[k]?) :: rb fs (k + 1) r
  | k, .long _ :: r => .long (vj fs[k]?) :: rb fs (k + 1) r
  | k, v :: r => v :: rb fs (k + 1) r
theorem rb_of {fs : List Value} : ∀ (r0 r : List Value) (k : Nat), (∀ j, r[j]? = fs[k + j]?) → r.map sx_zv = r0.map sx_zv → r = rb fs k r0
  | [], [], _, _, _ => rfl
  | [], _ :: _, _, _, h => by cases h
  | _ :: _, [], _, _, h => by cases h
  | v0 :: r0, v :: r, k, hj, h => by
    have h1 : sx_zv v = sx_zv v0 := (List.cons.inj h).1
    have h2 := rb_of r0 r (k + 1) (fun j => by have := hj (j + 1); rw [List.getElem?_cons_succ] at this; rw [this, Nat.add_assoc, Nat.add_comm 1 j]) (List.cons.inj h).2
    have h3 : fs[k]? = some v := by have := hj 0; rw [List.getElem?_cons_zero, Nat.add_zero] at this; exact this.symm
    cases v0 with
    | int x =>
      cases v with
      | int y => unfold rb; rw [h3, ← h2]; rfl
      | long y => cases h1
      | float y => cases h1
      | double y => cases h1
      | null => cases h1
      | ref y => cases h1
      | retAddr y => cases h1
    | long x =>
      cases v with
      | long y => unfold rb; rw [h3, ← h2]; rfl
      | int y => cases h1
      | float y => cases h1
      | double y => cases h1
      | null => cases h1
      | ref y => cases h1
      | retAddr y => cases h1
    | float x => cases v <;> first | (cases h1; done) | (cases h1; unfold rb; rw [← h2])
    | double x => cases v <;> first | (cases h1; done) | (cases h1; unfold rb; rw [← h2])
    | null => cases v <;> first | (cases h1; done) | (cases h1; unfold rb; rw [← h2]) | (unfold rb; rw [← h2])
    | ref x => cases v <;> first | (cases h1; done) | (cases h1; unfold rb; rw [← h2])
    | retAddr x => cases v <;> first | (cases h1; done) | (cases h1; unfold rb; rw [← h2])
theorem Ty.ob {w : List sx_C} {a ci : Nat} {fs0 : List Value} (h : Ty w) (h0 : sx_w0[a]? = some (.inr (.inr (.inr (ci, fs0))))) : w[a]? = some (.inr (.inr (.inr (ci, rb (fs_ w a) 0 fs0)))) := by
  obtain ⟨c, hc, hs⟩ := h.at h0
  match c, hs, hc with
  | .inr (.inr (.inr (ci2, fs))), hs, hc =>
    have e := Prod.mk.inj (Sum.inr.inj (Sum.inr.inj (Sum.inr.inj hs)))
    have e3 : fs_ w a = fs := by unfold fs_; rw [hc]
    rw [e3, ← rb_of (fs := fs) fs0 fs 0 (fun j => by rw [Nat.zero_add]) e.2, hc, e.1]
def isA (A : Nat) : Prop := A = 1 ∨ A = 15 ∨ A = 29
theorem isA.lt {A : Nat} (h : isA A) : A + 14 ≤ 43 ∧ 1 ≤ A := by
  rcases h with rfl | rfl | rfl <;> decide
section TYL
variable {w : List sx_C}
theorem Ty.o0 (h : Ty w) : w[0]? = some (.inr (.inr (.inr (0, [.ref 1, .ref 15, .ref 29, .int (fi w 0 3), .ref 43, .ref 44, .ref 96, .ref 98, .ref 99, .ref 100, .ref 101, .ref 102])))) := by
  have e := Ty.ob (a := 0) h rfl
  exact e
theorem Ty.o44 (h : Ty w) : w[44]? = some (.inr (.inr (.inr (3, [.ref 45, .ref 46, .ref 95])))) := by
  have e := Ty.ob (a := 44) h rfl
  exact e
theorem Ty.o96 (h : Ty w) : w[96]? = some (.inr (.inr (.inr (4, [.ref 97, .int (fi w 96 1), .int (fi w 96 2), .int (fi w 96 3), .int (fi w 96 4), .int (fi w 96 5)])))) := by
  have e := Ty.ob (a := 96) h rfl
  exact e
theorem Ty.o111 (h : Ty w) : w[111]? = some (.inr (.inr (.inr (6, [.ref 112, .ref 113, .ref 114, .ref 115, .int (fi w 111 4), .ref 116, .ref 117, .ref 118, .ref 119, .ref 120, .ref 121, .int (fi w 111 11), .int (fi w 111 12), .int (fi w 111 13), .int (fi w 111 14), .ref 122, .ref 123, .ref 124, .ref 125])))) := by
  have e := Ty.ob (a := 111) h rfl
  exact e
theorem Ty.oC (h : Ty w) {A : Nat} (hA : isA A) : w[A]? = some (.inr (.inr (.inr (1, [.ref (A + 1), .long (fj w A 1), .ref (A + 2), .int (fi w A 3), .ref (A + 3), .int (fi w A 5), .int (fi w A 6), .int (fi w A 7), .int (fi w A 8), .int (fi w A 9), .int (fi w A 10)])))) := by
  rcases hA with rfl | rfl | rfl
  · have e := Ty.ob (a := 1) h rfl
    exact e
  · have e := Ty.ob (a := 15) h rfl
    exact e
  · have e := Ty.ob (a := 29) h rfl
    exact e
theorem Ty.oS (h : Ty w) {s : Nat} (hs : s < 4) : w[103 + 2 * s]? = some (.inr (.inr (.inr (5, [.ref (104 + 2 * s), .int (fi w (103 + 2 * s) 1), .int (fi w (103 + 2 * s) 2)])))) := by
  rcases (show s = 0 ∨ s = 1 ∨ s = 2 ∨ s = 3 by omega) with rfl | rfl | rfl | rfl
  · have e := Ty.ob (a := 103) h rfl
    exact e
  · have e := Ty.ob (a := 105) h rfl
    exact e
  · have e := Ty.ob (a := 107) h rfl
    exact e
  · have e := Ty.ob (a := 109) h rfl
    exact e
def gAd (a : Nat) : Prop := (5 ≤ a ∧ a < 15) ∨ (19 ≤ a ∧ a < 29) ∨ (33 ≤ a ∧ a < 44)
theorem gAd.w0 : ∀ a, a < 44 → (decide (5 ≤ a ∧ a < 15 ∨ 19 ≤ a ∧ a < 29 ∨ 33 ≤ a ∧ a < 44) = false) ∨ (match (sx_w0[a]? : Option sx_C) with
  | some c => sx_eqC c (.inr (.inr (.inr (2, [.int 0, .int 0, .int 0, .int 0, .int 0, .int 0]))))
  | none => false) = true := by decide +kernel
theorem Ty.oG (h : Ty w) {a : Nat} (ha : gAd a) : w[a]? = some (.inr (.inr (.inr (2, [.int (fi w a 0), .int (fi w a 1), .int (fi w a 2), .int (fi w a 3), .int (fi w a 4), .int (fi w a 5)])))) := by
  have h1 := gAd.w0 a (by unfold gAd at ha; omega)
  rcases h1 with h1 | h1
  · have h2 := of_decide_eq_false h1
    exact absurd ha h2
  · split at h1
    · rename_i c hc
      rw [sx_eqC_of h1] at hc
      exact h.ob hc
    · cases h1
theorem Ty.aS (h : Ty w) {A : Nat} (hA : isA A) : w[A + 1]? = some (.inl (0, ia w (A + 1))) ∧ (ia w (A + 1)).length = 48 := by
  rcases hA with rfl | rfl | rfl
  · exact h.ai (t := 0) (l0 := List.replicate 48 0) rfl
  · exact h.ai (t := 0) (l0 := List.replicate 48 0) rfl
  · exact h.ai (t := 0) (l0 := List.replicate 48 0) rfl
theorem Ty.aD (h : Ty w) {A : Nat} (hA : isA A) : w[A + 3]? = some (.inl (0, ia w (A + 3))) ∧ (ia w (A + 3)).length = 9 := by
  rcases hA with rfl | rfl | rfl
  · exact h.ai (t := 0) (l0 := List.replicate 9 0) rfl
  · exact h.ai (t := 0) (l0 := List.replicate 9 0) rfl
  · exact h.ai (t := 0) (l0 := List.replicate 9 0) rfl
def grA (A : Nat) : List (Option Nat) := (List.range 10).map (fun i => some (A + 4 + i))
theorem Ty.aG (h : Ty w) {A : Nat} (hA : isA A) : w[A + 2]? = some (.inr (.inr (.inl (4, grA A)))) := by
  rcases hA with rfl | rfl | rfl
  · exact h.rf rfl
  · exact h.rf rfl
  · exact h.rf rfl
def shA : List (Option Nat) := (List.range 4).map (fun i => some (103 + 2 * i))
theorem Ty.a98 (h : Ty w) : w[98]? = some (.inr (.inr (.inl (5, shA)))) := h.rf rfl
theorem Ty.a46 (h : Ty w) : w[46]? = some (.inr (.inr (.inl (6, rr48)))) := h.rf rfl
end TYL
theorem grA_at {A i : Nat} (hi : i < 10) : sx_in (nI i) (grA A).length = true ∧ sx_rf ((grA A).getD (nI i).toNatClampNeg none) = .ref (A + 4 + i) := by
  have e : (grA A).getD (nI i).toNatClampNeg none = some (A + 4 + i) := by
    rw [nI_clamp (by omega), grA, List.getD_eq_getElem?_getD, List.getElem?_map, List.getElem?_range hi]
    rfl
  rw [e]
  have hl : (grA A).length = 10 := by rw [grA, List.length_map, List.length_range]
  exact ⟨sx_in_nI (by rw [hl]; exact hi) (by rw [hl]; decide), rfl⟩
theorem shA_at {i : Nat} (hi : i < 4) : sx_in (nI i) shA.length = true ∧ sx_rf (shA.getD (nI i).toNatClampNeg none) = .ref (103 + 2 * i) := by
  have e : shA.getD (nI i).toNatClampNeg none = some (103 + 2 * i) := by
    rw [nI_clamp (by omega), shA, List.getD_eq_getElem?_getD, List.getElem?_map, List.getElem?_range hi]
    rfl
  rw [e]
  exact ⟨sx_in_nI (by rw [shA, List.length_map, List.length_range]; exact hi) (by decide), rfl⟩
theorem gAd.of {A i : Nat} (hA : isA A) (hi : i < 10) : gAd (A + 4 + i) := by
  unfold gAd
  rcases hA with rfl | rfl | rfl <;> omega
theorem gAd.t : gAd 43 := Or.inr (Or.inr ⟨by decide, by decide⟩)
theorem ia_set {w : List sx_C} {a t : Nat} {x : sx_C} {l : List Int32} (hw : w[a]? = some x) : ia (w.set a (.inl (t, l))) a = l := by
  unfold ia
  rw [sx_gs2 hw]
theorem ia_ne {w : List sx_C} {a b : Nat} {c : sx_C} (h : a ≠ b) : ia (w.set b c) a = ia w a := by
  unfold ia
  rw [List.getElem?_set_ne (Ne.symm h)]
theorem fs_set {w : List sx_C} {a ci : Nat} {x : sx_C} {l : List Value} (hw : w[a]? = some x) : fs_ (w.set a (.inr (.inr (.inr (ci, l))))) a = l := by
  unfold fs_
  rw [sx_gs2 hw]
theorem fs_ne {w : List sx_C} {a b : Nat} {c : sx_C} (h : a ≠ b) : fs_ (w.set b c) a = fs_ w a := by
  unfold fs_
  rw [List.getElem?_set_ne (Ne.symm h)]
theorem fi_ne {w : List sx_C} {a b k : Nat} {c : sx_C} (h : a ≠ b) : fi (w.set b c) a k = fi w a k := by
  unfold fi
  rw [fs_ne h]
end
-- 42.inv.lean.txt
section
def inR (v : Int32) (n : Nat) : Prop := ∃ j, j ≤ n ∧ v = nI j
def cf (c : sx_C) : List Value := match c with
  | .inr (.inr (.inr (_, fs))) => fs
  | _ => []
def cI (c : sx_C) : List Int32 := match c with
  | .inl (_, l) => l
  | _ => []
def eOK (k : Nat) (v : Int32) : Prop :=
  (k = 1 → inR v 10) ∧ (k = 2 → inR v 9) ∧ (7 ≤ k ∧ k < 55 → inR v 3) ∧ (103 ≤ k ∧ k < 163 ∧ (k - 103) % 6 = 0 → inR v 5) ∧ (103 ≤ k ∧ k < 163 ∧ (k - 103) % 6 = 1 → inR v 1) ∧ (103 ≤ k ∧ k < 163 ∧ (k - 103) % 6 = 2 → inR v 47) ∧ (103 ≤ k ∧ k < 163 ∧ (k - 103) % 6 = 3 → inR v 3) ∧ (103 ≤ k ∧ k < 163 ∧ (k - 103) % 6 = 5 → inR v 1) ∧ (163 ≤ k → inR v 47)
def sOK (l : List Int32) : Prop := ∀ k, k < 172 → eOK k (l.getD k 0)
def gOK (fs : List Value) : Prop := inR (vi fs[0]?) 5 ∧ inR (vi fs[1]?) 1 ∧ inR (vi fs[2]?) 47 ∧ inR (vi fs[3]?) 3 ∧ inR (vi fs[5]?) 1
def cOK (a : Nat) (c : sx_C) : Prop :=
  (gAd a → gOK (cf c)) ∧ (isA a → inR (vi (cf c)[3]?) 10 ∧ inR (vi (cf c)[5]?) 9) ∧ (a = 2 ∨ a = 16 ∨ a = 30 → ∀ k, k < 48 → inR ((cI c).getD k 0) 3) ∧ (a = 4 ∨ a = 18 ∨ a = 32 → ∀ k, k < 9 → inR ((cI c).getD k 0) 47) ∧ (a = 0 → inR (vi (cf c)[3]?) 1) ∧ (a = 96 → inR (vi (cf c)[1]?) 120 ∧ inR (vi (cf c)[3]?) 120 ∧ inR (vi (cf c)[4]?) 120) ∧ (a = 103 ∨ a = 105 ∨ a = 107 ∨ a = 109 → inR (vi (cf c)[2]?) 40) ∧ (a = 111 → inR (vi (cf c)[4]?) 1 ∧ inR (vi (cf c)[11]?) 120 ∧ inR (vi (cf c)[12]?) 120) ∧ (a = 112 ∨ a = 113 ∨ a = 114 ∨ a = 115 → sOK (cI c)) ∧ (a = 123 → ∀ k, k < 4 → inR ((cI c).getD k 0) 40)
def WI (w : List sx_C) : Prop := Ty w ∧ ∀ a c, w[a]? = some c → cOK a c
def kp (a : Nat) (c : sx_C) : List Value × List Int32 :=
  if a = 0 then (((cf c)[3]?).toList, []) else if a = 96 then (((cf c)[1]?).toList, []) else if a = 103 ∨ a = 105 ∨ a = 107 ∨ a = 109 then (((cf c)[1]?).toList ++ ((cf c)[2]?).toList, []) else if a = 111 then (((cf c)[4]?).toList ++ ((cf c)[11]?).toList, []) else if a = 122 ∨ a = 123 then ([], cI c) else ([], [])
def EC (w w2 : List sx_C) : Prop := ∀ a, (a < 111 → (w2[a]?).map (kp a) = (w[a]?).map (kp a)) ∧ (111 ≤ a → w2[a]? = w[a]?)
def EM (w w2 : List sx_C) : Prop := ∀ a, (a < 111 → w2[a]? = w[a]?) ∧ (111 ≤ a → (w2[a]?).map (kp a) = (w[a]?).map (kp a))
theorem EC.rf {w : List sx_C} : EC w w := fun _ => ⟨fun _ => rfl, fun _ => rfl⟩
theorem EM.rf {w : List sx_C} : EM w w := fun _ => ⟨fun _ => rfl, fun _ => rfl⟩
theorem EC.tr {w w1 w2 : List sx_C} (h : EC w w1) (h2 : EC w1 w2) : EC w w2 := fun a => ⟨fun z => ((h2 a).1 z).trans ((h a).1 z), fun z => ((h2 a).2 z).trans ((h a).2 z)⟩
theorem EM.tr {w w1 w2 : List sx_C} (h : EM w w1) (h2 : EM w1 w2) : EM w w2 := fun a => ⟨fun z => ((h2 a).1 z).trans ((h a).1 z), fun z => ((h2 a).2 z).trans ((h a).2 z)⟩
theorem WI.set {w : List sx_C} {a : Nat} {c c2 : sx_C} (h : WI w) (hw : w[a]? = some c) (hs : sx_sh c2 = sx_sh c) (ho : cOK a c2) : WI (w.set a c2) := by
  refine ⟨h.1.set hw hs, ?_⟩
  intro b d hb
  by_cases e : b = a
  · subst e
    rw [sx_gs2 hw] at hb
    cases hb
    exact ho
  · rw [List.getElem?_set_ne (Ne.symm e)] at hb
    exact h.2 b d hb
theorem EC.set {w0 w : List sx_C} {a : Nat} {c c2 : sx_C} (h : EC w0 w) (hw : w[a]? = some c) (ha : a < 111) (hk : kp a c2 = kp a c) : EC w0 (w.set a c2) := by
  refine h.tr ?_
  intro b
  by_cases e : b = a
  · subst e
    refine ⟨fun _ => ?_, fun z => by omega⟩
    rw [sx_gs2 hw, hw, Option.map_some, Option.map_some, hk]
  · rw [List.getElem?_set_ne (Ne.symm e)]
    exact ⟨fun _ => rfl, fun _ => rfl⟩
theorem EM.set {w0 w : List sx_C} {a : Nat} {c c2 : sx_C} (h : EM w0 w) (hw : w[a]? = some c) (ha : 111 ≤ a) (hk : kp a c2 = kp a c) : EM w0 (w.set a c2) := by
  refine h.tr ?_
  intro b
  by_cases e : b = a
  · subst e
    refine ⟨fun z => by omega, fun _ => ?_⟩
    rw [sx_gs2 hw, hw, Option.map_some, Option.map_some, hk]
  · rw [List.getElem?_set_ne (Ne.symm e)]
    exact ⟨fun _ => rfl, fun _ => rfl⟩
theorem kp_n {a : Nat} {c c2 : sx_C} (h : a ≠ 0 ∧ a ≠ 96 ∧ a ≠ 103 ∧ a ≠ 105 ∧ a ≠ 107 ∧ a ≠ 109 ∧ a ≠ 111 ∧ a ≠ 122 ∧ a ≠ 123) : kp a c2 = kp a c := by
  unfold kp
  rw [if_neg h.1, if_neg h.2.1, if_neg (by omega), if_neg (by omega), if_neg (by omega), if_neg h.1, if_neg h.2.1, if_neg (by omega), if_neg (by omega), if_neg (by omega)]
theorem inR.of {v : Int32} {n j : Nat} (h : j ≤ n) (e : v = nI j) : inR v n := ⟨j, h, e⟩
theorem inR.n {n j : Nat} (h : j ≤ n) : inR (nI j) n := ⟨j, h, rfl⟩
theorem cOK.free {a : Nat} {c : sx_C} (h : (44 ≤ a ∧ a ≤ 95) ∨ (97 ≤ a ∧ a ≤ 102) ∨ a = 104 ∨ a = 106 ∨ a = 108 ∨ a = 110 ∨ (116 ≤ a ∧ a ≤ 122) ∨ 124 ≤ a) : cOK a c := by
  unfold cOK gAd isA
  refine ⟨fun z => ?_, fun z => ?_, fun z => ?_, fun z => ?_, fun z => ?_, fun z => ?_, fun z => ?_, fun z => ?_, fun z => ?_, fun z => ?_⟩ <;> omega
theorem cOK.g {a : Nat} {c : sx_C} (ha : gAd a) (h : gOK (cf c)) : cOK a c := by
  unfold gAd at ha
  unfold cOK isA
  refine ⟨fun _ => h, fun z => ?_, fun z => ?_, fun z => ?_, fun z => ?_, fun z => ?_, fun z => ?_, fun z => ?_, fun z => ?_, fun z => ?_⟩ <;> omega
theorem cOK.c {a : Nat} {c : sx_C} (ha : isA a) (h : inR (vi (cf c)[3]?) 10 ∧ inR (vi (cf c)[5]?) 9) : cOK a c := by
  unfold isA at ha
  unfold cOK gAd
  refine ⟨fun z => ?_, fun _ => h, fun z => ?_, fun z => ?_, fun z => ?_, fun z => ?_, fun z => ?_, fun z => ?_, fun z => ?_, fun z => ?_⟩ <;> omega
theorem cOK.st {a : Nat} {c : sx_C} (ha : isA a) (h : ∀ k, k < 48 → inR ((cI c).getD k 0) 3) : cOK (a + 1) c := by
  unfold isA at ha
  unfold cOK gAd isA
  refine ⟨fun z => ?_, fun z => ?_, fun _ => h, fun z => ?_, fun z => ?_, fun z => ?_, fun z => ?_, fun z => ?_, fun z => ?_, fun z => ?_⟩ <;> omega
theorem cOK.di {a : Nat} {c : sx_C} (ha : isA a) (h : ∀ k, k < 9 → inR ((cI c).getD k 0) 47) : cOK (a + 3) c := by
  unfold isA at ha
  unfold cOK gAd isA
  refine ⟨fun z => ?_, fun z => ?_, fun z => ?_, fun _ => h, fun z => ?_, fun z => ?_, fun z => ?_, fun z => ?_, fun z => ?_, fun z => ?_⟩ <;> omega
theorem cOK.t {c : sx_C} (h : inR (vi (cf c)[1]?) 120 ∧ inR (vi (cf c)[3]?) 120 ∧ inR (vi (cf c)[4]?) 120) : cOK 96 c := by
  unfold cOK gAd isA
  refine ⟨fun z => ?_, fun z => ?_, fun z => ?_, fun z => ?_, fun z => ?_, fun _ => h, fun z => ?_, fun z => ?_, fun z => ?_, fun z => ?_⟩ <;> omega
theorem cOK.o {c : sx_C} (h : inR (vi (cf c)[3]?) 1) : cOK 0 c := by
  unfold cOK gAd isA
  refine ⟨fun z => ?_, fun z => ?_, fun z => ?_, fun z => ?_, fun _ => h, fun z => ?_, fun z => ?_, fun z => ?_, fun z => ?_, fun z => ?_⟩ <;> omega
theorem cOK.sh {s : Nat} {c : sx_C} (hs : s < 4) (h : inR (vi (cf c)[2]?) 40) : cOK (103 + 2 * s) c := by
  unfold cOK gAd isA
  refine ⟨fun z => ?_, fun z => ?_, fun z => ?_, fun z => ?_, fun z => ?_, fun z => ?_, fun _ => h, fun z => ?_, fun z => ?_, fun z => ?_⟩ <;> omega
theorem cOK.m {c : sx_C} (h : inR (vi (cf c)[4]?) 1 ∧ inR (vi (cf c)[11]?) 120 ∧ inR (vi (cf c)[12]?) 120) : cOK 111 c := by
  unfold cOK gAd isA
  refine ⟨fun z => ?_, fun z => ?_, fun z => ?_, fun z => ?_, fun z => ?_, fun z => ?_, fun z => ?_, fun _ => h, fun z => ?_, fun z => ?_⟩ <;> omega
theorem cOK.s {a : Nat} {c : sx_C} (ha : 112 ≤ a ∧ a ≤ 115) (h : sOK (cI c)) : cOK a c := by
  unfold cOK gAd isA
  refine ⟨fun z => ?_, fun z => ?_, fun z => ?_, fun z => ?_, fun z => ?_, fun z => ?_, fun z => ?_, fun z => ?_, fun _ => h, fun z => ?_⟩ <;> omega
theorem cOK.l {c : sx_C} (h : ∀ k, k < 4 → inR ((cI c).getD k 0) 40) : cOK 123 c := by
  unfold cOK gAd isA
  refine ⟨fun z => ?_, fun z => ?_, fun z => ?_, fun z => ?_, fun z => ?_, fun z => ?_, fun z => ?_, fun z => ?_, fun z => ?_, fun _ => h⟩ <;> omega
end
-- 43.rowsI.lean.txt
section
theorem Ty.a45 {w : List sx_C} (h : Ty w) : w[45]? = some (.inl (0, ia w 45)) ∧ (ia w 45).length = 48 := by
  have e := Ty.ai (a := 45) (l0 := List.replicate 48 0) h rfl
  rw [List.length_replicate] at e
  exact e
theorem Ty.a95 {w : List sx_C} (h : Ty w) : w[95]? = some (.inl (1, ia w 95)) ∧ (ia w 95).length = 48 := by
  have e := Ty.ai (a := 95) (l0 := List.replicate 48 0) h rfl
  rw [List.length_replicate] at e
  exact e
theorem Ty.a97 {w : List sx_C} (h : Ty w) : w[97]? = some (.inl (2, ia w 97)) ∧ (ia w 97).length = 120 := by
  have e := Ty.ai (a := 97) (l0 := List.replicate 120 0) h rfl
  rw [List.length_replicate] at e
  exact e
theorem Ty.a99 {w : List sx_C} (h : Ty w) : w[99]? = some (.inl (0, ia w 99)) ∧ (ia w 99).length = 7 := by
  have e := Ty.ai (a := 99) (l0 := List.replicate 7 0) h rfl
  rw [List.length_replicate] at e
  exact e
theorem Ty.a100 {w : List sx_C} (h : Ty w) : w[100]? = some (.inl (0, ia w 100)) ∧ (ia w 100).length = 48 := by
  have e := Ty.ai (a := 100) (l0 := List.replicate 48 0) h rfl
  rw [List.length_replicate] at e
  exact e
theorem Ty.a101 {w : List sx_C} (h : Ty w) : w[101]? = some (.inl (0, ia w 101)) ∧ (ia w 101).length = 48 := by
  have e := Ty.ai (a := 101) (l0 := List.replicate 48 0) h rfl
  rw [List.length_replicate] at e
  exact e
theorem Ty.a102 {w : List sx_C} (h : Ty w) : w[102]? = some (.inl (0, ia w 102)) ∧ (ia w 102).length = 9 := by
  have e := Ty.ai (a := 102) (l0 := List.replicate 9 0) h rfl
  rw [List.length_replicate] at e
  exact e
theorem Ty.a112 {w : List sx_C} (h : Ty w) : w[112]? = some (.inl (0, ia w 112)) ∧ (ia w 112).length = 172 := by
  have e := Ty.ai (a := 112) h rfl
  exact e
theorem Ty.a113 {w : List sx_C} (h : Ty w) : w[113]? = some (.inl (0, ia w 113)) ∧ (ia w 113).length = 172 := by
  have e := Ty.ai (a := 113) (l0 := List.replicate 172 0) h rfl
  rw [List.length_replicate] at e
  exact e
theorem Ty.a114 {w : List sx_C} (h : Ty w) : w[114]? = some (.inl (0, ia w 114)) ∧ (ia w 114).length = 172 := by
  have e := Ty.ai (a := 114) (l0 := List.replicate 172 0) h rfl
  rw [List.length_replicate] at e
  exact e
theorem Ty.a115 {w : List sx_C} (h : Ty w) : w[115]? = some (.inl (0, ia w 115)) ∧ (ia w 115).length = 172 := by
  have e := Ty.ai (a := 115) (l0 := List.replicate 172 0) h rfl
  rw [List.length_replicate] at e
  exact e
theorem Ty.a116 {w : List sx_C} (h : Ty w) : w[116]? = some (.inl (0, ia w 116)) ∧ (ia w 116).length = 7 := by
  have e := Ty.ai (a := 116) (l0 := List.replicate 7 0) h rfl
  rw [List.length_replicate] at e
  exact e
theorem Ty.a117 {w : List sx_C} (h : Ty w) : w[117]? = some (.inl (0, ia w 117)) ∧ (ia w 117).length = 48 := by
  have e := Ty.ai (a := 117) (l0 := List.replicate 48 0) h rfl
  rw [List.length_replicate] at e
  exact e
theorem Ty.a118 {w : List sx_C} (h : Ty w) : w[118]? = some (.inl (1, ia w 118)) ∧ (ia w 118).length = 48 := by
  have e := Ty.ai (a := 118) (l0 := List.replicate 48 0) h rfl
  rw [List.length_replicate] at e
  exact e
theorem Ty.a119 {w : List sx_C} (h : Ty w) : w[119]? = some (.inl (0, ia w 119)) ∧ (ia w 119).length = 9 := by
  have e := Ty.ai (a := 119) (l0 := List.replicate 9 0) h rfl
  rw [List.length_replicate] at e
  exact e
theorem Ty.a120 {w : List sx_C} (h : Ty w) : w[120]? = some (.inl (1, ia w 120)) ∧ (ia w 120).length = 48 := by
  have e := Ty.ai (a := 120) (l0 := List.replicate 48 0) h rfl
  rw [List.length_replicate] at e
  exact e
theorem Ty.a121 {w : List sx_C} (h : Ty w) : w[121]? = some (.inl (0, ia w 121)) ∧ (ia w 121).length = 120 := by
  have e := Ty.ai (a := 121) (l0 := List.replicate 120 0) h rfl
  rw [List.length_replicate] at e
  exact e
theorem Ty.a122 {w : List sx_C} (h : Ty w) : w[122]? = some (.inl (0, ia w 122)) ∧ (ia w 122).length = 4 := by
  have e := Ty.ai (a := 122) (l0 := List.replicate 4 0) h rfl
  rw [List.length_replicate] at e
  exact e
theorem Ty.a123 {w : List sx_C} (h : Ty w) : w[123]? = some (.inl (0, ia w 123)) ∧ (ia w 123).length = 4 := by
  have e := Ty.ai (a := 123) (l0 := List.replicate 4 0) h rfl
  rw [List.length_replicate] at e
  exact e
theorem Ty.a124 {w : List sx_C} (h : Ty w) : w[124]? = some (.inr (.inl (3, ja w 124))) ∧ (ja w 124).length = 160 := by
  have e := Ty.aj (a := 124) (l0 := List.replicate 160 0) h rfl
  rw [List.length_replicate] at e
  exact e
theorem Ty.a125 {w : List sx_C} (h : Ty w) : w[125]? = some (.inr (.inl (3, ja w 125))) ∧ (ja w 125).length = 40 := by
  have e := Ty.aj (a := 125) (l0 := List.replicate 40 0) h rfl
  rw [List.length_replicate] at e
  exact e
theorem Ty.aN {w : List sx_C} (h : Ty w) {s : Nat} (hs : s < 4) : w[104 + 2 * s]? = some (.inr (.inl (3, ja w (104 + 2 * s)))) ∧ (ja w (104 + 2 * s)).length = 40 := by
  rcases (show s = 0 ∨ s = 1 ∨ s = 2 ∨ s = 3 by omega) with rfl | rfl | rfl | rfl
  · exact h.aj (t := 3) (l0 := List.replicate 40 0) rfl
  · exact h.aj (t := 3) (l0 := List.replicate 40 0) rfl
  · exact h.aj (t := 3) (l0 := List.replicate 40 0) rfl
  · exact h.aj (t := 3) (l0 := List.replicate 40 0) rfl
theorem e_rows0 : ∀ t, t < 48 → (match (sx_w0[47 + t]? : Option sx_C) with
  | some c => sx_eqC c (.inl (0, List.replicate 48 0))
  | none => false) = true := by decide +kernel
theorem Ty.aR {w : List sx_C} (h : Ty w) {t : Nat} (ht : t < 48) : w[47 + t]? = some (.inl (0, ia w (47 + t))) ∧ (ia w (47 + t)).length = 48 := by
  have h1 := e_rows0 t ht
  split at h1
  · rename_i c hc
    rw [sx_eqC_of h1] at hc
    have e := h.ai hc
    rw [List.length_replicate] at e
    exact e
  · cases h1
theorem sh_set {t i : Nat} {l : List Int32} {v : Int32} : sx_sh (.inl (t, l.set i v)) = sx_sh (.inl (t, l)) := by
  show (.inl (t, List.replicate (l.set i v).length 0) : sx_C) = .inl (t, List.replicate l.length 0)
  rw [List.length_set]
theorem shj_set {t i : Nat} {l : List Int64} {v : Int64} : sx_sh (.inr (.inl (t, l.set i v))) = sx_sh (.inr (.inl (t, l))) := by
  show (.inr (.inl (t, List.replicate (l.set i v).length 0)) : sx_C) = .inr (.inl (t, List.replicate l.length 0))
  rw [List.length_set]
def gR (k : Nat) (v : Int32) : Prop := match k with
  | 0 => inR v 5
  | 1 => inR v 1
  | 2 => inR v 47
  | 3 => inR v 3
  | 4 => True
  | _ => inR v 1
def cR (k : Nat) (v : Int32) : Prop := match k with
  | 3 => inR v 10
  | 5 => inR v 9
  | _ => True
theorem WI.g {w : List sx_C} (h : WI w) {a : Nat} (ha : gAd a) : gR 0 (fi w a 0) ∧ gR 1 (fi w a 1) ∧ gR 2 (fi w a 2) ∧ gR 3 (fi w a 3) ∧ gR 5 (fi w a 5) := (h.2 a _ (h.1.oG ha)).1 ha
theorem WI.gk {w : List sx_C} (h : WI w) {a k : Nat} (ha : gAd a) (hk : k < 6) : gR k (fi w a k) := by
  have q := h.g ha
  match k, hk with
  | 0, _ => exact q.1
  | 1, _ => exact q.2.1
  | 2, _ => exact q.2.2.1
  | 3, _ => exact q.2.2.2.1
  | 4, _ => trivial
  | 5, _ => exact q.2.2.2.2
theorem WI.c {w : List sx_C} (h : WI w) {A : Nat} (hA : isA A) : inR (fi w A 3) 10 ∧ inR (fi w A 5) 9 := (h.2 A _ (h.1.oC hA)).2.1 hA
theorem WI.st {w : List sx_C} (h : WI w) {A c : Nat} (hA : isA A) (hc : c < 48) : inR ((ia w (A + 1)).getD c 0) 3 := (h.2 (A + 1) _ (h.1.aS hA).1).2.2.1 (by unfold isA at hA; omega) c hc
theorem WI.di {w : List sx_C} (h : WI w) {A c : Nat} (hA : isA A) (hc : c < 9) : inR ((ia w (A + 3)).getD c 0) 47 := (h.2 (A + 3) _ (h.1.aD hA).1).2.2.2.1 (by unfold isA at hA; omega) c hc
theorem WI.kp {w : List sx_C} (h : WI w) : inR (fi w 0 3) 1 := (h.2 0 _ h.1.o0).2.2.2.2.1 rfl
theorem WI.t {w : List sx_C} (h : WI w) : inR (fi w 96 1) 120 ∧ inR (fi w 96 3) 120 ∧ inR (fi w 96 4) 120 := (h.2 96 _ h.1.o96).2.2.2.2.2.1 rfl
theorem WI.sh {w : List sx_C} (h : WI w) {s : Nat} (hs : s < 4) : inR (fi w (103 + 2 * s) 2) 40 := (h.2 _ _ (h.1.oS hs)).2.2.2.2.2.2.1 (by omega)
theorem WI.m {w : List sx_C} (h : WI w) : inR (fi w 111 4) 1 ∧ inR (fi w 111 11) 120 ∧ inR (fi w 111 12) 120 := (h.2 111 _ h.1.o111).2.2.2.2.2.2.2.1 rfl
theorem WI.s {w : List sx_C} (h : WI w) : sOK (ia w 112) := (h.2 112 _ h.1.a112.1).2.2.2.2.2.2.2.2.1 (Or.inl rfl)
theorem WI.l {w : List sx_C} (h : WI w) {k : Nat} (hk : k < 4) : inR ((ia w 123).getD k 0) 40 := (h.2 123 _ h.1.a123.1).2.2.2.2.2.2.2.2.2 rfl k hk
theorem inR.set {l : List Int32} {i n m : Nat} {v : Int32} (h : ∀ k, k < m → inR (l.getD k 0) n) (hv : inR v n) : ∀ k, k < m → inR ((l.set i v).getD k 0) n := by
  intro k hk
  rw [List.getD_eq_getElem?_getD, List.getElem?_set]
  split
  · split
    · exact hv
    · exact ⟨0, Nat.zero_le _, rfl⟩
  · rw [← List.getD_eq_getElem?_getD]
    exact h k hk
theorem inR.bo {v : Int32} (h : inR v 1) : (v == 0 || v == 1) = true := by
  obtain ⟨j, hj, rfl⟩ := h
  rcases (show j = 0 ∨ j = 1 by omega) with rfl | rfl <;> decide
section SXI
variable {xs : Option (List Int32)} {d mi pc pc2 a idx p : Nat} {ls : sx_L} {r : List Value} {w w0 : List sx_C} {P : Option Value → List sx_C → Prop}
theorem sx_RP.gg {k : Nat} (hI : WI w) (ha : gAd a) (hi : sx_ins mi pc = some (.getfield idx, 3)) (hq : sx_lk (sx_fl (sx_own mi)) idx = some (2, k, p)) (hk : k < 6) (hp : pc + 3 = pc2) (kk : sx_RP xs d mi pc2 ls (.int (fi w a k) :: r) w P) : sx_RP xs d mi pc ls (.ref a :: r) w P := by
  refine sx_RP.gf (v := .int (fi w a k)) hi hq (hI.1.oG ha) rfl ?_ hp kk
  match k, hk with
  | 0, _ => rfl
  | 1, _ => rfl
  | 2, _ => rfl
  | 3, _ => rfl
  | 4, _ => rfl
  | 5, _ => rfl
theorem sx_RP.gc {k : Nat} (hI : WI w) (ha : isA a) (hi : sx_ins mi pc = some (.getfield idx, 3)) (hq : sx_lk (sx_fl (sx_own mi)) idx = some (1, k, p)) (hk : k = 3 ∨ (5 ≤ k ∧ k < 11)) (hp : pc + 3 = pc2) (kk : sx_RP xs d mi pc2 ls (.int (fi w a k) :: r) w P) : sx_RP xs d mi pc ls (.ref a :: r) w P := by
  refine sx_RP.gf (v := .int (fi w a k)) hi hq (hI.1.oC ha) rfl ?_ hp kk
  rcases (show k = 3 ∨ k = 5 ∨ k = 6 ∨ k = 7 ∨ k = 8 ∨ k = 9 ∨ k = 10 by omega) with rfl | rfl | rfl | rfl | rfl | rfl | rfl <;> rfl
theorem sx_RP.gw (hI : WI w) (ha : isA a) (hi : sx_ins mi pc = some (.getfield idx, 3)) (hq : sx_lk (sx_fl (sx_own mi)) idx = some (1, 1, p)) (hp : pc + 3 = pc2) (kk : sx_RP xs d mi pc2 ls (.long (fj w a 1) :: r) w P) : sx_RP xs d mi pc ls (.ref a :: r) w P := sx_RP.gf (v := .long (fj w a 1)) hi hq (hI.1.oC ha) rfl rfl hp kk
theorem sx_RP.gref {k b : Nat} (hI : WI w) (ha : isA a) (hi : sx_ins mi pc = some (.getfield idx, 3)) (hq : sx_lk (sx_fl (sx_own mi)) idx = some (1, k, p)) (hk : (k = 0 ∧ b = a + 1) ∨ (k = 2 ∧ b = a + 2) ∨ (k = 4 ∧ b = a + 3)) (hp : pc + 3 = pc2) (kk : sx_RP xs d mi pc2 ls (.ref b :: r) w P) : sx_RP xs d mi pc ls (.ref a :: r) w P := by
  refine sx_RP.gf (v := .ref b) hi hq (hI.1.oC ha) rfl ?_ hp kk
  rcases hk with ⟨rfl, rfl⟩ | ⟨rfl, rfl⟩ | ⟨rfl, rfl⟩ <;> rfl
theorem sx_RP.gt {k : Nat} (hI : WI w) (hi : sx_ins mi pc = some (.getfield idx, 3)) (hq : sx_lk (sx_fl (sx_own mi)) idx = some (4, k, p)) (hk : 1 ≤ k ∧ k < 6) (hp : pc + 3 = pc2) (kk : sx_RP xs d mi pc2 ls (.int (fi w 96 k) :: r) w P) : sx_RP xs d mi pc ls (.ref 96 :: r) w P := by
  refine sx_RP.gf (v := .int (fi w 96 k)) hi hq hI.1.o96 rfl ?_ hp kk
  rcases (show k = 1 ∨ k = 2 ∨ k = 3 ∨ k = 4 ∨ k = 5 by omega) with rfl | rfl | rfl | rfl | rfl <;> rfl
def tR (k : Nat) (v : Int32) : Prop := match k with
  | 3 => inR v 120
  | 4 => inR v 120
  | _ => True
theorem sx_RP.stS {i x : Int32} (hI : WI w) (hE : EC w0 w) {A : Nat} (hA : isA A) (hi : sx_ins mi pc = some (.iastore, 1)) (hn : sx_in i 48 = true) (hv : inR x 3) (hp : pc + 1 = pc2) (kk : ∀ w2, WI w2 → EC w0 w2 → sx_RP xs d mi pc2 ls r w2 P) : sx_RP xs d mi pc ls (.int x :: .int i :: .ref (A + 1) :: r) w P := by
  have hw := hI.1.aS hA
  have h2 : A + 1 < 111 ∧ A + 1 ≠ 0 ∧ A + 1 ≠ 96 ∧ A + 1 ≠ 103 ∧ A + 1 ≠ 105 ∧ A + 1 ≠ 107 ∧ A + 1 ≠ 109 ∧ A + 1 ≠ 111 ∧ A + 1 ≠ 122 ∧ A + 1 ≠ 123 := by unfold isA at hA; omega
  exact sx_RP.ist hi hw.1 hw.2 hn rfl rfl hp (kk _ (hI.set hw.1 sh_set (cOK.st hA (inR.set (fun k hk => hI.st hA hk) hv))) (hE.set hw.1 h2.1 (kp_n h2.2)))
theorem sx_RP.callp {i : Instr} {mi2 : Nat} {st as as2 rest rest2 : List Value} {Q : Option Value → List sx_C → Prop} (hi : sx_ins mi pc = some (i, 3)) (hs : sx_step false xs mi pc i 3 ls st w = none) (hv : sx_inv mi i st w = some (mi2, as, rest)) (hm : Nat.ble (as.map (fun v => v.category)).sum (sx_maxL mi2) = true) (hr : rest = rest2) (ha : as = as2) (hc : sx_RP xs d mi2 0 (lv_args 0 as2) [] w Q) (hp : pc + 3 = pc2) (k : ∀ r2 w4, Q r2 w4 → sx_RP xs (d + 1) mi pc2 ls (r2.toList ++ rest2) w4 P) : sx_RP xs (d + 1) mi pc ls st w P := by
  subst hr
  subst ha
  subst hp
  refine sx_RP.call hi hs hv hm (hc.mono (fun r2 w4 q => k r2 w4 q))
end SXI
end
-- 43b.more.lean.txt
section
theorem nI_mul (a b : Nat) : nI a * nI b = nI (a * b) := (Int32.ofNat_mul a b).symm
theorem nI_sub {a b : Nat} (h : b ≤ a) : nI a - nI b = nI (a - b) := by
  have e : nI (a - b) + nI b = nI a := by rw [nI_add, Nat.sub_add_cancel h]
  rw [← e, Int32.add_sub_cancel]
theorem sw_cases {n : Nat} (x : Int32) : (x.toInt < 0 ∨ (n : Int) < x.toInt) ∨ ∃ j, j ≤ n ∧ x = nI j := by
  by_cases h : x.toInt < 0 ∨ (n : Int) < x.toInt
  · exact Or.inl h
  · right
    have h1 : ¬ x < 0 := by
      intro z
      have := Int32.lt_iff_toInt_lt.mp z
      have e0 : (0 : Int32).toInt = 0 := rfl
      omega
    obtain ⟨j, hj, rfl⟩ := nI_of h1
    refine ⟨j, ?_, rfl⟩
    rw [nI_toInt hj] at h
    omega
theorem in_cases (x lo hi : Int32) {n m : Nat} (hl : lo = nI m) (hh : hi = nI n) (hm : m < 2 ^ 31) (hn : n < 2 ^ 31) : ¬ (lo ≤ x ∧ x ≤ hi) ∨ ∃ j, m ≤ j ∧ j ≤ n ∧ x = nI j := by
  by_cases h : lo ≤ x ∧ x ≤ hi
  · right
    subst hl
    subst hh
    obtain ⟨j, hj, rfl⟩ := nI_of2 (M := nI n) (n := n) (x := x) (nI_toInt hn) (fun z => by
      have h1 := Int32.le_iff_toInt_le.mp h.1
      have h2 := Int32.lt_iff_toInt_lt.mp z
      rw [nI_toInt hm] at h1
      have e0 : (0 : Int32).toInt = 0 := rfl
      omega) h.2
    exact ⟨j, (nI_leI hm (by omega)).mp h.1, hj, rfl⟩
  · exact Or.inl h
theorem bo_ret {v : Int32} {mi : Nat} (hm : (sx_M mi).2.2.2.1 = some .boolean) (h : inR v 1) : sx_ret mi .ireturn [.int v] = some (some (.int v)) := by
  unfold sx_ret
  rw [hm]
  simp only
  rw [inR.bo h]
  rfl
section SXM
variable {xs : Option (List Int32)} {d mi pc pc2 a idx p : Nat} {ls : sx_L} {r : List Value} {w w0 : List sx_C} {P : Option Value → List sx_C → Prop}
theorem sx_RP.swo {n t : Nat} {dflt lo hi : Int} {offs : Array Int} {x : Int32} (hi1 : sx_ins mi pc = some (.tableswitch dflt lo hi offs, n)) (h : x.toInt < lo ∨ hi < x.toInt) (ht : sx_to pc dflt = some t) (k : sx_RP xs d mi t ls r w P) : sx_RP xs d mi pc ls (.int x :: r) w P := by
  refine sx_RP.step hi1 (show sx_sw dflt lo hi offs ls pc (.int x :: r) w = some (t, ls, r, w) from ?_) k
  unfold sx_sw
  simp only
  rw [if_pos h, ht]
theorem sx_RP.idiv {x y : Int32} (hi : sx_ins mi pc = some (.idiv, 1)) (hy : ¬ y = 0) (hp : pc + 1 = pc2) (k : sx_RP xs d mi pc2 ls (.int (x / y) :: r) w P) : sx_RP xs d mi pc ls (.int y :: .int x :: r) w P := by
  subst hp
  refine sx_RP.step hi (show sx_iz (fun x y => x / y) ls pc (.int y :: .int x :: r) w = some (pc + 1, ls, .int (x / y) :: r, w) from ?_) k
  unfold sx_iz
  simp only
  rw [if_neg hy]
theorem sx_RP.bld2 {i : Int32} {l : List Int32} {c n : Nat} (hi : sx_ins mi pc = some (.baload, 1)) (hw : w[a]? = some (.inl (2, l))) (hl : l.length = n) (hn : sx_in i n = true) (hc : i.toNatClampNeg = c) (hp : pc + 1 = pc2) (k : sx_RP xs d mi pc2 ls (.int (l.getD c 0) :: r) w P) : sx_RP xs d mi pc ls (.int i :: .ref a :: r) w P := by
  subst hc
  subst hl
  subst hp
  refine sx_RP.step hi (show sx_bald ls pc (.int i :: .ref a :: r) w = some (pc + 1, ls, .int (l.getD i.toNatClampNeg 0) :: r, w) from ?_) k
  unfold sx_bald
  simp only
  rw [hw]
  simp only
  unfold sx_al
  rw [hn]
  rfl
theorem sx_RP.lld {i : Int32} {l : List Int64} {c n : Nat} (hi : sx_ins mi pc = some (.laload, 1)) (hw : w[a]? = some (.inr (.inl (3, l)))) (hl : l.length = n) (hn : sx_in i n = true) (hc : i.toNatClampNeg = c) (hp : pc + 1 = pc2) (k : sx_RP xs d mi pc2 ls (.long (l.getD c 0) :: r) w P) : sx_RP xs d mi pc ls (.int i :: .ref a :: r) w P := by
  subst hc
  subst hl
  subst hp
  refine sx_RP.step hi (show sx_lald ls pc (.int i :: .ref a :: r) w = some (pc + 1, ls, .long (l.getD i.toNatClampNeg 0) :: r, w) from ?_) k
  unfold sx_lald
  simp only
  rw [hw]
  simp only
  rw [hn]
  rfl
end SXM
end
