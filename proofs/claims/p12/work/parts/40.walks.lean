-- loses, nearest, walks by sound
set_option maxRecDepth 20000 in
set_option maxHeartbeats 4000000 in
theorem cp_146 {xs : Option (List Int32)} {d : Nat} {w : List sx_C} {mk mt mh mf mv : Int32} {s : List Int32} (h111 : w[111]? = some (.inr (.inr (.inr (6, [.ref 112, .ref 113, .ref 114, .ref 115, .int mk, .ref 116, .ref 117, .ref 118, .ref 119, .ref 120, .ref 121, .int mt, .int mh, .int mf, .int mv, .ref 122, .ref 123, .ref 124, .ref 125]))))) (h112 : w[112]? = some (.inl (0, s))) (hs : s.length = 172) {c : Nat} (hc : c < 48) : sx_RU xs d 146 0 (lv_args 0 [.ref 111, .int (nI c)]) [] w (some (.int (crF (s.getD (7 + c) 0)))) w := by
  have h : sx_RP xs d 146 0 (lv_args 0 [.ref 111, .int (nI c)]) [] w (fun r w2 => r = (some (.int (crF (s.getD (7 + c) 0)))) ∧ w2 = w) := by
    refine sx_RP.step (pc2 := 1) (ls2 := [(0, .ref 111), (1, .int (nI c))]) (st2 := [.ref 111]) (w3 := w) rfl rfl ?_
    refine sx_RP.gf (v := .ref 112) rfl rfl h111 rfl rfl (show _ = 4 from rfl) ?_
    refine sx_RP.step (pc2 := 6) (ls2 := [(0, .ref 111), (1, .int (nI c))]) (st2 := [.int 7, .ref 112]) (w3 := w) rfl rfl ?_
    refine sx_RP.step (pc2 := 7) (ls2 := [(0, .ref 111), (1, .int (nI c))]) (st2 := [.int (nI c), .int 7, .ref 112]) (w3 := w) rfl rfl ?_
    refine sx_RP.step (pc2 := 8) (ls2 := [(0, .ref 111), (1, .int (nI c))]) (st2 := [.int (7 + (nI c)), .ref 112]) (w3 := w) rfl rfl ?_
    rw [cl_7 c]
    refine sx_RP.ild (c := (7 + c)) rfl h112 hs (sx_in_nI (show 7 + c < 172 by omega) (by decide)) (nI_clamp (by have := (show 7 + c < 172 by omega); omega)) (show _ = 9 from rfl) ?_
    refine sx_RP.step (pc2 := 10) (ls2 := [(2, .int (s.getD (7 + c) 0)), (0, .ref 111), (1, .int (nI c))]) (st2 := []) (w3 := w) rfl rfl ?_
    refine sx_RP.step (pc2 := 11) (ls2 := [(2, .int (s.getD (7 + c) 0)), (0, .ref 111), (1, .int (nI c))]) (st2 := [.int (s.getD (7 + c) 0)]) (w3 := w) rfl rfl ?_
    refine sx_RP.step (pc2 := 12) (ls2 := [(2, .int (s.getD (7 + c) 0)), (0, .ref 111), (1, .int (nI c))]) (st2 := [.int 1, .int (s.getD (7 + c) 0)]) (w3 := w) rfl rfl ?_
    refine sx_RP.br (p1 := 19) (l1 := [(2, .int (s.getD (7 + c) 0)), (0, .ref 111), (1, .int (nI c))]) (s1 := []) (v1 := w) (p2 := 15) (l2 := [(2, .int (s.getD (7 + c) 0)), (0, .ref 111), (1, .int (nI c))]) (s2 := []) (v2 := w) rfl rfl (fun q1 => ?_) (fun q1 => ?_)
    · replace q1 := of_decide_eq_true q1
      refine sx_RP.step (pc2 := 20) (ls2 := [(2, .int (s.getD (7 + c) 0)), (0, .ref 111), (1, .int (nI c))]) (st2 := [.int (s.getD (7 + c) 0)]) (w3 := w) rfl rfl ?_
      refine sx_RP.step (pc2 := 21) (ls2 := [(2, .int (s.getD (7 + c) 0)), (0, .ref 111), (1, .int (nI c))]) (st2 := [.int 3, .int (s.getD (7 + c) 0)]) (w3 := w) rfl rfl ?_
      refine sx_RP.br (p1 := 28) (l1 := [(2, .int (s.getD (7 + c) 0)), (0, .ref 111), (1, .int (nI c))]) (s1 := []) (v1 := w) (p2 := 24) (l2 := [(2, .int (s.getD (7 + c) 0)), (0, .ref 111), (1, .int (nI c))]) (s2 := []) (v2 := w) rfl rfl (fun q2 => ?_) (fun q2 => ?_)
      · replace q2 := of_decide_eq_true q2
        refine sx_RP.step (pc2 := 29) (ls2 := [(2, .int (s.getD (7 + c) 0)), (0, .ref 111), (1, .int (nI c))]) (st2 := [.int 1]) (w3 := w) rfl rfl ?_
        refine sx_RP.ret (r := (some (.int 1))) rfl rfl ?_
        exact ⟨congrArg (fun z => some (Value.int z)) (show _ = crF (s.getD (7 + c) 0) from by rw [crF]; simp only [if_neg q1, if_neg q2]), rfl⟩
      · replace q2 := Decidable.not_not.mp (of_decide_eq_false q2)
        refine sx_RP.step (pc2 := 25) (ls2 := [(2, .int (s.getD (7 + c) 0)), (0, .ref 111), (1, .int (nI c))]) (st2 := [.int 4]) (w3 := w) rfl rfl ?_
        refine sx_RP.step (pc2 := 29) (ls2 := [(2, .int (s.getD (7 + c) 0)), (0, .ref 111), (1, .int (nI c))]) (st2 := [.int 4]) (w3 := w) rfl rfl ?_
        refine sx_RP.ret (r := (some (.int 4))) rfl rfl ?_
        exact ⟨congrArg (fun z => some (Value.int z)) (show _ = crF (s.getD (7 + c) 0) from by rw [crF]; simp only [if_neg q1, if_pos q2]), rfl⟩
    · replace q1 := Decidable.not_not.mp (of_decide_eq_false q1)
      refine sx_RP.step (pc2 := 16) (ls2 := [(2, .int (s.getD (7 + c) 0)), (0, .ref 111), (1, .int (nI c))]) (st2 := [.int 2]) (w3 := w) rfl rfl ?_
      refine sx_RP.step (pc2 := 29) (ls2 := [(2, .int (s.getD (7 + c) 0)), (0, .ref 111), (1, .int (nI c))]) (st2 := [.int 2]) (w3 := w) rfl rfl ?_
      refine sx_RP.ret (r := (some (.int 2))) rfl rfl ?_
      exact ⟨congrArg (fun z => some (Value.int z)) (show _ = crF (s.getD (7 + c) 0) from by rw [crF]; simp only [if_pos q1]), rfl⟩
  obtain ⟨r, w2, h1, rfl, rfl⟩ := h
  exact h1
theorem cp_146x {xs : Option (List Int32)} {d : Nat} {w : List sx_C} {mk mt mh mf mv : Int32} {s : List Int32} (h111 : w[111]? = some (.inr (.inr (.inr (6, [.ref 112, .ref 113, .ref 114, .ref 115, .int mk, .ref 116, .ref 117, .ref 118, .ref 119, .ref 120, .ref 121, .int mt, .int mh, .int mf, .int mv, .ref 122, .ref 123, .ref 124, .ref 125]))))) (h112 : w[112]? = some (.inl (0, s))) (hs : s.length = 172) {x : Int32} (hx : sx_in x 48 = true) : sx_RU xs d 146 0 (lv_args 0 [.ref 111, .int x]) [] w (some (.int (crF (s.getD (7 + x.toNatClampNeg) 0)))) w := by
  obtain ⟨c, hc, rfl, e⟩ := sx_in_c hx
  rw [e]
  exact cp_146 h111 h112 hs hc
def nr1 (wy su : List Int32) (b : Int32) (c : Nat) : Int32 := if ¬ su.getD c 0 = 0 then b else if wy.getD c 0 < 0 then b else if b < 0 then nI c else if wy.getD b.toNatClampNeg 0 ≤ wy.getD c 0 then b else nI c
def nrF (wy su : List Int32) : Nat → Nat → Int32 → Int32
  | 0, _, b => b
  | k + 1, c, b => nrF wy su k (c + 1) (nr1 wy su b c)
/-- none, or a cell that isn't sure yet -/
def nrOK (su : List Int32) (b : Int32) : Prop := b < 0 ∨ ∃ c, c < 48 ∧ b = nI c ∧ su.getD c 0 = 0
theorem nr1_ok {wy su : List Int32} {b : Int32} {c : Nat} (hc : c < 48) (h : nrOK su b) : nrOK su (nr1 wy su b c) := by
  unfold nr1
  (repeat' split)
  · exact h
  · exact h
  · exact Or.inr ⟨c, hc, rfl, Decidable.not_not.mp (by assumption)⟩
  · exact h
  · exact Or.inr ⟨c, hc, rfl, Decidable.not_not.mp (by assumption)⟩
theorem nrF_ok {wy su : List Int32} : ∀ (k c : Nat) (b : Int32), c + k = 48 → nrOK su b → nrOK su (nrF wy su k c b)
  | 0, _, _, _, h => h
  | k + 1, c, b, e, h => nrF_ok k (c + 1) _ (by omega) (nr1_ok (by omega) h)
theorem nrOK.at {su : List Int32} {b : Int32} (h : nrOK su b) (hn : ¬ b < 0) : sx_in b 48 = true := by
  rcases h with h | ⟨c, hc, rfl, _⟩
  · exact absurd h hn
  · exact sx_in_nI hc (by decide)
set_option maxRecDepth 20000 in
set_option maxHeartbeats 4000000 in
theorem cq_149 {xs : Option (List Int32)} {d : Nat} {w : List sx_C} {P : Option Value → List sx_C → Prop} {mk mt mh mf mv : Int32} {wy su : List Int32} (h111 : w[111]? = some (.inr (.inr (.inr (6, [.ref 112, .ref 113, .ref 114, .ref 115, .int mk, .ref 116, .ref 117, .ref 118, .ref 119, .ref 120, .ref 121, .int mt, .int mh, .int mf, .int mv, .ref 122, .ref 123, .ref 124, .ref 125]))))) (h117 : w[117]? = some (.inl (0, wy))) (h118 : w[118]? = some (.inl (1, su))) (hwy : wy.length = 48) (hsu : su.length = 48) {b : Int32} {c : Nat} (hb : nrOK su b) (hc : c < 48) (k : sx_RP xs d 149 4 [(0, .ref 111), (1, .int (nr1 wy su b c)), (2, .int (nI (c + 1)))] [] w P) : sx_RP xs d 149 4 [(0, .ref 111), (1, .int b), (2, .int (nI c))] [] w P := by
  refine sx_RP.step (pc2 := 5) (ls2 := [(0, .ref 111), (1, .int b), (2, .int (nI c))]) (st2 := [.int (nI c)]) (w3 := w) rfl rfl ?_
  refine sx_RP.step (pc2 := 7) (ls2 := [(0, .ref 111), (1, .int b), (2, .int (nI c))]) (st2 := [.int 48, .int (nI c)]) (w3 := w) rfl rfl ?_
  refine sx_RP.br (p2 := 10) (l2 := [(0, .ref 111), (1, .int b), (2, .int (nI c))]) (s2 := []) (v2 := w) rfl rfl (fun q => absurd (of_decide_eq_true q) (nI_ge (b := 48) hc (by omega))) (fun _ => ?_)
  refine sx_RP.step (pc2 := 11) (ls2 := [(0, .ref 111), (1, .int b), (2, .int (nI c))]) (st2 := [.ref 111]) (w3 := w) rfl rfl ?_
  refine sx_RP.gf (v := .ref 118) rfl rfl h111 rfl rfl (show _ = 14 from rfl) ?_
  refine sx_RP.step (pc2 := 15) (ls2 := [(0, .ref 111), (1, .int b), (2, .int (nI c))]) (st2 := [.int (nI c), .ref 118]) (w3 := w) rfl rfl ?_
  refine sx_RP.bld1 (c := c) rfl h118 hsu (sx_in_nI hc (by decide)) (nI_clamp (by have := hc; omega)) (show _ = 16 from rfl) ?_
  refine sx_RP.br (p1 := 32) (l1 := [(0, .ref 111), (1, .int b), (2, .int (nI c))]) (s1 := []) (v1 := w) (p2 := 19) (l2 := [(0, .ref 111), (1, .int b), (2, .int (nI c))]) (s2 := []) (v2 := w) rfl rfl (fun q1 => ?_) (fun q1 => ?_)
  · replace q1 := of_decide_eq_true q1
    refine sx_RP.step (pc2 := 33) (ls2 := [(0, .ref 111), (1, .int b), (2, .int (nI c))]) (st2 := [.int 0]) (w3 := w) rfl rfl ?_
    refine sx_RP.step (pc2 := 34) (ls2 := [(3, .int 0), (0, .ref 111), (1, .int b), (2, .int (nI c))]) (st2 := []) (w3 := w) rfl rfl ?_
    refine sx_RP.step (pc2 := 35) (ls2 := [(3, .int 0), (0, .ref 111), (1, .int b), (2, .int (nI c))]) (st2 := [.int 0]) (w3 := w) rfl rfl ?_
    refine sx_RP.step (pc2 := 61) (ls2 := [(3, .int 0), (0, .ref 111), (1, .int b), (2, .int (nI c))]) (st2 := []) (w3 := w) rfl rfl ?_
    refine sx_RP.step (pc2 := 62) (ls2 := [(3, .int 0), (0, .ref 111), (1, .int b), (2, .int (nI c))]) (st2 := [.int b]) (w3 := w) rfl rfl ?_
    refine sx_RP.step (pc2 := 63) (ls2 := [(1, .int b), (3, .int 0), (0, .ref 111), (2, .int (nI c))]) (st2 := []) (w3 := w) rfl rfl ?_
    refine sx_RP.step (pc2 := 66) (ls2 := [(2, .int ((nI c) + 1)), (1, .int b), (3, .int 0), (0, .ref 111)]) (st2 := []) (w3 := w) rfl rfl ?_
    refine sx_RP.step (pc2 := 4) (ls2 := [(2, .int ((nI c) + 1)), (1, .int b), (3, .int 0), (0, .ref 111)]) (st2 := []) (w3 := w) rfl rfl ?_
    rw [show nr1 wy su b c = b from by rw [nr1]; simp only [if_pos q1]] at k
    rw [nI_1 c]
    exact sx_RP.ls (sx_lr.cons rfl (sx_lr.cons rfl (sx_lr.cons rfl sx_lr.nil))) k
  · replace q1 := Decidable.not_not.mp (of_decide_eq_false q1)
    refine sx_RP.step (pc2 := 20) (ls2 := [(0, .ref 111), (1, .int b), (2, .int (nI c))]) (st2 := [.ref 111]) (w3 := w) rfl rfl ?_
    refine sx_RP.gf (v := .ref 117) rfl rfl h111 rfl rfl (show _ = 23 from rfl) ?_
    refine sx_RP.step (pc2 := 24) (ls2 := [(0, .ref 111), (1, .int b), (2, .int (nI c))]) (st2 := [.int (nI c), .ref 117]) (w3 := w) rfl rfl ?_
    refine sx_RP.ild (c := c) rfl h117 hwy (sx_in_nI hc (by decide)) (nI_clamp (by have := hc; omega)) (show _ = 25 from rfl) ?_
    refine sx_RP.br (p1 := 32) (l1 := [(0, .ref 111), (1, .int b), (2, .int (nI c))]) (s1 := []) (v1 := w) (p2 := 28) (l2 := [(0, .ref 111), (1, .int b), (2, .int (nI c))]) (s2 := []) (v2 := w) rfl rfl (fun q2 => ?_) (fun q2 => ?_)
    · replace q2 := of_decide_eq_true q2
      refine sx_RP.step (pc2 := 33) (ls2 := [(0, .ref 111), (1, .int b), (2, .int (nI c))]) (st2 := [.int 0]) (w3 := w) rfl rfl ?_
      refine sx_RP.step (pc2 := 34) (ls2 := [(3, .int 0), (0, .ref 111), (1, .int b), (2, .int (nI c))]) (st2 := []) (w3 := w) rfl rfl ?_
      refine sx_RP.step (pc2 := 35) (ls2 := [(3, .int 0), (0, .ref 111), (1, .int b), (2, .int (nI c))]) (st2 := [.int 0]) (w3 := w) rfl rfl ?_
      refine sx_RP.step (pc2 := 61) (ls2 := [(3, .int 0), (0, .ref 111), (1, .int b), (2, .int (nI c))]) (st2 := []) (w3 := w) rfl rfl ?_
      refine sx_RP.step (pc2 := 62) (ls2 := [(3, .int 0), (0, .ref 111), (1, .int b), (2, .int (nI c))]) (st2 := [.int b]) (w3 := w) rfl rfl ?_
      refine sx_RP.step (pc2 := 63) (ls2 := [(1, .int b), (3, .int 0), (0, .ref 111), (2, .int (nI c))]) (st2 := []) (w3 := w) rfl rfl ?_
      refine sx_RP.step (pc2 := 66) (ls2 := [(2, .int ((nI c) + 1)), (1, .int b), (3, .int 0), (0, .ref 111)]) (st2 := []) (w3 := w) rfl rfl ?_
      refine sx_RP.step (pc2 := 4) (ls2 := [(2, .int ((nI c) + 1)), (1, .int b), (3, .int 0), (0, .ref 111)]) (st2 := []) (w3 := w) rfl rfl ?_
      rw [show nr1 wy su b c = b from by rw [nr1]; simp only [if_neg (not_not_intro q1), if_pos q2]] at k
      rw [nI_1 c]
      exact sx_RP.ls (sx_lr.cons rfl (sx_lr.cons rfl (sx_lr.cons rfl sx_lr.nil))) k
    · replace q2 := of_decide_eq_false q2
      refine sx_RP.step (pc2 := 29) (ls2 := [(0, .ref 111), (1, .int b), (2, .int (nI c))]) (st2 := [.int 1]) (w3 := w) rfl rfl ?_
      refine sx_RP.step (pc2 := 33) (ls2 := [(0, .ref 111), (1, .int b), (2, .int (nI c))]) (st2 := [.int 1]) (w3 := w) rfl rfl ?_
      refine sx_RP.step (pc2 := 34) (ls2 := [(3, .int 1), (0, .ref 111), (1, .int b), (2, .int (nI c))]) (st2 := []) (w3 := w) rfl rfl ?_
      refine sx_RP.step (pc2 := 35) (ls2 := [(3, .int 1), (0, .ref 111), (1, .int b), (2, .int (nI c))]) (st2 := [.int 1]) (w3 := w) rfl rfl ?_
      refine sx_RP.step (pc2 := 38) (ls2 := [(3, .int 1), (0, .ref 111), (1, .int b), (2, .int (nI c))]) (st2 := []) (w3 := w) rfl rfl ?_
      refine sx_RP.step (pc2 := 39) (ls2 := [(3, .int 1), (0, .ref 111), (1, .int b), (2, .int (nI c))]) (st2 := [.int b]) (w3 := w) rfl rfl ?_
      refine sx_RP.br (p1 := 57) (l1 := [(3, .int 1), (0, .ref 111), (1, .int b), (2, .int (nI c))]) (s1 := []) (v1 := w) (p2 := 42) (l2 := [(3, .int 1), (0, .ref 111), (1, .int b), (2, .int (nI c))]) (s2 := []) (v2 := w) rfl rfl (fun q3 => ?_) (fun q3 => ?_)
      · replace q3 := of_decide_eq_true q3
        refine sx_RP.step (pc2 := 58) (ls2 := [(3, .int 1), (0, .ref 111), (1, .int b), (2, .int (nI c))]) (st2 := [.int (nI c)]) (w3 := w) rfl rfl ?_
        refine sx_RP.step (pc2 := 62) (ls2 := [(3, .int 1), (0, .ref 111), (1, .int b), (2, .int (nI c))]) (st2 := [.int (nI c)]) (w3 := w) rfl rfl ?_
        refine sx_RP.step (pc2 := 63) (ls2 := [(1, .int (nI c)), (3, .int 1), (0, .ref 111), (2, .int (nI c))]) (st2 := []) (w3 := w) rfl rfl ?_
        refine sx_RP.step (pc2 := 66) (ls2 := [(2, .int ((nI c) + 1)), (1, .int (nI c)), (3, .int 1), (0, .ref 111)]) (st2 := []) (w3 := w) rfl rfl ?_
        refine sx_RP.step (pc2 := 4) (ls2 := [(2, .int ((nI c) + 1)), (1, .int (nI c)), (3, .int 1), (0, .ref 111)]) (st2 := []) (w3 := w) rfl rfl ?_
        rw [show nr1 wy su b c = nI c from by rw [nr1]; simp only [if_neg (not_not_intro q1), if_neg q2, if_pos q3]] at k
        rw [nI_1 c]
        exact sx_RP.ls (sx_lr.cons rfl (sx_lr.cons rfl (sx_lr.cons rfl sx_lr.nil))) k
      · replace q3 := of_decide_eq_false q3
        refine sx_RP.step (pc2 := 43) (ls2 := [(3, .int 1), (0, .ref 111), (1, .int b), (2, .int (nI c))]) (st2 := [.ref 111]) (w3 := w) rfl rfl ?_
        refine sx_RP.gf (v := .ref 117) rfl rfl h111 rfl rfl (show _ = 46 from rfl) ?_
        refine sx_RP.step (pc2 := 47) (ls2 := [(3, .int 1), (0, .ref 111), (1, .int b), (2, .int (nI c))]) (st2 := [.int (nI c), .ref 117]) (w3 := w) rfl rfl ?_
        refine sx_RP.ild (c := c) rfl h117 hwy (sx_in_nI hc (by decide)) (nI_clamp (by have := hc; omega)) (show _ = 48 from rfl) ?_
        refine sx_RP.step (pc2 := 49) (ls2 := [(3, .int 1), (0, .ref 111), (1, .int b), (2, .int (nI c))]) (st2 := [.ref 111, .int (wy.getD c 0)]) (w3 := w) rfl rfl ?_
        refine sx_RP.gf (v := .ref 117) rfl rfl h111 rfl rfl (show _ = 52 from rfl) ?_
        refine sx_RP.step (pc2 := 53) (ls2 := [(3, .int 1), (0, .ref 111), (1, .int b), (2, .int (nI c))]) (st2 := [.int b, .ref 117, .int (wy.getD c 0)]) (w3 := w) rfl rfl ?_
        refine sx_RP.ild (c := b.toNatClampNeg) rfl h117 hwy (hb.at q3) rfl (show _ = 54 from rfl) ?_
        refine sx_RP.br (p1 := 61) (l1 := [(3, .int 1), (0, .ref 111), (1, .int b), (2, .int (nI c))]) (s1 := []) (v1 := w) (p2 := 57) (l2 := [(3, .int 1), (0, .ref 111), (1, .int b), (2, .int (nI c))]) (s2 := []) (v2 := w) rfl rfl (fun q4 => ?_) (fun q4 => ?_)
        · replace q4 := of_decide_eq_true q4
          refine sx_RP.step (pc2 := 62) (ls2 := [(3, .int 1), (0, .ref 111), (1, .int b), (2, .int (nI c))]) (st2 := [.int b]) (w3 := w) rfl rfl ?_
          refine sx_RP.step (pc2 := 63) (ls2 := [(1, .int b), (3, .int 1), (0, .ref 111), (2, .int (nI c))]) (st2 := []) (w3 := w) rfl rfl ?_
          refine sx_RP.step (pc2 := 66) (ls2 := [(2, .int ((nI c) + 1)), (1, .int b), (3, .int 1), (0, .ref 111)]) (st2 := []) (w3 := w) rfl rfl ?_
          refine sx_RP.step (pc2 := 4) (ls2 := [(2, .int ((nI c) + 1)), (1, .int b), (3, .int 1), (0, .ref 111)]) (st2 := []) (w3 := w) rfl rfl ?_
          rw [show nr1 wy su b c = b from by rw [nr1]; simp only [if_neg (not_not_intro q1), if_neg q2, if_neg q3, if_pos q4]] at k
          rw [nI_1 c]
          exact sx_RP.ls (sx_lr.cons rfl (sx_lr.cons rfl (sx_lr.cons rfl sx_lr.nil))) k
        · replace q4 := of_decide_eq_false q4
          refine sx_RP.step (pc2 := 58) (ls2 := [(3, .int 1), (0, .ref 111), (1, .int b), (2, .int (nI c))]) (st2 := [.int (nI c)]) (w3 := w) rfl rfl ?_
          refine sx_RP.step (pc2 := 62) (ls2 := [(3, .int 1), (0, .ref 111), (1, .int b), (2, .int (nI c))]) (st2 := [.int (nI c)]) (w3 := w) rfl rfl ?_
          refine sx_RP.step (pc2 := 63) (ls2 := [(1, .int (nI c)), (3, .int 1), (0, .ref 111), (2, .int (nI c))]) (st2 := []) (w3 := w) rfl rfl ?_
          refine sx_RP.step (pc2 := 66) (ls2 := [(2, .int ((nI c) + 1)), (1, .int (nI c)), (3, .int 1), (0, .ref 111)]) (st2 := []) (w3 := w) rfl rfl ?_
          refine sx_RP.step (pc2 := 4) (ls2 := [(2, .int ((nI c) + 1)), (1, .int (nI c)), (3, .int 1), (0, .ref 111)]) (st2 := []) (w3 := w) rfl rfl ?_
          rw [show nr1 wy su b c = nI c from by rw [nr1]; simp only [if_neg (not_not_intro q1), if_neg q2, if_neg q3, if_neg q4]] at k
          rw [nI_1 c]
          exact sx_RP.ls (sx_lr.cons rfl (sx_lr.cons rfl (sx_lr.cons rfl sx_lr.nil))) k
set_option maxRecDepth 20000 in
set_option maxHeartbeats 4000000 in
theorem cp_149L {xs : Option (List Int32)} {d : Nat} {w : List sx_C} {mk mt mh mf mv : Int32} {wy su : List Int32} (h111 : w[111]? = some (.inr (.inr (.inr (6, [.ref 112, .ref 113, .ref 114, .ref 115, .int mk, .ref 116, .ref 117, .ref 118, .ref 119, .ref 120, .ref 121, .int mt, .int mh, .int mf, .int mv, .ref 122, .ref 123, .ref 124, .ref 125]))))) (h117 : w[117]? = some (.inl (0, wy))) (h118 : w[118]? = some (.inl (1, su))) (hwy : wy.length = 48) (hsu : su.length = 48) : ∀ (k c : Nat) (b : Int32), c + k = 48 → nrOK su b → sx_RP xs d 149 4 [(0, .ref 111), (1, .int b), (2, .int (nI c))] [] w (fun r w2 => r = some (.int (nrF wy su k c b)) ∧ w2 = w)
  | 0, c, b, h, hb => by
    obtain rfl : c = 48 := by omega
    refine sx_RP.step (pc2 := 5) (ls2 := [(0, .ref 111), (1, .int b), (2, .int (nI 48))]) (st2 := [.int (nI 48)]) (w3 := w) rfl rfl ?_
    refine sx_RP.step (pc2 := 7) (ls2 := [(0, .ref 111), (1, .int b), (2, .int (nI 48))]) (st2 := [.int 48, .int (nI 48)]) (w3 := w) rfl rfl ?_
    refine sx_RP.step (pc2 := 69) (ls2 := [(0, .ref 111), (1, .int b), (2, .int (nI 48))]) (st2 := []) (w3 := w) rfl rfl ?_
    refine sx_RP.step (pc2 := 70) (ls2 := [(0, .ref 111), (1, .int b), (2, .int (nI 48))]) (st2 := [.int b]) (w3 := w) rfl rfl ?_
    refine sx_RP.ret (r := (some (.int b))) rfl rfl ?_
    exact ⟨rfl, rfl⟩
  | k + 1, c, b, h, hb => cq_149 h111 h117 h118 hwy hsu hb (by omega) (cp_149L h111 h117 h118 hwy hsu k (c + 1) (nr1 wy su b c) (by omega) (nr1_ok (by omega) hb))
set_option maxRecDepth 20000 in
set_option maxHeartbeats 4000000 in
theorem cp_149 {xs : Option (List Int32)} {d : Nat} {w : List sx_C} {mk mt mh mf mv : Int32} {wy su : List Int32} (h111 : w[111]? = some (.inr (.inr (.inr (6, [.ref 112, .ref 113, .ref 114, .ref 115, .int mk, .ref 116, .ref 117, .ref 118, .ref 119, .ref 120, .ref 121, .int mt, .int mh, .int mf, .int mv, .ref 122, .ref 123, .ref 124, .ref 125]))))) (h117 : w[117]? = some (.inl (0, wy))) (h118 : w[118]? = some (.inl (1, su))) (hwy : wy.length = 48) (hsu : su.length = 48) : sx_RU xs d 149 0 (lv_args 0 [.ref 111]) [] w (some (.int (nrF wy su 48 0 (-1)))) w := by
  have h : sx_RP xs d 149 0 (lv_args 0 [.ref 111]) [] w (fun r w2 => r = (some (.int (nrF wy su 48 0 (-1)))) ∧ w2 = w) := by
    refine sx_RP.step (pc2 := 1) (ls2 := [(0, .ref 111)]) (st2 := [.int (-1)]) (w3 := w) rfl rfl ?_
    refine sx_RP.step (pc2 := 2) (ls2 := [(1, .int (-1)), (0, .ref 111)]) (st2 := []) (w3 := w) rfl rfl ?_
    refine sx_RP.step (pc2 := 3) (ls2 := [(1, .int (-1)), (0, .ref 111)]) (st2 := [.int 0]) (w3 := w) rfl rfl ?_
    refine sx_RP.step (pc2 := 4) (ls2 := [(2, .int 0), (1, .int (-1)), (0, .ref 111)]) (st2 := []) (w3 := w) rfl rfl ?_
    exact sx_RP.ls (sx_lr.cons rfl (sx_lr.cons rfl (sx_lr.cons rfl sx_lr.nil))) (cp_149L h111 h117 h118 hwy hsu 48 0 (-1) rfl (Or.inl (by decide)))
  obtain ⟨r, w2, h1, rfl, rfl⟩ := h
  exact h1
def wr1 (s : List Int32) (c : Nat) (wy : List Int32) (n : Int32) : List Int32 := if n < 0 then wy else if wy.getD n.toNatClampNeg 0 < 0 then wy.set n.toNatClampNeg (wy.getD c 0 + crF (s.getD (7 + n.toNatClampNeg) 0)) else if wy.getD n.toNatClampNeg 0 ≤ wy.getD c 0 + crF (s.getD (7 + n.toNatClampNeg) 0) then wy else wy.set n.toNatClampNeg (wy.getD c 0 + crF (s.getD (7 + n.toNatClampNeg) 0))
def wrF (s : List Int32) (c : Nat) : Nat → Nat → List Int32 → List Int32
  | 0, _, wy => wy
  | k + 1, j, wy => wrF s c k (j + 1) (wr1 s c wy (bsd c j))
theorem wr1_len {s wy : List Int32} {c m : Nat} {n : Int32} (h : wy.length = m) : (wr1 s c wy n).length = m := by
  unfold wr1
  (repeat' split) <;> simp [h]
theorem wrF_len {s : List Int32} {c m : Nat} : ∀ (k j : Nat) (wy : List Int32), wy.length = m → (wrF s c k j wy).length = m
  | 0, _, _, h => h
  | k + 1, j, wy, h => wrF_len k (j + 1) _ (wr1_len h)
def wkF (s : List Int32) : Nat → Int32 → List Int32 → List Int32 → List Int32 × List Int32
  | 0, _, wy, su => (wy, su)
  | f + 1, b, wy, su => if b < 0 then (wy, su) else wkF s f (nrF (wrF s b.toNatClampNeg 4 0 wy) (su.set b.toNatClampNeg 1) 48 0 (-1)) (wrF s b.toNatClampNeg 4 0 wy) (su.set b.toNatClampNeg 1)
def wiF (src : Nat) : Nat → Nat → List Int32 → List Int32
  | 0, _, wy => wy
  | k + 1, j, wy => wiF src k (j + 1) (wy.set j (if nI j = nI src then 0 else -1))
theorem wiF_len {src m : Nat} : ∀ (k j : Nat) (wy : List Int32), wy.length = m → (wiF src k j wy).length = m
  | 0, _, _, h => h
  | k + 1, j, wy, h => wiF_len k (j + 1) _ (by rw [List.length_set]; exact h)
set_option maxRecDepth 20000 in
set_option maxHeartbeats 4000000 in
theorem cq_141i {xs : Option (List Int32)} {d : Nat} {w : List sx_C} {P : Option Value → List sx_C → Prop} {mk mt mh mf mv : Int32} {s wy0 su0 : List Int32} (h111 : w[111]? = some (.inr (.inr (.inr (6, [.ref 112, .ref 113, .ref 114, .ref 115, .int mk, .ref 116, .ref 117, .ref 118, .ref 119, .ref 120, .ref 121, .int mt, .int mh, .int mf, .int mv, .ref 122, .ref 123, .ref 124, .ref 125]))))) (h112 : w[112]? = some (.inl (0, s))) (h117 : w[117]? = some (.inl (0, wy0))) (h118 : w[118]? = some (.inl (1, su0))) (hs : s.length = 172) {wy su : List Int32} {src j : Nat} (hwy : wy.length = 48) (hsu : su.length = 48) (hj : j < 48) (k : sx_RP xs d 141 2 [(0, .ref 111), (1, .int (nI src)), (2, .int (-1)), (3, .int (nI (j + 1)))] [] ((w.set 117 (.inl (0, wy.set j (if nI j = nI src then 0 else -1)))).set 118 (.inl (1, su.set j 0))) P) : sx_RP xs d 141 2 [(0, .ref 111), (1, .int (nI src)), (2, .int (-1)), (3, .int (nI j))] [] ((w.set 117 (.inl (0, wy))).set 118 (.inl (1, su))) P := by
  refine sx_RP.step (pc2 := 3) (ls2 := [(0, .ref 111), (1, .int (nI src)), (2, .int (-1)), (3, .int (nI j))]) (st2 := [.int (nI j)]) (w3 := ((w.set 117 (.inl (0, wy))).set 118 (.inl (1, su)))) rfl rfl ?_
  refine sx_RP.step (pc2 := 5) (ls2 := [(0, .ref 111), (1, .int (nI src)), (2, .int (-1)), (3, .int (nI j))]) (st2 := [.int 48, .int (nI j)]) (w3 := ((w.set 117 (.inl (0, wy))).set 118 (.inl (1, su)))) rfl rfl ?_
  refine sx_RP.br (p2 := 8) (l2 := [(0, .ref 111), (1, .int (nI src)), (2, .int (-1)), (3, .int (nI j))]) (s2 := []) (v2 := ((w.set 117 (.inl (0, wy))).set 118 (.inl (1, su)))) rfl rfl (fun q => absurd (of_decide_eq_true q) (nI_ge (b := 48) hj (by omega))) (fun _ => ?_)
  refine sx_RP.step (pc2 := 9) (ls2 := [(0, .ref 111), (1, .int (nI src)), (2, .int (-1)), (3, .int (nI j))]) (st2 := [.ref 111]) (w3 := ((w.set 117 (.inl (0, wy))).set 118 (.inl (1, su)))) rfl rfl ?_
  refine sx_RP.gf (v := .ref 117) rfl rfl (sx_gn2 (by decide) (sx_gn2 (by decide) h111)) rfl rfl (show _ = 12 from rfl) ?_
  refine sx_RP.step (pc2 := 13) (ls2 := [(0, .ref 111), (1, .int (nI src)), (2, .int (-1)), (3, .int (nI j))]) (st2 := [.int (nI j), .ref 117]) (w3 := ((w.set 117 (.inl (0, wy))).set 118 (.inl (1, su)))) rfl rfl ?_
  refine sx_RP.step (pc2 := 14) (ls2 := [(0, .ref 111), (1, .int (nI src)), (2, .int (-1)), (3, .int (nI j))]) (st2 := [.int (nI j), .int (nI j), .ref 117]) (w3 := ((w.set 117 (.inl (0, wy))).set 118 (.inl (1, su)))) rfl rfl ?_
  refine sx_RP.step (pc2 := 15) (ls2 := [(0, .ref 111), (1, .int (nI src)), (2, .int (-1)), (3, .int (nI j))]) (st2 := [.int (nI src), .int (nI j), .int (nI j), .ref 117]) (w3 := ((w.set 117 (.inl (0, wy))).set 118 (.inl (1, su)))) rfl rfl ?_
  refine sx_RP.br (p1 := 22) (l1 := [(0, .ref 111), (1, .int (nI src)), (2, .int (-1)), (3, .int (nI j))]) (s1 := [.int (nI j), .ref 117]) (v1 := ((w.set 117 (.inl (0, wy))).set 118 (.inl (1, su)))) (p2 := 18) (l2 := [(0, .ref 111), (1, .int (nI src)), (2, .int (-1)), (3, .int (nI j))]) (s2 := [.int (nI j), .ref 117]) (v2 := ((w.set 117 (.inl (0, wy))).set 118 (.inl (1, su)))) rfl rfl (fun q1 => ?_) (fun q1 => ?_)
  · replace q1 := of_decide_eq_true q1
    refine sx_RP.step (pc2 := 23) (ls2 := [(0, .ref 111), (1, .int (nI src)), (2, .int (-1)), (3, .int (nI j))]) (st2 := [.int (-1), .int (nI j), .ref 117]) (w3 := ((w.set 117 (.inl (0, wy))).set 118 (.inl (1, su)))) rfl rfl ?_
    refine sx_RP.ist (c := j) (w2 := ((w.set 117 (.inl (0, wy.set j (-1)))).set 118 (.inl (1, su)))) rfl (sx_gn2 (by decide) (sx_gs2 h117)) hwy (sx_in_nI hj (by decide)) (nI_clamp (by have := hj; omega)) (sx_set1 (by decide)) (show _ = 24 from rfl) ?_
    refine sx_RP.step (pc2 := 25) (ls2 := [(0, .ref 111), (1, .int (nI src)), (2, .int (-1)), (3, .int (nI j))]) (st2 := [.ref 111]) (w3 := ((w.set 117 (.inl (0, wy.set j (-1)))).set 118 (.inl (1, su)))) rfl rfl ?_
    refine sx_RP.gf (v := .ref 118) rfl rfl (sx_gn2 (by decide) (sx_gn2 (by decide) h111)) rfl rfl (show _ = 28 from rfl) ?_
    refine sx_RP.step (pc2 := 29) (ls2 := [(0, .ref 111), (1, .int (nI src)), (2, .int (-1)), (3, .int (nI j))]) (st2 := [.int (nI j), .ref 118]) (w3 := ((w.set 117 (.inl (0, wy.set j (-1)))).set 118 (.inl (1, su)))) rfl rfl ?_
    refine sx_RP.step (pc2 := 30) (ls2 := [(0, .ref 111), (1, .int (nI src)), (2, .int (-1)), (3, .int (nI j))]) (st2 := [.int 0, .int (nI j), .ref 118]) (w3 := ((w.set 117 (.inl (0, wy.set j (-1)))).set 118 (.inl (1, su)))) rfl rfl ?_
    refine sx_RP.bst1 (c := j) (w2 := ((w.set 117 (.inl (0, wy.set j (-1)))).set 118 (.inl (1, su.set j 0)))) rfl (sx_gs2 (sx_gn2 (by decide) h118)) hsu (sx_in_nI hj (by decide)) (nI_clamp (by have := hj; omega)) (List.set_set ..) (show _ = 31 from rfl) ?_
    refine sx_RP.step (pc2 := 34) (ls2 := [(3, .int ((nI j) + 1)), (0, .ref 111), (1, .int (nI src)), (2, .int (-1))]) (st2 := []) (w3 := ((w.set 117 (.inl (0, wy.set j (-1)))).set 118 (.inl (1, su.set j 0)))) rfl rfl ?_
    refine sx_RP.step (pc2 := 2) (ls2 := [(3, .int ((nI j) + 1)), (0, .ref 111), (1, .int (nI src)), (2, .int (-1))]) (st2 := []) (w3 := ((w.set 117 (.inl (0, wy.set j (-1)))).set 118 (.inl (1, su.set j 0)))) rfl rfl ?_
    rw [if_neg q1] at k
    rw [nI_1 j]
    exact sx_RP.ls (sx_lr.cons rfl (sx_lr.cons rfl (sx_lr.cons rfl (sx_lr.cons rfl sx_lr.nil)))) k
  · replace q1 := Decidable.not_not.mp (of_decide_eq_false q1)
    refine sx_RP.step (pc2 := 19) (ls2 := [(0, .ref 111), (1, .int (nI src)), (2, .int (-1)), (3, .int (nI j))]) (st2 := [.int 0, .int (nI j), .ref 117]) (w3 := ((w.set 117 (.inl (0, wy))).set 118 (.inl (1, su)))) rfl rfl ?_
    refine sx_RP.step (pc2 := 23) (ls2 := [(0, .ref 111), (1, .int (nI src)), (2, .int (-1)), (3, .int (nI j))]) (st2 := [.int 0, .int (nI j), .ref 117]) (w3 := ((w.set 117 (.inl (0, wy))).set 118 (.inl (1, su)))) rfl rfl ?_
    refine sx_RP.ist (c := j) (w2 := ((w.set 117 (.inl (0, wy.set j 0))).set 118 (.inl (1, su)))) rfl (sx_gn2 (by decide) (sx_gs2 h117)) hwy (sx_in_nI hj (by decide)) (nI_clamp (by have := hj; omega)) (sx_set1 (by decide)) (show _ = 24 from rfl) ?_
    refine sx_RP.step (pc2 := 25) (ls2 := [(0, .ref 111), (1, .int (nI src)), (2, .int (-1)), (3, .int (nI j))]) (st2 := [.ref 111]) (w3 := ((w.set 117 (.inl (0, wy.set j 0))).set 118 (.inl (1, su)))) rfl rfl ?_
    refine sx_RP.gf (v := .ref 118) rfl rfl (sx_gn2 (by decide) (sx_gn2 (by decide) h111)) rfl rfl (show _ = 28 from rfl) ?_
    refine sx_RP.step (pc2 := 29) (ls2 := [(0, .ref 111), (1, .int (nI src)), (2, .int (-1)), (3, .int (nI j))]) (st2 := [.int (nI j), .ref 118]) (w3 := ((w.set 117 (.inl (0, wy.set j 0))).set 118 (.inl (1, su)))) rfl rfl ?_
    refine sx_RP.step (pc2 := 30) (ls2 := [(0, .ref 111), (1, .int (nI src)), (2, .int (-1)), (3, .int (nI j))]) (st2 := [.int 0, .int (nI j), .ref 118]) (w3 := ((w.set 117 (.inl (0, wy.set j 0))).set 118 (.inl (1, su)))) rfl rfl ?_
    refine sx_RP.bst1 (c := j) (w2 := ((w.set 117 (.inl (0, wy.set j 0))).set 118 (.inl (1, su.set j 0)))) rfl (sx_gs2 (sx_gn2 (by decide) h118)) hsu (sx_in_nI hj (by decide)) (nI_clamp (by have := hj; omega)) (List.set_set ..) (show _ = 31 from rfl) ?_
    refine sx_RP.step (pc2 := 34) (ls2 := [(3, .int ((nI j) + 1)), (0, .ref 111), (1, .int (nI src)), (2, .int (-1))]) (st2 := []) (w3 := ((w.set 117 (.inl (0, wy.set j 0))).set 118 (.inl (1, su.set j 0)))) rfl rfl ?_
    refine sx_RP.step (pc2 := 2) (ls2 := [(3, .int ((nI j) + 1)), (0, .ref 111), (1, .int (nI src)), (2, .int (-1))]) (st2 := []) (w3 := ((w.set 117 (.inl (0, wy.set j 0))).set 118 (.inl (1, su.set j 0)))) rfl rfl ?_
    rw [if_pos q1] at k
    rw [nI_1 j]
    exact sx_RP.ls (sx_lr.cons rfl (sx_lr.cons rfl (sx_lr.cons rfl (sx_lr.cons rfl sx_lr.nil)))) k
set_option maxRecDepth 20000 in
set_option maxHeartbeats 4000000 in
theorem cp_141i {xs : Option (List Int32)} {d : Nat} {w : List sx_C} {mk mt mh mf mv : Int32} {s wy0 su0 : List Int32} (h111 : w[111]? = some (.inr (.inr (.inr (6, [.ref 112, .ref 113, .ref 114, .ref 115, .int mk, .ref 116, .ref 117, .ref 118, .ref 119, .ref 120, .ref 121, .int mt, .int mh, .int mf, .int mv, .ref 122, .ref 123, .ref 124, .ref 125]))))) (h112 : w[112]? = some (.inl (0, s))) (h117 : w[117]? = some (.inl (0, wy0))) (h118 : w[118]? = some (.inl (1, su0))) (hs : s.length = 172) {P : Option Value → List sx_C → Prop} {src : Nat} : ∀ (k j : Nat) (wy su : List Int32), j + k = 48 → wy.length = 48 → su.length = 48 → sx_RP xs d 141 39 [(0, .ref 111), (1, .int (nI src)), (2, .int (-1)), (3, .int (nI src))] [] ((w.set 117 (.inl (0, wiF src k j wy))).set 118 (.inl (1, flF 0 k j su))) P → sx_RP xs d 141 2 [(0, .ref 111), (1, .int (nI src)), (2, .int (-1)), (3, .int (nI j))] [] ((w.set 117 (.inl (0, wy))).set 118 (.inl (1, su))) P
  | 0, j, wy, su, h, h1, h2, kk => by
    obtain rfl : j = 48 := by omega
    refine sx_RP.step (pc2 := 3) (ls2 := [(0, .ref 111), (1, .int (nI src)), (2, .int (-1)), (3, .int (nI 48))]) (st2 := [.int (nI 48)]) (w3 := ((w.set 117 (.inl (0, wy))).set 118 (.inl (1, su)))) rfl rfl ?_
    refine sx_RP.step (pc2 := 5) (ls2 := [(0, .ref 111), (1, .int (nI src)), (2, .int (-1)), (3, .int (nI 48))]) (st2 := [.int 48, .int (nI 48)]) (w3 := ((w.set 117 (.inl (0, wy))).set 118 (.inl (1, su)))) rfl rfl ?_
    refine sx_RP.step (pc2 := 37) (ls2 := [(0, .ref 111), (1, .int (nI src)), (2, .int (-1)), (3, .int (nI 48))]) (st2 := []) (w3 := ((w.set 117 (.inl (0, wy))).set 118 (.inl (1, su)))) rfl rfl ?_
    refine sx_RP.step (pc2 := 38) (ls2 := [(0, .ref 111), (1, .int (nI src)), (2, .int (-1)), (3, .int (nI 48))]) (st2 := [.int (nI src)]) (w3 := ((w.set 117 (.inl (0, wy))).set 118 (.inl (1, su)))) rfl rfl ?_
    refine sx_RP.step (pc2 := 39) (ls2 := [(3, .int (nI src)), (0, .ref 111), (1, .int (nI src)), (2, .int (-1))]) (st2 := []) (w3 := ((w.set 117 (.inl (0, wy))).set 118 (.inl (1, su)))) rfl rfl ?_
    exact sx_RP.ls (sx_lr.cons rfl (sx_lr.cons rfl (sx_lr.cons rfl (sx_lr.cons rfl sx_lr.nil)))) kk
  | k + 1, j, wy, su, h, h1, h2, kk => cq_141i h111 h112 h117 h118 hs h1 h2 (by omega) (cp_141i h111 h112 h117 h118 hs k (j + 1) _ _ (by omega) (by rw [List.length_set]; exact h1) (by rw [List.length_set]; exact h2) kk)
set_option maxRecDepth 20000 in
set_option maxHeartbeats 4000000 in
theorem cq_141w {xs : Option (List Int32)} {d : Nat} {w : List sx_C} {P : Option Value → List sx_C → Prop} {mk mt mh mf mv : Int32} {s wy0 su0 : List Int32} (h111 : w[111]? = some (.inr (.inr (.inr (6, [.ref 112, .ref 113, .ref 114, .ref 115, .int mk, .ref 116, .ref 117, .ref 118, .ref 119, .ref 120, .ref 121, .int mt, .int mh, .int mf, .int mv, .ref 122, .ref 123, .ref 124, .ref 125]))))) (h112 : w[112]? = some (.inl (0, s))) (h117 : w[117]? = some (.inl (0, wy0))) (h118 : w[118]? = some (.inl (1, su0))) (hs : s.length = 172) {wy su : List Int32} {src c j : Nat} (hwy : wy.length = 48) (hc : c < 48) (hj : j < 4) (k : sx_RP xs (d + 1) 141 53 [(0, .ref 111), (1, .int (nI src)), (2, .int (-1)), (3, .int (nI c)), (4, .int (nI (j + 1)))] [] ((w.set 117 (.inl (0, wr1 s c wy (bsd c j)))).set 118 (.inl (1, su))) P) : sx_RP xs (d + 1) 141 53 [(0, .ref 111), (1, .int (nI src)), (2, .int (-1)), (3, .int (nI c)), (4, .int (nI j))] [] ((w.set 117 (.inl (0, wy))).set 118 (.inl (1, su))) P := by
  refine sx_RP.step (pc2 := 55) (ls2 := [(0, .ref 111), (1, .int (nI src)), (2, .int (-1)), (3, .int (nI c)), (4, .int (nI j))]) (st2 := [.int (nI j)]) (w3 := ((w.set 117 (.inl (0, wy))).set 118 (.inl (1, su)))) rfl rfl ?_
  refine sx_RP.step (pc2 := 56) (ls2 := [(0, .ref 111), (1, .int (nI src)), (2, .int (-1)), (3, .int (nI c)), (4, .int (nI j))]) (st2 := [.int 4, .int (nI j)]) (w3 := ((w.set 117 (.inl (0, wy))).set 118 (.inl (1, su)))) rfl rfl ?_
  refine sx_RP.br (p2 := 59) (l2 := [(0, .ref 111), (1, .int (nI src)), (2, .int (-1)), (3, .int (nI c)), (4, .int (nI j))]) (s2 := []) (v2 := ((w.set 117 (.inl (0, wy))).set 118 (.inl (1, su)))) rfl rfl (fun q => absurd (of_decide_eq_true q) (nI_ge (b := 4) hj (by omega))) (fun _ => ?_)
  refine sx_RP.step (pc2 := 60) (ls2 := [(0, .ref 111), (1, .int (nI src)), (2, .int (-1)), (3, .int (nI c)), (4, .int (nI j))]) (st2 := [.int (nI c)]) (w3 := ((w.set 117 (.inl (0, wy))).set 118 (.inl (1, su)))) rfl rfl ?_
  refine sx_RP.step (pc2 := 62) (ls2 := [(0, .ref 111), (1, .int (nI src)), (2, .int (-1)), (3, .int (nI c)), (4, .int (nI j))]) (st2 := [.int (nI j), .int (nI c)]) (w3 := ((w.set 117 (.inl (0, wy))).set 118 (.inl (1, su)))) rfl rfl ?_
  refine sx_RP.cu (as := [.int (nI c), .int (nI j)]) (rest2 := []) (st3 := [.int (bsd c j)]) rfl rfl rfl rfl rfl (cb_142 hc j hj) rfl ?_
  refine sx_RP.step (pc2 := 67) (ls2 := [(5, .int (bsd c j)), (0, .ref 111), (1, .int (nI src)), (2, .int (-1)), (3, .int (nI c)), (4, .int (nI j))]) (st2 := []) (w3 := ((w.set 117 (.inl (0, wy))).set 118 (.inl (1, su)))) rfl rfl ?_
  refine sx_RP.step (pc2 := 69) (ls2 := [(5, .int (bsd c j)), (0, .ref 111), (1, .int (nI src)), (2, .int (-1)), (3, .int (nI c)), (4, .int (nI j))]) (st2 := [.int (bsd c j)]) (w3 := ((w.set 117 (.inl (0, wy))).set 118 (.inl (1, su)))) rfl rfl ?_
  refine sx_RP.br (p1 := 90) (l1 := [(5, .int (bsd c j)), (0, .ref 111), (1, .int (nI src)), (2, .int (-1)), (3, .int (nI c)), (4, .int (nI j))]) (s1 := []) (v1 := ((w.set 117 (.inl (0, wy))).set 118 (.inl (1, su)))) (p2 := 72) (l2 := [(5, .int (bsd c j)), (0, .ref 111), (1, .int (nI src)), (2, .int (-1)), (3, .int (nI c)), (4, .int (nI j))]) (s2 := []) (v2 := ((w.set 117 (.inl (0, wy))).set 118 (.inl (1, su)))) rfl rfl (fun q1 => ?_) (fun q1 => ?_)
  · replace q1 := of_decide_eq_true q1
    refine sx_RP.step (pc2 := 91) (ls2 := [(5, .int (bsd c j)), (0, .ref 111), (1, .int (nI src)), (2, .int (-1)), (3, .int (nI c)), (4, .int (nI j))]) (st2 := [.int 0]) (w3 := ((w.set 117 (.inl (0, wy))).set 118 (.inl (1, su)))) rfl rfl ?_
    refine sx_RP.step (pc2 := 93) (ls2 := [(6, .int 0), (5, .int (bsd c j)), (0, .ref 111), (1, .int (nI src)), (2, .int (-1)), (3, .int (nI c)), (4, .int (nI j))]) (st2 := []) (w3 := ((w.set 117 (.inl (0, wy))).set 118 (.inl (1, su)))) rfl rfl ?_
    refine sx_RP.step (pc2 := 95) (ls2 := [(6, .int 0), (5, .int (bsd c j)), (0, .ref 111), (1, .int (nI src)), (2, .int (-1)), (3, .int (nI c)), (4, .int (nI j))]) (st2 := [.int 0]) (w3 := ((w.set 117 (.inl (0, wy))).set 118 (.inl (1, su)))) rfl rfl ?_
    refine sx_RP.step (pc2 := 98) (ls2 := [(6, .int 0), (5, .int (bsd c j)), (0, .ref 111), (1, .int (nI src)), (2, .int (-1)), (3, .int (nI c)), (4, .int (nI j))]) (st2 := []) (w3 := ((w.set 117 (.inl (0, wy))).set 118 (.inl (1, su)))) rfl rfl ?_
    refine sx_RP.step (pc2 := 99) (ls2 := [(6, .int 0), (5, .int (bsd c j)), (0, .ref 111), (1, .int (nI src)), (2, .int (-1)), (3, .int (nI c)), (4, .int (nI j))]) (st2 := [.int 0]) (w3 := ((w.set 117 (.inl (0, wy))).set 118 (.inl (1, su)))) rfl rfl ?_
    refine sx_RP.step (pc2 := 129) (ls2 := [(6, .int 0), (5, .int (bsd c j)), (0, .ref 111), (1, .int (nI src)), (2, .int (-1)), (3, .int (nI c)), (4, .int (nI j))]) (st2 := [.int 0]) (w3 := ((w.set 117 (.inl (0, wy))).set 118 (.inl (1, su)))) rfl rfl ?_
    refine sx_RP.step (pc2 := 131) (ls2 := [(7, .int 0), (6, .int 0), (5, .int (bsd c j)), (0, .ref 111), (1, .int (nI src)), (2, .int (-1)), (3, .int (nI c)), (4, .int (nI j))]) (st2 := []) (w3 := ((w.set 117 (.inl (0, wy))).set 118 (.inl (1, su)))) rfl rfl ?_
    refine sx_RP.step (pc2 := 133) (ls2 := [(7, .int 0), (6, .int 0), (5, .int (bsd c j)), (0, .ref 111), (1, .int (nI src)), (2, .int (-1)), (3, .int (nI c)), (4, .int (nI j))]) (st2 := [.int 0]) (w3 := ((w.set 117 (.inl (0, wy))).set 118 (.inl (1, su)))) rfl rfl ?_
    refine sx_RP.step (pc2 := 167) (ls2 := [(7, .int 0), (6, .int 0), (5, .int (bsd c j)), (0, .ref 111), (1, .int (nI src)), (2, .int (-1)), (3, .int (nI c)), (4, .int (nI j))]) (st2 := []) (w3 := ((w.set 117 (.inl (0, wy))).set 118 (.inl (1, su)))) rfl rfl ?_
    refine sx_RP.step (pc2 := 170) (ls2 := [(4, .int ((nI j) + 1)), (7, .int 0), (6, .int 0), (5, .int (bsd c j)), (0, .ref 111), (1, .int (nI src)), (2, .int (-1)), (3, .int (nI c))]) (st2 := []) (w3 := ((w.set 117 (.inl (0, wy))).set 118 (.inl (1, su)))) rfl rfl ?_
    refine sx_RP.step (pc2 := 53) (ls2 := [(4, .int ((nI j) + 1)), (7, .int 0), (6, .int 0), (5, .int (bsd c j)), (0, .ref 111), (1, .int (nI src)), (2, .int (-1)), (3, .int (nI c))]) (st2 := []) (w3 := ((w.set 117 (.inl (0, wy))).set 118 (.inl (1, su)))) rfl rfl ?_
    rw [show wr1 s c wy (bsd c j) = wy from by rw [wr1]; simp only [if_pos q1]] at k
    rw [nI_1 j]
    exact sx_RP.ls (sx_lr.cons rfl (sx_lr.cons rfl (sx_lr.cons rfl (sx_lr.cons rfl (sx_lr.cons rfl sx_lr.nil))))) k
  · replace q1 := of_decide_eq_false q1
    refine sx_RP.step (pc2 := 73) (ls2 := [(5, .int (bsd c j)), (0, .ref 111), (1, .int (nI src)), (2, .int (-1)), (3, .int (nI c)), (4, .int (nI j))]) (st2 := [.int (-1)]) (w3 := ((w.set 117 (.inl (0, wy))).set 118 (.inl (1, su)))) rfl rfl ?_
    refine sx_RP.step (pc2 := 86) (ls2 := [(5, .int (bsd c j)), (0, .ref 111), (1, .int (nI src)), (2, .int (-1)), (3, .int (nI c)), (4, .int (nI j))]) (st2 := []) (w3 := ((w.set 117 (.inl (0, wy))).set 118 (.inl (1, su)))) rfl rfl ?_
    refine sx_RP.step (pc2 := 87) (ls2 := [(5, .int (bsd c j)), (0, .ref 111), (1, .int (nI src)), (2, .int (-1)), (3, .int (nI c)), (4, .int (nI j))]) (st2 := [.int 1]) (w3 := ((w.set 117 (.inl (0, wy))).set 118 (.inl (1, su)))) rfl rfl ?_
    refine sx_RP.step (pc2 := 91) (ls2 := [(5, .int (bsd c j)), (0, .ref 111), (1, .int (nI src)), (2, .int (-1)), (3, .int (nI c)), (4, .int (nI j))]) (st2 := [.int 1]) (w3 := ((w.set 117 (.inl (0, wy))).set 118 (.inl (1, su)))) rfl rfl ?_
    refine sx_RP.step (pc2 := 93) (ls2 := [(6, .int 1), (5, .int (bsd c j)), (0, .ref 111), (1, .int (nI src)), (2, .int (-1)), (3, .int (nI c)), (4, .int (nI j))]) (st2 := []) (w3 := ((w.set 117 (.inl (0, wy))).set 118 (.inl (1, su)))) rfl rfl ?_
    refine sx_RP.step (pc2 := 95) (ls2 := [(6, .int 1), (5, .int (bsd c j)), (0, .ref 111), (1, .int (nI src)), (2, .int (-1)), (3, .int (nI c)), (4, .int (nI j))]) (st2 := [.int 1]) (w3 := ((w.set 117 (.inl (0, wy))).set 118 (.inl (1, su)))) rfl rfl ?_
    refine sx_RP.step (pc2 := 102) (ls2 := [(6, .int 1), (5, .int (bsd c j)), (0, .ref 111), (1, .int (nI src)), (2, .int (-1)), (3, .int (nI c)), (4, .int (nI j))]) (st2 := []) (w3 := ((w.set 117 (.inl (0, wy))).set 118 (.inl (1, su)))) rfl rfl ?_
    refine sx_RP.step (pc2 := 103) (ls2 := [(6, .int 1), (5, .int (bsd c j)), (0, .ref 111), (1, .int (nI src)), (2, .int (-1)), (3, .int (nI c)), (4, .int (nI j))]) (st2 := [.ref 111]) (w3 := ((w.set 117 (.inl (0, wy))).set 118 (.inl (1, su)))) rfl rfl ?_
    refine sx_RP.gf (v := .ref 117) rfl rfl (sx_gn2 (by decide) (sx_gn2 (by decide) h111)) rfl rfl (show _ = 106 from rfl) ?_
    refine sx_RP.step (pc2 := 107) (ls2 := [(6, .int 1), (5, .int (bsd c j)), (0, .ref 111), (1, .int (nI src)), (2, .int (-1)), (3, .int (nI c)), (4, .int (nI j))]) (st2 := [.int (nI c), .ref 117]) (w3 := ((w.set 117 (.inl (0, wy))).set 118 (.inl (1, su)))) rfl rfl ?_
    refine sx_RP.ild (c := c) rfl (sx_gn2 (by decide) (sx_gs2 h117)) hwy (sx_in_nI hc (by decide)) (nI_clamp (by have := hc; omega)) (show _ = 108 from rfl) ?_
    refine sx_RP.step (pc2 := 109) (ls2 := [(6, .int 1), (5, .int (bsd c j)), (0, .ref 111), (1, .int (nI src)), (2, .int (-1)), (3, .int (nI c)), (4, .int (nI j))]) (st2 := [.int (-1), .int (wy.getD c 0)]) (w3 := ((w.set 117 (.inl (0, wy))).set 118 (.inl (1, su)))) rfl rfl ?_
    refine sx_RP.step (pc2 := 112) (ls2 := [(6, .int 1), (5, .int (bsd c j)), (0, .ref 111), (1, .int (nI src)), (2, .int (-1)), (3, .int (nI c)), (4, .int (nI j))]) (st2 := [.int (wy.getD c 0)]) (w3 := ((w.set 117 (.inl (0, wy))).set 118 (.inl (1, su)))) rfl rfl ?_
    refine sx_RP.step (pc2 := 113) (ls2 := [(6, .int 1), (5, .int (bsd c j)), (0, .ref 111), (1, .int (nI src)), (2, .int (-1)), (3, .int (nI c)), (4, .int (nI j))]) (st2 := [.ref 111, .int (wy.getD c 0)]) (w3 := ((w.set 117 (.inl (0, wy))).set 118 (.inl (1, su)))) rfl rfl ?_
    refine sx_RP.step (pc2 := 115) (ls2 := [(6, .int 1), (5, .int (bsd c j)), (0, .ref 111), (1, .int (nI src)), (2, .int (-1)), (3, .int (nI c)), (4, .int (nI j))]) (st2 := [.int (bsd c j), .ref 111, .int (wy.getD c 0)]) (w3 := ((w.set 117 (.inl (0, wy))).set 118 (.inl (1, su)))) rfl rfl ?_
    refine sx_RP.cu (as := [.ref 111, .int (bsd c j)]) (rest2 := [.int (wy.getD c 0)]) (st3 := [.int (crF (s.getD (7 + (bsd c j).toNatClampNeg) 0)), .int (wy.getD c 0)]) rfl rfl (sx_inv_v2 (mi := 141) (k := 84) (st := [.int (bsd c j), .ref 111, .int (wy.getD c 0)]) (w := ((w.set 117 (.inl (0, wy))).set 118 (.inl (1, su)))) rfl rfl (sx_gn2 (by decide) (sx_gn2 (by decide) h111)) rfl rfl rfl) rfl rfl (cp_146x (sx_gn2 (by decide) (sx_gn2 (by decide) h111)) (sx_gn2 (by decide) (sx_gn2 (by decide) h112)) hs ((bsd_in c hc j hj).resolve_left (fun z => q1 ((bsd_lt c hc j hj).mpr z)))) rfl ?_
    refine sx_RP.step (pc2 := 128) (ls2 := [(6, .int 1), (5, .int (bsd c j)), (0, .ref 111), (1, .int (nI src)), (2, .int (-1)), (3, .int (nI c)), (4, .int (nI j))]) (st2 := [.int (crF (s.getD (7 + (bsd c j).toNatClampNeg) 0)), .int (wy.getD c 0)]) (w3 := ((w.set 117 (.inl (0, wy))).set 118 (.inl (1, su)))) rfl rfl ?_
    refine sx_RP.step (pc2 := 129) (ls2 := [(6, .int 1), (5, .int (bsd c j)), (0, .ref 111), (1, .int (nI src)), (2, .int (-1)), (3, .int (nI c)), (4, .int (nI j))]) (st2 := [.int ((wy.getD c 0) + (crF (s.getD (7 + (bsd c j).toNatClampNeg) 0)))]) (w3 := ((w.set 117 (.inl (0, wy))).set 118 (.inl (1, su)))) rfl rfl ?_
    refine sx_RP.step (pc2 := 131) (ls2 := [(7, .int ((wy.getD c 0) + (crF (s.getD (7 + (bsd c j).toNatClampNeg) 0)))), (6, .int 1), (5, .int (bsd c j)), (0, .ref 111), (1, .int (nI src)), (2, .int (-1)), (3, .int (nI c)), (4, .int (nI j))]) (st2 := []) (w3 := ((w.set 117 (.inl (0, wy))).set 118 (.inl (1, su)))) rfl rfl ?_
    refine sx_RP.step (pc2 := 133) (ls2 := [(7, .int ((wy.getD c 0) + (crF (s.getD (7 + (bsd c j).toNatClampNeg) 0)))), (6, .int 1), (5, .int (bsd c j)), (0, .ref 111), (1, .int (nI src)), (2, .int (-1)), (3, .int (nI c)), (4, .int (nI j))]) (st2 := [.int 1]) (w3 := ((w.set 117 (.inl (0, wy))).set 118 (.inl (1, su)))) rfl rfl ?_
    refine sx_RP.step (pc2 := 136) (ls2 := [(7, .int ((wy.getD c 0) + (crF (s.getD (7 + (bsd c j).toNatClampNeg) 0)))), (6, .int 1), (5, .int (bsd c j)), (0, .ref 111), (1, .int (nI src)), (2, .int (-1)), (3, .int (nI c)), (4, .int (nI j))]) (st2 := []) (w3 := ((w.set 117 (.inl (0, wy))).set 118 (.inl (1, su)))) rfl rfl ?_
    refine sx_RP.step (pc2 := 137) (ls2 := [(7, .int ((wy.getD c 0) + (crF (s.getD (7 + (bsd c j).toNatClampNeg) 0)))), (6, .int 1), (5, .int (bsd c j)), (0, .ref 111), (1, .int (nI src)), (2, .int (-1)), (3, .int (nI c)), (4, .int (nI j))]) (st2 := [.ref 111]) (w3 := ((w.set 117 (.inl (0, wy))).set 118 (.inl (1, su)))) rfl rfl ?_
    refine sx_RP.gf (v := .ref 117) rfl rfl (sx_gn2 (by decide) (sx_gn2 (by decide) h111)) rfl rfl (show _ = 140 from rfl) ?_
    refine sx_RP.step (pc2 := 142) (ls2 := [(7, .int ((wy.getD c 0) + (crF (s.getD (7 + (bsd c j).toNatClampNeg) 0)))), (6, .int 1), (5, .int (bsd c j)), (0, .ref 111), (1, .int (nI src)), (2, .int (-1)), (3, .int (nI c)), (4, .int (nI j))]) (st2 := [.int (bsd c j), .ref 117]) (w3 := ((w.set 117 (.inl (0, wy))).set 118 (.inl (1, su)))) rfl rfl ?_
    refine sx_RP.ild (c := ((bsd c j).toNatClampNeg)) rfl (sx_gn2 (by decide) (sx_gs2 h117)) hwy ((bsd_in c hc j hj).resolve_left (fun z => q1 ((bsd_lt c hc j hj).mpr z))) rfl (show _ = 143 from rfl) ?_
    refine sx_RP.br (p1 := 158) (l1 := [(7, .int ((wy.getD c 0) + (crF (s.getD (7 + (bsd c j).toNatClampNeg) 0)))), (6, .int 1), (5, .int (bsd c j)), (0, .ref 111), (1, .int (nI src)), (2, .int (-1)), (3, .int (nI c)), (4, .int (nI j))]) (s1 := []) (v1 := ((w.set 117 (.inl (0, wy))).set 118 (.inl (1, su)))) (p2 := 146) (l2 := [(7, .int ((wy.getD c 0) + (crF (s.getD (7 + (bsd c j).toNatClampNeg) 0)))), (6, .int 1), (5, .int (bsd c j)), (0, .ref 111), (1, .int (nI src)), (2, .int (-1)), (3, .int (nI c)), (4, .int (nI j))]) (s2 := []) (v2 := ((w.set 117 (.inl (0, wy))).set 118 (.inl (1, su)))) rfl rfl (fun q2 => ?_) (fun q2 => ?_)
    · replace q2 := of_decide_eq_true q2
      refine sx_RP.step (pc2 := 159) (ls2 := [(7, .int ((wy.getD c 0) + (crF (s.getD (7 + (bsd c j).toNatClampNeg) 0)))), (6, .int 1), (5, .int (bsd c j)), (0, .ref 111), (1, .int (nI src)), (2, .int (-1)), (3, .int (nI c)), (4, .int (nI j))]) (st2 := [.ref 111]) (w3 := ((w.set 117 (.inl (0, wy))).set 118 (.inl (1, su)))) rfl rfl ?_
      refine sx_RP.gf (v := .ref 117) rfl rfl (sx_gn2 (by decide) (sx_gn2 (by decide) h111)) rfl rfl (show _ = 162 from rfl) ?_
      refine sx_RP.step (pc2 := 164) (ls2 := [(7, .int ((wy.getD c 0) + (crF (s.getD (7 + (bsd c j).toNatClampNeg) 0)))), (6, .int 1), (5, .int (bsd c j)), (0, .ref 111), (1, .int (nI src)), (2, .int (-1)), (3, .int (nI c)), (4, .int (nI j))]) (st2 := [.int (bsd c j), .ref 117]) (w3 := ((w.set 117 (.inl (0, wy))).set 118 (.inl (1, su)))) rfl rfl ?_
      refine sx_RP.step (pc2 := 166) (ls2 := [(7, .int ((wy.getD c 0) + (crF (s.getD (7 + (bsd c j).toNatClampNeg) 0)))), (6, .int 1), (5, .int (bsd c j)), (0, .ref 111), (1, .int (nI src)), (2, .int (-1)), (3, .int (nI c)), (4, .int (nI j))]) (st2 := [.int ((wy.getD c 0) + (crF (s.getD (7 + (bsd c j).toNatClampNeg) 0))), .int (bsd c j), .ref 117]) (w3 := ((w.set 117 (.inl (0, wy))).set 118 (.inl (1, su)))) rfl rfl ?_
      refine sx_RP.ist (c := ((bsd c j).toNatClampNeg)) (w2 := ((w.set 117 (.inl (0, wy.set ((bsd c j).toNatClampNeg) ((wy.getD c 0) + (crF (s.getD (7 + (bsd c j).toNatClampNeg) 0)))))).set 118 (.inl (1, su)))) rfl (sx_gn2 (by decide) (sx_gs2 h117)) hwy ((bsd_in c hc j hj).resolve_left (fun z => q1 ((bsd_lt c hc j hj).mpr z))) rfl (sx_set1 (by decide)) (show _ = 167 from rfl) ?_
      refine sx_RP.step (pc2 := 170) (ls2 := [(4, .int ((nI j) + 1)), (7, .int ((wy.getD c 0) + (crF (s.getD (7 + (bsd c j).toNatClampNeg) 0)))), (6, .int 1), (5, .int (bsd c j)), (0, .ref 111), (1, .int (nI src)), (2, .int (-1)), (3, .int (nI c))]) (st2 := []) (w3 := ((w.set 117 (.inl (0, wy.set ((bsd c j).toNatClampNeg) ((wy.getD c 0) + (crF (s.getD (7 + (bsd c j).toNatClampNeg) 0)))))).set 118 (.inl (1, su)))) rfl rfl ?_
      refine sx_RP.step (pc2 := 53) (ls2 := [(4, .int ((nI j) + 1)), (7, .int ((wy.getD c 0) + (crF (s.getD (7 + (bsd c j).toNatClampNeg) 0)))), (6, .int 1), (5, .int (bsd c j)), (0, .ref 111), (1, .int (nI src)), (2, .int (-1)), (3, .int (nI c))]) (st2 := []) (w3 := ((w.set 117 (.inl (0, wy.set ((bsd c j).toNatClampNeg) ((wy.getD c 0) + (crF (s.getD (7 + (bsd c j).toNatClampNeg) 0)))))).set 118 (.inl (1, su)))) rfl rfl ?_
      rw [show wr1 s c wy (bsd c j) = wy.set ((bsd c j).toNatClampNeg) ((wy.getD c 0) + (crF (s.getD (7 + (bsd c j).toNatClampNeg) 0))) from by rw [wr1]; simp only [if_neg q1, if_pos q2]] at k
      rw [nI_1 j]
      exact sx_RP.ls (sx_lr.cons rfl (sx_lr.cons rfl (sx_lr.cons rfl (sx_lr.cons rfl (sx_lr.cons rfl sx_lr.nil))))) k
    · replace q2 := of_decide_eq_false q2
      refine sx_RP.step (pc2 := 148) (ls2 := [(7, .int ((wy.getD c 0) + (crF (s.getD (7 + (bsd c j).toNatClampNeg) 0)))), (6, .int 1), (5, .int (bsd c j)), (0, .ref 111), (1, .int (nI src)), (2, .int (-1)), (3, .int (nI c)), (4, .int (nI j))]) (st2 := [.int ((wy.getD c 0) + (crF (s.getD (7 + (bsd c j).toNatClampNeg) 0)))]) (w3 := ((w.set 117 (.inl (0, wy))).set 118 (.inl (1, su)))) rfl rfl ?_
      refine sx_RP.step (pc2 := 149) (ls2 := [(7, .int ((wy.getD c 0) + (crF (s.getD (7 + (bsd c j).toNatClampNeg) 0)))), (6, .int 1), (5, .int (bsd c j)), (0, .ref 111), (1, .int (nI src)), (2, .int (-1)), (3, .int (nI c)), (4, .int (nI j))]) (st2 := [.ref 111, .int ((wy.getD c 0) + (crF (s.getD (7 + (bsd c j).toNatClampNeg) 0)))]) (w3 := ((w.set 117 (.inl (0, wy))).set 118 (.inl (1, su)))) rfl rfl ?_
      refine sx_RP.gf (v := .ref 117) rfl rfl (sx_gn2 (by decide) (sx_gn2 (by decide) h111)) rfl rfl (show _ = 152 from rfl) ?_
      refine sx_RP.step (pc2 := 154) (ls2 := [(7, .int ((wy.getD c 0) + (crF (s.getD (7 + (bsd c j).toNatClampNeg) 0)))), (6, .int 1), (5, .int (bsd c j)), (0, .ref 111), (1, .int (nI src)), (2, .int (-1)), (3, .int (nI c)), (4, .int (nI j))]) (st2 := [.int (bsd c j), .ref 117, .int ((wy.getD c 0) + (crF (s.getD (7 + (bsd c j).toNatClampNeg) 0)))]) (w3 := ((w.set 117 (.inl (0, wy))).set 118 (.inl (1, su)))) rfl rfl ?_
      refine sx_RP.ild (c := ((bsd c j).toNatClampNeg)) rfl (sx_gn2 (by decide) (sx_gs2 h117)) hwy ((bsd_in c hc j hj).resolve_left (fun z => q1 ((bsd_lt c hc j hj).mpr z))) rfl (show _ = 155 from rfl) ?_
      refine sx_RP.br (p1 := 167) (l1 := [(7, .int ((wy.getD c 0) + (crF (s.getD (7 + (bsd c j).toNatClampNeg) 0)))), (6, .int 1), (5, .int (bsd c j)), (0, .ref 111), (1, .int (nI src)), (2, .int (-1)), (3, .int (nI c)), (4, .int (nI j))]) (s1 := []) (v1 := ((w.set 117 (.inl (0, wy))).set 118 (.inl (1, su)))) (p2 := 158) (l2 := [(7, .int ((wy.getD c 0) + (crF (s.getD (7 + (bsd c j).toNatClampNeg) 0)))), (6, .int 1), (5, .int (bsd c j)), (0, .ref 111), (1, .int (nI src)), (2, .int (-1)), (3, .int (nI c)), (4, .int (nI j))]) (s2 := []) (v2 := ((w.set 117 (.inl (0, wy))).set 118 (.inl (1, su)))) rfl rfl (fun q3 => ?_) (fun q3 => ?_)
      · replace q3 := of_decide_eq_true q3
        refine sx_RP.step (pc2 := 170) (ls2 := [(4, .int ((nI j) + 1)), (7, .int ((wy.getD c 0) + (crF (s.getD (7 + (bsd c j).toNatClampNeg) 0)))), (6, .int 1), (5, .int (bsd c j)), (0, .ref 111), (1, .int (nI src)), (2, .int (-1)), (3, .int (nI c))]) (st2 := []) (w3 := ((w.set 117 (.inl (0, wy))).set 118 (.inl (1, su)))) rfl rfl ?_
        refine sx_RP.step (pc2 := 53) (ls2 := [(4, .int ((nI j) + 1)), (7, .int ((wy.getD c 0) + (crF (s.getD (7 + (bsd c j).toNatClampNeg) 0)))), (6, .int 1), (5, .int (bsd c j)), (0, .ref 111), (1, .int (nI src)), (2, .int (-1)), (3, .int (nI c))]) (st2 := []) (w3 := ((w.set 117 (.inl (0, wy))).set 118 (.inl (1, su)))) rfl rfl ?_
        rw [show wr1 s c wy (bsd c j) = wy from by rw [wr1]; simp only [if_neg q1, if_neg q2, if_pos q3]] at k
        rw [nI_1 j]
        exact sx_RP.ls (sx_lr.cons rfl (sx_lr.cons rfl (sx_lr.cons rfl (sx_lr.cons rfl (sx_lr.cons rfl sx_lr.nil))))) k
      · replace q3 := of_decide_eq_false q3
        refine sx_RP.step (pc2 := 159) (ls2 := [(7, .int ((wy.getD c 0) + (crF (s.getD (7 + (bsd c j).toNatClampNeg) 0)))), (6, .int 1), (5, .int (bsd c j)), (0, .ref 111), (1, .int (nI src)), (2, .int (-1)), (3, .int (nI c)), (4, .int (nI j))]) (st2 := [.ref 111]) (w3 := ((w.set 117 (.inl (0, wy))).set 118 (.inl (1, su)))) rfl rfl ?_
        refine sx_RP.gf (v := .ref 117) rfl rfl (sx_gn2 (by decide) (sx_gn2 (by decide) h111)) rfl rfl (show _ = 162 from rfl) ?_
        refine sx_RP.step (pc2 := 164) (ls2 := [(7, .int ((wy.getD c 0) + (crF (s.getD (7 + (bsd c j).toNatClampNeg) 0)))), (6, .int 1), (5, .int (bsd c j)), (0, .ref 111), (1, .int (nI src)), (2, .int (-1)), (3, .int (nI c)), (4, .int (nI j))]) (st2 := [.int (bsd c j), .ref 117]) (w3 := ((w.set 117 (.inl (0, wy))).set 118 (.inl (1, su)))) rfl rfl ?_
        refine sx_RP.step (pc2 := 166) (ls2 := [(7, .int ((wy.getD c 0) + (crF (s.getD (7 + (bsd c j).toNatClampNeg) 0)))), (6, .int 1), (5, .int (bsd c j)), (0, .ref 111), (1, .int (nI src)), (2, .int (-1)), (3, .int (nI c)), (4, .int (nI j))]) (st2 := [.int ((wy.getD c 0) + (crF (s.getD (7 + (bsd c j).toNatClampNeg) 0))), .int (bsd c j), .ref 117]) (w3 := ((w.set 117 (.inl (0, wy))).set 118 (.inl (1, su)))) rfl rfl ?_
        refine sx_RP.ist (c := ((bsd c j).toNatClampNeg)) (w2 := ((w.set 117 (.inl (0, wy.set ((bsd c j).toNatClampNeg) ((wy.getD c 0) + (crF (s.getD (7 + (bsd c j).toNatClampNeg) 0)))))).set 118 (.inl (1, su)))) rfl (sx_gn2 (by decide) (sx_gs2 h117)) hwy ((bsd_in c hc j hj).resolve_left (fun z => q1 ((bsd_lt c hc j hj).mpr z))) rfl (sx_set1 (by decide)) (show _ = 167 from rfl) ?_
        refine sx_RP.step (pc2 := 170) (ls2 := [(4, .int ((nI j) + 1)), (7, .int ((wy.getD c 0) + (crF (s.getD (7 + (bsd c j).toNatClampNeg) 0)))), (6, .int 1), (5, .int (bsd c j)), (0, .ref 111), (1, .int (nI src)), (2, .int (-1)), (3, .int (nI c))]) (st2 := []) (w3 := ((w.set 117 (.inl (0, wy.set ((bsd c j).toNatClampNeg) ((wy.getD c 0) + (crF (s.getD (7 + (bsd c j).toNatClampNeg) 0)))))).set 118 (.inl (1, su)))) rfl rfl ?_
        refine sx_RP.step (pc2 := 53) (ls2 := [(4, .int ((nI j) + 1)), (7, .int ((wy.getD c 0) + (crF (s.getD (7 + (bsd c j).toNatClampNeg) 0)))), (6, .int 1), (5, .int (bsd c j)), (0, .ref 111), (1, .int (nI src)), (2, .int (-1)), (3, .int (nI c))]) (st2 := []) (w3 := ((w.set 117 (.inl (0, wy.set ((bsd c j).toNatClampNeg) ((wy.getD c 0) + (crF (s.getD (7 + (bsd c j).toNatClampNeg) 0)))))).set 118 (.inl (1, su)))) rfl rfl ?_
        rw [show wr1 s c wy (bsd c j) = wy.set ((bsd c j).toNatClampNeg) ((wy.getD c 0) + (crF (s.getD (7 + (bsd c j).toNatClampNeg) 0))) from by rw [wr1]; simp only [if_neg q1, if_neg q2, if_neg q3]] at k
        rw [nI_1 j]
        exact sx_RP.ls (sx_lr.cons rfl (sx_lr.cons rfl (sx_lr.cons rfl (sx_lr.cons rfl (sx_lr.cons rfl sx_lr.nil))))) k
set_option maxRecDepth 20000 in
set_option maxHeartbeats 4000000 in
theorem cp_141w {xs : Option (List Int32)} {d : Nat} {w : List sx_C} {mk mt mh mf mv : Int32} {s wy0 su0 : List Int32} (h111 : w[111]? = some (.inr (.inr (.inr (6, [.ref 112, .ref 113, .ref 114, .ref 115, .int mk, .ref 116, .ref 117, .ref 118, .ref 119, .ref 120, .ref 121, .int mt, .int mh, .int mf, .int mv, .ref 122, .ref 123, .ref 124, .ref 125]))))) (h112 : w[112]? = some (.inl (0, s))) (h117 : w[117]? = some (.inl (0, wy0))) (h118 : w[118]? = some (.inl (1, su0))) (hs : s.length = 172) {P : Option Value → List sx_C → Prop} {su : List Int32} {src c : Nat} (hc : c < 48) : ∀ (k j : Nat) (wy : List Int32), j + k = 4 → wy.length = 48 → sx_RP xs (d + 1) 141 173 [(0, .ref 111), (1, .int (nI src)), (2, .int (-1))] [] ((w.set 117 (.inl (0, wrF s c k j wy))).set 118 (.inl (1, su))) P → sx_RP xs (d + 1) 141 53 [(0, .ref 111), (1, .int (nI src)), (2, .int (-1)), (3, .int (nI c)), (4, .int (nI j))] [] ((w.set 117 (.inl (0, wy))).set 118 (.inl (1, su))) P
  | 0, j, wy, h, h1, kk => by
    obtain rfl : j = 4 := by omega
    refine sx_RP.step (pc2 := 55) (ls2 := [(0, .ref 111), (1, .int (nI src)), (2, .int (-1)), (3, .int (nI c)), (4, .int (nI 4))]) (st2 := [.int (nI 4)]) (w3 := ((w.set 117 (.inl (0, wy))).set 118 (.inl (1, su)))) rfl rfl ?_
    refine sx_RP.step (pc2 := 56) (ls2 := [(0, .ref 111), (1, .int (nI src)), (2, .int (-1)), (3, .int (nI c)), (4, .int (nI 4))]) (st2 := [.int 4, .int (nI 4)]) (w3 := ((w.set 117 (.inl (0, wy))).set 118 (.inl (1, su)))) rfl rfl ?_
    refine sx_RP.step (pc2 := 173) (ls2 := [(0, .ref 111), (1, .int (nI src)), (2, .int (-1)), (3, .int (nI c)), (4, .int (nI 4))]) (st2 := []) (w3 := ((w.set 117 (.inl (0, wy))).set 118 (.inl (1, su)))) rfl rfl ?_
    exact sx_RP.ls (sx_lr.cons rfl (sx_lr.cons rfl (sx_lr.cons rfl sx_lr.nil))) kk
  | k + 1, j, wy, h, h1, kk => cq_141w h111 h112 h117 h118 hs h1 hc (by omega) (cp_141w h111 h112 h117 h118 hs hc k (j + 1) _ (by omega) (wr1_len h1) kk)
set_option maxRecDepth 20000 in
set_option maxHeartbeats 4000000 in
theorem cq_141m {xs : Option (List Int32)} {d : Nat} {w : List sx_C} {mk mt mh mf mv : Int32} {s wy0 su0 : List Int32} (h111 : w[111]? = some (.inr (.inr (.inr (6, [.ref 112, .ref 113, .ref 114, .ref 115, .int mk, .ref 116, .ref 117, .ref 118, .ref 119, .ref 120, .ref 121, .int mt, .int mh, .int mf, .int mv, .ref 122, .ref 123, .ref 124, .ref 125]))))) (h112 : w[112]? = some (.inl (0, s))) (h117 : w[117]? = some (.inl (0, wy0))) (h118 : w[118]? = some (.inl (1, su0))) (hs : s.length = 172) {P : Option Value → List sx_C → Prop} {wy su : List Int32} {src c : Nat} (hwy : wy.length = 48) (hsu : su.length = 48) (hc : c < 48) (kk : sx_RP xs (d + 1) 141 39 [(0, .ref 111), (1, .int (nI src)), (2, .int (-1)), (3, .int (nrF (wrF s c 4 0 wy) (su.set c 1) 48 0 (-1)))] [] ((w.set 117 (.inl (0, wrF s c 4 0 wy))).set 118 (.inl (1, su.set c 1))) P) : sx_RP xs (d + 1) 141 39 [(0, .ref 111), (1, .int (nI src)), (2, .int (-1)), (3, .int (nI c))] [] ((w.set 117 (.inl (0, wy))).set 118 (.inl (1, su))) P := by
  refine sx_RP.step (pc2 := 40) (ls2 := [(0, .ref 111), (1, .int (nI src)), (2, .int (-1)), (3, .int (nI c))]) (st2 := [.int (nI c)]) (w3 := ((w.set 117 (.inl (0, wy))).set 118 (.inl (1, su)))) rfl rfl ?_
  refine sx_RP.br (p2 := 43) (l2 := [(0, .ref 111), (1, .int (nI src)), (2, .int (-1)), (3, .int (nI c))]) (s2 := []) (v2 := ((w.set 117 (.inl (0, wy))).set 118 (.inl (1, su)))) rfl rfl (fun q => absurd (of_decide_eq_true q) (nI_pos (by omega))) (fun _ => ?_)
  refine sx_RP.step (pc2 := 44) (ls2 := [(0, .ref 111), (1, .int (nI src)), (2, .int (-1)), (3, .int (nI c))]) (st2 := [.ref 111]) (w3 := ((w.set 117 (.inl (0, wy))).set 118 (.inl (1, su)))) rfl rfl ?_
  refine sx_RP.gf (v := .ref 118) rfl rfl (sx_gn2 (by decide) (sx_gn2 (by decide) h111)) rfl rfl (show _ = 47 from rfl) ?_
  refine sx_RP.step (pc2 := 48) (ls2 := [(0, .ref 111), (1, .int (nI src)), (2, .int (-1)), (3, .int (nI c))]) (st2 := [.int (nI c), .ref 118]) (w3 := ((w.set 117 (.inl (0, wy))).set 118 (.inl (1, su)))) rfl rfl ?_
  refine sx_RP.step (pc2 := 49) (ls2 := [(0, .ref 111), (1, .int (nI src)), (2, .int (-1)), (3, .int (nI c))]) (st2 := [.int 1, .int (nI c), .ref 118]) (w3 := ((w.set 117 (.inl (0, wy))).set 118 (.inl (1, su)))) rfl rfl ?_
  refine sx_RP.bst1 (c := c) (w2 := ((w.set 117 (.inl (0, wy))).set 118 (.inl (1, su.set c 1)))) rfl (sx_gs2 (sx_gn2 (by decide) h118)) hsu (sx_in_nI hc (by decide)) (nI_clamp (by have := hc; omega)) (List.set_set ..) (show _ = 50 from rfl) ?_
  refine sx_RP.step (pc2 := 51) (ls2 := [(0, .ref 111), (1, .int (nI src)), (2, .int (-1)), (3, .int (nI c))]) (st2 := [.int 0]) (w3 := ((w.set 117 (.inl (0, wy))).set 118 (.inl (1, su.set c 1)))) rfl rfl ?_
  refine sx_RP.step (pc2 := 53) (ls2 := [(4, .int 0), (0, .ref 111), (1, .int (nI src)), (2, .int (-1)), (3, .int (nI c))]) (st2 := []) (w3 := ((w.set 117 (.inl (0, wy))).set 118 (.inl (1, su.set c 1)))) rfl rfl ?_
  refine sx_RP.ls (sx_lr.cons rfl (sx_lr.cons rfl (sx_lr.cons rfl (sx_lr.cons rfl (sx_lr.cons rfl sx_lr.nil))))) (cp_141w h111 h112 h117 h118 hs hc 4 0 wy rfl hwy ?_)
  refine sx_RP.step (pc2 := 174) (ls2 := [(0, .ref 111), (1, .int (nI src)), (2, .int (-1))]) (st2 := [.ref 111]) (w3 := ((w.set 117 (.inl (0, wrF s c 4 0 wy))).set 118 (.inl (1, su.set c 1)))) rfl rfl ?_
  refine sx_RP.cu (as := [.ref 111]) (rest2 := []) (st3 := [.int (nrF (wrF s c 4 0 wy) (su.set c 1) 48 0 (-1))]) rfl rfl (sx_inv_v2 (mi := 141) (k := 90) (st := [.ref 111]) (w := ((w.set 117 (.inl (0, wrF s c 4 0 wy))).set 118 (.inl (1, su.set c 1)))) rfl rfl (sx_gn2 (by decide) (sx_gn2 (by decide) h111)) rfl rfl rfl) rfl rfl (cp_149 (sx_gn2 (by decide) (sx_gn2 (by decide) h111)) (sx_gn2 (by decide) (sx_gs2 h117)) (sx_gs2 (sx_gn2 (by decide) h118)) (wrF_len 4 0 _ hwy) (sx_ls hsu)) rfl ?_
  refine sx_RP.step (pc2 := 178) (ls2 := [(3, .int (nrF (wrF s c 4 0 wy) (su.set c 1) 48 0 (-1))), (0, .ref 111), (1, .int (nI src)), (2, .int (-1))]) (st2 := []) (w3 := ((w.set 117 (.inl (0, wrF s c 4 0 wy))).set 118 (.inl (1, su.set c 1)))) rfl rfl ?_
  refine sx_RP.step (pc2 := 39) (ls2 := [(3, .int (nrF (wrF s c 4 0 wy) (su.set c 1) 48 0 (-1))), (0, .ref 111), (1, .int (nI src)), (2, .int (-1))]) (st2 := []) (w3 := ((w.set 117 (.inl (0, wrF s c 4 0 wy))).set 118 (.inl (1, su.set c 1)))) rfl rfl ?_
  exact sx_RP.ls (sx_lr.cons rfl (sx_lr.cons rfl (sx_lr.cons rfl (sx_lr.cons rfl sx_lr.nil)))) kk
theorem cnt_set {su : List Int32} {c f : Nat} (hc : c < su.length) (h0 : su.getD c 0 = 0) (h : su.count 0 ≤ f + 1) : (su.set c 1).count 0 ≤ f := by
  have e : su[c] = 0 := by
    rw [List.getD_eq_getElem?_getD, List.getElem?_eq_getElem hc] at h0
    exact h0
  rw [List.count_set hc, e]
  simp
  omega
theorem cnt_pos {su : List Int32} {c : Nat} (hc : c < su.length) (h0 : su.getD c 0 = 0) : 0 < su.count 0 := by
  have e : su[c] = 0 := by
    rw [List.getD_eq_getElem?_getD, List.getElem?_eq_getElem hc] at h0
    exact h0
  rw [List.count_pos_iff, ← e]
  exact List.getElem_mem hc
set_option maxRecDepth 20000 in
set_option maxHeartbeats 4000000 in
theorem cp_141z {xs : Option (List Int32)} {d : Nat} {w : List sx_C} {P : Option Value → List sx_C → Prop} {src : Nat} {b : Int32} {wy su : List Int32} (q : b < 0) (kk : P none ((w.set 117 (.inl (0, wy))).set 118 (.inl (1, su)))) : sx_RP xs d 141 39 [(0, .ref 111), (1, .int (nI src)), (2, .int (-1)), (3, .int b)] [] ((w.set 117 (.inl (0, wy))).set 118 (.inl (1, su))) P := by
  refine sx_RP.step (pc2 := 40) (ls2 := [(0, .ref 111), (1, .int (nI src)), (2, .int (-1)), (3, .int b)]) (st2 := [.int b]) (w3 := ((w.set 117 (.inl (0, wy))).set 118 (.inl (1, su)))) rfl rfl ?_
  refine sx_RP.br (p1 := 181) (l1 := [(0, .ref 111), (1, .int (nI src)), (2, .int (-1)), (3, .int b)]) (s1 := []) (v1 := ((w.set 117 (.inl (0, wy))).set 118 (.inl (1, su)))) rfl rfl (fun _ => ?_) (fun z => absurd q (of_decide_eq_false z))
  refine sx_RP.ret rfl rfl ?_
  exact kk
set_option maxRecDepth 20000 in
set_option maxHeartbeats 4000000 in
theorem cp_141m {xs : Option (List Int32)} {d : Nat} {w : List sx_C} {mk mt mh mf mv : Int32} {s wy0 su0 : List Int32} (h111 : w[111]? = some (.inr (.inr (.inr (6, [.ref 112, .ref 113, .ref 114, .ref 115, .int mk, .ref 116, .ref 117, .ref 118, .ref 119, .ref 120, .ref 121, .int mt, .int mh, .int mf, .int mv, .ref 122, .ref 123, .ref 124, .ref 125]))))) (h112 : w[112]? = some (.inl (0, s))) (h117 : w[117]? = some (.inl (0, wy0))) (h118 : w[118]? = some (.inl (1, su0))) (hs : s.length = 172) {P : Option Value → List sx_C → Prop} {src : Nat} : ∀ (f : Nat) (b : Int32) (wy su : List Int32), su.count 0 ≤ f → nrOK su b → wy.length = 48 → su.length = 48 → (∀ wy2 su2, wkF s (f + 1) b wy su = (wy2, su2) → P none ((w.set 117 (.inl (0, wy2))).set 118 (.inl (1, su2)))) → sx_RP xs (d + 1) 141 39 [(0, .ref 111), (1, .int (nI src)), (2, .int (-1)), (3, .int b)] [] ((w.set 117 (.inl (0, wy))).set 118 (.inl (1, su))) P
  | 0, b, wy, su, hf, hb, h1, h2, kk => by
    rcases hb with hb | ⟨c, hc, rfl, h0⟩
    · exact cp_141z hb (kk wy su (by rw [wkF]; rw [if_pos hb]))
    · exact absurd (cnt_pos (by omega) h0) (by omega)
  | f + 1, b, wy, su, hf, hb, h1, h2, kk => by
    rcases hb with hb | ⟨c, hc, rfl, h0⟩
    · exact cp_141z hb (kk wy su (by rw [wkF]; rw [if_pos hb]))
    · refine cq_141m h111 h112 h117 h118 hs h1 h2 hc (cp_141m h111 h112 h117 h118 hs f _ _ _ (cnt_set (by omega) h0 hf) (nrF_ok 48 0 _ rfl (Or.inl (by decide))) (wrF_len 4 0 _ h1) (sx_ls h2) ?_)
      intro wy2 su2 e2
      refine kk wy2 su2 ?_
      rw [wkF]
      rw [if_neg (nI_pos (by omega)), nI_clamp (by omega)]
      exact e2
def wlF (s : List Int32) (src : Nat) (wy0 su0 : List Int32) : List Int32 × List Int32 := wkF s 49 (nI src) (wiF src 48 0 wy0) (flF 0 48 0 su0)
theorem flF_at {v : Int32} : ∀ (k j : Nat) (l : List Int32), j + k = l.length → ∀ c, c < l.length → (j ≤ c → (flF v k j l).getD c 0 = v) ∧ (c < j → (flF v k j l).getD c 0 = l.getD c 0)
  | 0, j, l, h, c, hc => ⟨fun z => by omega, fun _ => rfl⟩
  | k + 1, j, l, h, c, hc => by
    have IH := flF_at (v := v) k (j + 1) (l.set j v) (by rw [List.length_set]; omega) c (by rw [List.length_set]; exact hc)
    refine ⟨fun z => ?_, fun z => ?_⟩
    · by_cases e : c = j
      · subst e
        show (flF v k (c + 1) (l.set c v)).getD c 0 = v
        rw [IH.2 (by omega), List.getD_eq_getElem?_getD, List.getElem?_set_self hc]
        rfl
      · exact IH.1 (by omega)
    · show (flF v k (j + 1) (l.set j v)).getD c 0 = l.getD c 0
      rw [IH.2 (by omega), List.getD_eq_getElem?_getD, List.getElem?_set_ne (by omega), ← List.getD_eq_getElem?_getD]
set_option maxRecDepth 20000 in
set_option maxHeartbeats 4000000 in
theorem cp_141 {xs : Option (List Int32)} {d : Nat} {w : List sx_C} {mk mt mh mf mv : Int32} {s wy0 su0 : List Int32} (h111 : w[111]? = some (.inr (.inr (.inr (6, [.ref 112, .ref 113, .ref 114, .ref 115, .int mk, .ref 116, .ref 117, .ref 118, .ref 119, .ref 120, .ref 121, .int mt, .int mh, .int mf, .int mv, .ref 122, .ref 123, .ref 124, .ref 125]))))) (h112 : w[112]? = some (.inl (0, s))) (h117 : w[117]? = some (.inl (0, wy0))) (h118 : w[118]? = some (.inl (1, su0))) (hs : s.length = 172) (hwy0 : wy0.length = 48) (hsu0 : su0.length = 48) {src : Nat} (hsrc : src < 48) : sx_RU xs (d + 1) 141 0 (lv_args 0 [.ref 111, .int (nI src), .int (-1)]) [] w none ((w.set 117 (.inl (0, (wlF s src wy0 su0).1))).set 118 (.inl (1, (wlF s src wy0 su0).2))) := by
  have h : sx_RP xs (d + 1) 141 0 (lv_args 0 [.ref 111, .int (nI src), .int (-1)]) [] w (fun r w2 => r = none ∧ w2 = ((w.set 117 (.inl (0, (wlF s src wy0 su0).1))).set 118 (.inl (1, (wlF s src wy0 su0).2)))) := by
    refine sx_RP.step (pc2 := 1) (ls2 := [(0, .ref 111), (1, .int (nI src)), (2, .int (-1))]) (st2 := [.int 0]) (w3 := w) rfl rfl ?_
    refine sx_RP.step (pc2 := 2) (ls2 := [(3, .int 0), (0, .ref 111), (1, .int (nI src)), (2, .int (-1))]) (st2 := []) (w3 := w) rfl rfl ?_
    have k2 := cp_141i (xs := xs) (d := d + 1) h111 h112 h117 h118 hs (P := fun r w2 => r = none ∧ w2 = ((w.set 117 (.inl (0, (wlF s src wy0 su0).1))).set 118 (.inl (1, (wlF s src wy0 su0).2)))) (src := src) 48 0 wy0 su0 rfl hwy0 hsu0 (cp_141m h111 h112 h117 h118 hs 48 (nI src) (wiF src 48 0 wy0) (flF 0 48 0 su0) (Nat.le_trans List.count_le_length (by rw [flF_len 48 0 _ hsu0]; exact Nat.le_refl _)) (Or.inr ⟨src, hsrc, rfl, (flF_at 48 0 su0 (by omega) src (by omega)).1 (Nat.zero_le _)⟩) (wiF_len 48 0 _ hwy0) (flF_len 48 0 _ hsu0) (fun wy2 su2 e => ⟨rfl, by rw [wlF, e]⟩))
    rw [← sx_same h117, ← sx_same h118] at k2
    exact sx_RP.ls (sx_lr.cons rfl (sx_lr.cons rfl (sx_lr.cons rfl (sx_lr.cons rfl sx_lr.nil)))) k2
  obtain ⟨r, w2, h1, rfl, rfl⟩ := h
  exact h1
