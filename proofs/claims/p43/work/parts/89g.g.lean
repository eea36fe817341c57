-- 89g.siege.lean.txt
section
section SXTP
variable {xs : Option (List Int32)} {d mi pc pc2 a idx p : Nat} {ls : sx_L} {r : List Value} {w w0 : List sx_C} {P : Option Value → List sx_C → Prop}
theorem sx_RP.xP {k : Nat} {v : Int32} (hI : WI w) (hi : sx_ins mi pc = some (.putfield idx, 3)) (hq : sx_lk (sx_fl (sx_own mi)) idx = some (4, k, p)) (hk : 2 ≤ k ∧ k < 6) (hf : sx_fin mi 4 k = true) (hv : tR k v) (hp : pc + 3 = pc2) (kk : ∀ w2, WI w2 → Same 96 w w2 → fi w2 96 k = v → (∀ j, j ≠ k → fi w2 96 j = fi w 96 j) → sx_RP xs d mi pc2 ls r w2 P) : sx_RP xs d mi pc ls (.int v :: .ref 96 :: r) w P := by
  have hw := hI.1.o96
  have q := hI.t
  have hfs : fs_ w 96 = [.ref 97, .int (fi w 96 1), .int (fi w 96 2), .int (fi w 96 3), .int (fi w 96 4), .int (fi w 96 5)] := by unfold fs_; rw [hw]
  have hne : ∀ (fs : List Value) (j : Nat), fs_ w 96 = fs → j ≠ k → fi (w.set 96 (.inr (.inr (.inr (4, fs.set k (.int v)))))) 96 j = fi w 96 j := by
    intro fs j e hj
    unfold fi
    rw [fs_set hw, List.getElem?_set_ne (Ne.symm hj), e]
  rcases (show k = 2 ∨ k = 3 ∨ k = 4 ∨ k = 5 by omega) with rfl | rfl | rfl | rfl
  · exact sx_RP.pf hi hq hw (by rw [hf]; rfl) rfl rfl hp (kk _ (hI.set hw rfl (cOK.t q)) Same.set (by unfold fi; rw [fs_set hw]; rfl) (fun j hj => hne _ j hfs hj))
  · exact sx_RP.pf hi hq hw (by rw [hf]; rfl) rfl rfl hp (kk _ (hI.set hw rfl (cOK.t ⟨q.1, hv, q.2.2⟩)) Same.set (by unfold fi; rw [fs_set hw]; rfl) (fun j hj => hne _ j hfs hj))
  · exact sx_RP.pf hi hq hw (by rw [hf]; rfl) rfl rfl hp (kk _ (hI.set hw rfl (cOK.t ⟨q.1, q.2.1, hv⟩)) Same.set (by unfold fi; rw [fs_set hw]; rfl) (fun j hj => hne _ j hfs hj))
  · exact sx_RP.pf hi hq hw (by rw [hf]; rfl) rfl rfl hp (kk _ (hI.set hw rfl (cOK.t q)) Same.set (by unfold fi; rw [fs_set hw]; rfl) (fun j hj => hne _ j hfs hj))
end SXTP
theorem CT.same {n : Nat} {X : Nat → Nat} {w w2 : List sx_C} (h : CT n X w) (h1 : fi w2 96 1 = fi w 96 1) (h2 : ia w2 97 = ia w 97) : CT n X w2 := ⟨h1.trans h.1, h.2.1, fun i hi => by rw [h2]; exact h.2.2 i hi⟩
theorem sgn32 {c : Nat} (h : c < 256) : sgn c = 32 ↔ blk c = true := by
  rw [← sgn32_all ⟨c, h⟩]
  exact (decide_eq_true_iff).symm
theorem nI_min {a b : Nat} (ha : a < 2 ^ 31) (hb : b < 2 ^ 31) : (if nI b < nI a then nI b else nI a) = nI (min a b) := by
  by_cases h : b < a
  · rw [if_pos ((nI_ltI hb ha).mpr h), Nat.min_eq_right (by omega)]
  · rw [if_neg (fun z => h ((nI_ltI hb ha).mp z)), Nat.min_eq_left (by omega)]
set_option maxRecDepth 20000 in
set_option maxHeartbeats 4000000 in
theorem x95 {xs : Option (List Int32)} {d : Nat} {w : List sx_C} (hI : WI w) {c : Nat} (hc : c < 256) : sx_RU xs d 95 0 (lv_args 0 [.int (sgn c)]) [] w (some (.int (nI (sortN c)))) w := by
  have h : sx_RP xs d 95 0 (lv_args 0 [.int (sgn c)]) [] w (fun r9 w2 => r9 = some (.int (nI (sortN c))) ∧ w2 = w) := by
    refine sx_RP.step (pc2 := 1) (ls2 := [(0, .int (sgn c))]) (st2 := [.int (sgn c)]) (w3 := w) rfl rfl ?_
    refine sx_RP.step (pc2 := 3) (ls2 := [(0, .int (sgn c))]) (st2 := [.int 97, .int (sgn c)]) (w3 := w) rfl rfl ?_
    refine sx_RP.br (p1 := 14) (l1 := [(0, .int (sgn c))]) (s1 := []) (v1 := w) (p2 := 6) (l2 := [(0, .int (sgn c))]) (s2 := []) (v2 := w) rfl rfl (fun q1 => ?_) (fun q1 => ?_)
    · replace q1 := of_decide_eq_true q1
      refine sx_RP.step (pc2 := 15) (ls2 := [(0, .int (sgn c))]) (st2 := [.int (sgn c)]) (w3 := w) rfl rfl ?_
      refine sx_RP.step (pc2 := 17) (ls2 := [(0, .int (sgn c))]) (st2 := [.int 48, .int (sgn c)]) (w3 := w) rfl rfl ?_
      refine sx_RP.br (p1 := 28) (l1 := [(0, .int (sgn c))]) (s1 := []) (v1 := w) (p2 := 20) (l2 := [(0, .int (sgn c))]) (s2 := []) (v2 := w) rfl rfl (fun q2 => ?_) (fun q2 => ?_)
      · replace q2 := of_decide_eq_true q2
        refine sx_RP.step (pc2 := 29) (ls2 := [(0, .int (sgn c))]) (st2 := [.int (sgn c)]) (w3 := w) rfl rfl ?_
        refine sx_RP.step (pc2 := 31) (ls2 := [(0, .int (sgn c))]) (st2 := [.int 59, .int (sgn c)]) (w3 := w) rfl rfl ?_
        refine sx_RP.br (p1 := 38) (l1 := [(0, .int (sgn c))]) (s1 := []) (v1 := w) (p2 := 34) (l2 := [(0, .int (sgn c))]) (s2 := []) (v2 := w) rfl rfl (fun q3 => ?_) (fun q3 => ?_)
        · replace q3 := of_decide_eq_true q3
          refine sx_RP.step (pc2 := 39) (ls2 := [(0, .int (sgn c))]) (st2 := [.int 4]) (w3 := w) rfl rfl ?_
          refine sx_RP.ret (r := (some (.int 4))) rfl rfl ?_
          exact ⟨by rw [sort_all ⟨c, hc⟩, if_pos q1, if_pos q2, if_pos q3], rfl⟩
        · replace q3 := Decidable.not_not.mp (of_decide_eq_false q3)
          refine sx_RP.step (pc2 := 35) (ls2 := [(0, .int (sgn c))]) (st2 := [.int 3]) (w3 := w) rfl rfl ?_
          refine sx_RP.step (pc2 := 39) (ls2 := [(0, .int (sgn c))]) (st2 := [.int 3]) (w3 := w) rfl rfl ?_
          refine sx_RP.ret (r := (some (.int 3))) rfl rfl ?_
          exact ⟨by rw [sort_all ⟨c, hc⟩, if_pos q1, if_pos q2, if_neg (fun z => z q3)], rfl⟩
      · replace q2 := of_decide_eq_false q2
        refine sx_RP.step (pc2 := 21) (ls2 := [(0, .int (sgn c))]) (st2 := [.int (sgn c)]) (w3 := w) rfl rfl ?_
        refine sx_RP.step (pc2 := 23) (ls2 := [(0, .int (sgn c))]) (st2 := [.int 57, .int (sgn c)]) (w3 := w) rfl rfl ?_
        refine sx_RP.br (p1 := 28) (l1 := [(0, .int (sgn c))]) (s1 := []) (v1 := w) (p2 := 26) (l2 := [(0, .int (sgn c))]) (s2 := []) (v2 := w) rfl rfl (fun q4 => ?_) (fun q4 => ?_)
        · replace q4 := of_decide_eq_true q4
          refine sx_RP.step (pc2 := 29) (ls2 := [(0, .int (sgn c))]) (st2 := [.int (sgn c)]) (w3 := w) rfl rfl ?_
          refine sx_RP.step (pc2 := 31) (ls2 := [(0, .int (sgn c))]) (st2 := [.int 59, .int (sgn c)]) (w3 := w) rfl rfl ?_
          refine sx_RP.br (p1 := 38) (l1 := [(0, .int (sgn c))]) (s1 := []) (v1 := w) (p2 := 34) (l2 := [(0, .int (sgn c))]) (s2 := []) (v2 := w) rfl rfl (fun q5 => ?_) (fun q5 => ?_)
          · replace q5 := of_decide_eq_true q5
            refine sx_RP.step (pc2 := 39) (ls2 := [(0, .int (sgn c))]) (st2 := [.int 4]) (w3 := w) rfl rfl ?_
            refine sx_RP.ret (r := (some (.int 4))) rfl rfl ?_
            exact ⟨by rw [sort_all ⟨c, hc⟩, if_pos q1, if_neg q2, if_pos q4, if_pos q5], rfl⟩
          · replace q5 := Decidable.not_not.mp (of_decide_eq_false q5)
            refine sx_RP.step (pc2 := 35) (ls2 := [(0, .int (sgn c))]) (st2 := [.int 3]) (w3 := w) rfl rfl ?_
            refine sx_RP.step (pc2 := 39) (ls2 := [(0, .int (sgn c))]) (st2 := [.int 3]) (w3 := w) rfl rfl ?_
            refine sx_RP.ret (r := (some (.int 3))) rfl rfl ?_
            exact ⟨by rw [sort_all ⟨c, hc⟩, if_pos q1, if_neg q2, if_pos q4, if_neg (fun z => z q5)], rfl⟩
        · replace q4 := of_decide_eq_false q4
          refine sx_RP.step (pc2 := 27) (ls2 := [(0, .int (sgn c))]) (st2 := [.int 2]) (w3 := w) rfl rfl ?_
          refine sx_RP.ret (r := (some (.int 2))) rfl rfl ?_
          exact ⟨by rw [sort_all ⟨c, hc⟩, if_pos q1, if_neg q2, if_neg q4], rfl⟩
    · replace q1 := of_decide_eq_false q1
      refine sx_RP.step (pc2 := 7) (ls2 := [(0, .int (sgn c))]) (st2 := [.int (sgn c)]) (w3 := w) rfl rfl ?_
      refine sx_RP.step (pc2 := 9) (ls2 := [(0, .int (sgn c))]) (st2 := [.int 122, .int (sgn c)]) (w3 := w) rfl rfl ?_
      refine sx_RP.br (p1 := 14) (l1 := [(0, .int (sgn c))]) (s1 := []) (v1 := w) (p2 := 12) (l2 := [(0, .int (sgn c))]) (s2 := []) (v2 := w) rfl rfl (fun q6 => ?_) (fun q6 => ?_)
      · replace q6 := of_decide_eq_true q6
        refine sx_RP.step (pc2 := 15) (ls2 := [(0, .int (sgn c))]) (st2 := [.int (sgn c)]) (w3 := w) rfl rfl ?_
        refine sx_RP.step (pc2 := 17) (ls2 := [(0, .int (sgn c))]) (st2 := [.int 48, .int (sgn c)]) (w3 := w) rfl rfl ?_
        refine sx_RP.br (p1 := 28) (l1 := [(0, .int (sgn c))]) (s1 := []) (v1 := w) (p2 := 20) (l2 := [(0, .int (sgn c))]) (s2 := []) (v2 := w) rfl rfl (fun q7 => ?_) (fun q7 => ?_)
        · replace q7 := of_decide_eq_true q7
          refine sx_RP.step (pc2 := 29) (ls2 := [(0, .int (sgn c))]) (st2 := [.int (sgn c)]) (w3 := w) rfl rfl ?_
          refine sx_RP.step (pc2 := 31) (ls2 := [(0, .int (sgn c))]) (st2 := [.int 59, .int (sgn c)]) (w3 := w) rfl rfl ?_
          refine sx_RP.br (p1 := 38) (l1 := [(0, .int (sgn c))]) (s1 := []) (v1 := w) (p2 := 34) (l2 := [(0, .int (sgn c))]) (s2 := []) (v2 := w) rfl rfl (fun q8 => ?_) (fun q8 => ?_)
          · replace q8 := of_decide_eq_true q8
            refine sx_RP.step (pc2 := 39) (ls2 := [(0, .int (sgn c))]) (st2 := [.int 4]) (w3 := w) rfl rfl ?_
            refine sx_RP.ret (r := (some (.int 4))) rfl rfl ?_
            exact ⟨by rw [sort_all ⟨c, hc⟩, if_neg q1, if_pos q6, if_pos q7, if_pos q8], rfl⟩
          · replace q8 := Decidable.not_not.mp (of_decide_eq_false q8)
            refine sx_RP.step (pc2 := 35) (ls2 := [(0, .int (sgn c))]) (st2 := [.int 3]) (w3 := w) rfl rfl ?_
            refine sx_RP.step (pc2 := 39) (ls2 := [(0, .int (sgn c))]) (st2 := [.int 3]) (w3 := w) rfl rfl ?_
            refine sx_RP.ret (r := (some (.int 3))) rfl rfl ?_
            exact ⟨by rw [sort_all ⟨c, hc⟩, if_neg q1, if_pos q6, if_pos q7, if_neg (fun z => z q8)], rfl⟩
        · replace q7 := of_decide_eq_false q7
          refine sx_RP.step (pc2 := 21) (ls2 := [(0, .int (sgn c))]) (st2 := [.int (sgn c)]) (w3 := w) rfl rfl ?_
          refine sx_RP.step (pc2 := 23) (ls2 := [(0, .int (sgn c))]) (st2 := [.int 57, .int (sgn c)]) (w3 := w) rfl rfl ?_
          refine sx_RP.br (p1 := 28) (l1 := [(0, .int (sgn c))]) (s1 := []) (v1 := w) (p2 := 26) (l2 := [(0, .int (sgn c))]) (s2 := []) (v2 := w) rfl rfl (fun q9 => ?_) (fun q9 => ?_)
          · replace q9 := of_decide_eq_true q9
            refine sx_RP.step (pc2 := 29) (ls2 := [(0, .int (sgn c))]) (st2 := [.int (sgn c)]) (w3 := w) rfl rfl ?_
            refine sx_RP.step (pc2 := 31) (ls2 := [(0, .int (sgn c))]) (st2 := [.int 59, .int (sgn c)]) (w3 := w) rfl rfl ?_
            refine sx_RP.br (p1 := 38) (l1 := [(0, .int (sgn c))]) (s1 := []) (v1 := w) (p2 := 34) (l2 := [(0, .int (sgn c))]) (s2 := []) (v2 := w) rfl rfl (fun q10 => ?_) (fun q10 => ?_)
            · replace q10 := of_decide_eq_true q10
              refine sx_RP.step (pc2 := 39) (ls2 := [(0, .int (sgn c))]) (st2 := [.int 4]) (w3 := w) rfl rfl ?_
              refine sx_RP.ret (r := (some (.int 4))) rfl rfl ?_
              exact ⟨by rw [sort_all ⟨c, hc⟩, if_neg q1, if_pos q6, if_neg q7, if_pos q9, if_pos q10], rfl⟩
            · replace q10 := Decidable.not_not.mp (of_decide_eq_false q10)
              refine sx_RP.step (pc2 := 35) (ls2 := [(0, .int (sgn c))]) (st2 := [.int 3]) (w3 := w) rfl rfl ?_
              refine sx_RP.step (pc2 := 39) (ls2 := [(0, .int (sgn c))]) (st2 := [.int 3]) (w3 := w) rfl rfl ?_
              refine sx_RP.ret (r := (some (.int 3))) rfl rfl ?_
              exact ⟨by rw [sort_all ⟨c, hc⟩, if_neg q1, if_pos q6, if_neg q7, if_pos q9, if_neg (fun z => z q10)], rfl⟩
          · replace q9 := of_decide_eq_false q9
            refine sx_RP.step (pc2 := 27) (ls2 := [(0, .int (sgn c))]) (st2 := [.int 2]) (w3 := w) rfl rfl ?_
            refine sx_RP.ret (r := (some (.int 2))) rfl rfl ?_
            exact ⟨by rw [sort_all ⟨c, hc⟩, if_neg q1, if_pos q6, if_neg q7, if_neg q9], rfl⟩
      · replace q6 := of_decide_eq_false q6
        refine sx_RP.step (pc2 := 13) (ls2 := [(0, .int (sgn c))]) (st2 := [.int 1]) (w3 := w) rfl rfl ?_
        refine sx_RP.ret (r := (some (.int 1))) rfl rfl ?_
        exact ⟨by rw [sort_all ⟨c, hc⟩, if_neg q1, if_neg q6], rfl⟩
  obtain ⟨r9, w2, h1, rfl, rfl⟩ := h
  exact h1
set_option maxRecDepth 20000 in
set_option maxHeartbeats 4000000 in
theorem x97 {xs : Option (List Int32)} {d : Nat} {w : List sx_C} (hI : WI w) (x y : Int32) : sx_RU xs d 97 0 (lv_args 0 [.int x, .int y]) [] w (some (.int (if y < x then y else x))) w := by
  have h : sx_RP xs d 97 0 (lv_args 0 [.int x, .int y]) [] w (fun r9 w2 => r9 = some (.int (if y < x then y else x)) ∧ w2 = w) := by
    refine sx_RP.step (pc2 := 1) (ls2 := [(0, .int x), (1, .int y)]) (st2 := [.int x]) (w3 := w) rfl rfl ?_
    refine sx_RP.step (pc2 := 2) (ls2 := [(0, .int x), (1, .int y)]) (st2 := [.int y, .int x]) (w3 := w) rfl rfl ?_
    refine sx_RP.br (p1 := 9) (l1 := [(0, .int x), (1, .int y)]) (s1 := []) (v1 := w) (p2 := 5) (l2 := [(0, .int x), (1, .int y)]) (s2 := []) (v2 := w) rfl rfl (fun q1 => ?_) (fun q1 => ?_)
    · replace q1 := of_decide_eq_true q1
      refine sx_RP.step (pc2 := 10) (ls2 := [(0, .int x), (1, .int y)]) (st2 := [.int y]) (w3 := w) rfl rfl ?_
      refine sx_RP.ret (r := (some (.int y))) rfl rfl ?_
      exact ⟨by first | rw [if_pos q1] | rw [if_neg q1] | rw [if_neg (Int32.not_lt.mpr q1)] | rw [if_pos (Int32.not_le.mp q1)], rfl⟩
    · replace q1 := of_decide_eq_false q1
      refine sx_RP.step (pc2 := 6) (ls2 := [(0, .int x), (1, .int y)]) (st2 := [.int x]) (w3 := w) rfl rfl ?_
      refine sx_RP.step (pc2 := 10) (ls2 := [(0, .int x), (1, .int y)]) (st2 := [.int x]) (w3 := w) rfl rfl ?_
      refine sx_RP.ret (r := (some (.int x))) rfl rfl ?_
      exact ⟨by first | rw [if_pos q1] | rw [if_neg q1] | rw [if_neg (Int32.not_lt.mpr q1)] | rw [if_pos (Int32.not_le.mp q1)], rfl⟩
  obtain ⟨r9, w2, h1, rfl, rfl⟩ := h
  exact h1
set_option maxRecDepth 20000 in
set_option maxHeartbeats 4000000 in
theorem x96L {xs : Option (List Int32)} {d n a b : Nat} {X : Nat → Nat} {w : List sx_C} (hI : WI w) (hC : CT n X w) (hb : b ≤ n) (hd0 : ∀ j, a ≤ j → j < b → digi (X j) = true) : ∀ (fz i v : Nat), i + fz = b → a ≤ i → v ≤ 1000000 → sx_RP xs (d + 1) 96 5 [(0, .ref 96), (1, .int (nI a)), (2, .int (nI b)), (3, .int (nI v)), (4, .int (nI i))] [] w (fun r2 w2 => r2 = some (.int (nI (nuV 1000000 X v i fz))) ∧ w2 = w)
  | 0, i, v, hi, hai, hv => by
    obtain rfl : i = b := by omega
    have hn := hC.2.1
    refine sx_RP.step (pc2 := 7) (ls2 := [(0, .ref 96), (1, .int (nI a)), (2, .int (nI i)), (3, .int (nI v)), (4, .int (nI i))]) (st2 := [.int (nI i)]) (w3 := w) rfl rfl ?_
    refine sx_RP.step (pc2 := 8) (ls2 := [(0, .ref 96), (1, .int (nI a)), (2, .int (nI i)), (3, .int (nI v)), (4, .int (nI i))]) (st2 := [.int (nI i), .int (nI i)]) (w3 := w) rfl rfl ?_
    refine sx_RP.br (p1 := 38) (l1 := [(0, .ref 96), (1, .int (nI a)), (2, .int (nI i)), (3, .int (nI v)), (4, .int (nI i))]) (s1 := []) (v1 := w) rfl rfl (fun _ => ?_) (fun q => absurd (nI_le (a := i) (b := i) (by omega) (by omega)) (of_decide_eq_false q))
    refine sx_RP.step (pc2 := 39) (ls2 := [(0, .ref 96), (1, .int (nI a)), (2, .int (nI i)), (3, .int (nI v)), (4, .int (nI i))]) (st2 := [.int (nI v)]) (w3 := w) rfl rfl ?_
    refine sx_RP.ret (r := (some (.int (nI v)))) rfl rfl ?_
    exact ⟨rfl, rfl⟩
  | fz + 1, i, v, hi, hai, hv => by
    have hd : sgn (X i) = nI (X i) ∧ 48 ≤ X i ∧ X i ≤ 57 := sgn_dig ⟨X i, (hC.2.2 i (by omega)).2⟩ (hd0 i hai (by omega))
    have hn := hC.2.1
    refine sx_RP.step (pc2 := 7) (ls2 := [(0, .ref 96), (1, .int (nI a)), (2, .int (nI b)), (3, .int (nI v)), (4, .int (nI i))]) (st2 := [.int (nI i)]) (w3 := w) rfl rfl ?_
    refine sx_RP.step (pc2 := 8) (ls2 := [(0, .ref 96), (1, .int (nI a)), (2, .int (nI b)), (3, .int (nI v)), (4, .int (nI i))]) (st2 := [.int (nI b), .int (nI i)]) (w3 := w) rfl rfl ?_
    refine sx_RP.br (p2 := 11) (l2 := [(0, .ref 96), (1, .int (nI a)), (2, .int (nI b)), (3, .int (nI v)), (4, .int (nI i))]) (s2 := []) (v2 := w) rfl rfl (fun q => absurd (of_decide_eq_true q) (fun z => absurd ((nI_leI (a := b) (b := i) (by omega) (by omega)).mp z) (by omega))) (fun _ => ?_)
    refine sx_RP.step (pc2 := 13) (ls2 := [(0, .ref 96), (1, .int (nI a)), (2, .int (nI b)), (3, .int (nI v)), (4, .int (nI i))]) (st2 := [.int 1000000]) (w3 := w) rfl rfl ?_
    refine sx_RP.step (pc2 := 14) (ls2 := [(0, .ref 96), (1, .int (nI a)), (2, .int (nI b)), (3, .int (nI v)), (4, .int (nI i))]) (st2 := [.int (nI v), .int 1000000]) (w3 := w) rfl rfl ?_
    refine sx_RP.step (pc2 := 16) (ls2 := [(0, .ref 96), (1, .int (nI a)), (2, .int (nI b)), (3, .int (nI v)), (4, .int (nI i))]) (st2 := [.int 10, .int (nI v), .int 1000000]) (w3 := w) rfl rfl ?_
    refine sx_RP.step (pc2 := 17) (ls2 := [(0, .ref 96), (1, .int (nI a)), (2, .int (nI b)), (3, .int (nI v)), (4, .int (nI i))]) (st2 := [.int ((nI v) * 10), .int 1000000]) (w3 := w) rfl rfl ?_
    rw [show ((nI v) * 10 : Int32) = nI (v * 10) from nI_mul v 10]
    refine sx_RP.step (pc2 := 18) (ls2 := [(0, .ref 96), (1, .int (nI a)), (2, .int (nI b)), (3, .int (nI v)), (4, .int (nI i))]) (st2 := [.ref 96, .int (nI (v * 10)), .int 1000000]) (w3 := w) rfl rfl ?_
    refine sx_RP.gf (v := .ref 97) rfl rfl hI.1.o96 rfl rfl (show _ = 21 from rfl) ?_
    refine sx_RP.step (pc2 := 23) (ls2 := [(0, .ref 96), (1, .int (nI a)), (2, .int (nI b)), (3, .int (nI v)), (4, .int (nI i))]) (st2 := [.int (nI i), .ref 97, .int (nI (v * 10)), .int 1000000]) (w3 := w) rfl rfl ?_
    refine sx_RP.bld2 (c := i) rfl hI.1.a97.1 hI.1.a97.2 (sx_in_nI (show i < 120 by omega) (by decide)) (nI_clamp (by omega)) (show _ = 24 from rfl) ?_
    rw [(hC.2.2 (i) (by omega)).1]
    rw [hd.1]
    refine sx_RP.step (pc2 := 25) (ls2 := [(0, .ref 96), (1, .int (nI a)), (2, .int (nI b)), (3, .int (nI v)), (4, .int (nI i))]) (st2 := [.int ((nI (v * 10)) + (nI (X i))), .int 1000000]) (w3 := w) rfl rfl ?_
    rw [show ((nI (v * 10)) + (nI (X i)) : Int32) = nI ((v * 10) + (X i)) from nI_add (v * 10) (X i)]
    refine sx_RP.step (pc2 := 27) (ls2 := [(0, .ref 96), (1, .int (nI a)), (2, .int (nI b)), (3, .int (nI v)), (4, .int (nI i))]) (st2 := [.int 48, .int (nI ((v * 10) + (X i))), .int 1000000]) (w3 := w) rfl rfl ?_
    refine sx_RP.step (pc2 := 28) (ls2 := [(0, .ref 96), (1, .int (nI a)), (2, .int (nI b)), (3, .int (nI v)), (4, .int (nI i))]) (st2 := [.int ((nI ((v * 10) + (X i))) - 48), .int 1000000]) (w3 := w) rfl rfl ?_
    rw [show ((nI ((v * 10) + (X i))) - 48 : Int32) = nI (10 * v + (X i - 48)) from (nI_sub (a := ((v * 10) + (X i))) (b := 48) (by omega)).trans (congrArg nI (by omega))]
    refine sx_RP.cu (as := [.int 1000000, .int (nI (10 * v + (X i - 48)))]) (rest2 := []) (st3 := [.int (nI (min 1000000 (10 * v + (X i - 48))))]) rfl rfl rfl rfl rfl ((by have c := x97 (xs := xs) (d := d) hI (nI 1000000) (nI (10 * v + (X i - 48))); rw [nI_min (by decide) (by omega)] at c; exact c)) rfl ?_
    refine sx_RP.step (pc2 := 32) (ls2 := [(3, .int (nI (min 1000000 (10 * v + (X i - 48))))), (0, .ref 96), (1, .int (nI a)), (2, .int (nI b)), (4, .int (nI i))]) (st2 := []) (w3 := w) rfl rfl ?_
    refine sx_RP.step (pc2 := 35) (ls2 := [(4, .int ((nI i) + 1)), (3, .int (nI (min 1000000 (10 * v + (X i - 48))))), (0, .ref 96), (1, .int (nI a)), (2, .int (nI b))]) (st2 := []) (w3 := w) rfl rfl ?_
    rw [nI_1 i]
    refine sx_RP.step (pc2 := 5) (ls2 := [(4, .int (nI (i + 1))), (3, .int (nI (min 1000000 (10 * v + (X i - 48))))), (0, .ref 96), (1, .int (nI a)), (2, .int (nI b))]) (st2 := []) (w3 := w) rfl rfl ?_
    exact sx_RP.ls (sx_lr.cons rfl (sx_lr.cons rfl (sx_lr.cons rfl (sx_lr.cons rfl (sx_lr.cons rfl sx_lr.nil))))) (x96L hI hC hb hd0 fz (i + 1) (min 1000000 (10 * v + (X i - 48))) (by omega) (by omega) (Nat.min_le_left _ _))
set_option maxRecDepth 20000 in
set_option maxHeartbeats 4000000 in
theorem x96 {xs : Option (List Int32)} {d : Nat} {w : List sx_C} (hI : WI w) {n a b : Nat} {X : Nat → Nat} (hC : CT n X w) (hab : a ≤ b) (hb : b ≤ n) (hd0 : ∀ j, a ≤ j → j < b → digi (X j) = true) : sx_RU xs (d + 1) 96 0 (lv_args 0 [.ref 96, .int (nI a), .int (nI b)]) [] w (some (.int (nI (nuV 1000000 X 0 a (b - a))))) w := by
  have h : sx_RP xs (d + 1) 96 0 (lv_args 0 [.ref 96, .int (nI a), .int (nI b)]) [] w (fun r9 w2 => r9 = some (.int (nI (nuV 1000000 X 0 a (b - a)))) ∧ w2 = w) := by
    refine sx_RP.step (pc2 := 1) (ls2 := [(0, .ref 96), (1, .int (nI a)), (2, .int (nI b))]) (st2 := [.int 0]) (w3 := w) rfl rfl ?_
    refine sx_RP.step (pc2 := 2) (ls2 := [(3, .int 0), (0, .ref 96), (1, .int (nI a)), (2, .int (nI b))]) (st2 := []) (w3 := w) rfl rfl ?_
    refine sx_RP.step (pc2 := 3) (ls2 := [(3, .int 0), (0, .ref 96), (1, .int (nI a)), (2, .int (nI b))]) (st2 := [.int (nI a)]) (w3 := w) rfl rfl ?_
    refine sx_RP.step (pc2 := 5) (ls2 := [(4, .int (nI a)), (3, .int 0), (0, .ref 96), (1, .int (nI a)), (2, .int (nI b))]) (st2 := []) (w3 := w) rfl rfl ?_
    exact sx_RP.ls (sx_lr.cons rfl (sx_lr.cons rfl (sx_lr.cons rfl (sx_lr.cons rfl (sx_lr.cons rfl sx_lr.nil))))) (x96L hI hC hb hd0 (b - a) a 0 (by omega) (Nat.le_refl _) (by omega))
  obtain ⟨r9, w2, h1, rfl, rfl⟩ := h
  exact h1
theorem CT.lt {n : Nat} {X : Nat → Nat} {w : List sx_C} (h : CT n X w) {i : Nat} (hi : i < n) : X i < 256 := (h.2.2 i hi).2
set_option maxRecDepth 20000 in
set_option maxHeartbeats 4000000 in
theorem X94a {xs : Option (List Int32)} {d n : Nat} {X : Nat → Nat} {w : List sx_C} {P : Option Value → List sx_C → Prop} (hI : WI w) (hC : CT n X w) : ∀ (fz i : Nat), n ≤ i + fz → i ≤ n → (∀ e, e = rE blk n X i → sx_RP xs (d + 2) 94 30 [(0, .ref 96), (1, .int (nI e))] [] w P) → sx_RP xs (d + 2) 94 5 [(0, .ref 96), (1, .int (nI i))] [] w P
  | fz, i, hf, hi, kk => by
    have hn := hC.2.1
    refine sx_RP.step (pc2 := 6) (ls2 := [(0, .ref 96), (1, .int (nI i))]) (st2 := [.int (nI i)]) (w3 := w) rfl rfl ?_
    refine sx_RP.step (pc2 := 7) (ls2 := [(0, .ref 96), (1, .int (nI i))]) (st2 := [.ref 96, .int (nI i)]) (w3 := w) rfl rfl ?_
    refine sx_RP.gt (k := 1) hI rfl rfl (by decide) (show _ = 10 from rfl) ?_
    rw [hC.1]
    refine sx_RP.br (p1 := 30) (l1 := [(0, .ref 96), (1, .int (nI i))]) (s1 := []) (v1 := w) (p2 := 13) (l2 := [(0, .ref 96), (1, .int (nI i))]) (s2 := []) (v2 := w) rfl rfl (fun q1 => ?_) (fun q1 => ?_)
    · replace q1 := of_decide_eq_true q1
      replace q1 := (nI_leI (a := n) (b := i) (by omega) (by omega)).mp q1
      exact sx_RP.ls (sx_lr.cons rfl (sx_lr.cons rfl sx_lr.nil)) (kk i (rE_n (fun z => absurd z.1 (by omega))).symm)
    · replace q1 := of_decide_eq_false q1
      replace q1 := mt (nI_leI (a := n) (b := i) (by omega) (by omega)).mpr q1
      refine sx_RP.step (pc2 := 14) (ls2 := [(0, .ref 96), (1, .int (nI i))]) (st2 := [.ref 96]) (w3 := w) rfl rfl ?_
      refine sx_RP.gf (v := .ref 97) rfl rfl hI.1.o96 rfl rfl (show _ = 17 from rfl) ?_
      refine sx_RP.step (pc2 := 18) (ls2 := [(0, .ref 96), (1, .int (nI i))]) (st2 := [.int (nI i), .ref 97]) (w3 := w) rfl rfl ?_
      refine sx_RP.bld2 (c := i) rfl hI.1.a97.1 hI.1.a97.2 (sx_in_nI (show i < 120 by omega) (by decide)) (nI_clamp (by omega)) (show _ = 19 from rfl) ?_
      rw [(hC.2.2 (i) (by omega)).1]
      refine sx_RP.step (pc2 := 21) (ls2 := [(0, .ref 96), (1, .int (nI i))]) (st2 := [.int 32, .int (sgn (X (i)))]) (w3 := w) rfl rfl ?_
      refine sx_RP.br (p1 := 30) (l1 := [(0, .ref 96), (1, .int (nI i))]) (s1 := []) (v1 := w) (p2 := 24) (l2 := [(0, .ref 96), (1, .int (nI i))]) (s2 := []) (v2 := w) rfl rfl (fun q2 => ?_) (fun q2 => ?_)
      · replace q2 := of_decide_eq_true q2
        exact sx_RP.ls (sx_lr.cons rfl (sx_lr.cons rfl sx_lr.nil)) (kk i (rE_n (fun z => q2 ((sgn32 (hC.lt (by omega))).mpr z.2))).symm)
      · replace q2 := Decidable.not_not.mp (of_decide_eq_false q2)
        refine sx_RP.step (pc2 := 27) (ls2 := [(1, .int ((nI i) + 1)), (0, .ref 96)]) (st2 := []) (w3 := w) rfl rfl ?_
        rw [nI_1 i]
        refine sx_RP.step (pc2 := 5) (ls2 := [(1, .int (nI (i + 1))), (0, .ref 96)]) (st2 := []) (w3 := w) rfl rfl ?_
        match fz, hf with
        | 0, hf => exact absurd hf (by omega)
        | fz + 1, hf => exact sx_RP.ls (sx_lr.cons rfl (sx_lr.cons rfl sx_lr.nil)) (X94a hI hC fz (i + 1) (by omega) (by omega) (fun e he => kk e (he.trans (rE_y (by omega) ((sgn32 (hC.lt (by omega))).mp q2)).symm)))
set_option maxRecDepth 20000 in
set_option maxHeartbeats 4000000 in
theorem X94b {xs : Option (List Int32)} {d n s : Nat} {X : Nat → Nat} {w : List sx_C} {q : Nat → Bool} {P : Option Value → List sx_C → Prop} (hI : WI w) (hC : CT n X w) (hs : fi w 96 2 = nI s) (hs4 : s ≤ 4) (hq : ∀ j, j < n → (sortN (X j) = s ↔ q (X j) = true)) : ∀ (fz i : Nat), n ≤ i + fz → i ≤ n → (∀ e, e = rE q n X i → sx_RP xs (d + 2) 94 121 [(0, .ref 96), (1, .int (nI e))] [] w P) → sx_RP xs (d + 2) 94 91 [(0, .ref 96), (1, .int (nI i))] [] w P
  | fz, i, hf, hi, kk => by
    have hn := hC.2.1
    have hsl : ∀ j, j < n → sortN (X j) ≤ 4 := fun j hj => (sort_le ⟨X j, hC.lt hj⟩).2
    refine sx_RP.step (pc2 := 92) (ls2 := [(0, .ref 96), (1, .int (nI i))]) (st2 := [.int (nI i)]) (w3 := w) rfl rfl ?_
    refine sx_RP.step (pc2 := 93) (ls2 := [(0, .ref 96), (1, .int (nI i))]) (st2 := [.ref 96, .int (nI i)]) (w3 := w) rfl rfl ?_
    refine sx_RP.gt (k := 1) hI rfl rfl (by decide) (show _ = 96 from rfl) ?_
    rw [hC.1]
    refine sx_RP.br (p1 := 121) (l1 := [(0, .ref 96), (1, .int (nI i))]) (s1 := []) (v1 := w) (p2 := 99) (l2 := [(0, .ref 96), (1, .int (nI i))]) (s2 := []) (v2 := w) rfl rfl (fun q1 => ?_) (fun q1 => ?_)
    · replace q1 := of_decide_eq_true q1
      replace q1 := (nI_leI (a := n) (b := i) (by omega) (by omega)).mp q1
      exact sx_RP.ls (sx_lr.cons rfl (sx_lr.cons rfl sx_lr.nil)) (kk i (rE_n (fun z => absurd z.1 (by omega))).symm)
    · replace q1 := of_decide_eq_false q1
      replace q1 := mt (nI_leI (a := n) (b := i) (by omega) (by omega)).mpr q1
      refine sx_RP.step (pc2 := 100) (ls2 := [(0, .ref 96), (1, .int (nI i))]) (st2 := [.ref 96]) (w3 := w) rfl rfl ?_
      refine sx_RP.gf (v := .ref 97) rfl rfl hI.1.o96 rfl rfl (show _ = 103 from rfl) ?_
      refine sx_RP.step (pc2 := 104) (ls2 := [(0, .ref 96), (1, .int (nI i))]) (st2 := [.int (nI i), .ref 97]) (w3 := w) rfl rfl ?_
      refine sx_RP.bld2 (c := i) rfl hI.1.a97.1 hI.1.a97.2 (sx_in_nI (show i < 120 by omega) (by decide)) (nI_clamp (by omega)) (show _ = 105 from rfl) ?_
      rw [(hC.2.2 (i) (by omega)).1]
      refine sx_RP.cu (as := [.int (sgn (X (i)))]) (rest2 := []) (st3 := [.int (nI (sortN (X (i))))]) rfl rfl rfl rfl rfl (x95 hI (hC.2.2 (i) (by omega)).2) rfl ?_
      refine sx_RP.step (pc2 := 109) (ls2 := [(0, .ref 96), (1, .int (nI i))]) (st2 := [.ref 96, .int (nI (sortN (X (i))))]) (w3 := w) rfl rfl ?_
      refine sx_RP.gt (k := 2) hI rfl rfl (by decide) (show _ = 112 from rfl) ?_
      rw [hs]
      refine sx_RP.br (p1 := 121) (l1 := [(0, .ref 96), (1, .int (nI i))]) (s1 := []) (v1 := w) (p2 := 115) (l2 := [(0, .ref 96), (1, .int (nI i))]) (s2 := []) (v2 := w) rfl rfl (fun q2 => ?_) (fun q2 => ?_)
      · replace q2 := of_decide_eq_true q2
        replace q2 := mt (nI_eq (a := sortN (X i)) (b := s) (by have := hsl i (by omega); omega) (by omega)).mpr q2
        exact sx_RP.ls (sx_lr.cons rfl (sx_lr.cons rfl sx_lr.nil)) (kk i (rE_n (fun z => q2 ((hq i (by omega)).mpr z.2))).symm)
      · replace q2 := Decidable.not_not.mp (of_decide_eq_false q2)
        replace q2 := (nI_eq (a := sortN (X i)) (b := s) (by have := hsl i (by omega); omega) (by omega)).mp q2
        refine sx_RP.step (pc2 := 118) (ls2 := [(1, .int ((nI i) + 1)), (0, .ref 96)]) (st2 := []) (w3 := w) rfl rfl ?_
        rw [nI_1 i]
        refine sx_RP.step (pc2 := 91) (ls2 := [(1, .int (nI (i + 1))), (0, .ref 96)]) (st2 := []) (w3 := w) rfl rfl ?_
        match fz, hf with
        | 0, hf => exact absurd hf (by omega)
        | fz + 1, hf => exact sx_RP.ls (sx_lr.cons rfl (sx_lr.cons rfl sx_lr.nil)) (X94b hI hC hs hs4 hq fz (i + 1) (by omega) (by omega) (fun e he => kk e (he.trans (rE_y (by omega) ((hq i (by omega)).mp q2)).symm)))
set_option maxRecDepth 20000 in
set_option maxHeartbeats 4000000 in
theorem X94 {xs : Option (List Int32)} {d : Nat} {w : List sx_C} (hI : WI w) {n b : Nat} {X : Nat → Nat} (hC : CT n X w) (hb : fi w 96 4 = nI b) (hbn : b ≤ n) : sx_RP xs (d + 2) 94 0 (lv_args 0 [.ref 96]) [] w (fun r w2 => (r = none ∧ TK' n X (rE blk n X b) w2 ∧ fi w2 96 1 = fi w 96 1) ∧ WI w2 ∧ Same 96 w w2) := by
  have hn := hC.2.1
  refine sx_RP.step (pc2 := 1) (ls2 := [(0, .ref 96)]) (st2 := [.ref 96]) (w3 := w) rfl rfl ?_
  refine sx_RP.gt (k := 4) hI rfl rfl (by decide) (show _ = 4 from rfl) ?_
  rw [hb]
  refine sx_RP.step (pc2 := 5) (ls2 := [(1, .int (nI b)), (0, .ref 96)]) (st2 := []) (w3 := w) rfl rfl ?_
  refine sx_RP.ls (sx_lr.cons rfl (sx_lr.cons rfl sx_lr.nil)) (X94a hI hC n b (by omega) (by omega) (fun e he => ?_))
  have hge : b ≤ e := by rw [he]; exact rE_ge
  have hle : e ≤ n := by rw [he]; exact rE_le hbn
  rw [← he]
  have hsl : e < n → 1 ≤ sortN (X e) ∧ sortN (X e) ≤ 4 := fun h => sort_le ⟨X e, hC.lt h⟩
  refine sx_RP.step (pc2 := 31) (ls2 := [(0, .ref 96), (1, .int (nI e))]) (st2 := [.ref 96]) (w3 := w) rfl rfl ?_
  refine sx_RP.step (pc2 := 32) (ls2 := [(0, .ref 96), (1, .int (nI e))]) (st2 := [.int (nI e), .ref 96]) (w3 := w) rfl rfl ?_
  refine sx_RP.xP (k := 3) hI rfl rfl (by decide) rfl ⟨e, by omega, rfl⟩ (show _ = 35 from rfl) (fun w1 hI2 hs3 hv4 hr5 => ?_)
  have hC6 := hC.same (hr5 1 (by decide)) (ia_of (hs3 97 (by decide)))
  have ex7 := (hr5 1 (by decide)).trans hC.1
  have ex8 := (hr5 4 (by decide)).trans hb
  refine sx_RP.step (pc2 := 36) (ls2 := [(0, .ref 96), (1, .int (nI e))]) (st2 := [.ref 96]) (w3 := w1) rfl rfl ?_
  refine sx_RP.step (pc2 := 37) (ls2 := [(0, .ref 96), (1, .int (nI e))]) (st2 := [.int (nI e), .ref 96]) (w3 := w1) rfl rfl ?_
  refine sx_RP.step (pc2 := 38) (ls2 := [(0, .ref 96), (1, .int (nI e))]) (st2 := [.ref 96, .int (nI e), .ref 96]) (w3 := w1) rfl rfl ?_
  refine sx_RP.gt (k := 1) hI2 rfl rfl (by decide) (show _ = 41 from rfl) ?_
  rw [ex7]
  refine sx_RP.br (p1 := 56) (l1 := [(0, .ref 96), (1, .int (nI e))]) (s1 := [.ref 96]) (v1 := w1) (p2 := 44) (l2 := [(0, .ref 96), (1, .int (nI e))]) (s2 := [.ref 96]) (v2 := w1) rfl rfl (fun q9 => ?_) (fun q9 => ?_)
  · replace q9 := of_decide_eq_true q9
    replace q9 := (nI_leI (a := n) (b := e) (by omega) (by omega)).mp q9
    refine sx_RP.step (pc2 := 57) (ls2 := [(0, .ref 96), (1, .int (nI e))]) (st2 := [.int 0, .ref 96]) (w3 := w1) rfl rfl ?_
    refine sx_RP.xP (k := 2) hI2 rfl rfl (by decide) rfl trivial (show _ = 60 from rfl) (fun w10 hI11 hs12 hv13 hr14 => ?_)
    have hC15 := hC6.same (hr14 1 (by decide)) (ia_of (hs12 97 (by decide)))
    have ex16 := (hr14 1 (by decide)).trans ex7
    have ex17 := (hr14 4 (by decide)).trans ex8
    have ex18 := (hr14 3 (by decide)).trans hv4
    refine sx_RP.step (pc2 := 61) (ls2 := [(0, .ref 96), (1, .int (nI e))]) (st2 := [.ref 96]) (w3 := w10) rfl rfl ?_
    refine sx_RP.step (pc2 := 62) (ls2 := [(0, .ref 96), (1, .int (nI e))]) (st2 := [.int 0, .ref 96]) (w3 := w10) rfl rfl ?_
    refine sx_RP.xP (k := 5) hI11 rfl rfl (by decide) rfl trivial (show _ = 65 from rfl) (fun w19 hI20 hs21 hv22 hr23 => ?_)
    have hC24 := hC15.same (hr23 1 (by decide)) (ia_of (hs21 97 (by decide)))
    have ex25 := (hr23 1 (by decide)).trans ex16
    have ex26 := (hr23 4 (by decide)).trans ex17
    have ex27 := (hr23 3 (by decide)).trans ex18
    have ex28 := (hr23 2 (by decide)).trans hv13
    refine sx_RP.step (pc2 := 66) (ls2 := [(0, .ref 96), (1, .int (nI e))]) (st2 := [.ref 96]) (w3 := w19) rfl rfl ?_
    refine sx_RP.gt (k := 2) hI20 rfl rfl (by decide) (show _ = 69 from rfl) ?_
    rw [ex28]
    refine sx_RP.step (pc2 := 75) (ls2 := [(0, .ref 96), (1, .int (nI e))]) (st2 := []) (w3 := w19) rfl rfl ?_
    refine sx_RP.step (pc2 := 76) (ls2 := [(0, .ref 96), (1, .int (nI e))]) (st2 := [.ref 96]) (w3 := w19) rfl rfl ?_
    refine sx_RP.gt (k := 2) hI20 rfl rfl (by decide) (show _ = 79 from rfl) ?_
    rw [ex28]
    refine sx_RP.step (pc2 := 80) (ls2 := [(0, .ref 96), (1, .int (nI e))]) (st2 := [.int 1, .int 0]) (w3 := w19) rfl rfl ?_
    refine sx_RP.step (pc2 := 83) (ls2 := [(0, .ref 96), (1, .int (nI e))]) (st2 := []) (w3 := w19) rfl rfl ?_
    refine sx_RP.step (pc2 := 84) (ls2 := [(0, .ref 96), (1, .int (nI e))]) (st2 := [.ref 96]) (w3 := w19) rfl rfl ?_
    refine sx_RP.gt (k := 2) hI20 rfl rfl (by decide) (show _ = 87 from rfl) ?_
    rw [ex28]
    refine sx_RP.step (pc2 := 88) (ls2 := [(0, .ref 96), (1, .int (nI e))]) (st2 := [.int 2, .int 0]) (w3 := w19) rfl rfl ?_
    refine sx_RP.step (pc2 := 121) (ls2 := [(0, .ref 96), (1, .int (nI e))]) (st2 := []) (w3 := w19) rfl rfl ?_
    refine sx_RP.step (pc2 := 122) (ls2 := [(0, .ref 96), (1, .int (nI e))]) (st2 := [.ref 96]) (w3 := w19) rfl rfl ?_
    refine sx_RP.step (pc2 := 123) (ls2 := [(0, .ref 96), (1, .int (nI e))]) (st2 := [.int (nI e), .ref 96]) (w3 := w19) rfl rfl ?_
    refine sx_RP.xP (k := 4) hI20 rfl rfl (by decide) rfl ⟨e, by omega, rfl⟩ (show _ = 126 from rfl) (fun w29 hI30 hs31 hv32 hr33 => ?_)
    have hC34 := hC24.same (hr33 1 (by decide)) (ia_of (hs31 97 (by decide)))
    have ex35 := (hr33 1 (by decide)).trans ex25
    have ex36 := (hr33 3 (by decide)).trans ex27
    have ex37 := (hr33 2 (by decide)).trans ex28
    have ex38 := (hr33 5 (by decide)).trans hv22
    refine sx_RP.step (pc2 := 127) (ls2 := [(0, .ref 96), (1, .int (nI e))]) (st2 := [.ref 96]) (w3 := w29) rfl rfl ?_
    refine sx_RP.gt (k := 2) hI30 rfl rfl (by decide) (show _ = 130 from rfl) ?_
    rw [ex37]
    refine sx_RP.step (pc2 := 131) (ls2 := [(0, .ref 96), (1, .int (nI e))]) (st2 := [.int 2, .int 0]) (w3 := w29) rfl rfl ?_
    refine sx_RP.step (pc2 := 150) (ls2 := [(0, .ref 96), (1, .int (nI e))]) (st2 := []) (w3 := w29) rfl rfl ?_
    refine sx_RP.ret (r := none) rfl rfl ?_
    have hlt : ¬ e < n := by omega
    have so : soT n X e = 0 := if_neg hlt
    have be : beT n X e = e := if_neg hlt
    have va : vaT n X e = 0 := by unfold vaT; rw [if_neg (by rw [so]; decide)]
    exact ⟨⟨rfl, ⟨ex36, by rw [so]; exact ex37, by rw [be]; exact hv32, by rw [va]; exact ex38⟩, (hr33 1 (by decide)).trans ((hr23 1 (by decide)).trans ((hr14 1 (by decide)).trans ((hr5 1 (by decide)).trans (rfl))))⟩, hI30, (Same.tr (Same.tr (Same.tr (Same.tr Same.rf hs3) hs12) hs21) hs31)⟩
  · replace q9 := of_decide_eq_false q9
    replace q9 := mt (nI_leI (a := n) (b := e) (by omega) (by omega)).mpr q9
    refine sx_RP.step (pc2 := 45) (ls2 := [(0, .ref 96), (1, .int (nI e))]) (st2 := [.ref 96, .ref 96]) (w3 := w1) rfl rfl ?_
    refine sx_RP.gf (v := .ref 97) rfl rfl hI2.1.o96 rfl rfl (show _ = 48 from rfl) ?_
    refine sx_RP.step (pc2 := 49) (ls2 := [(0, .ref 96), (1, .int (nI e))]) (st2 := [.int (nI e), .ref 97, .ref 96]) (w3 := w1) rfl rfl ?_
    refine sx_RP.bld2 (c := e) rfl hI2.1.a97.1 hI2.1.a97.2 (sx_in_nI (show e < 120 by omega) (by decide)) (nI_clamp (by omega)) (show _ = 50 from rfl) ?_
    rw [(hC6.2.2 (e) (by omega)).1]
    refine sx_RP.cu (as := [.int (sgn (X (e)))]) (rest2 := [.ref 96]) (st3 := [.int (nI (sortN (X (e)))), .ref 96]) rfl rfl rfl rfl rfl (x95 hI2 (hC6.2.2 (e) (by omega)).2) rfl ?_
    refine sx_RP.step (pc2 := 57) (ls2 := [(0, .ref 96), (1, .int (nI e))]) (st2 := [.int (nI (sortN (X (e)))), .ref 96]) (w3 := w1) rfl rfl ?_
    refine sx_RP.xP (k := 2) hI2 rfl rfl (by decide) rfl trivial (show _ = 60 from rfl) (fun w39 hI40 hs41 hv42 hr43 => ?_)
    have hC44 := hC6.same (hr43 1 (by decide)) (ia_of (hs41 97 (by decide)))
    have ex45 := (hr43 1 (by decide)).trans ex7
    have ex46 := (hr43 4 (by decide)).trans ex8
    have ex47 := (hr43 3 (by decide)).trans hv4
    refine sx_RP.step (pc2 := 61) (ls2 := [(0, .ref 96), (1, .int (nI e))]) (st2 := [.ref 96]) (w3 := w39) rfl rfl ?_
    refine sx_RP.step (pc2 := 62) (ls2 := [(0, .ref 96), (1, .int (nI e))]) (st2 := [.int 0, .ref 96]) (w3 := w39) rfl rfl ?_
    refine sx_RP.xP (k := 5) hI40 rfl rfl (by decide) rfl trivial (show _ = 65 from rfl) (fun w48 hI49 hs50 hv51 hr52 => ?_)
    have hC53 := hC44.same (hr52 1 (by decide)) (ia_of (hs50 97 (by decide)))
    have ex54 := (hr52 1 (by decide)).trans ex45
    have ex55 := (hr52 4 (by decide)).trans ex46
    have ex56 := (hr52 3 (by decide)).trans ex47
    have ex57 := (hr52 2 (by decide)).trans hv42
    refine sx_RP.step (pc2 := 66) (ls2 := [(0, .ref 96), (1, .int (nI e))]) (st2 := [.ref 96]) (w3 := w48) rfl rfl ?_
    refine sx_RP.gt (k := 2) hI49 rfl rfl (by decide) (show _ = 69 from rfl) ?_
    rw [ex57]
    refine sx_RP.br (p2 := 72) (l2 := [(0, .ref 96), (1, .int (nI e))]) (s2 := []) (v2 := w48) rfl rfl (fun q => absurd (of_decide_eq_true q) (fun z => absurd ((nI_eq (a := sortN (X e)) (b := 0) (by have := hsl (by omega); omega) (by omega)).mp z) (by have := hsl (by omega); omega))) (fun _ => ?_)
    refine sx_RP.step (pc2 := 75) (ls2 := [(1, .int ((nI e) + 1)), (0, .ref 96)]) (st2 := []) (w3 := w48) rfl rfl ?_
    rw [nI_1 e]
    refine sx_RP.step (pc2 := 76) (ls2 := [(1, .int (nI (e + 1))), (0, .ref 96)]) (st2 := [.ref 96]) (w3 := w48) rfl rfl ?_
    refine sx_RP.gt (k := 2) hI49 rfl rfl (by decide) (show _ = 79 from rfl) ?_
    rw [ex57]
    refine sx_RP.step (pc2 := 80) (ls2 := [(1, .int (nI (e + 1))), (0, .ref 96)]) (st2 := [.int 1, .int (nI (sortN (X (e))))]) (w3 := w48) rfl rfl ?_
    refine sx_RP.br (p1 := 91) (l1 := [(1, .int (nI (e + 1))), (0, .ref 96)]) (s1 := []) (v1 := w48) (p2 := 83) (l2 := [(1, .int (nI (e + 1))), (0, .ref 96)]) (s2 := []) (v2 := w48) rfl rfl (fun q58 => ?_) (fun q58 => ?_)
    · replace q58 := of_decide_eq_true q58
      replace q58 := (nI_eq (a := (sortN (X (e)))) (b := 1) (by omega) (by omega)).mp q58
      have hs59 : fi w48 96 2 = nI 1 := by rw [ex57, q58]
      refine sx_RP.ls (sx_lr.cons rfl (sx_lr.cons rfl sx_lr.nil)) (X94b (q := lett) hI49 hC53 hs59 (by decide) (fun j hj => sort_1 ⟨X j, hC.lt hj⟩) n (e + 1) (by omega) (by omega) (fun e60 he61 => ?_))
      have hge2 : e + 1 ≤ e60 := by rw [he61]; exact rE_ge
      have hle2 : e60 ≤ n := by rw [he61]; exact rE_le (by omega)
      refine sx_RP.step (pc2 := 122) (ls2 := [(0, .ref 96), (1, .int (nI e60))]) (st2 := [.ref 96]) (w3 := w48) rfl rfl ?_
      refine sx_RP.step (pc2 := 123) (ls2 := [(0, .ref 96), (1, .int (nI e60))]) (st2 := [.int (nI e60), .ref 96]) (w3 := w48) rfl rfl ?_
      refine sx_RP.xP (k := 4) hI49 rfl rfl (by decide) rfl ⟨e60, by omega, rfl⟩ (show _ = 126 from rfl) (fun w62 hI63 hs64 hv65 hr66 => ?_)
      have hC67 := hC53.same (hr66 1 (by decide)) (ia_of (hs64 97 (by decide)))
      have ex68 := (hr66 1 (by decide)).trans ex54
      have ex69 := (hr66 3 (by decide)).trans ex56
      have ex70 := (hr66 2 (by decide)).trans hs59
      have ex71 := (hr66 5 (by decide)).trans hv51
      refine sx_RP.step (pc2 := 127) (ls2 := [(0, .ref 96), (1, .int (nI e60))]) (st2 := [.ref 96]) (w3 := w62) rfl rfl ?_
      refine sx_RP.gt (k := 2) hI63 rfl rfl (by decide) (show _ = 130 from rfl) ?_
      rw [ex70]
      refine sx_RP.step (pc2 := 131) (ls2 := [(0, .ref 96), (1, .int (nI e60))]) (st2 := [.int 2, .int 1]) (w3 := w62) rfl rfl ?_
      refine sx_RP.step (pc2 := 150) (ls2 := [(0, .ref 96), (1, .int (nI e60))]) (st2 := []) (w3 := w62) rfl rfl ?_
      refine sx_RP.ret (r := none) rfl rfl ?_
      have hlt : e < n := by omega
      have so : soT n X e = sortN (X e) := if_pos hlt
      have be : beT n X e = e60 := by
        unfold beT
        rw [if_pos hlt, if_pos q58, he61]
      have va : vaT n X e = 0 := by unfold vaT; rw [if_neg (by rw [so]; omega)]
      exact ⟨⟨rfl, ⟨ex69, by rw [so, q58]; exact ex70, by rw [be]; exact hv65, by rw [va]; exact ex71⟩, (hr66 1 (by decide)).trans ((hr52 1 (by decide)).trans ((hr43 1 (by decide)).trans ((hr5 1 (by decide)).trans (rfl))))⟩, hI63, (Same.tr (Same.tr (Same.tr (Same.tr Same.rf hs3) hs41) hs50) hs64)⟩
    · replace q58 := of_decide_eq_false q58
      replace q58 := mt (nI_eq (a := (sortN (X (e)))) (b := 1) (by omega) (by omega)).mpr q58
      refine sx_RP.step (pc2 := 84) (ls2 := [(1, .int (nI (e + 1))), (0, .ref 96)]) (st2 := [.ref 96]) (w3 := w48) rfl rfl ?_
      refine sx_RP.gt (k := 2) hI49 rfl rfl (by decide) (show _ = 87 from rfl) ?_
      rw [ex57]
      refine sx_RP.step (pc2 := 88) (ls2 := [(1, .int (nI (e + 1))), (0, .ref 96)]) (st2 := [.int 2, .int (nI (sortN (X (e))))]) (w3 := w48) rfl rfl ?_
      refine sx_RP.br (p1 := 121) (l1 := [(1, .int (nI (e + 1))), (0, .ref 96)]) (s1 := []) (v1 := w48) (p2 := 91) (l2 := [(1, .int (nI (e + 1))), (0, .ref 96)]) (s2 := []) (v2 := w48) rfl rfl (fun q72 => ?_) (fun q72 => ?_)
      · replace q72 := of_decide_eq_true q72
        replace q72 := mt (nI_eq (a := (sortN (X (e)))) (b := 2) (by omega) (by omega)).mpr q72
        refine sx_RP.step (pc2 := 122) (ls2 := [(1, .int (nI (e + 1))), (0, .ref 96)]) (st2 := [.ref 96]) (w3 := w48) rfl rfl ?_
        refine sx_RP.step (pc2 := 123) (ls2 := [(1, .int (nI (e + 1))), (0, .ref 96)]) (st2 := [.int (nI (e + 1)), .ref 96]) (w3 := w48) rfl rfl ?_
        refine sx_RP.xP (k := 4) hI49 rfl rfl (by decide) rfl ⟨(e + 1), by omega, rfl⟩ (show _ = 126 from rfl) (fun w73 hI74 hs75 hv76 hr77 => ?_)
        have hC78 := hC53.same (hr77 1 (by decide)) (ia_of (hs75 97 (by decide)))
        have ex79 := (hr77 1 (by decide)).trans ex54
        have ex80 := (hr77 3 (by decide)).trans ex56
        have ex81 := (hr77 2 (by decide)).trans ex57
        have ex82 := (hr77 5 (by decide)).trans hv51
        refine sx_RP.step (pc2 := 127) (ls2 := [(1, .int (nI (e + 1))), (0, .ref 96)]) (st2 := [.ref 96]) (w3 := w73) rfl rfl ?_
        refine sx_RP.gt (k := 2) hI74 rfl rfl (by decide) (show _ = 130 from rfl) ?_
        rw [ex81]
        refine sx_RP.step (pc2 := 131) (ls2 := [(1, .int (nI (e + 1))), (0, .ref 96)]) (st2 := [.int 2, .int (nI (sortN (X (e))))]) (w3 := w73) rfl rfl ?_
        refine sx_RP.br (p1 := 150) (l1 := [(1, .int (nI (e + 1))), (0, .ref 96)]) (s1 := []) (v1 := w73) rfl rfl (fun _ => ?_) (fun q => absurd (show ¬ nI (sortN (X e)) = 2 from (fun z => q72 ((nI_eq (a := sortN (X e)) (b := 2) (by have := hsl (by omega); omega) (by omega)).mp z))) (of_decide_eq_false q))
        refine sx_RP.ret (r := none) rfl rfl ?_
        first | exact absurd (hsl (by omega)).1 (by omega) | skip
        have hlt : e < n := by omega
        have so : soT n X e = sortN (X e) := if_pos hlt
        have be : beT n X e = e + 1 := by unfold beT; rw [if_pos hlt, if_neg (by omega), if_neg (by omega)]
        have va : vaT n X e = 0 := by unfold vaT; rw [if_neg (by rw [so]; omega)]
        exact ⟨⟨rfl, ⟨ex80, by rw [so]; exact ex81, by rw [be]; exact hv76, by rw [va]; exact ex82⟩, (hr77 1 (by decide)).trans ((hr52 1 (by decide)).trans ((hr43 1 (by decide)).trans ((hr5 1 (by decide)).trans (rfl))))⟩, hI74, (Same.tr (Same.tr (Same.tr (Same.tr Same.rf hs3) hs41) hs50) hs75)⟩
      · replace q72 := Decidable.not_not.mp (of_decide_eq_false q72)
        replace q72 := (nI_eq (a := (sortN (X (e)))) (b := 2) (by omega) (by omega)).mp q72
        have hs83 : fi w48 96 2 = nI 2 := by rw [ex57, q72]
        refine sx_RP.ls (sx_lr.cons rfl (sx_lr.cons rfl sx_lr.nil)) (X94b (q := digi) hI49 hC53 hs83 (by decide) (fun j hj => sort_2 ⟨X j, hC.lt hj⟩) n (e + 1) (by omega) (by omega) (fun e84 he85 => ?_))
        have hge2 : e + 1 ≤ e84 := by rw [he85]; exact rE_ge
        have hle2 : e84 ≤ n := by rw [he85]; exact rE_le (by omega)
        have hdg : ∀ j, e ≤ j → j < e84 → digi (X j) = true := fun j h1 h2 => by
          by_cases hj : j = e
          · rw [hj]; exact (sort_2 ⟨X e, hC.lt (by omega)⟩).mp q72
          · exact (rE_in (i := e + 1) (by omega) (by rw [← he85]; exact h2)).2
        refine sx_RP.step (pc2 := 122) (ls2 := [(0, .ref 96), (1, .int (nI e84))]) (st2 := [.ref 96]) (w3 := w48) rfl rfl ?_
        refine sx_RP.step (pc2 := 123) (ls2 := [(0, .ref 96), (1, .int (nI e84))]) (st2 := [.int (nI e84), .ref 96]) (w3 := w48) rfl rfl ?_
        refine sx_RP.xP (k := 4) hI49 rfl rfl (by decide) rfl ⟨e84, by omega, rfl⟩ (show _ = 126 from rfl) (fun w86 hI87 hs88 hv89 hr90 => ?_)
        have hC91 := hC53.same (hr90 1 (by decide)) (ia_of (hs88 97 (by decide)))
        have ex92 := (hr90 1 (by decide)).trans ex54
        have ex93 := (hr90 3 (by decide)).trans ex56
        have ex94 := (hr90 2 (by decide)).trans hs83
        have ex95 := (hr90 5 (by decide)).trans hv51
        refine sx_RP.step (pc2 := 127) (ls2 := [(0, .ref 96), (1, .int (nI e84))]) (st2 := [.ref 96]) (w3 := w86) rfl rfl ?_
        refine sx_RP.gt (k := 2) hI87 rfl rfl (by decide) (show _ = 130 from rfl) ?_
        rw [ex94]
        refine sx_RP.step (pc2 := 131) (ls2 := [(0, .ref 96), (1, .int (nI e84))]) (st2 := [.int 2, .int 2]) (w3 := w86) rfl rfl ?_
        refine sx_RP.step (pc2 := 134) (ls2 := [(0, .ref 96), (1, .int (nI e84))]) (st2 := []) (w3 := w86) rfl rfl ?_
        refine sx_RP.step (pc2 := 135) (ls2 := [(0, .ref 96), (1, .int (nI e84))]) (st2 := [.ref 96]) (w3 := w86) rfl rfl ?_
        refine sx_RP.step (pc2 := 136) (ls2 := [(0, .ref 96), (1, .int (nI e84))]) (st2 := [.ref 96, .ref 96]) (w3 := w86) rfl rfl ?_
        refine sx_RP.step (pc2 := 137) (ls2 := [(0, .ref 96), (1, .int (nI e84))]) (st2 := [.ref 96, .ref 96, .ref 96]) (w3 := w86) rfl rfl ?_
        refine sx_RP.gt (k := 3) hI87 rfl rfl (by decide) (show _ = 140 from rfl) ?_
        rw [ex93]
        refine sx_RP.step (pc2 := 141) (ls2 := [(0, .ref 96), (1, .int (nI e84))]) (st2 := [.ref 96, .int (nI e), .ref 96, .ref 96]) (w3 := w86) rfl rfl ?_
        refine sx_RP.gt (k := 4) hI87 rfl rfl (by decide) (show _ = 144 from rfl) ?_
        rw [hv89]
        refine sx_RP.cu (as := [.ref 96, .int (nI e), .int (nI e84)]) (rest2 := [.ref 96]) (st3 := [.int (nI (nuV 1000000 X 0 e (e84 - e))), .ref 96]) rfl rfl (sx_inv_v2 (mi := 94) (k := 162) (st := [.int (nI e84), .int (nI e), .ref 96, .ref 96]) (w := w86) rfl rfl hI87.1.o96 rfl rfl rfl) rfl rfl (x96 hI87 hC91 (by omega) (by omega) hdg) rfl ?_
        refine sx_RP.xP (k := 5) hI87 rfl rfl (by decide) rfl trivial (show _ = 150 from rfl) (fun w96 hI97 hs98 hv99 hr100 => ?_)
        have hC101 := hC91.same (hr100 1 (by decide)) (ia_of (hs98 97 (by decide)))
        have ex102 := (hr100 1 (by decide)).trans ex92
        have ex103 := (hr100 3 (by decide)).trans ex93
        have ex104 := (hr100 2 (by decide)).trans ex94
        have ex105 := (hr100 4 (by decide)).trans hv89
        refine sx_RP.ret (r := none) rfl rfl ?_
        have hlt : e < n := by omega
        have so : soT n X e = sortN (X e) := if_pos hlt
        have be : beT n X e = e84 := by
          unfold beT
          rw [if_pos hlt, if_neg (by omega), if_pos q72, he85]
        have va : vaT n X e = nuV 1000000 X 0 e (e84 - e) := by unfold vaT; rw [if_pos (by rw [so]; exact q72), be]
        exact ⟨⟨rfl, ⟨ex103, by rw [so, q72]; exact ex104, by rw [be]; exact ex105, by rw [va]; exact hv99⟩, (hr100 1 (by decide)).trans ((hr90 1 (by decide)).trans ((hr52 1 (by decide)).trans ((hr43 1 (by decide)).trans ((hr5 1 (by decide)).trans (rfl)))))⟩, hI97, (Same.tr (Same.tr (Same.tr (Same.tr (Same.tr Same.rf hs3) hs41) hs50) hs88) hs98)⟩
def wc (k : UInt32) (i : Nat) : Int32 := (sx_sb.getD (k.toNat - 100) []).getD i 0
def wl (k : UInt32) : Nat := sx_sn.getD (k.toNat - 100) 0
def chE (X : Nat → Nat) (p : Nat) (k : UInt32) : Nat → Nat → Bool
  | 0, _ => true
  | f + 1, j => decide (nI (X (p + j)) = wc k j) && chE X p k f (j + 1)
def wdT (n : Nat) (X : Nat → Nat) (p : Nat) (k : UInt32) : Bool := decide (soT n X p = 1) && (decide (beT n X p - p = wl k) && chE X p k (wl k) 0)
def b01 (b : Bool) : Int32 := cond b 1 0
theorem wd_let {n p : Nat} {X : Nat → Nat} (h1 : soT n X p = 1) {j : Nat} (hj : p + j < beT n X p) : p + j < n ∧ lett (X (p + j)) = true := by
  unfold soT at h1
  split at h1
  · rename_i hp
    by_cases h256 : j = 0
    · subst h256
      refine ⟨hp, ?_⟩
      unfold sortN at h1
      cases hl : lett (X (p + 0)) with
      | true => rfl
      | false =>
        rw [Nat.add_zero] at hl
        rw [hl, cond_false] at h1
        cases hd : digi (X p) with
        | true => rw [hd, cond_true] at h1; exact absurd h1 (by decide)
        | false =>
          rw [hd, cond_false] at h1
          cases hs : (X p == 59) with
          | true => rw [hs, cond_true] at h1; exact absurd h1 (by decide)
          | false => rw [hs, cond_false] at h1; exact absurd h1 (by decide)
    · unfold beT at hj
      rw [if_pos hp, if_pos h1] at hj
      exact rE_in (i := p + 1) (by omega) hj
  · exact absurd h1 (by decide)
set_option maxRecDepth 20000 in
set_option maxHeartbeats 4000000 in
theorem x101L {xs : Option (List Int32)} {d n p : Nat} {X : Nat → Nat} {w : List sx_C} (hI : WI w) (hC : CT n X w) {k : UInt32} {m : Nat} (hk : 100 ≤ k.toNat ∧ k.toNat < 120) (en : sx_sn.getD (k.toNat - 100) 0 = m) (hm : m ≤ 7) (ep : fi w 96 3 = nI p) (hl : ∀ j, j < m → p + j < n ∧ lett (X (p + j)) = true) : ∀ (fz j : Nat), j + fz = m → sx_RP xs d 101 28 [(0, .ref 96), (1, .float k), (2, .int (nI j))] [] w (fun r2 w2 => r2 = some (.int (b01 (chE X p k fz j))) ∧ w2 = w)
  | 0, j, hj => by
    obtain rfl : j = m := by omega
    refine sx_RP.step (pc2 := 29) (ls2 := [(0, .ref 96), (1, .float k), (2, .int (nI j))]) (st2 := [.int (nI j)]) (w3 := w) rfl rfl ?_
    refine sx_RP.step (pc2 := 30) (ls2 := [(0, .ref 96), (1, .float k), (2, .int (nI j))]) (st2 := [.float k, .int (nI j)]) (w3 := w) rfl rfl ?_
    refine sx_RP.slen (n := j) hk en rfl rfl rfl (show _ = 33 from rfl) ?_
    refine sx_RP.br (p1 := 63) (l1 := [(0, .ref 96), (1, .float k), (2, .int (nI j))]) (s1 := []) (v1 := w) rfl rfl (fun _ => ?_) (fun q => absurd (nI_le (a := j) (b := j) (by omega) (by omega)) (of_decide_eq_false q))
    refine sx_RP.step (pc2 := 64) (ls2 := [(0, .ref 96), (1, .float k), (2, .int (nI j))]) (st2 := [.int 1]) (w3 := w) rfl rfl ?_
    refine sx_RP.ret (r := (some (.int 1))) rfl rfl ?_
    exact ⟨rfl, rfl⟩
  | fz + 1, j, hj => by
    have hn := hC.2.1
    have hpj := (hl j (by omega)).1
    refine sx_RP.step (pc2 := 29) (ls2 := [(0, .ref 96), (1, .float k), (2, .int (nI j))]) (st2 := [.int (nI j)]) (w3 := w) rfl rfl ?_
    refine sx_RP.step (pc2 := 30) (ls2 := [(0, .ref 96), (1, .float k), (2, .int (nI j))]) (st2 := [.float k, .int (nI j)]) (w3 := w) rfl rfl ?_
    refine sx_RP.slen (n := m) hk en rfl rfl rfl (show _ = 33 from rfl) ?_
    refine sx_RP.br (p2 := 36) (l2 := [(0, .ref 96), (1, .float k), (2, .int (nI j))]) (s2 := []) (v2 := w) rfl rfl (fun q => absurd (of_decide_eq_true q) (fun z => absurd ((nI_leI (a := m) (b := j) (by omega) (by omega)).mp z) (by omega))) (fun _ => ?_)
    refine sx_RP.step (pc2 := 37) (ls2 := [(0, .ref 96), (1, .float k), (2, .int (nI j))]) (st2 := [.ref 96]) (w3 := w) rfl rfl ?_
    refine sx_RP.gf (v := .ref 97) rfl rfl hI.1.o96 rfl rfl (show _ = 40 from rfl) ?_
    refine sx_RP.step (pc2 := 41) (ls2 := [(0, .ref 96), (1, .float k), (2, .int (nI j))]) (st2 := [.ref 96, .ref 97]) (w3 := w) rfl rfl ?_
    refine sx_RP.gt (k := 3) hI rfl rfl (by decide) (show _ = 44 from rfl) ?_
    rw [ep]
    refine sx_RP.step (pc2 := 45) (ls2 := [(0, .ref 96), (1, .float k), (2, .int (nI j))]) (st2 := [.int (nI j), .int (nI p), .ref 97]) (w3 := w) rfl rfl ?_
    refine sx_RP.step (pc2 := 46) (ls2 := [(0, .ref 96), (1, .float k), (2, .int (nI j))]) (st2 := [.int ((nI p) + (nI j)), .ref 97]) (w3 := w) rfl rfl ?_
    rw [show ((nI p) + (nI j) : Int32) = nI (p + j) from nI_add p j]
    refine sx_RP.bld2 (c := (p + j)) rfl hI.1.a97.1 hI.1.a97.2 (sx_in_nI (show (p + j) < 120 by omega) (by decide)) (nI_clamp (by omega)) (show _ = 47 from rfl) ?_
    rw [(hC.2.2 ((p + j)) (by omega)).1]
    rw [(sgn_let ⟨X (p + j), hC.lt (hl j (by omega)).1⟩ (hl j (by omega)).2).1]
    refine sx_RP.step (pc2 := 48) (ls2 := [(0, .ref 96), (1, .float k), (2, .int (nI j))]) (st2 := [.float k, .int (nI (X (p + j)))]) (w3 := w) rfl rfl ?_
    refine sx_RP.step (pc2 := 49) (ls2 := [(0, .ref 96), (1, .float k), (2, .int (nI j))]) (st2 := [.int (nI j), .float k, .int (nI (X (p + j)))]) (w3 := w) rfl rfl ?_
    refine sx_RP.schr (n := m) (x := j) hk en hm (show j < m by omega) rfl rfl rfl (show _ = 52 from rfl) ?_
    refine sx_RP.br (p1 := 57) (l1 := [(0, .ref 96), (1, .float k), (2, .int (nI j))]) (s1 := []) (v1 := w) (p2 := 55) (l2 := [(0, .ref 96), (1, .float k), (2, .int (nI j))]) (s2 := []) (v2 := w) rfl rfl (fun q1 => ?_) (fun q1 => ?_)
    · replace q1 := of_decide_eq_true q1
      refine sx_RP.step (pc2 := 60) (ls2 := [(2, .int ((nI j) + 1)), (0, .ref 96), (1, .float k)]) (st2 := []) (w3 := w) rfl rfl ?_
      rw [nI_1 j]
      refine sx_RP.step (pc2 := 28) (ls2 := [(2, .int (nI (j + 1))), (0, .ref 96), (1, .float k)]) (st2 := []) (w3 := w) rfl rfl ?_
      unfold chE
      rw [decide_eq_true (show nI (X (p + j)) = wc k j from q1), Bool.true_and]
      exact sx_RP.ls (sx_lr.cons rfl (sx_lr.cons rfl (sx_lr.cons rfl sx_lr.nil))) (x101L hI hC hk en hm ep hl fz (j + 1) (by omega))
    · replace q1 := of_decide_eq_false q1
      refine sx_RP.step (pc2 := 56) (ls2 := [(0, .ref 96), (1, .float k), (2, .int (nI j))]) (st2 := [.int 0]) (w3 := w) rfl rfl ?_
      refine sx_RP.ret (r := (some (.int 0))) rfl rfl ?_
      exact ⟨by unfold chE; rw [decide_eq_false (show ¬ nI (X (p + j)) = wc k j from q1)]; rfl, rfl⟩
set_option maxRecDepth 20000 in
set_option maxHeartbeats 4000000 in
theorem x101 {xs : Option (List Int32)} {d : Nat} {w : List sx_C} (hI : WI w) {n p : Nat} {X : Nat → Nat} (hC : CT n X w) (hT : TK' n X p w) (hpn : p ≤ n) {k : UInt32} {m : Nat} (hk : 100 ≤ k.toNat ∧ k.toNat < 120) (en : sx_sn.getD (k.toNat - 100) 0 = m) (hm : m ≤ 7) : sx_RU xs d 101 0 (lv_args 0 [.ref 96, .float k]) [] w (some (.int (b01 (wdT n X p k)))) w := by
  have h : sx_RP xs d 101 0 (lv_args 0 [.ref 96, .float k]) [] w (fun r9 w2 => r9 = some (.int (b01 (wdT n X p k))) ∧ w2 = w) := by
    have hn := hC.2.1
    have hs4 : soT n X p ≤ 4 := by
      unfold soT
      split
      · rename_i h
        exact (sort_le ⟨X p, hC.lt h⟩).2
      · decide
    have hbe := beT_le (X := X) hpn
    have hbg := beT_ge (n := n) (p := p) (X := X)
    refine sx_RP.step (pc2 := 1) (ls2 := [(0, .ref 96), (1, .float k)]) (st2 := [.ref 96]) (w3 := w) rfl rfl ?_
    refine sx_RP.gt (k := 2) hI rfl rfl (by decide) (show _ = 4 from rfl) ?_
    rw [hT.2.1]
    refine sx_RP.step (pc2 := 5) (ls2 := [(0, .ref 96), (1, .float k)]) (st2 := [.int 1, .int (nI (soT n X p))]) (w3 := w) rfl rfl ?_
    refine sx_RP.br (p1 := 24) (l1 := [(0, .ref 96), (1, .float k)]) (s1 := []) (v1 := w) (p2 := 8) (l2 := [(0, .ref 96), (1, .float k)]) (s2 := []) (v2 := w) rfl rfl (fun q1 => ?_) (fun q1 => ?_)
    · replace q1 := of_decide_eq_true q1
      replace q1 := mt (nI_eq (a := (soT n X p)) (b := 1) (by omega) (by omega)).mpr q1
      refine sx_RP.step (pc2 := 25) (ls2 := [(0, .ref 96), (1, .float k)]) (st2 := [.int 0]) (w3 := w) rfl rfl ?_
      refine sx_RP.ret (r := (some (.int 0))) rfl rfl ?_
      exact ⟨by unfold wdT; rw [decide_eq_false (show ¬ soT n X p = 1 by omega)]; rfl, rfl⟩
    · replace q1 := Decidable.not_not.mp (of_decide_eq_false q1)
      replace q1 := (nI_eq (a := (soT n X p)) (b := 1) (by omega) (by omega)).mp q1
      refine sx_RP.step (pc2 := 9) (ls2 := [(0, .ref 96), (1, .float k)]) (st2 := [.ref 96]) (w3 := w) rfl rfl ?_
      refine sx_RP.gt (k := 4) hI rfl rfl (by decide) (show _ = 12 from rfl) ?_
      rw [hT.2.2.1]
      refine sx_RP.step (pc2 := 13) (ls2 := [(0, .ref 96), (1, .float k)]) (st2 := [.ref 96, .int (nI (beT n X p))]) (w3 := w) rfl rfl ?_
      refine sx_RP.gt (k := 3) hI rfl rfl (by decide) (show _ = 16 from rfl) ?_
      rw [hT.1]
      refine sx_RP.step (pc2 := 17) (ls2 := [(0, .ref 96), (1, .float k)]) (st2 := [.int ((nI (beT n X p)) - (nI p))]) (w3 := w) rfl rfl ?_
      rw [show ((nI (beT n X p)) - (nI p) : Int32) = nI ((beT n X p) - p) from nI_sub (a := (beT n X p)) (b := p) (by omega)]
      refine sx_RP.step (pc2 := 18) (ls2 := [(0, .ref 96), (1, .float k)]) (st2 := [.float k, .int (nI ((beT n X p) - p))]) (w3 := w) rfl rfl ?_
      refine sx_RP.slen (n := m) hk en rfl rfl rfl (show _ = 21 from rfl) ?_
      refine sx_RP.br (p1 := 26) (l1 := [(0, .ref 96), (1, .float k)]) (s1 := []) (v1 := w) (p2 := 24) (l2 := [(0, .ref 96), (1, .float k)]) (s2 := []) (v2 := w) rfl rfl (fun q2 => ?_) (fun q2 => ?_)
      · replace q2 := of_decide_eq_true q2
        replace q2 := (nI_eq (a := ((beT n X p) - p)) (b := m) (by omega) (by omega)).mp q2
        refine sx_RP.step (pc2 := 27) (ls2 := [(0, .ref 96), (1, .float k)]) (st2 := [.int 0]) (w3 := w) rfl rfl ?_
        refine sx_RP.step (pc2 := 28) (ls2 := [(2, .int 0), (0, .ref 96), (1, .float k)]) (st2 := []) (w3 := w) rfl rfl ?_
        unfold wdT
        rw [decide_eq_true (show soT n X p = 1 by omega), decide_eq_true (show beT n X p - p = wl k by rw [show wl k = m from en]; omega), Bool.true_and, Bool.true_and, show wl k = m from en]
        exact sx_RP.ls (sx_lr.cons rfl (sx_lr.cons rfl (sx_lr.cons rfl sx_lr.nil))) (x101L hI hC hk en hm hT.1 (fun j hj => wd_let (by omega) (by omega)) m 0 (by omega))
      · replace q2 := of_decide_eq_false q2
        replace q2 := mt (nI_eq (a := ((beT n X p) - p)) (b := m) (by omega) (by omega)).mpr q2
        refine sx_RP.step (pc2 := 25) (ls2 := [(0, .ref 96), (1, .float k)]) (st2 := [.int 0]) (w3 := w) rfl rfl ?_
        refine sx_RP.ret (r := (some (.int 0))) rfl rfl ?_
        exact ⟨by unfold wdT; rw [decide_eq_false (show ¬ beT n X p - p = wl k by rw [show wl k = m from en]; omega), Bool.false_and, Bool.and_false]; rfl, rfl⟩
  obtain ⟨r9, w2, h1, rfl, rfl⟩ := h
  exact h1
end
-- 89h.siege.lean.txt
section
def nP (n : Nat) (X : Nat → Nat) (p : Nat) : Nat := rE blk n X (beT n X p)
theorem nP_le {n p : Nat} {X : Nat → Nat} (h : p ≤ n) : nP n X p ≤ n := rE_le (beT_le h)
def nmT (n : Nat) (X : Nat → Nat) (p lo hi : Nat) : Bool := decide (soT n X p = 2) && (decide (lo ≤ vaT n X p) && decide (vaT n X p ≤ hi))
theorem vaT_le {n p : Nat} {X : Nat → Nat} : vaT n X p ≤ 1000000 := by
  unfold vaT
  split
  · exact nuV_le _ _ _ (by omega)
  · omega
theorem soT_le {n p : Nat} {X : Nat → Nat} {w : List sx_C} (hC : CT n X w) : soT n X p ≤ 4 := by
  unfold soT
  split
  · rename_i h
    exact (sort_le ⟨X p, hC.lt h⟩).2
  · decide
theorem nmT_in {n p lo hi : Nat} {X : Nat → Nat} (h : nmT n X p lo hi = true) : lo ≤ vaT n X p ∧ vaT n X p ≤ hi := by
  unfold nmT at h
  simp only [Bool.and_eq_true, decide_eq_true_eq] at h
  exact h.2
def OffT (w w2 : List sx_C) : Prop := ∀ a, a ≠ 96 → (a < 29 ∨ 43 ≤ a) → w2[a]? = w[a]?
theorem OffT.rf {w : List sx_C} : OffT w w := fun _ _ _ => rfl
theorem OffT.tr {w w1 w2 : List sx_C} (h : OffT w w1) (h2 : OffT w1 w2) : OffT w w2 := fun a h3 h4 => (h2 a h3 h4).trans (h a h3 h4)
theorem Same.offT {w w2 : List sx_C} (h : Same 96 w w2) : OffT w w2 := fun a h1 _ => h a h1
theorem Out.offT {w w2 : List sx_C} (h : Out 29 w w2) : OffT w w2 := fun a _ h2 => h a (by omega)
theorem CT.out {n : Nat} {X : Nat → Nat} {w w2 : List sx_C} (h : CT n X w) (ho : Out 29 w w2) : CT n X w2 := h.same (fi_same 1 (ho 96 (by omega))) (ia_of (ho 97 (by omega)))
theorem TK'.out {n p : Nat} {X : Nat → Nat} {w w2 : List sx_C} (h : TK' n X p w) (ho : Out 29 w w2) : TK' n X p w2 := ⟨(fi_same 3 (ho 96 (by omega))).trans h.1, (fi_same 2 (ho 96 (by omega))).trans h.2.1, (fi_same 4 (ho 96 (by omega))).trans h.2.2.1, (fi_same 5 (ho 96 (by omega))).trans h.2.2.2⟩
theorem isA29 : isA 29 := Or.inr (Or.inr rfl)
theorem campB_96 {w w2 : List sx_C} (hI : WI w) (h : Same 96 w w2) : campB w2 29 = campB w 29 := campB_same (fun a h1 h2 => h a (by omega)) (hI.many isA29)
set_option maxRecDepth 20000 in
set_option maxHeartbeats 4000000 in
theorem x103 {xs : Option (List Int32)} {d : Nat} {w : List sx_C} (hI : WI w) {n p lo hi : Nat} {X : Nat → Nat} (hC : CT n X w) (hT : TK' n X p w) (hlo : lo ≤ 1000000) (hhi : hi ≤ 1000000) : sx_RU xs d 103 0 (lv_args 0 [.ref 96, .int (nI lo), .int (nI hi)]) [] w (some (.int (b01 (nmT n X p lo hi)))) w := by
  have h : sx_RP xs d 103 0 (lv_args 0 [.ref 96, .int (nI lo), .int (nI hi)]) [] w (fun r9 w2 => r9 = some (.int (b01 (nmT n X p lo hi))) ∧ w2 = w) := by
    have hv := vaT_le (n := n) (p := p) (X := X)
    have hs4 := soT_le (p := p) hC
    refine sx_RP.step (pc2 := 1) (ls2 := [(0, .ref 96), (1, .int (nI lo)), (2, .int (nI hi))]) (st2 := [.ref 96]) (w3 := w) rfl rfl ?_
    refine sx_RP.gt (k := 2) hI rfl rfl (by decide) (show _ = 4 from rfl) ?_
    rw [hT.2.1]
    refine sx_RP.step (pc2 := 5) (ls2 := [(0, .ref 96), (1, .int (nI lo)), (2, .int (nI hi))]) (st2 := [.int 2, .int (nI (soT n X p))]) (w3 := w) rfl rfl ?_
    refine sx_RP.br (p1 := 28) (l1 := [(0, .ref 96), (1, .int (nI lo)), (2, .int (nI hi))]) (s1 := []) (v1 := w) (p2 := 8) (l2 := [(0, .ref 96), (1, .int (nI lo)), (2, .int (nI hi))]) (s2 := []) (v2 := w) rfl rfl (fun q1 => ?_) (fun q1 => ?_)
    · replace q1 := of_decide_eq_true q1
      replace q1 := mt (nI_eq (a := (soT n X p)) (b := 2) (by omega) (by omega)).mpr q1
      refine sx_RP.step (pc2 := 29) (ls2 := [(0, .ref 96), (1, .int (nI lo)), (2, .int (nI hi))]) (st2 := [.int 0]) (w3 := w) rfl rfl ?_
      refine sx_RP.ret (r := (some (.int 0))) rfl rfl ?_
      exact ⟨by unfold nmT; rw [decide_eq_false (show ¬ soT n X p = 2 by omega)]; rfl, rfl⟩
    · replace q1 := Decidable.not_not.mp (of_decide_eq_false q1)
      replace q1 := (nI_eq (a := (soT n X p)) (b := 2) (by omega) (by omega)).mp q1
      refine sx_RP.step (pc2 := 9) (ls2 := [(0, .ref 96), (1, .int (nI lo)), (2, .int (nI hi))]) (st2 := [.ref 96]) (w3 := w) rfl rfl ?_
      refine sx_RP.gt (k := 5) hI rfl rfl (by decide) (show _ = 12 from rfl) ?_
      rw [hT.2.2.2]
      refine sx_RP.step (pc2 := 13) (ls2 := [(0, .ref 96), (1, .int (nI lo)), (2, .int (nI hi))]) (st2 := [.int (nI lo), .int (nI (vaT n X p))]) (w3 := w) rfl rfl ?_
      refine sx_RP.br (p1 := 28) (l1 := [(0, .ref 96), (1, .int (nI lo)), (2, .int (nI hi))]) (s1 := []) (v1 := w) (p2 := 16) (l2 := [(0, .ref 96), (1, .int (nI lo)), (2, .int (nI hi))]) (s2 := []) (v2 := w) rfl rfl (fun q2 => ?_) (fun q2 => ?_)
      · replace q2 := of_decide_eq_true q2
        replace q2 := (nI_ltI (a := (vaT n X p)) (b := lo) (by omega) (by omega)).mp q2
        refine sx_RP.step (pc2 := 29) (ls2 := [(0, .ref 96), (1, .int (nI lo)), (2, .int (nI hi))]) (st2 := [.int 0]) (w3 := w) rfl rfl ?_
        refine sx_RP.ret (r := (some (.int 0))) rfl rfl ?_
        exact ⟨by unfold nmT; rw [decide_eq_false (show ¬ lo ≤ vaT n X p by omega), Bool.false_and, Bool.and_false]; rfl, rfl⟩
      · replace q2 := of_decide_eq_false q2
        replace q2 := mt (nI_ltI (a := (vaT n X p)) (b := lo) (by omega) (by omega)).mpr q2
        refine sx_RP.step (pc2 := 17) (ls2 := [(0, .ref 96), (1, .int (nI lo)), (2, .int (nI hi))]) (st2 := [.ref 96]) (w3 := w) rfl rfl ?_
        refine sx_RP.gt (k := 5) hI rfl rfl (by decide) (show _ = 20 from rfl) ?_
        rw [hT.2.2.2]
        refine sx_RP.step (pc2 := 21) (ls2 := [(0, .ref 96), (1, .int (nI lo)), (2, .int (nI hi))]) (st2 := [.int (nI hi), .int (nI (vaT n X p))]) (w3 := w) rfl rfl ?_
        refine sx_RP.br (p1 := 28) (l1 := [(0, .ref 96), (1, .int (nI lo)), (2, .int (nI hi))]) (s1 := []) (v1 := w) (p2 := 24) (l2 := [(0, .ref 96), (1, .int (nI lo)), (2, .int (nI hi))]) (s2 := []) (v2 := w) rfl rfl (fun q3 => ?_) (fun q3 => ?_)
        · replace q3 := of_decide_eq_true q3
          replace q3 := (nI_ltI (a := hi) (b := (vaT n X p)) (by omega) (by omega)).mp q3
          refine sx_RP.step (pc2 := 29) (ls2 := [(0, .ref 96), (1, .int (nI lo)), (2, .int (nI hi))]) (st2 := [.int 0]) (w3 := w) rfl rfl ?_
          refine sx_RP.ret (r := (some (.int 0))) rfl rfl ?_
          exact ⟨by unfold nmT; rw [decide_eq_false (show ¬ vaT n X p ≤ hi by omega), Bool.and_false, Bool.and_false]; rfl, rfl⟩
        · replace q3 := of_decide_eq_false q3
          replace q3 := mt (nI_ltI (a := hi) (b := (vaT n X p)) (by omega) (by omega)).mpr q3
          refine sx_RP.step (pc2 := 25) (ls2 := [(0, .ref 96), (1, .int (nI lo)), (2, .int (nI hi))]) (st2 := [.int 1]) (w3 := w) rfl rfl ?_
          refine sx_RP.step (pc2 := 29) (ls2 := [(0, .ref 96), (1, .int (nI lo)), (2, .int (nI hi))]) (st2 := [.int 1]) (w3 := w) rfl rfl ?_
          refine sx_RP.ret (r := (some (.int 1))) rfl rfl ?_
          exact ⟨by unfold nmT; rw [decide_eq_true (show soT n X p = 2 by omega), decide_eq_true (show lo ≤ vaT n X p by omega), decide_eq_true (show vaT n X p ≤ hi by omega)]; rfl, rfl⟩
  obtain ⟨r9, w2, h1, rfl, rfl⟩ := h
  exact h1
theorem x103t {xs : Option (List Int32)} {d n p lo hi : Nat} {X : Nat → Nat} {w : List sx_C} (hI : WI w) (hC : CT n X w) (hT : TK' n X p w) (hlo : lo ≤ 1000000) (hhi : hi ≤ 1000000) (h : nmT n X p lo hi = true) : sx_RU xs d 103 0 (lv_args 0 [.ref 96, .int (nI lo), .int (nI hi)]) [] w (some (.int 1)) w := by
  have c := x103 (xs := xs) (d := d) hI hC hT hlo hhi
  rw [h] at c
  exact c
theorem x101t {xs : Option (List Int32)} {d n p : Nat} {X : Nat → Nat} {w : List sx_C} {k : UInt32} {m : Nat} (hI : WI w) (hC : CT n X w) (hT : TK' n X p w) (hpn : p ≤ n) (hk : 100 ≤ k.toNat ∧ k.toNat < 120) (en : sx_sn.getD (k.toNat - 100) 0 = m) (hm : m ≤ 7) (h : wdT n X p k = true) : sx_RU xs d 101 0 (lv_args 0 [.ref 96, .float k]) [] w (some (.int 1)) w := by
  have c := x101 (xs := xs) (d := d) hI hC hT hpn hk en hm
  rw [h] at c
  exact c
theorem x103f {xs : Option (List Int32)} {d n p lo hi : Nat} {X : Nat → Nat} {w : List sx_C} (hI : WI w) (hC : CT n X w) (hT : TK' n X p w) (hlo : lo ≤ 1000000) (hhi : hi ≤ 1000000) (h : nmT n X p lo hi = false) : sx_RU xs d 103 0 (lv_args 0 [.ref 96, .int (nI lo), .int (nI hi)]) [] w (some (.int 0)) w := by
  have c := x103 (xs := xs) (d := d) hI hC hT hlo hhi
  rw [h] at c
  exact c
theorem x101f {xs : Option (List Int32)} {d n p : Nat} {X : Nat → Nat} {w : List sx_C} {k : UInt32} {m : Nat} (hI : WI w) (hC : CT n X w) (hT : TK' n X p w) (hpn : p ≤ n) (hk : 100 ≤ k.toNat ∧ k.toNat < 120) (en : sx_sn.getD (k.toNat - 100) 0 = m) (hm : m ≤ 7) (h : wdT n X p k = false) : sx_RU xs d 101 0 (lv_args 0 [.ref 96, .float k]) [] w (some (.int 0)) w := by
  have c := x101 (xs := xs) (d := d) hI hC hT hpn hk en hm
  rw [h] at c
  exact c
def disT (n : Nat) (X : Nat → Nat) (p : Nat) (b : BB) : Bool × Nat × BB := if b.2.1.length < 9 then (if nmT n X (nP n X p) 0 47 = true then (true, nP n X (nP n X p), addD (nI (vaT n X (nP n X p))) b) else (false, nP n X p, b)) else (false, p, b)
def Rd (n : Nat) (X : Nat → Nat) (q : Bool × Nat × BB) (w : List sx_C) : Prop := TK' n X q.2.1 w ∧ (q.1 = true → campB w 29 = q.2.2)
set_option maxRecDepth 20000 in
set_option maxHeartbeats 4000000 in
theorem X109 {xs : Option (List Int32)} {d : Nat} {w : List sx_C} (hI : WI w) {n p : Nat} {X : Nat → Nat} {b : BB} (hC : CT n X w) (hT : TK' n X p w) (hp : p ≤ n) (hB : campB w 29 = b) : sx_RP xs (d + 3) 109 0 (lv_args 0 [.ref 96, .ref 29]) [] w (fun r w2 => (r = some (.int (b01 (disT n X p b).1)) ∧ Rd n X (disT n X p b) w2) ∧ WI w2 ∧ CT n X w2 ∧ OffT w w2) := by
  obtain ⟨m, hm, en⟩ := (hI.c isA29).2
  refine sx_RP.step (pc2 := 1) (ls2 := [(0, .ref 96), (1, .ref 29)]) (st2 := [.ref 29]) (w3 := w) rfl rfl ?_
  rcases Decidable.em (m < 9) with c1 | c1
  · refine sx_RP.cu (as := [.ref 29]) (rest2 := []) (st3 := [.int 1]) rfl rfl (sx_inv_v2 (mi := 109) (k := 100) (st := [.ref 29]) (w := w) rfl rfl (hI.1.oC (Or.inr (Or.inr rfl))) rfl rfl rfl) rfl rfl (p63y hI isA29 en hm c1) rfl ?_
    refine sx_RP.step (pc2 := 9) (ls2 := [(0, .ref 96), (1, .ref 29)]) (st2 := []) (w3 := w) rfl rfl ?_
    refine sx_RP.step (pc2 := 10) (ls2 := [(0, .ref 96), (1, .ref 29)]) (st2 := [.ref 96]) (w3 := w) rfl rfl ?_
    refine sx_RP.callp (as2 := [.ref 96]) (rest2 := []) rfl rfl (sx_inv_v2 (mi := 109) (k := 29) (st := [.ref 96]) (w := w) rfl rfl hI.1.o96 rfl rfl rfl) rfl rfl rfl (X94 hI hC hT.2.2.1 (beT_le hp)) (show _ = 13 from rfl) ?_
    rintro r4 w5 ⟨⟨rfl, hT2, h13⟩, hI6, hs4⟩
    show sx_RP _ _ _ _ _ [] _ _
    have hT11 : TK' n X (nP n X p) w5 := hT2
    have hC7 := hC.same h13 (ia_of (hs4 97 (by decide)))
    have hp8 : nP n X p ≤ n := nP_le hp
    have hB9 := (campB_96 hI hs4).trans hB
    have hO10 := OffT.rf.tr hs4.offT
    have en12 : fi w5 29 5 = nI m := (fi_same 5 (hs4 29 (by decide))).trans en
    refine sx_RP.step (pc2 := 14) (ls2 := [(0, .ref 96), (1, .ref 29)]) (st2 := [.ref 96]) (w3 := w5) rfl rfl ?_
    refine sx_RP.step (pc2 := 15) (ls2 := [(0, .ref 96), (1, .ref 29)]) (st2 := [.int 0, .ref 96]) (w3 := w5) rfl rfl ?_
    refine sx_RP.step (pc2 := 17) (ls2 := [(0, .ref 96), (1, .ref 29)]) (st2 := [.int 47, .int 0, .ref 96]) (w3 := w5) rfl rfl ?_
    rcases Bool.eq_false_or_eq_true (nmT n X (nP n X p) 0 47) with c13 | c13
    · refine sx_RP.cu (as := [.ref 96, .int 0, .int 47]) (rest2 := []) (st3 := [.int 1]) rfl rfl (sx_inv_v2 (mi := 109) (k := 66) (st := [.int 47, .int 0, .ref 96]) (w := w5) rfl rfl hI6.1.o96 rfl rfl rfl) rfl rfl (x103t (lo := 0) (hi := 47) hI6 hC7 hT11 (by omega) (by omega) c13) rfl ?_
      refine sx_RP.step (pc2 := 25) (ls2 := [(0, .ref 96), (1, .ref 29)]) (st2 := []) (w3 := w5) rfl rfl ?_
      refine sx_RP.step (pc2 := 26) (ls2 := [(0, .ref 96), (1, .ref 29)]) (st2 := [.ref 29]) (w3 := w5) rfl rfl ?_
      refine sx_RP.step (pc2 := 27) (ls2 := [(0, .ref 96), (1, .ref 29)]) (st2 := [.ref 96, .ref 29]) (w3 := w5) rfl rfl ?_
      refine sx_RP.gt (k := 5) hI6 rfl rfl (by decide) (show _ = 30 from rfl) ?_
      rw [hT11.2.2.2]
      have hv := nmT_in c13
      refine sx_RP.callp (as2 := [.ref 29, .int (nI (vaT n X (nP n X p)))]) (rest2 := []) rfl rfl (sx_inv_v2 (mi := 109) (k := 103) (st := [.int (nI (vaT n X (nP n X p))), .ref 29]) (w := w5) rfl rfl (hI6.1.oC (Or.inr (Or.inr rfl))) rfl rfl rfl) rfl rfl rfl (X64 hI6 isA29 (n := m) (c := (vaT n X (nP n X p))) (by omega) en12 (by omega)) (show _ = 33 from rfl) ?_
      rintro r4 w16 ⟨⟨rfl, hc14⟩, hI17, ho15⟩
      show sx_RP _ _ _ _ _ [.int (nI m)] _ _
      have hC18 := hC7.out ho15
      have hT19 := hT11.out ho15
      have hB20 := hc14.trans (congrArg (addD (nI ((vaT n X (nP n X p))))) hB9)
      have hO21 := hO10.tr ho15.offT
      refine sx_RP.step (pc2 := 34) (ls2 := [(0, .ref 96), (1, .ref 29)]) (st2 := []) (w3 := w16) rfl rfl ?_
      refine sx_RP.step (pc2 := 35) (ls2 := [(0, .ref 96), (1, .ref 29)]) (st2 := [.ref 96]) (w3 := w16) rfl rfl ?_
      refine sx_RP.callp (as2 := [.ref 96]) (rest2 := []) rfl rfl (sx_inv_v2 (mi := 109) (k := 29) (st := [.ref 96]) (w := w16) rfl rfl hI17.1.o96 rfl rfl rfl) rfl rfl rfl (X94 hI17 hC18 hT19.2.2.1 (beT_le hp8)) (show _ = 38 from rfl) ?_
      rintro r4 w25 ⟨⟨rfl, hT22, h123⟩, hI26, hs24⟩
      show sx_RP _ _ _ _ _ [] _ _
      have hT31 : TK' n X (nP n X (nP n X p)) w25 := hT22
      have hC27 := hC18.same h123 (ia_of (hs24 97 (by decide)))
      have hp28 : nP n X (nP n X p) ≤ n := nP_le hp8
      have hB29 := (campB_96 hI17 hs24).trans hB20
      have hO30 := hO21.tr hs24.offT
      refine sx_RP.step (pc2 := 39) (ls2 := [(0, .ref 96), (1, .ref 29)]) (st2 := [.int 1]) (w3 := w25) rfl rfl ?_
      refine sx_RP.ret (r := (some (.int 1))) rfl rfl ?_
      have hlen : b.2.1.length = m := by rw [← hB]; unfold campB; rw [mkB_len2, en, iN_n (by omega)]
      rw [show disT n X p b = (true, nP n X (nP n X p), addD (nI (vaT n X (nP n X p))) b) by unfold disT; rw [if_pos (by rw [hlen]; exact c1), if_pos c13]]
      exact ⟨⟨rfl, hT31, fun _ => hB29⟩, hI26, hC27, hO30⟩
    · refine sx_RP.cu (as := [.ref 96, .int 0, .int 47]) (rest2 := []) (st3 := [.int 0]) rfl rfl (sx_inv_v2 (mi := 109) (k := 66) (st := [.int 47, .int 0, .ref 96]) (w := w5) rfl rfl hI6.1.o96 rfl rfl rfl) rfl rfl (x103f (lo := 0) (hi := 47) hI6 hC7 hT11 (by omega) (by omega) c13) rfl ?_
      refine sx_RP.step (pc2 := 23) (ls2 := [(0, .ref 96), (1, .ref 29)]) (st2 := []) (w3 := w5) rfl rfl ?_
      refine sx_RP.step (pc2 := 24) (ls2 := [(0, .ref 96), (1, .ref 29)]) (st2 := [.int 0]) (w3 := w5) rfl rfl ?_
      refine sx_RP.ret (r := (some (.int 0))) rfl rfl ?_
      have hlen : b.2.1.length = m := by rw [← hB]; unfold campB; rw [mkB_len2, en, iN_n (by omega)]
      rw [show disT n X p b = (false, nP n X p, b) by unfold disT; rw [if_pos (by rw [hlen]; exact c1), if_neg (by rw [c13]; decide)]]
      exact ⟨⟨rfl, hT11, fun z => absurd (show false = true from z) (by decide)⟩, hI6, hC7, hO10⟩
  · refine sx_RP.cu (as := [.ref 29]) (rest2 := []) (st3 := [.int 0]) rfl rfl (sx_inv_v2 (mi := 109) (k := 100) (st := [.ref 29]) (w := w) rfl rfl (hI.1.oC (Or.inr (Or.inr rfl))) rfl rfl rfl) rfl rfl (p63n hI isA29 en hm c1) rfl ?_
    refine sx_RP.step (pc2 := 7) (ls2 := [(0, .ref 96), (1, .ref 29)]) (st2 := []) (w3 := w) rfl rfl ?_
    refine sx_RP.step (pc2 := 8) (ls2 := [(0, .ref 96), (1, .ref 29)]) (st2 := [.int 0]) (w3 := w) rfl rfl ?_
    refine sx_RP.ret (r := (some (.int 0))) rfl rfl ?_
    have hlen : b.2.1.length = m := by rw [← hB]; unfold campB; rw [mkB_len2, en, iN_n (by omega)]
    rw [show disT n X p b = (false, p, b) by unfold disT; rw [if_neg (by rw [hlen]; exact c1)]]
    exact ⟨⟨rfl, hT, fun z => absurd (show false = true from z) (by decide)⟩, hI, hC, OffT.rf⟩
def wtT (n : Nat) (X : Nat → Nat) (p : Nat) (k : UInt32) (lo hi : Nat) : Bool × Nat := if wdT n X p k = true then (nmT n X (nP n X p) lo hi, nP n X p) else (false, p)
theorem b01_t {b : Bool} (h : ¬ b01 b = 0) : b = true := by cases b <;> first | rfl | exact absurd rfl h
theorem b01_f {b : Bool} (h : b01 b = 0) : b = false := by cases b <;> first | rfl | exact absurd h (by decide)
theorem wtT_t {n p lo hi : Nat} {X : Nat → Nat} {k : UInt32} (h : (wtT n X p k lo hi).1 = true) : wdT n X p k = true ∧ nmT n X (nP n X p) lo hi = true ∧ (wtT n X p k lo hi).2 = nP n X p := by
  unfold wtT at h ⊢
  by_cases c : wdT n X p k = true
  · rw [if_pos c] at h ⊢
    exact ⟨c, h, rfl⟩
  · rw [if_neg c] at h
    exact absurd (show false = true from h) (by decide)
theorem wtT_le {n p lo hi : Nat} {X : Nat → Nat} {k : UInt32} (h : p ≤ n) : (wtT n X p k lo hi).2 ≤ n := by
  unfold wtT
  split
  · exact nP_le h
  · exact h
set_option maxRecDepth 20000 in
set_option maxHeartbeats 4000000 in
theorem X108 {xs : Option (List Int32)} {d : Nat} {w : List sx_C} (hI : WI w) {n p lo hi : Nat} {X : Nat → Nat} (hC : CT n X w) (hT : TK' n X p w) (hp : p ≤ n) {k : UInt32} {m : Nat} (hk : 100 ≤ k.toNat ∧ k.toNat < 120) (en : sx_sn.getD (k.toNat - 100) 0 = m) (hm : m ≤ 7) (hlo : lo ≤ 1000000) (hhi : hi ≤ 1000000) : sx_RP xs (d + 3) 108 0 (lv_args 0 [.ref 96, .float k, .int (nI lo), .int (nI hi)]) [] w (fun r w2 => (r = some (.int (b01 (wtT n X p k lo hi).1)) ∧ TK' n X (wtT n X p k lo hi).2 w2 ∧ fi w2 96 1 = fi w 96 1) ∧ WI w2 ∧ Same 96 w w2) := by
  refine sx_RP.step (pc2 := 1) (ls2 := [(0, .ref 96), (1, .float k), (2, .int (nI lo)), (3, .int (nI hi))]) (st2 := [.ref 96]) (w3 := w) rfl rfl ?_
  refine sx_RP.step (pc2 := 2) (ls2 := [(0, .ref 96), (1, .float k), (2, .int (nI lo)), (3, .int (nI hi))]) (st2 := [.float k, .ref 96]) (w3 := w) rfl rfl ?_
  rcases Bool.eq_false_or_eq_true (wdT n X p k) with c1 | c1
  · refine sx_RP.cu (as := [.ref 96, .float k]) (rest2 := []) (st3 := [.int 1]) rfl rfl (sx_inv_v2 (mi := 108) (k := 52) (st := [.float k, .ref 96]) (w := w) rfl rfl hI.1.o96 rfl rfl rfl) rfl rfl (x101t (k := k) (m := m) hI hC hT hp hk en hm c1) rfl ?_
    refine sx_RP.step (pc2 := 10) (ls2 := [(0, .ref 96), (1, .float k), (2, .int (nI lo)), (3, .int (nI hi))]) (st2 := []) (w3 := w) rfl rfl ?_
    refine sx_RP.step (pc2 := 11) (ls2 := [(0, .ref 96), (1, .float k), (2, .int (nI lo)), (3, .int (nI hi))]) (st2 := [.ref 96]) (w3 := w) rfl rfl ?_
    refine sx_RP.callp (as2 := [.ref 96]) (rest2 := []) rfl rfl (sx_inv_v2 (mi := 108) (k := 29) (st := [.ref 96]) (w := w) rfl rfl hI.1.o96 rfl rfl rfl) rfl rfl rfl (X94 hI hC hT.2.2.1 (beT_le hp)) (show _ = 14 from rfl) ?_
    rintro r4 w5 ⟨⟨rfl, hT2, h13⟩, hI6, hs4⟩
    show sx_RP _ _ _ _ _ [] _ _
    have hT11 : TK' n X (nP n X p) w5 := hT2
    have hC7 := hC.same h13 (ia_of (hs4 97 (by decide)))
    have hp8 : nP n X p ≤ n := nP_le hp
    refine sx_RP.step (pc2 := 15) (ls2 := [(0, .ref 96), (1, .float k), (2, .int (nI lo)), (3, .int (nI hi))]) (st2 := [.ref 96]) (w3 := w5) rfl rfl ?_
    refine sx_RP.step (pc2 := 16) (ls2 := [(0, .ref 96), (1, .float k), (2, .int (nI lo)), (3, .int (nI hi))]) (st2 := [.int (nI lo), .ref 96]) (w3 := w5) rfl rfl ?_
    refine sx_RP.step (pc2 := 17) (ls2 := [(0, .ref 96), (1, .float k), (2, .int (nI lo)), (3, .int (nI hi))]) (st2 := [.int (nI hi), .int (nI lo), .ref 96]) (w3 := w5) rfl rfl ?_
    rcases Bool.eq_false_or_eq_true (nmT n X (nP n X p) lo hi) with c12 | c12
    · refine sx_RP.cu (as := [.ref 96, .int (nI lo), .int (nI hi)]) (rest2 := []) (st3 := [.int 1]) rfl rfl (sx_inv_v2 (mi := 108) (k := 66) (st := [.int (nI hi), .int (nI lo), .ref 96]) (w := w5) rfl rfl hI6.1.o96 rfl rfl rfl) rfl rfl (x103t (lo := lo) (hi := hi) hI6 hC7 hT11 (by omega) (by omega) c12) rfl ?_
      refine sx_RP.ret (r := (some (.int 1))) rfl rfl ?_
      rw [show wtT n X p k lo hi = (true, nP n X p) by unfold wtT; rw [if_pos c1, c12]]
      exact ⟨⟨rfl, hT11, h13⟩, hI6, hs4⟩
    · refine sx_RP.cu (as := [.ref 96, .int (nI lo), .int (nI hi)]) (rest2 := []) (st3 := [.int 0]) rfl rfl (sx_inv_v2 (mi := 108) (k := 66) (st := [.int (nI hi), .int (nI lo), .ref 96]) (w := w5) rfl rfl hI6.1.o96 rfl rfl rfl) rfl rfl (x103f (lo := lo) (hi := hi) hI6 hC7 hT11 (by omega) (by omega) c12) rfl ?_
      refine sx_RP.ret (r := (some (.int 0))) rfl rfl ?_
      rw [show wtT n X p k lo hi = (false, nP n X p) by unfold wtT; rw [if_pos c1, c12]]
      exact ⟨⟨rfl, hT11, h13⟩, hI6, hs4⟩
  · refine sx_RP.cu (as := [.ref 96, .float k]) (rest2 := []) (st3 := [.int 0]) rfl rfl (sx_inv_v2 (mi := 108) (k := 52) (st := [.float k, .ref 96]) (w := w) rfl rfl hI.1.o96 rfl rfl rfl) rfl rfl (x101f (k := k) (m := m) hI hC hT hp hk en hm c1) rfl ?_
    refine sx_RP.step (pc2 := 8) (ls2 := [(0, .ref 96), (1, .float k), (2, .int (nI lo)), (3, .int (nI hi))]) (st2 := []) (w3 := w) rfl rfl ?_
    refine sx_RP.step (pc2 := 9) (ls2 := [(0, .ref 96), (1, .float k), (2, .int (nI lo)), (3, .int (nI hi))]) (st2 := [.int 0]) (w3 := w) rfl rfl ?_
    refine sx_RP.ret (r := (some (.int 0))) rfl rfl ?_
    rw [show wtT n X p k lo hi = (false, p) by unfold wtT; rw [if_neg (by rw [c1]; decide)]]
    exact ⟨⟨rfl, hT, rfl⟩, hI, Same.rf⟩
def galT (n : Nat) (X : Nat → Nat) (k p : Nat) (b : BB) : Bool × Nat × BB := if b.1.length < 10 then (if wdT n X (nP n X p) 115 = true ∨ wdT n X (nP n X p) 109 = true then (if (wtT n X (nP n X (nP n X p)) 100 0 47).1 = true then (if (wtT n X (nP n X (wtT n X (nP n X (nP n X p)) 100 0 47).2) 119 0 3).1 = true then (true, nP n X (wtT n X (nP n X (wtT n X (nP n X (nP n X p)) 100 0 47).2) 119 0 3).2, addK (nI k) b) else (false, (wtT n X (nP n X (wtT n X (nP n X (nP n X p)) 100 0 47).2) 119 0 3).2, b)) else (false, (wtT n X (nP n X (nP n X p)) 100 0 47).2, b)) else (false, nP n X p, b)) else (false, p, b)
set_option maxRecDepth 20000 in
set_option maxHeartbeats 4000000 in
theorem X107 {xs : Option (List Int32)} {d : Nat} {w : List sx_C} (hI : WI w) {n p k : Nat} {X : Nat → Nat} {b : BB} (hk5 : k ≤ 5) (hC : CT n X w) (hT : TK' n X p w) (hp : p ≤ n) (hB : campB w 29 = b) : sx_RP xs (d + 4) 107 0 (lv_args 0 [.ref 96, .int (nI k), .ref 29]) [] w (fun r w2 => (r = some (.int (b01 (galT n X k p b).1)) ∧ Rd n X (galT n X k p b) w2) ∧ WI w2 ∧ CT n X w2 ∧ OffT w w2) := by
  obtain ⟨m, hm, en⟩ := (hI.c isA29).1
  refine sx_RP.step (pc2 := 1) (ls2 := [(0, .ref 96), (1, .int (nI k)), (2, .ref 29)]) (st2 := [.ref 29]) (w3 := w) rfl rfl ?_
  rcases Decidable.em (m < 10) with c1 | c1
  · refine sx_RP.cu (as := [.ref 29]) (rest2 := []) (st3 := [.int 1]) rfl rfl (sx_inv_v2 (mi := 107) (k := 78) (st := [.ref 29]) (w := w) rfl rfl (hI.1.oC (Or.inr (Or.inr rfl))) rfl rfl rfl) rfl rfl (p24y hI isA29 en hm c1) rfl ?_
    refine sx_RP.step (pc2 := 9) (ls2 := [(0, .ref 96), (1, .int (nI k)), (2, .ref 29)]) (st2 := []) (w3 := w) rfl rfl ?_
    refine sx_RP.step (pc2 := 10) (ls2 := [(0, .ref 96), (1, .int (nI k)), (2, .ref 29)]) (st2 := [.ref 96]) (w3 := w) rfl rfl ?_
    refine sx_RP.callp (as2 := [.ref 96]) (rest2 := []) rfl rfl (sx_inv_v2 (mi := 107) (k := 29) (st := [.ref 96]) (w := w) rfl rfl hI.1.o96 rfl rfl rfl) rfl rfl rfl (X94 hI hC hT.2.2.1 (beT_le hp)) (show _ = 13 from rfl) ?_
    rintro r4 w5 ⟨⟨rfl, hT2, h13⟩, hI6, hs4⟩
    show sx_RP _ _ _ _ _ [] _ _
    have hT11 : TK' n X (nP n X p) w5 := hT2
    have hC7 := hC.same h13 (ia_of (hs4 97 (by decide)))
    have hp8 : nP n X p ≤ n := nP_le hp
    have hB9 := (campB_96 hI hs4).trans hB
    have hO10 := OffT.rf.tr hs4.offT
    have en12 : fi w5 29 3 = nI m := (fi_same 3 (hs4 29 (by decide))).trans en
    refine sx_RP.step (pc2 := 14) (ls2 := [(0, .ref 96), (1, .int (nI k)), (2, .ref 29)]) (st2 := [.ref 96]) (w3 := w5) rfl rfl ?_
    refine sx_RP.step (pc2 := 16) (ls2 := [(0, .ref 96), (1, .int (nI k)), (2, .ref 29)]) (st2 := [.float 115, .ref 96]) (w3 := w5) rfl rfl ?_
    rcases Bool.eq_false_or_eq_true (wdT n X (nP n X p) (115 : UInt32)) with c13 | c13
    · refine sx_RP.cu (as := [.ref 96, .float 115]) (rest2 := []) (st3 := [.int 1]) rfl rfl (sx_inv_v2 (mi := 107) (k := 52) (st := [.float 115, .ref 96]) (w := w5) rfl rfl hI6.1.o96 rfl rfl rfl) rfl rfl (x101t (k := (115 : UInt32)) (m := 6) hI6 hC7 hT11 hp8 (by decide) rfl (by decide) c13) rfl ?_
      refine sx_RP.step (pc2 := 22) (ls2 := [(0, .ref 96), (1, .int (nI k)), (2, .ref 29)]) (st2 := []) (w3 := w5) rfl rfl ?_
      refine sx_RP.step (pc2 := 23) (ls2 := [(0, .ref 96), (1, .int (nI k)), (2, .ref 29)]) (st2 := [.int 0]) (w3 := w5) rfl rfl ?_
      refine sx_RP.step (pc2 := 27) (ls2 := [(0, .ref 96), (1, .int (nI k)), (2, .ref 29)]) (st2 := [.int 0]) (w3 := w5) rfl rfl ?_
      refine sx_RP.step (pc2 := 28) (ls2 := [(3, .int 0), (0, .ref 96), (1, .int (nI k)), (2, .ref 29)]) (st2 := []) (w3 := w5) rfl rfl ?_
      refine sx_RP.step (pc2 := 29) (ls2 := [(3, .int 0), (0, .ref 96), (1, .int (nI k)), (2, .ref 29)]) (st2 := [.int 0]) (w3 := w5) rfl rfl ?_
      refine sx_RP.step (pc2 := 30) (ls2 := [(3, .int 0), (0, .ref 96), (1, .int (nI k)), (2, .ref 29)]) (st2 := [.int 1, .int 0]) (w3 := w5) rfl rfl ?_
      refine sx_RP.step (pc2 := 44) (ls2 := [(3, .int 0), (0, .ref 96), (1, .int (nI k)), (2, .ref 29)]) (st2 := []) (w3 := w5) rfl rfl ?_
      refine sx_RP.step (pc2 := 45) (ls2 := [(3, .int 0), (0, .ref 96), (1, .int (nI k)), (2, .ref 29)]) (st2 := [.ref 96]) (w3 := w5) rfl rfl ?_
      refine sx_RP.callp (as2 := [.ref 96]) (rest2 := []) rfl rfl (sx_inv_v2 (mi := 107) (k := 29) (st := [.ref 96]) (w := w5) rfl rfl hI6.1.o96 rfl rfl rfl) rfl rfl rfl (X94 hI6 hC7 hT11.2.2.1 (beT_le hp8)) (show _ = 48 from rfl) ?_
      rintro r4 w17 ⟨⟨rfl, hT14, h115⟩, hI18, hs16⟩
      show sx_RP _ _ _ _ _ [] _ _
      have hT23 : TK' n X (nP n X (nP n X p)) w17 := hT14
      have hC19 := hC7.same h115 (ia_of (hs16 97 (by decide)))
      have hp20 : nP n X (nP n X p) ≤ n := nP_le hp8
      have hB21 := (campB_96 hI6 hs16).trans hB9
      have hO22 := hO10.tr hs16.offT
      have en24 : fi w17 29 3 = nI m := (fi_same 3 (hs16 29 (by decide))).trans en12
      refine sx_RP.step (pc2 := 49) (ls2 := [(3, .int 0), (0, .ref 96), (1, .int (nI k)), (2, .ref 29)]) (st2 := [.ref 96]) (w3 := w17) rfl rfl ?_
      refine sx_RP.step (pc2 := 51) (ls2 := [(3, .int 0), (0, .ref 96), (1, .int (nI k)), (2, .ref 29)]) (st2 := [.float 100, .ref 96]) (w3 := w17) rfl rfl ?_
      refine sx_RP.step (pc2 := 52) (ls2 := [(3, .int 0), (0, .ref 96), (1, .int (nI k)), (2, .ref 29)]) (st2 := [.int 0, .float 100, .ref 96]) (w3 := w17) rfl rfl ?_
      refine sx_RP.step (pc2 := 54) (ls2 := [(3, .int 0), (0, .ref 96), (1, .int (nI k)), (2, .ref 29)]) (st2 := [.int 47, .int 0, .float 100, .ref 96]) (w3 := w17) rfl rfl ?_
      refine sx_RP.callp (as2 := [.ref 96, .float 100, .int 0, .int 47]) (rest2 := []) rfl rfl (sx_inv_v2 (mi := 107) (k := 90) (st := [.int 47, .int 0, .float 100, .ref 96]) (w := w17) rfl rfl hI18.1.o96 rfl rfl rfl) rfl rfl rfl (X108 (k := 100) (m := 2) (lo := 0) (hi := 47) hI18 hC19 hT23 hp20 (by decide) rfl (by decide) (by decide) (by decide)) (show _ = 57 from rfl) ?_
      rintro r4 w28 ⟨⟨rfl, hT25, h126⟩, hI29, hs27⟩
      show sx_RP _ _ _ _ _ [.int (b01 (wtT n X (nP n X (nP n X p)) 100 0 47).1)] _ _
      have hC30 := hC19.same h126 (ia_of (hs27 97 (by decide)))
      have hp31 : (wtT n X (nP n X (nP n X p)) 100 0 47).2 ≤ n := wtT_le hp20
      have hB32 := (campB_96 hI18 hs27).trans hB21
      have hO33 := hO22.tr hs27.offT
      have en34 : fi w28 29 3 = nI m := (fi_same 3 (hs27 29 (by decide))).trans en24
      refine sx_RP.br (p1 := 62) (l1 := [(3, .int 0), (0, .ref 96), (1, .int (nI k)), (2, .ref 29)]) (s1 := []) (v1 := w28) (p2 := 60) (l2 := [(3, .int 0), (0, .ref 96), (1, .int (nI k)), (2, .ref 29)]) (s2 := []) (v2 := w28) rfl rfl (fun q35 => ?_) (fun q35 => ?_)
      · replace q35 := of_decide_eq_true q35
        refine sx_RP.step (pc2 := 63) (ls2 := [(3, .int 0), (0, .ref 96), (1, .int (nI k)), (2, .ref 29)]) (st2 := [.ref 96]) (w3 := w28) rfl rfl ?_
        refine sx_RP.gt (k := 5) hI29 rfl rfl (by decide) (show _ = 66 from rfl) ?_
        rw [hT25.2.2.2]
        refine sx_RP.step (pc2 := 68) (ls2 := [(4, .int (nI (vaT n X (wtT n X (nP n X (nP n X p)) 100 0 47).2))), (3, .int 0), (0, .ref 96), (1, .int (nI k)), (2, .ref 29)]) (st2 := []) (w3 := w28) rfl rfl ?_
        refine sx_RP.step (pc2 := 69) (ls2 := [(4, .int (nI (vaT n X (wtT n X (nP n X (nP n X p)) 100 0 47).2))), (3, .int 0), (0, .ref 96), (1, .int (nI k)), (2, .ref 29)]) (st2 := [.ref 96]) (w3 := w28) rfl rfl ?_
        refine sx_RP.callp (as2 := [.ref 96]) (rest2 := []) rfl rfl (sx_inv_v2 (mi := 107) (k := 29) (st := [.ref 96]) (w := w28) rfl rfl hI29.1.o96 rfl rfl rfl) rfl rfl rfl (X94 hI29 hC30 hT25.2.2.1 (beT_le hp31)) (show _ = 72 from rfl) ?_
        rintro r4 w39 ⟨⟨rfl, hT36, h137⟩, hI40, hs38⟩
        show sx_RP _ _ _ _ _ [] _ _
        have hT45 : TK' n X (nP n X ((wtT n X (nP n X (nP n X p)) 100 0 47).2)) w39 := hT36
        have hC41 := hC30.same h137 (ia_of (hs38 97 (by decide)))
        have hp42 : nP n X ((wtT n X (nP n X (nP n X p)) 100 0 47).2) ≤ n := nP_le hp31
        have hB43 := (campB_96 hI29 hs38).trans hB32
        have hO44 := hO33.tr hs38.offT
        have en46 : fi w39 29 3 = nI m := (fi_same 3 (hs38 29 (by decide))).trans en34
        refine sx_RP.step (pc2 := 73) (ls2 := [(4, .int (nI (vaT n X (wtT n X (nP n X (nP n X p)) 100 0 47).2))), (3, .int 0), (0, .ref 96), (1, .int (nI k)), (2, .ref 29)]) (st2 := [.ref 96]) (w3 := w39) rfl rfl ?_
        refine sx_RP.step (pc2 := 75) (ls2 := [(4, .int (nI (vaT n X (wtT n X (nP n X (nP n X p)) 100 0 47).2))), (3, .int 0), (0, .ref 96), (1, .int (nI k)), (2, .ref 29)]) (st2 := [.float 119, .ref 96]) (w3 := w39) rfl rfl ?_
        refine sx_RP.step (pc2 := 76) (ls2 := [(4, .int (nI (vaT n X (wtT n X (nP n X (nP n X p)) 100 0 47).2))), (3, .int 0), (0, .ref 96), (1, .int (nI k)), (2, .ref 29)]) (st2 := [.int 0, .float 119, .ref 96]) (w3 := w39) rfl rfl ?_
        refine sx_RP.step (pc2 := 77) (ls2 := [(4, .int (nI (vaT n X (wtT n X (nP n X (nP n X p)) 100 0 47).2))), (3, .int 0), (0, .ref 96), (1, .int (nI k)), (2, .ref 29)]) (st2 := [.int 3, .int 0, .float 119, .ref 96]) (w3 := w39) rfl rfl ?_
        refine sx_RP.callp (as2 := [.ref 96, .float 119, .int 0, .int 3]) (rest2 := []) rfl rfl (sx_inv_v2 (mi := 107) (k := 90) (st := [.int 3, .int 0, .float 119, .ref 96]) (w := w39) rfl rfl hI40.1.o96 rfl rfl rfl) rfl rfl rfl (X108 (k := 119) (m := 3) (lo := 0) (hi := 3) hI40 hC41 hT45 hp42 (by decide) rfl (by decide) (by decide) (by decide)) (show _ = 80 from rfl) ?_
        rintro r4 w50 ⟨⟨rfl, hT47, h148⟩, hI51, hs49⟩
        show sx_RP _ _ _ _ _ [.int (b01 (wtT n X (nP n X ((wtT n X (nP n X (nP n X p)) 100 0 47).2)) 119 0 3).1)] _ _
        have hC52 := hC41.same h148 (ia_of (hs49 97 (by decide)))
        have hp53 : (wtT n X (nP n X ((wtT n X (nP n X (nP n X p)) 100 0 47).2)) 119 0 3).2 ≤ n := wtT_le hp42
        have hB54 := (campB_96 hI40 hs49).trans hB43
        have hO55 := hO44.tr hs49.offT
        have en56 : fi w50 29 3 = nI m := (fi_same 3 (hs49 29 (by decide))).trans en46
        refine sx_RP.br (p1 := 85) (l1 := [(4, .int (nI (vaT n X (wtT n X (nP n X (nP n X p)) 100 0 47).2))), (3, .int 0), (0, .ref 96), (1, .int (nI k)), (2, .ref 29)]) (s1 := []) (v1 := w50) (p2 := 83) (l2 := [(4, .int (nI (vaT n X (wtT n X (nP n X (nP n X p)) 100 0 47).2))), (3, .int 0), (0, .ref 96), (1, .int (nI k)), (2, .ref 29)]) (s2 := []) (v2 := w50) rfl rfl (fun q57 => ?_) (fun q57 => ?_)
        · replace q57 := of_decide_eq_true q57
          refine sx_RP.step (pc2 := 86) (ls2 := [(4, .int (nI (vaT n X (wtT n X (nP n X (nP n X p)) 100 0 47).2))), (3, .int 0), (0, .ref 96), (1, .int (nI k)), (2, .ref 29)]) (st2 := [.ref 29]) (w3 := w50) rfl rfl ?_
          refine sx_RP.step (pc2 := 87) (ls2 := [(4, .int (nI (vaT n X (wtT n X (nP n X (nP n X p)) 100 0 47).2))), (3, .int 0), (0, .ref 96), (1, .int (nI k)), (2, .ref 29)]) (st2 := [.int (nI k), .ref 29]) (w3 := w50) rfl rfl ?_
          refine sx_RP.step (pc2 := 88) (ls2 := [(4, .int (nI (vaT n X (wtT n X (nP n X (nP n X p)) 100 0 47).2))), (3, .int 0), (0, .ref 96), (1, .int (nI k)), (2, .ref 29)]) (st2 := [.int 0, .int (nI k), .ref 29]) (w3 := w50) rfl rfl ?_
          refine sx_RP.step (pc2 := 90) (ls2 := [(4, .int (nI (vaT n X (wtT n X (nP n X (nP n X p)) 100 0 47).2))), (3, .int 0), (0, .ref 96), (1, .int (nI k)), (2, .ref 29)]) (st2 := [.int (nI (vaT n X (wtT n X (nP n X (nP n X p)) 100 0 47).2)), .int 0, .int (nI k), .ref 29]) (w3 := w50) rfl rfl ?_
          refine sx_RP.step (pc2 := 91) (ls2 := [(4, .int (nI (vaT n X (wtT n X (nP n X (nP n X p)) 100 0 47).2))), (3, .int 0), (0, .ref 96), (1, .int (nI k)), (2, .ref 29)]) (st2 := [.ref 96, .int (nI (vaT n X (wtT n X (nP n X (nP n X p)) 100 0 47).2)), .int 0, .int (nI k), .ref 29]) (w3 := w50) rfl rfl ?_
          refine sx_RP.gt (k := 5) hI51 rfl rfl (by decide) (show _ = 94 from rfl) ?_
          rw [hT47.2.2.2]
          have ht58 := wtT_t (b01_t q35)
          have ht59 := wtT_t (b01_t q57)
          have hv1 := nmT_in ht58.2.1
          have hv2 := nmT_in ht59.2.1
          rw [← ht58.2.2] at hv1
          rw [← ht59.2.2] at hv2
          refine sx_RP.callp (as2 := [.ref 29, .int (nI k), .int 0, .int (nI (vaT n X (wtT n X (nP n X (nP n X p)) 100 0 47).2)), .int (nI (vaT n X (wtT n X (nP n X ((wtT n X (nP n X (nP n X p)) 100 0 47).2)) 119 0 3).2))]) (rest2 := []) rfl rfl (sx_inv_v2 (mi := 107) (k := 96) (st := [.int (nI (vaT n X (wtT n X (nP n X ((wtT n X (nP n X (nP n X p)) 100 0 47).2)) 119 0 3).2)), .int (nI (vaT n X (wtT n X (nP n X (nP n X p)) 100 0 47).2)), .int 0, .int (nI k), .ref 29]) (w := w50) rfl rfl (hI51.1.oC (Or.inr (Or.inr rfl))) rfl rfl rfl) rfl rfl rfl (X25 hI51 isA29 (n := m) (k := k) (s := 0) (c := (vaT n X (wtT n X (nP n X (nP n X p)) 100 0 47).2)) (y := (vaT n X (wtT n X (nP n X ((wtT n X (nP n X (nP n X p)) 100 0 47).2)) 119 0 3).2)) (by omega) en56 (by omega) (by omega) (by omega) (by omega)) (show _ = 97 from rfl) ?_
          rintro r4 w62 ⟨⟨rfl, hc60⟩, hI63, ho61⟩
          show sx_RP _ _ _ _ _ [.int (nI m)] _ _
          have hC64 := hC52.out ho61
          have hT65 := hT47.out ho61
          have hB66 := hc60.trans (congrArg (addK (nI (k))) hB54)
          have hO67 := hO55.tr ho61.offT
          refine sx_RP.step (pc2 := 98) (ls2 := [(4, .int (nI (vaT n X (wtT n X (nP n X (nP n X p)) 100 0 47).2))), (3, .int 0), (0, .ref 96), (1, .int (nI k)), (2, .ref 29)]) (st2 := []) (w3 := w62) rfl rfl ?_
          refine sx_RP.step (pc2 := 99) (ls2 := [(4, .int (nI (vaT n X (wtT n X (nP n X (nP n X p)) 100 0 47).2))), (3, .int 0), (0, .ref 96), (1, .int (nI k)), (2, .ref 29)]) (st2 := [.ref 96]) (w3 := w62) rfl rfl ?_
          refine sx_RP.callp (as2 := [.ref 96]) (rest2 := []) rfl rfl (sx_inv_v2 (mi := 107) (k := 29) (st := [.ref 96]) (w := w62) rfl rfl hI63.1.o96 rfl rfl rfl) rfl rfl rfl (X94 hI63 hC64 hT65.2.2.1 (beT_le hp53)) (show _ = 102 from rfl) ?_
          rintro r4 w71 ⟨⟨rfl, hT68, h169⟩, hI72, hs70⟩
          show sx_RP _ _ _ _ _ [] _ _
          have hT77 : TK' n X (nP n X ((wtT n X (nP n X ((wtT n X (nP n X (nP n X p)) 100 0 47).2)) 119 0 3).2)) w71 := hT68
          have hC73 := hC64.same h169 (ia_of (hs70 97 (by decide)))
          have hp74 : nP n X ((wtT n X (nP n X ((wtT n X (nP n X (nP n X p)) 100 0 47).2)) 119 0 3).2) ≤ n := nP_le hp53
          have hB75 := (campB_96 hI63 hs70).trans hB66
          have hO76 := hO67.tr hs70.offT
          refine sx_RP.step (pc2 := 103) (ls2 := [(4, .int (nI (vaT n X (wtT n X (nP n X (nP n X p)) 100 0 47).2))), (3, .int 0), (0, .ref 96), (1, .int (nI k)), (2, .ref 29)]) (st2 := [.int 1]) (w3 := w71) rfl rfl ?_
          refine sx_RP.ret (r := (some (.int 1))) rfl rfl ?_
          have hlen : b.1.length = m := by rw [← hB]; unfold campB; rw [mkB_len1, en, iN_n (by omega)]
          rw [show galT n X k p b = (true, nP n X (wtT n X (nP n X (wtT n X (nP n X (nP n X p)) 100 0 47).2) 119 0 3).2, addK (nI k) b) by unfold galT; rw [if_pos (by rw [hlen]; exact c1), if_pos (Or.inl c13), if_pos (b01_t q35), if_pos (b01_t q57)]]
          exact ⟨⟨rfl, hT77, fun _ => hB75⟩, hI72, hC73, hO76⟩
        · replace q57 := Decidable.not_not.mp (of_decide_eq_false q57)
          refine sx_RP.step (pc2 := 84) (ls2 := [(4, .int (nI (vaT n X (wtT n X (nP n X (nP n X p)) 100 0 47).2))), (3, .int 0), (0, .ref 96), (1, .int (nI k)), (2, .ref 29)]) (st2 := [.int 0]) (w3 := w50) rfl rfl ?_
          refine sx_RP.ret (r := (some (.int 0))) rfl rfl ?_
          have hlen : b.1.length = m := by rw [← hB]; unfold campB; rw [mkB_len1, en, iN_n (by omega)]
          rw [show galT n X k p b = (false, (wtT n X (nP n X (wtT n X (nP n X (nP n X p)) 100 0 47).2) 119 0 3).2, b) by unfold galT; rw [if_pos (by rw [hlen]; exact c1), if_pos (Or.inl c13), if_pos (b01_t q35), if_neg (by rw [b01_f q57]; decide)]]
          exact ⟨⟨rfl, hT47, fun z => absurd (show false = true from z) (by decide)⟩, hI51, hC52, hO55⟩
      · replace q35 := Decidable.not_not.mp (of_decide_eq_false q35)
        refine sx_RP.step (pc2 := 61) (ls2 := [(3, .int 0), (0, .ref 96), (1, .int (nI k)), (2, .ref 29)]) (st2 := [.int 0]) (w3 := w28) rfl rfl ?_
        refine sx_RP.ret (r := (some (.int 0))) rfl rfl ?_
        have hlen : b.1.length = m := by rw [← hB]; unfold campB; rw [mkB_len1, en, iN_n (by omega)]
        rw [show galT n X k p b = (false, (wtT n X (nP n X (nP n X p)) 100 0 47).2, b) by unfold galT; rw [if_pos (by rw [hlen]; exact c1), if_pos (Or.inl c13), if_neg (by rw [b01_f q35]; decide)]]
        exact ⟨⟨rfl, hT25, fun z => absurd (show false = true from z) (by decide)⟩, hI29, hC30, hO33⟩
    · refine sx_RP.cu (as := [.ref 96, .float 115]) (rest2 := []) (st3 := [.int 0]) rfl rfl (sx_inv_v2 (mi := 107) (k := 52) (st := [.float 115, .ref 96]) (w := w5) rfl rfl hI6.1.o96 rfl rfl rfl) rfl rfl (x101f (k := (115 : UInt32)) (m := 6) hI6 hC7 hT11 hp8 (by decide) rfl (by decide) c13) rfl ?_
      refine sx_RP.step (pc2 := 26) (ls2 := [(0, .ref 96), (1, .int (nI k)), (2, .ref 29)]) (st2 := []) (w3 := w5) rfl rfl ?_
      refine sx_RP.step (pc2 := 27) (ls2 := [(0, .ref 96), (1, .int (nI k)), (2, .ref 29)]) (st2 := [.int 1]) (w3 := w5) rfl rfl ?_
      refine sx_RP.step (pc2 := 28) (ls2 := [(3, .int 1), (0, .ref 96), (1, .int (nI k)), (2, .ref 29)]) (st2 := []) (w3 := w5) rfl rfl ?_
      refine sx_RP.step (pc2 := 29) (ls2 := [(3, .int 1), (0, .ref 96), (1, .int (nI k)), (2, .ref 29)]) (st2 := [.int 1]) (w3 := w5) rfl rfl ?_
      refine sx_RP.step (pc2 := 30) (ls2 := [(3, .int 1), (0, .ref 96), (1, .int (nI k)), (2, .ref 29)]) (st2 := [.int 1, .int 1]) (w3 := w5) rfl rfl ?_
      refine sx_RP.step (pc2 := 33) (ls2 := [(3, .int 1), (0, .ref 96), (1, .int (nI k)), (2, .ref 29)]) (st2 := []) (w3 := w5) rfl rfl ?_
      refine sx_RP.step (pc2 := 34) (ls2 := [(3, .int 1), (0, .ref 96), (1, .int (nI k)), (2, .ref 29)]) (st2 := [.ref 96]) (w3 := w5) rfl rfl ?_
      refine sx_RP.step (pc2 := 36) (ls2 := [(3, .int 1), (0, .ref 96), (1, .int (nI k)), (2, .ref 29)]) (st2 := [.float 109, .ref 96]) (w3 := w5) rfl rfl ?_
      rcases Bool.eq_false_or_eq_true (wdT n X (nP n X p) (109 : UInt32)) with c78 | c78
      · refine sx_RP.cu (as := [.ref 96, .float 109]) (rest2 := []) (st3 := [.int 1]) rfl rfl (sx_inv_v2 (mi := 107) (k := 52) (st := [.float 109, .ref 96]) (w := w5) rfl rfl hI6.1.o96 rfl rfl rfl) rfl rfl (x101t (k := (109 : UInt32)) (m := 4) hI6 hC7 hT11 hp8 (by decide) rfl (by decide) c78) rfl ?_
        refine sx_RP.step (pc2 := 44) (ls2 := [(3, .int 1), (0, .ref 96), (1, .int (nI k)), (2, .ref 29)]) (st2 := []) (w3 := w5) rfl rfl ?_
        refine sx_RP.step (pc2 := 45) (ls2 := [(3, .int 1), (0, .ref 96), (1, .int (nI k)), (2, .ref 29)]) (st2 := [.ref 96]) (w3 := w5) rfl rfl ?_
        refine sx_RP.callp (as2 := [.ref 96]) (rest2 := []) rfl rfl (sx_inv_v2 (mi := 107) (k := 29) (st := [.ref 96]) (w := w5) rfl rfl hI6.1.o96 rfl rfl rfl) rfl rfl rfl (X94 hI6 hC7 hT11.2.2.1 (beT_le hp8)) (show _ = 48 from rfl) ?_
        rintro r4 w82 ⟨⟨rfl, hT79, h180⟩, hI83, hs81⟩
        show sx_RP _ _ _ _ _ [] _ _
        have hT88 : TK' n X (nP n X (nP n X p)) w82 := hT79
        have hC84 := hC7.same h180 (ia_of (hs81 97 (by decide)))
        have hp85 : nP n X (nP n X p) ≤ n := nP_le hp8
        have hB86 := (campB_96 hI6 hs81).trans hB9
        have hO87 := hO10.tr hs81.offT
        have en89 : fi w82 29 3 = nI m := (fi_same 3 (hs81 29 (by decide))).trans en12
        refine sx_RP.step (pc2 := 49) (ls2 := [(3, .int 1), (0, .ref 96), (1, .int (nI k)), (2, .ref 29)]) (st2 := [.ref 96]) (w3 := w82) rfl rfl ?_
        refine sx_RP.step (pc2 := 51) (ls2 := [(3, .int 1), (0, .ref 96), (1, .int (nI k)), (2, .ref 29)]) (st2 := [.float 100, .ref 96]) (w3 := w82) rfl rfl ?_
        refine sx_RP.step (pc2 := 52) (ls2 := [(3, .int 1), (0, .ref 96), (1, .int (nI k)), (2, .ref 29)]) (st2 := [.int 0, .float 100, .ref 96]) (w3 := w82) rfl rfl ?_
        refine sx_RP.step (pc2 := 54) (ls2 := [(3, .int 1), (0, .ref 96), (1, .int (nI k)), (2, .ref 29)]) (st2 := [.int 47, .int 0, .float 100, .ref 96]) (w3 := w82) rfl rfl ?_
        refine sx_RP.callp (as2 := [.ref 96, .float 100, .int 0, .int 47]) (rest2 := []) rfl rfl (sx_inv_v2 (mi := 107) (k := 90) (st := [.int 47, .int 0, .float 100, .ref 96]) (w := w82) rfl rfl hI83.1.o96 rfl rfl rfl) rfl rfl rfl (X108 (k := 100) (m := 2) (lo := 0) (hi := 47) hI83 hC84 hT88 hp85 (by decide) rfl (by decide) (by decide) (by decide)) (show _ = 57 from rfl) ?_
        rintro r4 w93 ⟨⟨rfl, hT90, h191⟩, hI94, hs92⟩
        show sx_RP _ _ _ _ _ [.int (b01 (wtT n X (nP n X (nP n X p)) 100 0 47).1)] _ _
        have hC95 := hC84.same h191 (ia_of (hs92 97 (by decide)))
        have hp96 : (wtT n X (nP n X (nP n X p)) 100 0 47).2 ≤ n := wtT_le hp85
        have hB97 := (campB_96 hI83 hs92).trans hB86
        have hO98 := hO87.tr hs92.offT
        have en99 : fi w93 29 3 = nI m := (fi_same 3 (hs92 29 (by decide))).trans en89
        refine sx_RP.br (p1 := 62) (l1 := [(3, .int 1), (0, .ref 96), (1, .int (nI k)), (2, .ref 29)]) (s1 := []) (v1 := w93) (p2 := 60) (l2 := [(3, .int 1), (0, .ref 96), (1, .int (nI k)), (2, .ref 29)]) (s2 := []) (v2 := w93) rfl rfl (fun q100 => ?_) (fun q100 => ?_)
        · replace q100 := of_decide_eq_true q100
          refine sx_RP.step (pc2 := 63) (ls2 := [(3, .int 1), (0, .ref 96), (1, .int (nI k)), (2, .ref 29)]) (st2 := [.ref 96]) (w3 := w93) rfl rfl ?_
          refine sx_RP.gt (k := 5) hI94 rfl rfl (by decide) (show _ = 66 from rfl) ?_
          rw [hT90.2.2.2]
          refine sx_RP.step (pc2 := 68) (ls2 := [(4, .int (nI (vaT n X (wtT n X (nP n X (nP n X p)) 100 0 47).2))), (3, .int 1), (0, .ref 96), (1, .int (nI k)), (2, .ref 29)]) (st2 := []) (w3 := w93) rfl rfl ?_
          refine sx_RP.step (pc2 := 69) (ls2 := [(4, .int (nI (vaT n X (wtT n X (nP n X (nP n X p)) 100 0 47).2))), (3, .int 1), (0, .ref 96), (1, .int (nI k)), (2, .ref 29)]) (st2 := [.ref 96]) (w3 := w93) rfl rfl ?_
          refine sx_RP.callp (as2 := [.ref 96]) (rest2 := []) rfl rfl (sx_inv_v2 (mi := 107) (k := 29) (st := [.ref 96]) (w := w93) rfl rfl hI94.1.o96 rfl rfl rfl) rfl rfl rfl (X94 hI94 hC95 hT90.2.2.1 (beT_le hp96)) (show _ = 72 from rfl) ?_
          rintro r4 w104 ⟨⟨rfl, hT101, h1102⟩, hI105, hs103⟩
          show sx_RP _ _ _ _ _ [] _ _
          have hT110 : TK' n X (nP n X ((wtT n X (nP n X (nP n X p)) 100 0 47).2)) w104 := hT101
          have hC106 := hC95.same h1102 (ia_of (hs103 97 (by decide)))
          have hp107 : nP n X ((wtT n X (nP n X (nP n X p)) 100 0 47).2) ≤ n := nP_le hp96
          have hB108 := (campB_96 hI94 hs103).trans hB97
          have hO109 := hO98.tr hs103.offT
          have en111 : fi w104 29 3 = nI m := (fi_same 3 (hs103 29 (by decide))).trans en99
          refine sx_RP.step (pc2 := 73) (ls2 := [(4, .int (nI (vaT n X (wtT n X (nP n X (nP n X p)) 100 0 47).2))), (3, .int 1), (0, .ref 96), (1, .int (nI k)), (2, .ref 29)]) (st2 := [.ref 96]) (w3 := w104) rfl rfl ?_
          refine sx_RP.step (pc2 := 75) (ls2 := [(4, .int (nI (vaT n X (wtT n X (nP n X (nP n X p)) 100 0 47).2))), (3, .int 1), (0, .ref 96), (1, .int (nI k)), (2, .ref 29)]) (st2 := [.float 119, .ref 96]) (w3 := w104) rfl rfl ?_
          refine sx_RP.step (pc2 := 76) (ls2 := [(4, .int (nI (vaT n X (wtT n X (nP n X (nP n X p)) 100 0 47).2))), (3, .int 1), (0, .ref 96), (1, .int (nI k)), (2, .ref 29)]) (st2 := [.int 0, .float 119, .ref 96]) (w3 := w104) rfl rfl ?_
          refine sx_RP.step (pc2 := 77) (ls2 := [(4, .int (nI (vaT n X (wtT n X (nP n X (nP n X p)) 100 0 47).2))), (3, .int 1), (0, .ref 96), (1, .int (nI k)), (2, .ref 29)]) (st2 := [.int 3, .int 0, .float 119, .ref 96]) (w3 := w104) rfl rfl ?_
          refine sx_RP.callp (as2 := [.ref 96, .float 119, .int 0, .int 3]) (rest2 := []) rfl rfl (sx_inv_v2 (mi := 107) (k := 90) (st := [.int 3, .int 0, .float 119, .ref 96]) (w := w104) rfl rfl hI105.1.o96 rfl rfl rfl) rfl rfl rfl (X108 (k := 119) (m := 3) (lo := 0) (hi := 3) hI105 hC106 hT110 hp107 (by decide) rfl (by decide) (by decide) (by decide)) (show _ = 80 from rfl) ?_
          rintro r4 w115 ⟨⟨rfl, hT112, h1113⟩, hI116, hs114⟩
          show sx_RP _ _ _ _ _ [.int (b01 (wtT n X (nP n X ((wtT n X (nP n X (nP n X p)) 100 0 47).2)) 119 0 3).1)] _ _
          have hC117 := hC106.same h1113 (ia_of (hs114 97 (by decide)))
          have hp118 : (wtT n X (nP n X ((wtT n X (nP n X (nP n X p)) 100 0 47).2)) 119 0 3).2 ≤ n := wtT_le hp107
          have hB119 := (campB_96 hI105 hs114).trans hB108
          have hO120 := hO109.tr hs114.offT
          have en121 : fi w115 29 3 = nI m := (fi_same 3 (hs114 29 (by decide))).trans en111
          refine sx_RP.br (p1 := 85) (l1 := [(4, .int (nI (vaT n X (wtT n X (nP n X (nP n X p)) 100 0 47).2))), (3, .int 1), (0, .ref 96), (1, .int (nI k)), (2, .ref 29)]) (s1 := []) (v1 := w115) (p2 := 83) (l2 := [(4, .int (nI (vaT n X (wtT n X (nP n X (nP n X p)) 100 0 47).2))), (3, .int 1), (0, .ref 96), (1, .int (nI k)), (2, .ref 29)]) (s2 := []) (v2 := w115) rfl rfl (fun q122 => ?_) (fun q122 => ?_)
          · replace q122 := of_decide_eq_true q122
            refine sx_RP.step (pc2 := 86) (ls2 := [(4, .int (nI (vaT n X (wtT n X (nP n X (nP n X p)) 100 0 47).2))), (3, .int 1), (0, .ref 96), (1, .int (nI k)), (2, .ref 29)]) (st2 := [.ref 29]) (w3 := w115) rfl rfl ?_
            refine sx_RP.step (pc2 := 87) (ls2 := [(4, .int (nI (vaT n X (wtT n X (nP n X (nP n X p)) 100 0 47).2))), (3, .int 1), (0, .ref 96), (1, .int (nI k)), (2, .ref 29)]) (st2 := [.int (nI k), .ref 29]) (w3 := w115) rfl rfl ?_
            refine sx_RP.step (pc2 := 88) (ls2 := [(4, .int (nI (vaT n X (wtT n X (nP n X (nP n X p)) 100 0 47).2))), (3, .int 1), (0, .ref 96), (1, .int (nI k)), (2, .ref 29)]) (st2 := [.int 1, .int (nI k), .ref 29]) (w3 := w115) rfl rfl ?_
            refine sx_RP.step (pc2 := 90) (ls2 := [(4, .int (nI (vaT n X (wtT n X (nP n X (nP n X p)) 100 0 47).2))), (3, .int 1), (0, .ref 96), (1, .int (nI k)), (2, .ref 29)]) (st2 := [.int (nI (vaT n X (wtT n X (nP n X (nP n X p)) 100 0 47).2)), .int 1, .int (nI k), .ref 29]) (w3 := w115) rfl rfl ?_
            refine sx_RP.step (pc2 := 91) (ls2 := [(4, .int (nI (vaT n X (wtT n X (nP n X (nP n X p)) 100 0 47).2))), (3, .int 1), (0, .ref 96), (1, .int (nI k)), (2, .ref 29)]) (st2 := [.ref 96, .int (nI (vaT n X (wtT n X (nP n X (nP n X p)) 100 0 47).2)), .int 1, .int (nI k), .ref 29]) (w3 := w115) rfl rfl ?_
            refine sx_RP.gt (k := 5) hI116 rfl rfl (by decide) (show _ = 94 from rfl) ?_
            rw [hT112.2.2.2]
            have ht123 := wtT_t (b01_t q100)
            have ht124 := wtT_t (b01_t q122)
            have hv1 := nmT_in ht123.2.1
            have hv2 := nmT_in ht124.2.1
            rw [← ht123.2.2] at hv1
            rw [← ht124.2.2] at hv2
            refine sx_RP.callp (as2 := [.ref 29, .int (nI k), .int 1, .int (nI (vaT n X (wtT n X (nP n X (nP n X p)) 100 0 47).2)), .int (nI (vaT n X (wtT n X (nP n X ((wtT n X (nP n X (nP n X p)) 100 0 47).2)) 119 0 3).2))]) (rest2 := []) rfl rfl (sx_inv_v2 (mi := 107) (k := 96) (st := [.int (nI (vaT n X (wtT n X (nP n X ((wtT n X (nP n X (nP n X p)) 100 0 47).2)) 119 0 3).2)), .int (nI (vaT n X (wtT n X (nP n X (nP n X p)) 100 0 47).2)), .int 1, .int (nI k), .ref 29]) (w := w115) rfl rfl (hI116.1.oC (Or.inr (Or.inr rfl))) rfl rfl rfl) rfl rfl rfl (X25 hI116 isA29 (n := m) (k := k) (s := 1) (c := (vaT n X (wtT n X (nP n X (nP n X p)) 100 0 47).2)) (y := (vaT n X (wtT n X (nP n X ((wtT n X (nP n X (nP n X p)) 100 0 47).2)) 119 0 3).2)) (by omega) en121 (by omega) (by omega) (by omega) (by omega)) (show _ = 97 from rfl) ?_
            rintro r4 w127 ⟨⟨rfl, hc125⟩, hI128, ho126⟩
            show sx_RP _ _ _ _ _ [.int (nI m)] _ _
            have hC129 := hC117.out ho126
            have hT130 := hT112.out ho126
            have hB131 := hc125.trans (congrArg (addK (nI (k))) hB119)
            have hO132 := hO120.tr ho126.offT
            refine sx_RP.step (pc2 := 98) (ls2 := [(4, .int (nI (vaT n X (wtT n X (nP n X (nP n X p)) 100 0 47).2))), (3, .int 1), (0, .ref 96), (1, .int (nI k)), (2, .ref 29)]) (st2 := []) (w3 := w127) rfl rfl ?_
            refine sx_RP.step (pc2 := 99) (ls2 := [(4, .int (nI (vaT n X (wtT n X (nP n X (nP n X p)) 100 0 47).2))), (3, .int 1), (0, .ref 96), (1, .int (nI k)), (2, .ref 29)]) (st2 := [.ref 96]) (w3 := w127) rfl rfl ?_
            refine sx_RP.callp (as2 := [.ref 96]) (rest2 := []) rfl rfl (sx_inv_v2 (mi := 107) (k := 29) (st := [.ref 96]) (w := w127) rfl rfl hI128.1.o96 rfl rfl rfl) rfl rfl rfl (X94 hI128 hC129 hT130.2.2.1 (beT_le hp118)) (show _ = 102 from rfl) ?_
            rintro r4 w136 ⟨⟨rfl, hT133, h1134⟩, hI137, hs135⟩
            show sx_RP _ _ _ _ _ [] _ _
            have hT142 : TK' n X (nP n X ((wtT n X (nP n X ((wtT n X (nP n X (nP n X p)) 100 0 47).2)) 119 0 3).2)) w136 := hT133
            have hC138 := hC129.same h1134 (ia_of (hs135 97 (by decide)))
            have hp139 : nP n X ((wtT n X (nP n X ((wtT n X (nP n X (nP n X p)) 100 0 47).2)) 119 0 3).2) ≤ n := nP_le hp118
            have hB140 := (campB_96 hI128 hs135).trans hB131
            have hO141 := hO132.tr hs135.offT
            refine sx_RP.step (pc2 := 103) (ls2 := [(4, .int (nI (vaT n X (wtT n X (nP n X (nP n X p)) 100 0 47).2))), (3, .int 1), (0, .ref 96), (1, .int (nI k)), (2, .ref 29)]) (st2 := [.int 1]) (w3 := w136) rfl rfl ?_
            refine sx_RP.ret (r := (some (.int 1))) rfl rfl ?_
            have hlen : b.1.length = m := by rw [← hB]; unfold campB; rw [mkB_len1, en, iN_n (by omega)]
            rw [show galT n X k p b = (true, nP n X (wtT n X (nP n X (wtT n X (nP n X (nP n X p)) 100 0 47).2) 119 0 3).2, addK (nI k) b) by unfold galT; rw [if_pos (by rw [hlen]; exact c1), if_pos (Or.inr c78), if_pos (b01_t q100), if_pos (b01_t q122)]]
            exact ⟨⟨rfl, hT142, fun _ => hB140⟩, hI137, hC138, hO141⟩
          · replace q122 := Decidable.not_not.mp (of_decide_eq_false q122)
            refine sx_RP.step (pc2 := 84) (ls2 := [(4, .int (nI (vaT n X (wtT n X (nP n X (nP n X p)) 100 0 47).2))), (3, .int 1), (0, .ref 96), (1, .int (nI k)), (2, .ref 29)]) (st2 := [.int 0]) (w3 := w115) rfl rfl ?_
            refine sx_RP.ret (r := (some (.int 0))) rfl rfl ?_
            have hlen : b.1.length = m := by rw [← hB]; unfold campB; rw [mkB_len1, en, iN_n (by omega)]
            rw [show galT n X k p b = (false, (wtT n X (nP n X (wtT n X (nP n X (nP n X p)) 100 0 47).2) 119 0 3).2, b) by unfold galT; rw [if_pos (by rw [hlen]; exact c1), if_pos (Or.inr c78), if_pos (b01_t q100), if_neg (by rw [b01_f q122]; decide)]]
            exact ⟨⟨rfl, hT112, fun z => absurd (show false = true from z) (by decide)⟩, hI116, hC117, hO120⟩
        · replace q100 := Decidable.not_not.mp (of_decide_eq_false q100)
          refine sx_RP.step (pc2 := 61) (ls2 := [(3, .int 1), (0, .ref 96), (1, .int (nI k)), (2, .ref 29)]) (st2 := [.int 0]) (w3 := w93) rfl rfl ?_
          refine sx_RP.ret (r := (some (.int 0))) rfl rfl ?_
          have hlen : b.1.length = m := by rw [← hB]; unfold campB; rw [mkB_len1, en, iN_n (by omega)]
          rw [show galT n X k p b = (false, (wtT n X (nP n X (nP n X p)) 100 0 47).2, b) by unfold galT; rw [if_pos (by rw [hlen]; exact c1), if_pos (Or.inr c78), if_neg (by rw [b01_f q100]; decide)]]
          exact ⟨⟨rfl, hT90, fun z => absurd (show false = true from z) (by decide)⟩, hI94, hC95, hO98⟩
      · refine sx_RP.cu (as := [.ref 96, .float 109]) (rest2 := []) (st3 := [.int 0]) rfl rfl (sx_inv_v2 (mi := 107) (k := 52) (st := [.float 109, .ref 96]) (w := w5) rfl rfl hI6.1.o96 rfl rfl rfl) rfl rfl (x101f (k := (109 : UInt32)) (m := 4) hI6 hC7 hT11 hp8 (by decide) rfl (by decide) c78) rfl ?_
        refine sx_RP.step (pc2 := 42) (ls2 := [(3, .int 1), (0, .ref 96), (1, .int (nI k)), (2, .ref 29)]) (st2 := []) (w3 := w5) rfl rfl ?_
        refine sx_RP.step (pc2 := 43) (ls2 := [(3, .int 1), (0, .ref 96), (1, .int (nI k)), (2, .ref 29)]) (st2 := [.int 0]) (w3 := w5) rfl rfl ?_
        refine sx_RP.ret (r := (some (.int 0))) rfl rfl ?_
        have hlen : b.1.length = m := by rw [← hB]; unfold campB; rw [mkB_len1, en, iN_n (by omega)]
        rw [show galT n X k p b = (false, nP n X p, b) by unfold galT; rw [if_pos (by rw [hlen]; exact c1), if_neg (fun z => z.elim (by rw [c13]; decide) (by rw [c78]; decide))]]
        exact ⟨⟨rfl, hT11, fun z => absurd (show false = true from z) (by decide)⟩, hI6, hC7, hO10⟩
  · refine sx_RP.cu (as := [.ref 29]) (rest2 := []) (st3 := [.int 0]) rfl rfl (sx_inv_v2 (mi := 107) (k := 78) (st := [.ref 29]) (w := w) rfl rfl (hI.1.oC (Or.inr (Or.inr rfl))) rfl rfl rfl) rfl rfl (p24n hI isA29 en hm c1) rfl ?_
    refine sx_RP.step (pc2 := 7) (ls2 := [(0, .ref 96), (1, .int (nI k)), (2, .ref 29)]) (st2 := []) (w3 := w) rfl rfl ?_
    refine sx_RP.step (pc2 := 8) (ls2 := [(0, .ref 96), (1, .int (nI k)), (2, .ref 29)]) (st2 := [.int 0]) (w3 := w) rfl rfl ?_
    refine sx_RP.ret (r := (some (.int 0))) rfl rfl ?_
    have hlen : b.1.length = m := by rw [← hB]; unfold campB; rw [mkB_len1, en, iN_n (by omega)]
    rw [show galT n X k p b = (false, p, b) by unfold galT; rw [if_neg (by rw [hlen]; exact c1)]]
    exact ⟨⟨rfl, hT, fun z => absurd (show false = true from z) (by decide)⟩, hI, hC, OffT.rf⟩
end
-- 89i.siege.lean.txt
section
def gwT (n : Nat) (X : Nat → Nat) (p : Nat) : Int32 := if wdT n X p 102 = true then 0 else (if wdT n X p 113 = true then 1 else (if wdT n X p 112 = true then 2 else (if wdT n X p 118 = true then 3 else (if wdT n X p 117 = true then 4 else (-1)))))
def kwT (n : Nat) (X : Nat → Nat) (p : Nat) : Int32 := if wdT n X p 106 = true then 0 else (if wdT n X p 110 = true then 1 else (if wdT n X p 114 = true then 2 else (if wdT n X p 107 = true then 3 else (if wdT n X p 105 = true then 4 else (if wdT n X p 103 = true then 5 else (-1))))))
set_option maxRecDepth 20000 in
set_option maxHeartbeats 4000000 in
theorem x99 {xs : Option (List Int32)} {d : Nat} {w : List sx_C} (hI : WI w) {n p : Nat} {X : Nat → Nat} (hC : CT n X w) (hT : TK' n X p w) (hp : p ≤ n) : sx_RU xs (d + 1) 99 0 (lv_args 0 [.ref 96]) [] w (some (.int (gwT n X p))) w := by
  have h : sx_RP xs (d + 1) 99 0 (lv_args 0 [.ref 96]) [] w (fun r9 w2 => r9 = some (.int (gwT n X p)) ∧ w2 = w) := by
    refine sx_RP.step (pc2 := 1) (ls2 := [(0, .ref 96)]) (st2 := [.int 0]) (w3 := w) rfl rfl ?_
    refine sx_RP.step (pc2 := 2) (ls2 := [(1, .int 0), (0, .ref 96)]) (st2 := []) (w3 := w) rfl rfl ?_
    refine sx_RP.step (pc2 := 3) (ls2 := [(1, .int 0), (0, .ref 96)]) (st2 := [.int 0]) (w3 := w) rfl rfl ?_
    refine sx_RP.step (pc2 := 4) (ls2 := [(1, .int 0), (0, .ref 96)]) (st2 := [.int 5, .int 0]) (w3 := w) rfl rfl ?_
    refine sx_RP.step (pc2 := 7) (ls2 := [(1, .int 0), (0, .ref 96)]) (st2 := []) (w3 := w) rfl rfl ?_
    refine sx_RP.step (pc2 := 8) (ls2 := [(1, .int 0), (0, .ref 96)]) (st2 := [.ref 96]) (w3 := w) rfl rfl ?_
    refine sx_RP.step (pc2 := 9) (ls2 := [(1, .int 0), (0, .ref 96)]) (st2 := [.int 0, .ref 96]) (w3 := w) rfl rfl ?_
    refine sx_RP.cu (as := [.int 0]) (rest2 := [.ref 96]) (st3 := [.float 102, .ref 96]) rfl rfl rfl rfl rfl (p100_0) rfl ?_
    rcases Bool.eq_false_or_eq_true (wdT n X p (102 : UInt32)) with c1 | c1
    · refine sx_RP.cu (as := [.ref 96, .float 102]) (rest2 := []) (st3 := [.int 1]) rfl rfl (sx_inv_v2 (mi := 99) (k := 52) (st := [.float 102, .ref 96]) (w := w) rfl rfl hI.1.o96 rfl rfl rfl) rfl rfl (x101t (k := (102 : UInt32)) (m := 4) hI hC hT hp (by decide) rfl (by decide) c1) rfl ?_
      refine sx_RP.step (pc2 := 18) (ls2 := [(1, .int 0), (0, .ref 96)]) (st2 := []) (w3 := w) rfl rfl ?_
      refine sx_RP.step (pc2 := 19) (ls2 := [(1, .int 0), (0, .ref 96)]) (st2 := [.int 0]) (w3 := w) rfl rfl ?_
      refine sx_RP.ret (r := (some (.int 0))) rfl rfl ?_
      exact ⟨by unfold gwT; rw [if_pos c1], rfl⟩
    · refine sx_RP.cu (as := [.ref 96, .float 102]) (rest2 := []) (st3 := [.int 0]) rfl rfl (sx_inv_v2 (mi := 99) (k := 52) (st := [.float 102, .ref 96]) (w := w) rfl rfl hI.1.o96 rfl rfl rfl) rfl rfl (x101f (k := (102 : UInt32)) (m := 4) hI hC hT hp (by decide) rfl (by decide) c1) rfl ?_
      refine sx_RP.step (pc2 := 20) (ls2 := [(1, .int 0), (0, .ref 96)]) (st2 := []) (w3 := w) rfl rfl ?_
      refine sx_RP.step (pc2 := 23) (ls2 := [(1, .int 1), (0, .ref 96)]) (st2 := []) (w3 := w) rfl rfl ?_
      refine sx_RP.step (pc2 := 2) (ls2 := [(1, .int 1), (0, .ref 96)]) (st2 := []) (w3 := w) rfl rfl ?_
      refine sx_RP.step (pc2 := 3) (ls2 := [(1, .int 1), (0, .ref 96)]) (st2 := [.int 1]) (w3 := w) rfl rfl ?_
      refine sx_RP.step (pc2 := 4) (ls2 := [(1, .int 1), (0, .ref 96)]) (st2 := [.int 5, .int 1]) (w3 := w) rfl rfl ?_
      refine sx_RP.step (pc2 := 7) (ls2 := [(1, .int 1), (0, .ref 96)]) (st2 := []) (w3 := w) rfl rfl ?_
      refine sx_RP.step (pc2 := 8) (ls2 := [(1, .int 1), (0, .ref 96)]) (st2 := [.ref 96]) (w3 := w) rfl rfl ?_
      refine sx_RP.step (pc2 := 9) (ls2 := [(1, .int 1), (0, .ref 96)]) (st2 := [.int 1, .ref 96]) (w3 := w) rfl rfl ?_
      refine sx_RP.cu (as := [.int 1]) (rest2 := [.ref 96]) (st3 := [.float 113, .ref 96]) rfl rfl rfl rfl rfl (p100_1) rfl ?_
      rcases Bool.eq_false_or_eq_true (wdT n X p (113 : UInt32)) with c2 | c2
      · refine sx_RP.cu (as := [.ref 96, .float 113]) (rest2 := []) (st3 := [.int 1]) rfl rfl (sx_inv_v2 (mi := 99) (k := 52) (st := [.float 113, .ref 96]) (w := w) rfl rfl hI.1.o96 rfl rfl rfl) rfl rfl (x101t (k := (113 : UInt32)) (m := 4) hI hC hT hp (by decide) rfl (by decide) c2) rfl ?_
        refine sx_RP.step (pc2 := 18) (ls2 := [(1, .int 1), (0, .ref 96)]) (st2 := []) (w3 := w) rfl rfl ?_
        refine sx_RP.step (pc2 := 19) (ls2 := [(1, .int 1), (0, .ref 96)]) (st2 := [.int 1]) (w3 := w) rfl rfl ?_
        refine sx_RP.ret (r := (some (.int 1))) rfl rfl ?_
        exact ⟨by unfold gwT; rw [if_neg (by rw [c1]; decide), if_pos c2], rfl⟩
      · refine sx_RP.cu (as := [.ref 96, .float 113]) (rest2 := []) (st3 := [.int 0]) rfl rfl (sx_inv_v2 (mi := 99) (k := 52) (st := [.float 113, .ref 96]) (w := w) rfl rfl hI.1.o96 rfl rfl rfl) rfl rfl (x101f (k := (113 : UInt32)) (m := 4) hI hC hT hp (by decide) rfl (by decide) c2) rfl ?_
        refine sx_RP.step (pc2 := 20) (ls2 := [(1, .int 1), (0, .ref 96)]) (st2 := []) (w3 := w) rfl rfl ?_
        refine sx_RP.step (pc2 := 23) (ls2 := [(1, .int 2), (0, .ref 96)]) (st2 := []) (w3 := w) rfl rfl ?_
        refine sx_RP.step (pc2 := 2) (ls2 := [(1, .int 2), (0, .ref 96)]) (st2 := []) (w3 := w) rfl rfl ?_
        refine sx_RP.step (pc2 := 3) (ls2 := [(1, .int 2), (0, .ref 96)]) (st2 := [.int 2]) (w3 := w) rfl rfl ?_
        refine sx_RP.step (pc2 := 4) (ls2 := [(1, .int 2), (0, .ref 96)]) (st2 := [.int 5, .int 2]) (w3 := w) rfl rfl ?_
        refine sx_RP.step (pc2 := 7) (ls2 := [(1, .int 2), (0, .ref 96)]) (st2 := []) (w3 := w) rfl rfl ?_
        refine sx_RP.step (pc2 := 8) (ls2 := [(1, .int 2), (0, .ref 96)]) (st2 := [.ref 96]) (w3 := w) rfl rfl ?_
        refine sx_RP.step (pc2 := 9) (ls2 := [(1, .int 2), (0, .ref 96)]) (st2 := [.int 2, .ref 96]) (w3 := w) rfl rfl ?_
        refine sx_RP.cu (as := [.int 2]) (rest2 := [.ref 96]) (st3 := [.float 112, .ref 96]) rfl rfl rfl rfl rfl (p100_2) rfl ?_
        rcases Bool.eq_false_or_eq_true (wdT n X p (112 : UInt32)) with c3 | c3
        · refine sx_RP.cu (as := [.ref 96, .float 112]) (rest2 := []) (st3 := [.int 1]) rfl rfl (sx_inv_v2 (mi := 99) (k := 52) (st := [.float 112, .ref 96]) (w := w) rfl rfl hI.1.o96 rfl rfl rfl) rfl rfl (x101t (k := (112 : UInt32)) (m := 4) hI hC hT hp (by decide) rfl (by decide) c3) rfl ?_
          refine sx_RP.step (pc2 := 18) (ls2 := [(1, .int 2), (0, .ref 96)]) (st2 := []) (w3 := w) rfl rfl ?_
          refine sx_RP.step (pc2 := 19) (ls2 := [(1, .int 2), (0, .ref 96)]) (st2 := [.int 2]) (w3 := w) rfl rfl ?_
          refine sx_RP.ret (r := (some (.int 2))) rfl rfl ?_
          exact ⟨by unfold gwT; rw [if_neg (by rw [c1]; decide), if_neg (by rw [c2]; decide), if_pos c3], rfl⟩
        · refine sx_RP.cu (as := [.ref 96, .float 112]) (rest2 := []) (st3 := [.int 0]) rfl rfl (sx_inv_v2 (mi := 99) (k := 52) (st := [.float 112, .ref 96]) (w := w) rfl rfl hI.1.o96 rfl rfl rfl) rfl rfl (x101f (k := (112 : UInt32)) (m := 4) hI hC hT hp (by decide) rfl (by decide) c3) rfl ?_
          refine sx_RP.step (pc2 := 20) (ls2 := [(1, .int 2), (0, .ref 96)]) (st2 := []) (w3 := w) rfl rfl ?_
          refine sx_RP.step (pc2 := 23) (ls2 := [(1, .int 3), (0, .ref 96)]) (st2 := []) (w3 := w) rfl rfl ?_
          refine sx_RP.step (pc2 := 2) (ls2 := [(1, .int 3), (0, .ref 96)]) (st2 := []) (w3 := w) rfl rfl ?_
          refine sx_RP.step (pc2 := 3) (ls2 := [(1, .int 3), (0, .ref 96)]) (st2 := [.int 3]) (w3 := w) rfl rfl ?_
          refine sx_RP.step (pc2 := 4) (ls2 := [(1, .int 3), (0, .ref 96)]) (st2 := [.int 5, .int 3]) (w3 := w) rfl rfl ?_
          refine sx_RP.step (pc2 := 7) (ls2 := [(1, .int 3), (0, .ref 96)]) (st2 := []) (w3 := w) rfl rfl ?_
          refine sx_RP.step (pc2 := 8) (ls2 := [(1, .int 3), (0, .ref 96)]) (st2 := [.ref 96]) (w3 := w) rfl rfl ?_
          refine sx_RP.step (pc2 := 9) (ls2 := [(1, .int 3), (0, .ref 96)]) (st2 := [.int 3, .ref 96]) (w3 := w) rfl rfl ?_
          refine sx_RP.cu (as := [.int 3]) (rest2 := [.ref 96]) (st3 := [.float 118, .ref 96]) rfl rfl rfl rfl rfl (p100_3) rfl ?_
          rcases Bool.eq_false_or_eq_true (wdT n X p (118 : UInt32)) with c4 | c4
          · refine sx_RP.cu (as := [.ref 96, .float 118]) (rest2 := []) (st3 := [.int 1]) rfl rfl (sx_inv_v2 (mi := 99) (k := 52) (st := [.float 118, .ref 96]) (w := w) rfl rfl hI.1.o96 rfl rfl rfl) rfl rfl (x101t (k := (118 : UInt32)) (m := 5) hI hC hT hp (by decide) rfl (by decide) c4) rfl ?_
            refine sx_RP.step (pc2 := 18) (ls2 := [(1, .int 3), (0, .ref 96)]) (st2 := []) (w3 := w) rfl rfl ?_
            refine sx_RP.step (pc2 := 19) (ls2 := [(1, .int 3), (0, .ref 96)]) (st2 := [.int 3]) (w3 := w) rfl rfl ?_
            refine sx_RP.ret (r := (some (.int 3))) rfl rfl ?_
            exact ⟨by unfold gwT; rw [if_neg (by rw [c1]; decide), if_neg (by rw [c2]; decide), if_neg (by rw [c3]; decide), if_pos c4], rfl⟩
          · refine sx_RP.cu (as := [.ref 96, .float 118]) (rest2 := []) (st3 := [.int 0]) rfl rfl (sx_inv_v2 (mi := 99) (k := 52) (st := [.float 118, .ref 96]) (w := w) rfl rfl hI.1.o96 rfl rfl rfl) rfl rfl (x101f (k := (118 : UInt32)) (m := 5) hI hC hT hp (by decide) rfl (by decide) c4) rfl ?_
            refine sx_RP.step (pc2 := 20) (ls2 := [(1, .int 3), (0, .ref 96)]) (st2 := []) (w3 := w) rfl rfl ?_
            refine sx_RP.step (pc2 := 23) (ls2 := [(1, .int 4), (0, .ref 96)]) (st2 := []) (w3 := w) rfl rfl ?_
            refine sx_RP.step (pc2 := 2) (ls2 := [(1, .int 4), (0, .ref 96)]) (st2 := []) (w3 := w) rfl rfl ?_
            refine sx_RP.step (pc2 := 3) (ls2 := [(1, .int 4), (0, .ref 96)]) (st2 := [.int 4]) (w3 := w) rfl rfl ?_
            refine sx_RP.step (pc2 := 4) (ls2 := [(1, .int 4), (0, .ref 96)]) (st2 := [.int 5, .int 4]) (w3 := w) rfl rfl ?_
            refine sx_RP.step (pc2 := 7) (ls2 := [(1, .int 4), (0, .ref 96)]) (st2 := []) (w3 := w) rfl rfl ?_
            refine sx_RP.step (pc2 := 8) (ls2 := [(1, .int 4), (0, .ref 96)]) (st2 := [.ref 96]) (w3 := w) rfl rfl ?_
            refine sx_RP.step (pc2 := 9) (ls2 := [(1, .int 4), (0, .ref 96)]) (st2 := [.int 4, .ref 96]) (w3 := w) rfl rfl ?_
            refine sx_RP.cu (as := [.int 4]) (rest2 := [.ref 96]) (st3 := [.float 117, .ref 96]) rfl rfl rfl rfl rfl (p100_4) rfl ?_
            rcases Bool.eq_false_or_eq_true (wdT n X p (117 : UInt32)) with c5 | c5
            · refine sx_RP.cu (as := [.ref 96, .float 117]) (rest2 := []) (st3 := [.int 1]) rfl rfl (sx_inv_v2 (mi := 99) (k := 52) (st := [.float 117, .ref 96]) (w := w) rfl rfl hI.1.o96 rfl rfl rfl) rfl rfl (x101t (k := (117 : UInt32)) (m := 4) hI hC hT hp (by decide) rfl (by decide) c5) rfl ?_
              refine sx_RP.step (pc2 := 18) (ls2 := [(1, .int 4), (0, .ref 96)]) (st2 := []) (w3 := w) rfl rfl ?_
              refine sx_RP.step (pc2 := 19) (ls2 := [(1, .int 4), (0, .ref 96)]) (st2 := [.int 4]) (w3 := w) rfl rfl ?_
              refine sx_RP.ret (r := (some (.int 4))) rfl rfl ?_
              exact ⟨by unfold gwT; rw [if_neg (by rw [c1]; decide), if_neg (by rw [c2]; decide), if_neg (by rw [c3]; decide), if_neg (by rw [c4]; decide), if_pos c5], rfl⟩
            · refine sx_RP.cu (as := [.ref 96, .float 117]) (rest2 := []) (st3 := [.int 0]) rfl rfl (sx_inv_v2 (mi := 99) (k := 52) (st := [.float 117, .ref 96]) (w := w) rfl rfl hI.1.o96 rfl rfl rfl) rfl rfl (x101f (k := (117 : UInt32)) (m := 4) hI hC hT hp (by decide) rfl (by decide) c5) rfl ?_
              refine sx_RP.step (pc2 := 20) (ls2 := [(1, .int 4), (0, .ref 96)]) (st2 := []) (w3 := w) rfl rfl ?_
              refine sx_RP.step (pc2 := 23) (ls2 := [(1, .int 5), (0, .ref 96)]) (st2 := []) (w3 := w) rfl rfl ?_
              refine sx_RP.step (pc2 := 2) (ls2 := [(1, .int 5), (0, .ref 96)]) (st2 := []) (w3 := w) rfl rfl ?_
              refine sx_RP.step (pc2 := 3) (ls2 := [(1, .int 5), (0, .ref 96)]) (st2 := [.int 5]) (w3 := w) rfl rfl ?_
              refine sx_RP.step (pc2 := 4) (ls2 := [(1, .int 5), (0, .ref 96)]) (st2 := [.int 5, .int 5]) (w3 := w) rfl rfl ?_
              refine sx_RP.step (pc2 := 26) (ls2 := [(1, .int 5), (0, .ref 96)]) (st2 := []) (w3 := w) rfl rfl ?_
              refine sx_RP.step (pc2 := 27) (ls2 := [(1, .int 5), (0, .ref 96)]) (st2 := [.int (-1)]) (w3 := w) rfl rfl ?_
              refine sx_RP.ret (r := (some (.int (-1)))) rfl rfl ?_
              exact ⟨by unfold gwT; rw [if_neg (by rw [c1]; decide), if_neg (by rw [c2]; decide), if_neg (by rw [c3]; decide), if_neg (by rw [c4]; decide), if_neg (by rw [c5]; decide)], rfl⟩
  obtain ⟨r9, w2, h1, rfl, rfl⟩ := h
  exact h1
set_option maxRecDepth 20000 in
set_option maxHeartbeats 4000000 in
theorem x105 {xs : Option (List Int32)} {d : Nat} {w : List sx_C} (hI : WI w) {n p : Nat} {X : Nat → Nat} (hC : CT n X w) (hT : TK' n X p w) (hp : p ≤ n) : sx_RU xs (d + 1) 105 0 (lv_args 0 [.ref 96]) [] w (some (.int (kwT n X p))) w := by
  have h : sx_RP xs (d + 1) 105 0 (lv_args 0 [.ref 96]) [] w (fun r9 w2 => r9 = some (.int (kwT n X p)) ∧ w2 = w) := by
    refine sx_RP.step (pc2 := 1) (ls2 := [(0, .ref 96)]) (st2 := [.int 0]) (w3 := w) rfl rfl ?_
    refine sx_RP.step (pc2 := 2) (ls2 := [(1, .int 0), (0, .ref 96)]) (st2 := []) (w3 := w) rfl rfl ?_
    refine sx_RP.step (pc2 := 3) (ls2 := [(1, .int 0), (0, .ref 96)]) (st2 := [.int 0]) (w3 := w) rfl rfl ?_
    refine sx_RP.step (pc2 := 5) (ls2 := [(1, .int 0), (0, .ref 96)]) (st2 := [.int 6, .int 0]) (w3 := w) rfl rfl ?_
    refine sx_RP.step (pc2 := 8) (ls2 := [(1, .int 0), (0, .ref 96)]) (st2 := []) (w3 := w) rfl rfl ?_
    refine sx_RP.step (pc2 := 9) (ls2 := [(1, .int 0), (0, .ref 96)]) (st2 := [.ref 96]) (w3 := w) rfl rfl ?_
    refine sx_RP.step (pc2 := 10) (ls2 := [(1, .int 0), (0, .ref 96)]) (st2 := [.int 0, .ref 96]) (w3 := w) rfl rfl ?_
    refine sx_RP.cu (as := [.int 0]) (rest2 := [.ref 96]) (st3 := [.float 106, .ref 96]) rfl rfl rfl rfl rfl (p106_0) rfl ?_
    rcases Bool.eq_false_or_eq_true (wdT n X p (106 : UInt32)) with c1 | c1
    · refine sx_RP.cu (as := [.ref 96, .float 106]) (rest2 := []) (st3 := [.int 1]) rfl rfl (sx_inv_v2 (mi := 105) (k := 52) (st := [.float 106, .ref 96]) (w := w) rfl rfl hI.1.o96 rfl rfl rfl) rfl rfl (x101t (k := (106 : UInt32)) (m := 7) hI hC hT hp (by decide) rfl (by decide) c1) rfl ?_
      refine sx_RP.step (pc2 := 19) (ls2 := [(1, .int 0), (0, .ref 96)]) (st2 := []) (w3 := w) rfl rfl ?_
      refine sx_RP.step (pc2 := 20) (ls2 := [(1, .int 0), (0, .ref 96)]) (st2 := [.int 0]) (w3 := w) rfl rfl ?_
      refine sx_RP.ret (r := (some (.int 0))) rfl rfl ?_
      exact ⟨by unfold kwT; rw [if_pos c1], rfl⟩
    · refine sx_RP.cu (as := [.ref 96, .float 106]) (rest2 := []) (st3 := [.int 0]) rfl rfl (sx_inv_v2 (mi := 105) (k := 52) (st := [.float 106, .ref 96]) (w := w) rfl rfl hI.1.o96 rfl rfl rfl) rfl rfl (x101f (k := (106 : UInt32)) (m := 7) hI hC hT hp (by decide) rfl (by decide) c1) rfl ?_
      refine sx_RP.step (pc2 := 21) (ls2 := [(1, .int 0), (0, .ref 96)]) (st2 := []) (w3 := w) rfl rfl ?_
      refine sx_RP.step (pc2 := 24) (ls2 := [(1, .int 1), (0, .ref 96)]) (st2 := []) (w3 := w) rfl rfl ?_
      refine sx_RP.step (pc2 := 2) (ls2 := [(1, .int 1), (0, .ref 96)]) (st2 := []) (w3 := w) rfl rfl ?_
      refine sx_RP.step (pc2 := 3) (ls2 := [(1, .int 1), (0, .ref 96)]) (st2 := [.int 1]) (w3 := w) rfl rfl ?_
      refine sx_RP.step (pc2 := 5) (ls2 := [(1, .int 1), (0, .ref 96)]) (st2 := [.int 6, .int 1]) (w3 := w) rfl rfl ?_
      refine sx_RP.step (pc2 := 8) (ls2 := [(1, .int 1), (0, .ref 96)]) (st2 := []) (w3 := w) rfl rfl ?_
      refine sx_RP.step (pc2 := 9) (ls2 := [(1, .int 1), (0, .ref 96)]) (st2 := [.ref 96]) (w3 := w) rfl rfl ?_
      refine sx_RP.step (pc2 := 10) (ls2 := [(1, .int 1), (0, .ref 96)]) (st2 := [.int 1, .ref 96]) (w3 := w) rfl rfl ?_
      refine sx_RP.cu (as := [.int 1]) (rest2 := [.ref 96]) (st3 := [.float 110, .ref 96]) rfl rfl rfl rfl rfl (p106_1) rfl ?_
      rcases Bool.eq_false_or_eq_true (wdT n X p (110 : UInt32)) with c2 | c2
      · refine sx_RP.cu (as := [.ref 96, .float 110]) (rest2 := []) (st3 := [.int 1]) rfl rfl (sx_inv_v2 (mi := 105) (k := 52) (st := [.float 110, .ref 96]) (w := w) rfl rfl hI.1.o96 rfl rfl rfl) rfl rfl (x101t (k := (110 : UInt32)) (m := 7) hI hC hT hp (by decide) rfl (by decide) c2) rfl ?_
        refine sx_RP.step (pc2 := 19) (ls2 := [(1, .int 1), (0, .ref 96)]) (st2 := []) (w3 := w) rfl rfl ?_
        refine sx_RP.step (pc2 := 20) (ls2 := [(1, .int 1), (0, .ref 96)]) (st2 := [.int 1]) (w3 := w) rfl rfl ?_
        refine sx_RP.ret (r := (some (.int 1))) rfl rfl ?_
        exact ⟨by unfold kwT; rw [if_neg (by rw [c1]; decide), if_pos c2], rfl⟩
      · refine sx_RP.cu (as := [.ref 96, .float 110]) (rest2 := []) (st3 := [.int 0]) rfl rfl (sx_inv_v2 (mi := 105) (k := 52) (st := [.float 110, .ref 96]) (w := w) rfl rfl hI.1.o96 rfl rfl rfl) rfl rfl (x101f (k := (110 : UInt32)) (m := 7) hI hC hT hp (by decide) rfl (by decide) c2) rfl ?_
        refine sx_RP.step (pc2 := 21) (ls2 := [(1, .int 1), (0, .ref 96)]) (st2 := []) (w3 := w) rfl rfl ?_
        refine sx_RP.step (pc2 := 24) (ls2 := [(1, .int 2), (0, .ref 96)]) (st2 := []) (w3 := w) rfl rfl ?_
        refine sx_RP.step (pc2 := 2) (ls2 := [(1, .int 2), (0, .ref 96)]) (st2 := []) (w3 := w) rfl rfl ?_
        refine sx_RP.step (pc2 := 3) (ls2 := [(1, .int 2), (0, .ref 96)]) (st2 := [.int 2]) (w3 := w) rfl rfl ?_
        refine sx_RP.step (pc2 := 5) (ls2 := [(1, .int 2), (0, .ref 96)]) (st2 := [.int 6, .int 2]) (w3 := w) rfl rfl ?_
        refine sx_RP.step (pc2 := 8) (ls2 := [(1, .int 2), (0, .ref 96)]) (st2 := []) (w3 := w) rfl rfl ?_
        refine sx_RP.step (pc2 := 9) (ls2 := [(1, .int 2), (0, .ref 96)]) (st2 := [.ref 96]) (w3 := w) rfl rfl ?_
        refine sx_RP.step (pc2 := 10) (ls2 := [(1, .int 2), (0, .ref 96)]) (st2 := [.int 2, .ref 96]) (w3 := w) rfl rfl ?_
        refine sx_RP.cu (as := [.int 2]) (rest2 := [.ref 96]) (st3 := [.float 114, .ref 96]) rfl rfl rfl rfl rfl (p106_2) rfl ?_
        rcases Bool.eq_false_or_eq_true (wdT n X p (114 : UInt32)) with c3 | c3
        · refine sx_RP.cu (as := [.ref 96, .float 114]) (rest2 := []) (st3 := [.int 1]) rfl rfl (sx_inv_v2 (mi := 105) (k := 52) (st := [.float 114, .ref 96]) (w := w) rfl rfl hI.1.o96 rfl rfl rfl) rfl rfl (x101t (k := (114 : UInt32)) (m := 3) hI hC hT hp (by decide) rfl (by decide) c3) rfl ?_
          refine sx_RP.step (pc2 := 19) (ls2 := [(1, .int 2), (0, .ref 96)]) (st2 := []) (w3 := w) rfl rfl ?_
          refine sx_RP.step (pc2 := 20) (ls2 := [(1, .int 2), (0, .ref 96)]) (st2 := [.int 2]) (w3 := w) rfl rfl ?_
          refine sx_RP.ret (r := (some (.int 2))) rfl rfl ?_
          exact ⟨by unfold kwT; rw [if_neg (by rw [c1]; decide), if_neg (by rw [c2]; decide), if_pos c3], rfl⟩
        · refine sx_RP.cu (as := [.ref 96, .float 114]) (rest2 := []) (st3 := [.int 0]) rfl rfl (sx_inv_v2 (mi := 105) (k := 52) (st := [.float 114, .ref 96]) (w := w) rfl rfl hI.1.o96 rfl rfl rfl) rfl rfl (x101f (k := (114 : UInt32)) (m := 3) hI hC hT hp (by decide) rfl (by decide) c3) rfl ?_
          refine sx_RP.step (pc2 := 21) (ls2 := [(1, .int 2), (0, .ref 96)]) (st2 := []) (w3 := w) rfl rfl ?_
          refine sx_RP.step (pc2 := 24) (ls2 := [(1, .int 3), (0, .ref 96)]) (st2 := []) (w3 := w) rfl rfl ?_
          refine sx_RP.step (pc2 := 2) (ls2 := [(1, .int 3), (0, .ref 96)]) (st2 := []) (w3 := w) rfl rfl ?_
          refine sx_RP.step (pc2 := 3) (ls2 := [(1, .int 3), (0, .ref 96)]) (st2 := [.int 3]) (w3 := w) rfl rfl ?_
          refine sx_RP.step (pc2 := 5) (ls2 := [(1, .int 3), (0, .ref 96)]) (st2 := [.int 6, .int 3]) (w3 := w) rfl rfl ?_
          refine sx_RP.step (pc2 := 8) (ls2 := [(1, .int 3), (0, .ref 96)]) (st2 := []) (w3 := w) rfl rfl ?_
          refine sx_RP.step (pc2 := 9) (ls2 := [(1, .int 3), (0, .ref 96)]) (st2 := [.ref 96]) (w3 := w) rfl rfl ?_
          refine sx_RP.step (pc2 := 10) (ls2 := [(1, .int 3), (0, .ref 96)]) (st2 := [.int 3, .ref 96]) (w3 := w) rfl rfl ?_
          refine sx_RP.cu (as := [.int 3]) (rest2 := [.ref 96]) (st3 := [.float 107, .ref 96]) rfl rfl rfl rfl rfl (p106_3) rfl ?_
          rcases Bool.eq_false_or_eq_true (wdT n X p (107 : UInt32)) with c4 | c4
          · refine sx_RP.cu (as := [.ref 96, .float 107]) (rest2 := []) (st3 := [.int 1]) rfl rfl (sx_inv_v2 (mi := 105) (k := 52) (st := [.float 107, .ref 96]) (w := w) rfl rfl hI.1.o96 rfl rfl rfl) rfl rfl (x101t (k := (107 : UInt32)) (m := 4) hI hC hT hp (by decide) rfl (by decide) c4) rfl ?_
            refine sx_RP.step (pc2 := 19) (ls2 := [(1, .int 3), (0, .ref 96)]) (st2 := []) (w3 := w) rfl rfl ?_
            refine sx_RP.step (pc2 := 20) (ls2 := [(1, .int 3), (0, .ref 96)]) (st2 := [.int 3]) (w3 := w) rfl rfl ?_
            refine sx_RP.ret (r := (some (.int 3))) rfl rfl ?_
            exact ⟨by unfold kwT; rw [if_neg (by rw [c1]; decide), if_neg (by rw [c2]; decide), if_neg (by rw [c3]; decide), if_pos c4], rfl⟩
          · refine sx_RP.cu (as := [.ref 96, .float 107]) (rest2 := []) (st3 := [.int 0]) rfl rfl (sx_inv_v2 (mi := 105) (k := 52) (st := [.float 107, .ref 96]) (w := w) rfl rfl hI.1.o96 rfl rfl rfl) rfl rfl (x101f (k := (107 : UInt32)) (m := 4) hI hC hT hp (by decide) rfl (by decide) c4) rfl ?_
            refine sx_RP.step (pc2 := 21) (ls2 := [(1, .int 3), (0, .ref 96)]) (st2 := []) (w3 := w) rfl rfl ?_
            refine sx_RP.step (pc2 := 24) (ls2 := [(1, .int 4), (0, .ref 96)]) (st2 := []) (w3 := w) rfl rfl ?_
            refine sx_RP.step (pc2 := 2) (ls2 := [(1, .int 4), (0, .ref 96)]) (st2 := []) (w3 := w) rfl rfl ?_
            refine sx_RP.step (pc2 := 3) (ls2 := [(1, .int 4), (0, .ref 96)]) (st2 := [.int 4]) (w3 := w) rfl rfl ?_
            refine sx_RP.step (pc2 := 5) (ls2 := [(1, .int 4), (0, .ref 96)]) (st2 := [.int 6, .int 4]) (w3 := w) rfl rfl ?_
            refine sx_RP.step (pc2 := 8) (ls2 := [(1, .int 4), (0, .ref 96)]) (st2 := []) (w3 := w) rfl rfl ?_
            refine sx_RP.step (pc2 := 9) (ls2 := [(1, .int 4), (0, .ref 96)]) (st2 := [.ref 96]) (w3 := w) rfl rfl ?_
            refine sx_RP.step (pc2 := 10) (ls2 := [(1, .int 4), (0, .ref 96)]) (st2 := [.int 4, .ref 96]) (w3 := w) rfl rfl ?_
            refine sx_RP.cu (as := [.int 4]) (rest2 := [.ref 96]) (st3 := [.float 105, .ref 96]) rfl rfl rfl rfl rfl (p106_4) rfl ?_
            rcases Bool.eq_false_or_eq_true (wdT n X p (105 : UInt32)) with c5 | c5
            · refine sx_RP.cu (as := [.ref 96, .float 105]) (rest2 := []) (st3 := [.int 1]) rfl rfl (sx_inv_v2 (mi := 105) (k := 52) (st := [.float 105, .ref 96]) (w := w) rfl rfl hI.1.o96 rfl rfl rfl) rfl rfl (x101t (k := (105 : UInt32)) (m := 5) hI hC hT hp (by decide) rfl (by decide) c5) rfl ?_
              refine sx_RP.step (pc2 := 19) (ls2 := [(1, .int 4), (0, .ref 96)]) (st2 := []) (w3 := w) rfl rfl ?_
              refine sx_RP.step (pc2 := 20) (ls2 := [(1, .int 4), (0, .ref 96)]) (st2 := [.int 4]) (w3 := w) rfl rfl ?_
              refine sx_RP.ret (r := (some (.int 4))) rfl rfl ?_
              exact ⟨by unfold kwT; rw [if_neg (by rw [c1]; decide), if_neg (by rw [c2]; decide), if_neg (by rw [c3]; decide), if_neg (by rw [c4]; decide), if_pos c5], rfl⟩
            · refine sx_RP.cu (as := [.ref 96, .float 105]) (rest2 := []) (st3 := [.int 0]) rfl rfl (sx_inv_v2 (mi := 105) (k := 52) (st := [.float 105, .ref 96]) (w := w) rfl rfl hI.1.o96 rfl rfl rfl) rfl rfl (x101f (k := (105 : UInt32)) (m := 5) hI hC hT hp (by decide) rfl (by decide) c5) rfl ?_
              refine sx_RP.step (pc2 := 21) (ls2 := [(1, .int 4), (0, .ref 96)]) (st2 := []) (w3 := w) rfl rfl ?_
              refine sx_RP.step (pc2 := 24) (ls2 := [(1, .int 5), (0, .ref 96)]) (st2 := []) (w3 := w) rfl rfl ?_
              refine sx_RP.step (pc2 := 2) (ls2 := [(1, .int 5), (0, .ref 96)]) (st2 := []) (w3 := w) rfl rfl ?_
              refine sx_RP.step (pc2 := 3) (ls2 := [(1, .int 5), (0, .ref 96)]) (st2 := [.int 5]) (w3 := w) rfl rfl ?_
              refine sx_RP.step (pc2 := 5) (ls2 := [(1, .int 5), (0, .ref 96)]) (st2 := [.int 6, .int 5]) (w3 := w) rfl rfl ?_
              refine sx_RP.step (pc2 := 8) (ls2 := [(1, .int 5), (0, .ref 96)]) (st2 := []) (w3 := w) rfl rfl ?_
              refine sx_RP.step (pc2 := 9) (ls2 := [(1, .int 5), (0, .ref 96)]) (st2 := [.ref 96]) (w3 := w) rfl rfl ?_
              refine sx_RP.step (pc2 := 10) (ls2 := [(1, .int 5), (0, .ref 96)]) (st2 := [.int 5, .ref 96]) (w3 := w) rfl rfl ?_
              refine sx_RP.cu (as := [.int 5]) (rest2 := [.ref 96]) (st3 := [.float 103, .ref 96]) rfl rfl rfl rfl rfl (p106_5) rfl ?_
              rcases Bool.eq_false_or_eq_true (wdT n X p (103 : UInt32)) with c6 | c6
              · refine sx_RP.cu (as := [.ref 96, .float 103]) (rest2 := []) (st3 := [.int 1]) rfl rfl (sx_inv_v2 (mi := 105) (k := 52) (st := [.float 103, .ref 96]) (w := w) rfl rfl hI.1.o96 rfl rfl rfl) rfl rfl (x101t (k := (103 : UInt32)) (m := 4) hI hC hT hp (by decide) rfl (by decide) c6) rfl ?_
                refine sx_RP.step (pc2 := 19) (ls2 := [(1, .int 5), (0, .ref 96)]) (st2 := []) (w3 := w) rfl rfl ?_
                refine sx_RP.step (pc2 := 20) (ls2 := [(1, .int 5), (0, .ref 96)]) (st2 := [.int 5]) (w3 := w) rfl rfl ?_
                refine sx_RP.ret (r := (some (.int 5))) rfl rfl ?_
                exact ⟨by unfold kwT; rw [if_neg (by rw [c1]; decide), if_neg (by rw [c2]; decide), if_neg (by rw [c3]; decide), if_neg (by rw [c4]; decide), if_neg (by rw [c5]; decide), if_pos c6], rfl⟩
              · refine sx_RP.cu (as := [.ref 96, .float 103]) (rest2 := []) (st3 := [.int 0]) rfl rfl (sx_inv_v2 (mi := 105) (k := 52) (st := [.float 103, .ref 96]) (w := w) rfl rfl hI.1.o96 rfl rfl rfl) rfl rfl (x101f (k := (103 : UInt32)) (m := 4) hI hC hT hp (by decide) rfl (by decide) c6) rfl ?_
                refine sx_RP.step (pc2 := 21) (ls2 := [(1, .int 5), (0, .ref 96)]) (st2 := []) (w3 := w) rfl rfl ?_
                refine sx_RP.step (pc2 := 24) (ls2 := [(1, .int 6), (0, .ref 96)]) (st2 := []) (w3 := w) rfl rfl ?_
                refine sx_RP.step (pc2 := 2) (ls2 := [(1, .int 6), (0, .ref 96)]) (st2 := []) (w3 := w) rfl rfl ?_
                refine sx_RP.step (pc2 := 3) (ls2 := [(1, .int 6), (0, .ref 96)]) (st2 := [.int 6]) (w3 := w) rfl rfl ?_
                refine sx_RP.step (pc2 := 5) (ls2 := [(1, .int 6), (0, .ref 96)]) (st2 := [.int 6, .int 6]) (w3 := w) rfl rfl ?_
                refine sx_RP.step (pc2 := 27) (ls2 := [(1, .int 6), (0, .ref 96)]) (st2 := []) (w3 := w) rfl rfl ?_
                refine sx_RP.step (pc2 := 28) (ls2 := [(1, .int 6), (0, .ref 96)]) (st2 := [.int (-1)]) (w3 := w) rfl rfl ?_
                refine sx_RP.ret (r := (some (.int (-1)))) rfl rfl ?_
                exact ⟨by unfold kwT; rw [if_neg (by rw [c1]; decide), if_neg (by rw [c2]; decide), if_neg (by rw [c3]; decide), if_neg (by rw [c4]; decide), if_neg (by rw [c5]; decide), if_neg (by rw [c6]; decide)], rfl⟩
  obtain ⟨r9, w2, h1, rfl, rfl⟩ := h
  exact h1
def br2 (n : Nat) (X : Nat → Nat) (p : Nat) (b : BB) : Bool × Nat × BB := if wdT n X p 111 = true then (if (wtT n X p 111 1 99).1 = true then (true, nP n X (wtT n X p 111 1 99).2, setR (nI (vaT n X (wtT n X p 111 1 99).2)) b) else (false, (wtT n X p 111 1 99).2, b)) else (true, p, b)
def br1 (n : Nat) (X : Nat → Nat) (p : Nat) (b : BB) : Bool × Nat × BB := if wdT n X p 108 = true then (if (wtT n X p 108 1 999).1 = true then br2 n X (nP n X (wtT n X p 108 1 999).2) (setM (nI (vaT n X (wtT n X p 108 1 999).2)) b) else (false, (wtT n X p 108 1 999).2, b)) else br2 n X p b
def breT (n : Nat) (X : Nat → Nat) (p : Nat) (b : BB) : Bool × Nat × BB := if nmT n X (nP n X p) 0 999999 = true then br1 n X (nP n X (nP n X p)) (setO (nI (vaT n X (nP n X p))) b) else (false, nP n X p, b)
set_option maxRecDepth 20000 in
set_option maxHeartbeats 4000000 in
theorem X110 {xs : Option (List Int32)} {d : Nat} {w : List sx_C} (hI : WI w) {n p : Nat} {X : Nat → Nat} {b : BB} (hC : CT n X w) (hT : TK' n X p w) (hp : p ≤ n) (hB : campB w 29 = b) : sx_RP xs (d + 4) 110 0 (lv_args 0 [.ref 96, .ref 29]) [] w (fun r w2 => (r = some (.int (b01 (breT n X p b).1)) ∧ Rd n X (breT n X p b) w2) ∧ WI w2 ∧ CT n X w2 ∧ OffT w w2) := by
  refine sx_RP.step (pc2 := 1) (ls2 := [(0, .ref 96), (1, .ref 29)]) (st2 := [.ref 96]) (w3 := w) rfl rfl ?_
  refine sx_RP.callp (as2 := [.ref 96]) (rest2 := []) rfl rfl (sx_inv_v2 (mi := 110) (k := 29) (st := [.ref 96]) (w := w) rfl rfl hI.1.o96 rfl rfl rfl) rfl rfl rfl (X94 hI hC hT.2.2.1 (beT_le hp)) (show _ = 4 from rfl) ?_
  rintro r4 w4 ⟨⟨rfl, hT1, h12⟩, hI5, hs3⟩
  show sx_RP _ _ _ _ _ [] _ _
  have hT10 : TK' n X (nP n X p) w4 := hT1
  have hC6 := hC.same h12 (ia_of (hs3 97 (by decide)))
  have hp7 : nP n X p ≤ n := nP_le hp
  have hB8 := (campB_96 hI hs3).trans hB
  have hO9 := OffT.rf.tr hs3.offT
  refine sx_RP.step (pc2 := 5) (ls2 := [(0, .ref 96), (1, .ref 29)]) (st2 := [.ref 96]) (w3 := w4) rfl rfl ?_
  refine sx_RP.step (pc2 := 6) (ls2 := [(0, .ref 96), (1, .ref 29)]) (st2 := [.int 0, .ref 96]) (w3 := w4) rfl rfl ?_
  refine sx_RP.step (pc2 := 8) (ls2 := [(0, .ref 96), (1, .ref 29)]) (st2 := [.int 999999, .int 0, .ref 96]) (w3 := w4) rfl rfl ?_
  rcases Bool.eq_false_or_eq_true (nmT n X (nP n X p) 0 999999) with c11 | c11
  · refine sx_RP.cu (as := [.ref 96, .int 0, .int 999999]) (rest2 := []) (st3 := [.int 1]) rfl rfl (sx_inv_v2 (mi := 110) (k := 66) (st := [.int 999999, .int 0, .ref 96]) (w := w4) rfl rfl hI5.1.o96 rfl rfl rfl) rfl rfl (x103t (lo := 0) (hi := 999999) hI5 hC6 hT10 (by omega) (by omega) c11) rfl ?_
    refine sx_RP.step (pc2 := 16) (ls2 := [(0, .ref 96), (1, .ref 29)]) (st2 := []) (w3 := w4) rfl rfl ?_
    refine sx_RP.step (pc2 := 17) (ls2 := [(0, .ref 96), (1, .ref 29)]) (st2 := [.ref 29]) (w3 := w4) rfl rfl ?_
    refine sx_RP.step (pc2 := 18) (ls2 := [(0, .ref 96), (1, .ref 29)]) (st2 := [.ref 96, .ref 29]) (w3 := w4) rfl rfl ?_
    refine sx_RP.gt (k := 5) hI5 rfl rfl (by decide) (show _ = 21 from rfl) ?_
    rw [hT10.2.2.2]
    refine sx_RP.xC (k := 8) hI5 isA29 rfl rfl (by omega) rfl trivial (show _ = 24 from rfl) (fun w12 hI13 hs14 hv15 hr16 hj17 => ?_)
    have ho18 : Out 29 w4 w12 := Out.st Out.rf hs14 (by decide)
    have hC19 := hC6.out ho18
    have hT20 := hT10.out ho18
    have hB21 : campB w12 29 = setO (nI (vaT n X (nP n X p))) (b) := (campB_setF (k := 8) hs14 (by decide) hv15 hr16).trans (by rw [if_pos rfl, hB8])
    have hO22 := hO9.tr ho18.offT
    refine sx_RP.step (pc2 := 25) (ls2 := [(0, .ref 96), (1, .ref 29)]) (st2 := [.ref 96]) (w3 := w12) rfl rfl ?_
    refine sx_RP.callp (as2 := [.ref 96]) (rest2 := []) rfl rfl (sx_inv_v2 (mi := 110) (k := 29) (st := [.ref 96]) (w := w12) rfl rfl hI13.1.o96 rfl rfl rfl) rfl rfl rfl (X94 hI13 hC19 hT20.2.2.1 (beT_le hp7)) (show _ = 28 from rfl) ?_
    rintro r4 w26 ⟨⟨rfl, hT23, h124⟩, hI27, hs25⟩
    show sx_RP _ _ _ _ _ [] _ _
    have hT32 : TK' n X (nP n X (nP n X p)) w26 := hT23
    have hC28 := hC19.same h124 (ia_of (hs25 97 (by decide)))
    have hp29 : nP n X (nP n X p) ≤ n := nP_le hp7
    have hB30 := (campB_96 hI13 hs25).trans hB21
    have hO31 := hO22.tr hs25.offT
    refine sx_RP.step (pc2 := 29) (ls2 := [(0, .ref 96), (1, .ref 29)]) (st2 := [.ref 96]) (w3 := w26) rfl rfl ?_
    refine sx_RP.step (pc2 := 31) (ls2 := [(0, .ref 96), (1, .ref 29)]) (st2 := [.float 108, .ref 96]) (w3 := w26) rfl rfl ?_
    rcases Bool.eq_false_or_eq_true (wdT n X (nP n X (nP n X p)) (108 : UInt32)) with c33 | c33
    · refine sx_RP.cu (as := [.ref 96, .float 108]) (rest2 := []) (st3 := [.int 1]) rfl rfl (sx_inv_v2 (mi := 110) (k := 52) (st := [.float 108, .ref 96]) (w := w26) rfl rfl hI27.1.o96 rfl rfl rfl) rfl rfl (x101t (k := (108 : UInt32)) (m := 6) hI27 hC28 hT32 hp29 (by decide) rfl (by decide) c33) rfl ?_
      refine sx_RP.step (pc2 := 37) (ls2 := [(0, .ref 96), (1, .ref 29)]) (st2 := []) (w3 := w26) rfl rfl ?_
      refine sx_RP.step (pc2 := 38) (ls2 := [(0, .ref 96), (1, .ref 29)]) (st2 := [.ref 96]) (w3 := w26) rfl rfl ?_
      refine sx_RP.step (pc2 := 40) (ls2 := [(0, .ref 96), (1, .ref 29)]) (st2 := [.float 108, .ref 96]) (w3 := w26) rfl rfl ?_
      refine sx_RP.step (pc2 := 41) (ls2 := [(0, .ref 96), (1, .ref 29)]) (st2 := [.int 1, .float 108, .ref 96]) (w3 := w26) rfl rfl ?_
      refine sx_RP.step (pc2 := 44) (ls2 := [(0, .ref 96), (1, .ref 29)]) (st2 := [.int 999, .int 1, .float 108, .ref 96]) (w3 := w26) rfl rfl ?_
      refine sx_RP.callp (as2 := [.ref 96, .float 108, .int 1, .int 999]) (rest2 := []) rfl rfl (sx_inv_v2 (mi := 110) (k := 90) (st := [.int 999, .int 1, .float 108, .ref 96]) (w := w26) rfl rfl hI27.1.o96 rfl rfl rfl) rfl rfl rfl (X108 (k := 108) (m := 6) (lo := 1) (hi := 999) hI27 hC28 hT32 hp29 (by decide) rfl (by decide) (by decide) (by decide)) (show _ = 47 from rfl) ?_
      rintro r4 w37 ⟨⟨rfl, hT34, h135⟩, hI38, hs36⟩
      show sx_RP _ _ _ _ _ [.int (b01 (wtT n X (nP n X (nP n X p)) 108 1 999).1)] _ _
      have hC39 := hC28.same h135 (ia_of (hs36 97 (by decide)))
      have hp40 : (wtT n X (nP n X (nP n X p)) 108 1 999).2 ≤ n := wtT_le hp29
      have hB41 := (campB_96 hI27 hs36).trans hB30
      have hO42 := hO31.tr hs36.offT
      refine sx_RP.br (p1 := 52) (l1 := [(0, .ref 96), (1, .ref 29)]) (s1 := []) (v1 := w37) (p2 := 50) (l2 := [(0, .ref 96), (1, .ref 29)]) (s2 := []) (v2 := w37) rfl rfl (fun q43 => ?_) (fun q43 => ?_)
      · replace q43 := of_decide_eq_true q43
        refine sx_RP.step (pc2 := 53) (ls2 := [(0, .ref 96), (1, .ref 29)]) (st2 := [.ref 29]) (w3 := w37) rfl rfl ?_
        refine sx_RP.step (pc2 := 54) (ls2 := [(0, .ref 96), (1, .ref 29)]) (st2 := [.ref 96, .ref 29]) (w3 := w37) rfl rfl ?_
        refine sx_RP.gt (k := 5) hI38 rfl rfl (by decide) (show _ = 57 from rfl) ?_
        rw [hT34.2.2.2]
        refine sx_RP.xC (k := 9) hI38 isA29 rfl rfl (by omega) rfl trivial (show _ = 60 from rfl) (fun w44 hI45 hs46 hv47 hr48 hj49 => ?_)
        have ho50 : Out 29 w37 w44 := Out.st Out.rf hs46 (by decide)
        have hC51 := hC39.out ho50
        have hT52 := hT34.out ho50
        have hB53 : campB w44 29 = setM (nI (vaT n X (wtT n X (nP n X (nP n X p)) 108 1 999).2)) (setO (nI (vaT n X (nP n X p))) (b)) := (campB_setF (k := 9) hs46 (by decide) hv47 hr48).trans (by rw [if_neg (by decide), if_pos rfl, hB41])
        have hO54 := hO42.tr ho50.offT
        refine sx_RP.step (pc2 := 61) (ls2 := [(0, .ref 96), (1, .ref 29)]) (st2 := [.ref 96]) (w3 := w44) rfl rfl ?_
        refine sx_RP.callp (as2 := [.ref 96]) (rest2 := []) rfl rfl (sx_inv_v2 (mi := 110) (k := 29) (st := [.ref 96]) (w := w44) rfl rfl hI45.1.o96 rfl rfl rfl) rfl rfl rfl (X94 hI45 hC51 hT52.2.2.1 (beT_le hp40)) (show _ = 64 from rfl) ?_
        rintro r4 w58 ⟨⟨rfl, hT55, h156⟩, hI59, hs57⟩
        show sx_RP _ _ _ _ _ [] _ _
        have hT64 : TK' n X (nP n X ((wtT n X (nP n X (nP n X p)) 108 1 999).2)) w58 := hT55
        have hC60 := hC51.same h156 (ia_of (hs57 97 (by decide)))
        have hp61 : nP n X ((wtT n X (nP n X (nP n X p)) 108 1 999).2) ≤ n := nP_le hp40
        have hB62 := (campB_96 hI45 hs57).trans hB53
        have hO63 := hO54.tr hs57.offT
        refine sx_RP.step (pc2 := 65) (ls2 := [(0, .ref 96), (1, .ref 29)]) (st2 := [.ref 96]) (w3 := w58) rfl rfl ?_
        refine sx_RP.step (pc2 := 67) (ls2 := [(0, .ref 96), (1, .ref 29)]) (st2 := [.float 111, .ref 96]) (w3 := w58) rfl rfl ?_
        rcases Bool.eq_false_or_eq_true (wdT n X (nP n X ((wtT n X (nP n X (nP n X p)) 108 1 999).2)) (111 : UInt32)) with c65 | c65
        · refine sx_RP.cu (as := [.ref 96, .float 111]) (rest2 := []) (st3 := [.int 1]) rfl rfl (sx_inv_v2 (mi := 110) (k := 52) (st := [.float 111, .ref 96]) (w := w58) rfl rfl hI59.1.o96 rfl rfl rfl) rfl rfl (x101t (k := (111 : UInt32)) (m := 6) hI59 hC60 hT64 hp61 (by decide) rfl (by decide) c65) rfl ?_
          refine sx_RP.step (pc2 := 73) (ls2 := [(0, .ref 96), (1, .ref 29)]) (st2 := []) (w3 := w58) rfl rfl ?_
          refine sx_RP.step (pc2 := 74) (ls2 := [(0, .ref 96), (1, .ref 29)]) (st2 := [.ref 96]) (w3 := w58) rfl rfl ?_
          refine sx_RP.step (pc2 := 76) (ls2 := [(0, .ref 96), (1, .ref 29)]) (st2 := [.float 111, .ref 96]) (w3 := w58) rfl rfl ?_
          refine sx_RP.step (pc2 := 77) (ls2 := [(0, .ref 96), (1, .ref 29)]) (st2 := [.int 1, .float 111, .ref 96]) (w3 := w58) rfl rfl ?_
          refine sx_RP.step (pc2 := 79) (ls2 := [(0, .ref 96), (1, .ref 29)]) (st2 := [.int 99, .int 1, .float 111, .ref 96]) (w3 := w58) rfl rfl ?_
          refine sx_RP.callp (as2 := [.ref 96, .float 111, .int 1, .int 99]) (rest2 := []) rfl rfl (sx_inv_v2 (mi := 110) (k := 90) (st := [.int 99, .int 1, .float 111, .ref 96]) (w := w58) rfl rfl hI59.1.o96 rfl rfl rfl) rfl rfl rfl (X108 (k := 111) (m := 6) (lo := 1) (hi := 99) hI59 hC60 hT64 hp61 (by decide) rfl (by decide) (by decide) (by decide)) (show _ = 82 from rfl) ?_
          rintro r4 w69 ⟨⟨rfl, hT66, h167⟩, hI70, hs68⟩
          show sx_RP _ _ _ _ _ [.int (b01 (wtT n X (nP n X ((wtT n X (nP n X (nP n X p)) 108 1 999).2)) 111 1 99).1)] _ _
          have hC71 := hC60.same h167 (ia_of (hs68 97 (by decide)))
          have hp72 : (wtT n X (nP n X ((wtT n X (nP n X (nP n X p)) 108 1 999).2)) 111 1 99).2 ≤ n := wtT_le hp61
          have hB73 := (campB_96 hI59 hs68).trans hB62
          have hO74 := hO63.tr hs68.offT
          refine sx_RP.br (p1 := 87) (l1 := [(0, .ref 96), (1, .ref 29)]) (s1 := []) (v1 := w69) (p2 := 85) (l2 := [(0, .ref 96), (1, .ref 29)]) (s2 := []) (v2 := w69) rfl rfl (fun q75 => ?_) (fun q75 => ?_)
          · replace q75 := of_decide_eq_true q75
            refine sx_RP.step (pc2 := 88) (ls2 := [(0, .ref 96), (1, .ref 29)]) (st2 := [.ref 29]) (w3 := w69) rfl rfl ?_
            refine sx_RP.step (pc2 := 89) (ls2 := [(0, .ref 96), (1, .ref 29)]) (st2 := [.ref 96, .ref 29]) (w3 := w69) rfl rfl ?_
            refine sx_RP.gt (k := 5) hI70 rfl rfl (by decide) (show _ = 92 from rfl) ?_
            rw [hT66.2.2.2]
            refine sx_RP.xC (k := 10) hI70 isA29 rfl rfl (by omega) rfl trivial (show _ = 95 from rfl) (fun w76 hI77 hs78 hv79 hr80 hj81 => ?_)
            have ho82 : Out 29 w69 w76 := Out.st Out.rf hs78 (by decide)
            have hC83 := hC71.out ho82
            have hT84 := hT66.out ho82
            have hB85 : campB w76 29 = setR (nI (vaT n X (wtT n X (nP n X ((wtT n X (nP n X (nP n X p)) 108 1 999).2)) 111 1 99).2)) (setM (nI (vaT n X (wtT n X (nP n X (nP n X p)) 108 1 999).2)) (setO (nI (vaT n X (nP n X p))) (b))) := (campB_setF (k := 10) hs78 (by decide) hv79 hr80).trans (by rw [if_neg (by decide), if_neg (by decide), hB73])
            have hO86 := hO74.tr ho82.offT
            refine sx_RP.step (pc2 := 96) (ls2 := [(0, .ref 96), (1, .ref 29)]) (st2 := [.ref 96]) (w3 := w76) rfl rfl ?_
            refine sx_RP.callp (as2 := [.ref 96]) (rest2 := []) rfl rfl (sx_inv_v2 (mi := 110) (k := 29) (st := [.ref 96]) (w := w76) rfl rfl hI77.1.o96 rfl rfl rfl) rfl rfl rfl (X94 hI77 hC83 hT84.2.2.1 (beT_le hp72)) (show _ = 99 from rfl) ?_
            rintro r4 w90 ⟨⟨rfl, hT87, h188⟩, hI91, hs89⟩
            show sx_RP _ _ _ _ _ [] _ _
            have hT96 : TK' n X (nP n X ((wtT n X (nP n X ((wtT n X (nP n X (nP n X p)) 108 1 999).2)) 111 1 99).2)) w90 := hT87
            have hC92 := hC83.same h188 (ia_of (hs89 97 (by decide)))
            have hp93 : nP n X ((wtT n X (nP n X ((wtT n X (nP n X (nP n X p)) 108 1 999).2)) 111 1 99).2) ≤ n := nP_le hp72
            have hB94 := (campB_96 hI77 hs89).trans hB85
            have hO95 := hO86.tr hs89.offT
            refine sx_RP.step (pc2 := 100) (ls2 := [(0, .ref 96), (1, .ref 29)]) (st2 := [.int 1]) (w3 := w90) rfl rfl ?_
            refine sx_RP.ret (r := (some (.int 1))) rfl rfl ?_
            rw [show breT n X p b = (true, nP n X ((wtT n X (nP n X ((wtT n X (nP n X (nP n X p)) 108 1 999).2)) 111 1 99).2), setR (nI (vaT n X (wtT n X (nP n X ((wtT n X (nP n X (nP n X p)) 108 1 999).2)) 111 1 99).2)) (setM (nI (vaT n X (wtT n X (nP n X (nP n X p)) 108 1 999).2)) (setO (nI (vaT n X (nP n X p))) (b)))) by unfold breT; rw [if_pos c11]; unfold br1; rw [if_pos c33, if_pos (b01_t q43)]; unfold br2; rw [if_pos c65, if_pos (b01_t q75)]]
            exact ⟨⟨rfl, hT96, fun _ => hB94⟩, hI91, hC92, hO95⟩
          · replace q75 := Decidable.not_not.mp (of_decide_eq_false q75)
            refine sx_RP.step (pc2 := 86) (ls2 := [(0, .ref 96), (1, .ref 29)]) (st2 := [.int 0]) (w3 := w69) rfl rfl ?_
            refine sx_RP.ret (r := (some (.int 0))) rfl rfl ?_
            rw [show breT n X p b = (false, (wtT n X (nP n X ((wtT n X (nP n X (nP n X p)) 108 1 999).2)) 111 1 99).2, setM (nI (vaT n X (wtT n X (nP n X (nP n X p)) 108 1 999).2)) (setO (nI (vaT n X (nP n X p))) (b))) by unfold breT; rw [if_pos c11]; unfold br1; rw [if_pos c33, if_pos (b01_t q43)]; unfold br2; rw [if_pos c65, if_neg (by rw [b01_f q75]; decide)]]
            exact ⟨⟨rfl, hT66, fun z => absurd (show false = true from z) (by decide)⟩, hI70, hC71, hO74⟩
        · refine sx_RP.cu (as := [.ref 96, .float 111]) (rest2 := []) (st3 := [.int 0]) rfl rfl (sx_inv_v2 (mi := 110) (k := 52) (st := [.float 111, .ref 96]) (w := w58) rfl rfl hI59.1.o96 rfl rfl rfl) rfl rfl (x101f (k := (111 : UInt32)) (m := 6) hI59 hC60 hT64 hp61 (by decide) rfl (by decide) c65) rfl ?_
          refine sx_RP.step (pc2 := 99) (ls2 := [(0, .ref 96), (1, .ref 29)]) (st2 := []) (w3 := w58) rfl rfl ?_
          refine sx_RP.step (pc2 := 100) (ls2 := [(0, .ref 96), (1, .ref 29)]) (st2 := [.int 1]) (w3 := w58) rfl rfl ?_
          refine sx_RP.ret (r := (some (.int 1))) rfl rfl ?_
          rw [show breT n X p b = (true, nP n X ((wtT n X (nP n X (nP n X p)) 108 1 999).2), setM (nI (vaT n X (wtT n X (nP n X (nP n X p)) 108 1 999).2)) (setO (nI (vaT n X (nP n X p))) (b))) by unfold breT; rw [if_pos c11]; unfold br1; rw [if_pos c33, if_pos (b01_t q43)]; unfold br2; rw [if_neg (by rw [c65]; decide)]]
          exact ⟨⟨rfl, hT64, fun _ => hB62⟩, hI59, hC60, hO63⟩
      · replace q43 := Decidable.not_not.mp (of_decide_eq_false q43)
        refine sx_RP.step (pc2 := 51) (ls2 := [(0, .ref 96), (1, .ref 29)]) (st2 := [.int 0]) (w3 := w37) rfl rfl ?_
        refine sx_RP.ret (r := (some (.int 0))) rfl rfl ?_
        rw [show breT n X p b = (false, (wtT n X (nP n X (nP n X p)) 108 1 999).2, setO (nI (vaT n X (nP n X p))) (b)) by unfold breT; rw [if_pos c11]; unfold br1; rw [if_pos c33, if_neg (by rw [b01_f q43]; decide)]]
        exact ⟨⟨rfl, hT34, fun z => absurd (show false = true from z) (by decide)⟩, hI38, hC39, hO42⟩
    · refine sx_RP.cu (as := [.ref 96, .float 108]) (rest2 := []) (st3 := [.int 0]) rfl rfl (sx_inv_v2 (mi := 110) (k := 52) (st := [.float 108, .ref 96]) (w := w26) rfl rfl hI27.1.o96 rfl rfl rfl) rfl rfl (x101f (k := (108 : UInt32)) (m := 6) hI27 hC28 hT32 hp29 (by decide) rfl (by decide) c33) rfl ?_
      refine sx_RP.step (pc2 := 64) (ls2 := [(0, .ref 96), (1, .ref 29)]) (st2 := []) (w3 := w26) rfl rfl ?_
      refine sx_RP.step (pc2 := 65) (ls2 := [(0, .ref 96), (1, .ref 29)]) (st2 := [.ref 96]) (w3 := w26) rfl rfl ?_
      refine sx_RP.step (pc2 := 67) (ls2 := [(0, .ref 96), (1, .ref 29)]) (st2 := [.float 111, .ref 96]) (w3 := w26) rfl rfl ?_
      rcases Bool.eq_false_or_eq_true (wdT n X (nP n X (nP n X p)) (111 : UInt32)) with c97 | c97
      · refine sx_RP.cu (as := [.ref 96, .float 111]) (rest2 := []) (st3 := [.int 1]) rfl rfl (sx_inv_v2 (mi := 110) (k := 52) (st := [.float 111, .ref 96]) (w := w26) rfl rfl hI27.1.o96 rfl rfl rfl) rfl rfl (x101t (k := (111 : UInt32)) (m := 6) hI27 hC28 hT32 hp29 (by decide) rfl (by decide) c97) rfl ?_
        refine sx_RP.step (pc2 := 73) (ls2 := [(0, .ref 96), (1, .ref 29)]) (st2 := []) (w3 := w26) rfl rfl ?_
        refine sx_RP.step (pc2 := 74) (ls2 := [(0, .ref 96), (1, .ref 29)]) (st2 := [.ref 96]) (w3 := w26) rfl rfl ?_
        refine sx_RP.step (pc2 := 76) (ls2 := [(0, .ref 96), (1, .ref 29)]) (st2 := [.float 111, .ref 96]) (w3 := w26) rfl rfl ?_
        refine sx_RP.step (pc2 := 77) (ls2 := [(0, .ref 96), (1, .ref 29)]) (st2 := [.int 1, .float 111, .ref 96]) (w3 := w26) rfl rfl ?_
        refine sx_RP.step (pc2 := 79) (ls2 := [(0, .ref 96), (1, .ref 29)]) (st2 := [.int 99, .int 1, .float 111, .ref 96]) (w3 := w26) rfl rfl ?_
        refine sx_RP.callp (as2 := [.ref 96, .float 111, .int 1, .int 99]) (rest2 := []) rfl rfl (sx_inv_v2 (mi := 110) (k := 90) (st := [.int 99, .int 1, .float 111, .ref 96]) (w := w26) rfl rfl hI27.1.o96 rfl rfl rfl) rfl rfl rfl (X108 (k := 111) (m := 6) (lo := 1) (hi := 99) hI27 hC28 hT32 hp29 (by decide) rfl (by decide) (by decide) (by decide)) (show _ = 82 from rfl) ?_
        rintro r4 w101 ⟨⟨rfl, hT98, h199⟩, hI102, hs100⟩
        show sx_RP _ _ _ _ _ [.int (b01 (wtT n X (nP n X (nP n X p)) 111 1 99).1)] _ _
        have hC103 := hC28.same h199 (ia_of (hs100 97 (by decide)))
        have hp104 : (wtT n X (nP n X (nP n X p)) 111 1 99).2 ≤ n := wtT_le hp29
        have hB105 := (campB_96 hI27 hs100).trans hB30
        have hO106 := hO31.tr hs100.offT
        refine sx_RP.br (p1 := 87) (l1 := [(0, .ref 96), (1, .ref 29)]) (s1 := []) (v1 := w101) (p2 := 85) (l2 := [(0, .ref 96), (1, .ref 29)]) (s2 := []) (v2 := w101) rfl rfl (fun q107 => ?_) (fun q107 => ?_)
        · replace q107 := of_decide_eq_true q107
          refine sx_RP.step (pc2 := 88) (ls2 := [(0, .ref 96), (1, .ref 29)]) (st2 := [.ref 29]) (w3 := w101) rfl rfl ?_
          refine sx_RP.step (pc2 := 89) (ls2 := [(0, .ref 96), (1, .ref 29)]) (st2 := [.ref 96, .ref 29]) (w3 := w101) rfl rfl ?_
          refine sx_RP.gt (k := 5) hI102 rfl rfl (by decide) (show _ = 92 from rfl) ?_
          rw [hT98.2.2.2]
          refine sx_RP.xC (k := 10) hI102 isA29 rfl rfl (by omega) rfl trivial (show _ = 95 from rfl) (fun w108 hI109 hs110 hv111 hr112 hj113 => ?_)
          have ho114 : Out 29 w101 w108 := Out.st Out.rf hs110 (by decide)
          have hC115 := hC103.out ho114
          have hT116 := hT98.out ho114
          have hB117 : campB w108 29 = setR (nI (vaT n X (wtT n X (nP n X (nP n X p)) 111 1 99).2)) (setO (nI (vaT n X (nP n X p))) (b)) := (campB_setF (k := 10) hs110 (by decide) hv111 hr112).trans (by rw [if_neg (by decide), if_neg (by decide), hB105])
          have hO118 := hO106.tr ho114.offT
          refine sx_RP.step (pc2 := 96) (ls2 := [(0, .ref 96), (1, .ref 29)]) (st2 := [.ref 96]) (w3 := w108) rfl rfl ?_
          refine sx_RP.callp (as2 := [.ref 96]) (rest2 := []) rfl rfl (sx_inv_v2 (mi := 110) (k := 29) (st := [.ref 96]) (w := w108) rfl rfl hI109.1.o96 rfl rfl rfl) rfl rfl rfl (X94 hI109 hC115 hT116.2.2.1 (beT_le hp104)) (show _ = 99 from rfl) ?_
          rintro r4 w122 ⟨⟨rfl, hT119, h1120⟩, hI123, hs121⟩
          show sx_RP _ _ _ _ _ [] _ _
          have hT128 : TK' n X (nP n X ((wtT n X (nP n X (nP n X p)) 111 1 99).2)) w122 := hT119
          have hC124 := hC115.same h1120 (ia_of (hs121 97 (by decide)))
          have hp125 : nP n X ((wtT n X (nP n X (nP n X p)) 111 1 99).2) ≤ n := nP_le hp104
          have hB126 := (campB_96 hI109 hs121).trans hB117
          have hO127 := hO118.tr hs121.offT
          refine sx_RP.step (pc2 := 100) (ls2 := [(0, .ref 96), (1, .ref 29)]) (st2 := [.int 1]) (w3 := w122) rfl rfl ?_
          refine sx_RP.ret (r := (some (.int 1))) rfl rfl ?_
          rw [show breT n X p b = (true, nP n X ((wtT n X (nP n X (nP n X p)) 111 1 99).2), setR (nI (vaT n X (wtT n X (nP n X (nP n X p)) 111 1 99).2)) (setO (nI (vaT n X (nP n X p))) (b))) by unfold breT; rw [if_pos c11]; unfold br1; rw [if_neg (by rw [c33]; decide)]; unfold br2; rw [if_pos c97, if_pos (b01_t q107)]]
          exact ⟨⟨rfl, hT128, fun _ => hB126⟩, hI123, hC124, hO127⟩
        · replace q107 := Decidable.not_not.mp (of_decide_eq_false q107)
          refine sx_RP.step (pc2 := 86) (ls2 := [(0, .ref 96), (1, .ref 29)]) (st2 := [.int 0]) (w3 := w101) rfl rfl ?_
          refine sx_RP.ret (r := (some (.int 0))) rfl rfl ?_
          rw [show breT n X p b = (false, (wtT n X (nP n X (nP n X p)) 111 1 99).2, setO (nI (vaT n X (nP n X p))) (b)) by unfold breT; rw [if_pos c11]; unfold br1; rw [if_neg (by rw [c33]; decide)]; unfold br2; rw [if_pos c97, if_neg (by rw [b01_f q107]; decide)]]
          exact ⟨⟨rfl, hT98, fun z => absurd (show false = true from z) (by decide)⟩, hI102, hC103, hO106⟩
      · refine sx_RP.cu (as := [.ref 96, .float 111]) (rest2 := []) (st3 := [.int 0]) rfl rfl (sx_inv_v2 (mi := 110) (k := 52) (st := [.float 111, .ref 96]) (w := w26) rfl rfl hI27.1.o96 rfl rfl rfl) rfl rfl (x101f (k := (111 : UInt32)) (m := 6) hI27 hC28 hT32 hp29 (by decide) rfl (by decide) c97) rfl ?_
        refine sx_RP.step (pc2 := 99) (ls2 := [(0, .ref 96), (1, .ref 29)]) (st2 := []) (w3 := w26) rfl rfl ?_
        refine sx_RP.step (pc2 := 100) (ls2 := [(0, .ref 96), (1, .ref 29)]) (st2 := [.int 1]) (w3 := w26) rfl rfl ?_
        refine sx_RP.ret (r := (some (.int 1))) rfl rfl ?_
        rw [show breT n X p b = (true, nP n X (nP n X p), setO (nI (vaT n X (nP n X p))) (b)) by unfold breT; rw [if_pos c11]; unfold br1; rw [if_neg (by rw [c33]; decide)]; unfold br2; rw [if_neg (by rw [c97]; decide)]]
        exact ⟨⟨rfl, hT32, fun _ => hB30⟩, hI27, hC28, hO31⟩
  · refine sx_RP.cu (as := [.ref 96, .int 0, .int 999999]) (rest2 := []) (st3 := [.int 0]) rfl rfl (sx_inv_v2 (mi := 110) (k := 66) (st := [.int 999999, .int 0, .ref 96]) (w := w4) rfl rfl hI5.1.o96 rfl rfl rfl) rfl rfl (x103f (lo := 0) (hi := 999999) hI5 hC6 hT10 (by omega) (by omega) c11) rfl ?_
    refine sx_RP.step (pc2 := 14) (ls2 := [(0, .ref 96), (1, .ref 29)]) (st2 := []) (w3 := w4) rfl rfl ?_
    refine sx_RP.step (pc2 := 15) (ls2 := [(0, .ref 96), (1, .ref 29)]) (st2 := [.int 0]) (w3 := w4) rfl rfl ?_
    refine sx_RP.ret (r := (some (.int 0))) rfl rfl ?_
    rw [show breT n X p b = (false, nP n X p, b) by unfold breT; rw [if_neg (by rw [c11]; decide)]]
    exact ⟨⟨rfl, hT10, fun z => absurd (show false = true from z) (by decide)⟩, hI5, hC6, hO9⟩
end
-- 89j.siege.lean.txt
section
theorem campB_s30 {w w2 : List sx_C} (hI : WI w) (h : Same (29 + 1) w w2) : campB w2 29 = campB w 29 := by
  have hm := hI.many isA29
  unfold campB
  rw [fi_same 3 (h 29 (by decide)), fi_same 5 (h 29 (by decide)), fi_same 8 (h 29 (by decide)), fi_same 9 (h 29 (by decide)), fi_same 10 (h 29 (by decide)), ia_of (h (29 + 3) (by decide))]
  exact mkB_congr rfl (fun i hi => fi_same 0 (h _ (by omega))) rfl (fun _ _ => rfl) rfl rfl rfl
theorem campB_s29 {w w2 : List sx_C} (hI : WI w) (h : Same 29 w w2) (hr : ∀ j, fi w2 29 j = fi w 29 j) : campB w2 29 = campB w 29 := by
  have hm := hI.many isA29
  unfold campB
  rw [hr 3, hr 5, hr 8, hr 9, hr 10, ia_of (h (29 + 3) (by decide))]
  exact mkB_congr rfl (fun i hi => fi_same 0 (h _ (by omega))) rfl (fun _ _ => rfl) rfl rfl rfl
def EG (w w2 : List sx_C) : Prop := Out 29 w w2 ∧ campB w2 29 = campB w 29
theorem EG.rf {w : List sx_C} : EG w w := ⟨Out.rf, rfl⟩
theorem EG.tr {w w1 w2 : List sx_C} (h : EG w w1) (h2 : EG w1 w2) : EG w w2 := ⟨fun a ha => (h2.1 a ha).trans (h.1 a ha), h2.2.trans h.2⟩
section SXEG
variable {xs : Option (List Int32)} {d mi pc pc2 a idx p : Nat} {ls : sx_L} {r : List Value} {w w0 : List sx_C} {P : Option Value → List sx_C → Prop}
theorem sx_RP.stSG {i x : Int32} (hI : WI w) (hE : EG w0 w) (hA : isA 29) (hi : sx_ins mi pc = some (.iastore, 1)) (hn : sx_in i 48 = true) (hv : inR x 3) (hp : pc + 1 = pc2) (kk : ∀ w2, WI w2 → EG w0 w2 → sx_RP xs d mi pc2 ls r w2 P) : sx_RP xs d mi pc ls (.int x :: .int i :: .ref (29 + 1) :: r) w P := by
  have hw := hI.1.aS hA
  exact sx_RP.ist hi hw.1 hw.2 hn rfl rfl hp (kk _ (hI.set hw.1 sh_set (cOK.st hA (inR.set (fun k hk => hI.st hA hk) hv))) (hE.tr ⟨Out.st Out.rf Same.set (by decide), campB_s30 hI Same.set⟩))
theorem sx_RP.pwG {v : Int64} (hI : WI w) (hE : EG w0 w) (ha : isA 29) (hi : sx_ins mi pc = some (.putfield idx, 3)) (hq : sx_lk (sx_fl (sx_own mi)) idx = some (1, 1, p)) (hf : sx_fin mi 1 1 = true) (hp : pc + 3 = pc2) (kk : ∀ w2, WI w2 → EG w0 w2 → sx_RP xs d mi pc2 ls r w2 P) : sx_RP xs d mi pc ls (.long v :: .ref 29 :: r) w P :=
  sx_RP.xW hI ha hi hq hf hp (fun w2 h1 h2 _ h4 => kk w2 h1 (hE.tr ⟨Out.st Out.rf h2 (by decide), campB_s29 hI h2 h4⟩))
end SXEG
set_option maxRecDepth 20000 in
set_option maxHeartbeats 4000000 in
theorem X104B {xs : Option (List Int32)} {d : Nat} {w w0 : List sx_C} (hA : isA 29) {u t : Nat} (x : Int32) (hu : u ≤ 4) (ht : t ≤ 47) (hI : WI w) (hE : EG w0 w) {j : Nat} (hj : j ≤ 48) (kk : ∀ (w4 : List sx_C), WI w4 → EG w0 w4 → j + 1 ≤ 48 → sx_RP xs d 104 3 [(0, .ref 29), (1, .int (nI u)), (2, .int x), (3, .int (nI t)), (4, .int (nI (j + 1)))] [] w4 (fun r w2 => (r = none) ∧ WI w2 ∧ EG w0 w2)) : sx_RP xs d 104 3 [(0, .ref 29), (1, .int (nI u)), (2, .int x), (3, .int (nI t)), (4, .int (nI j))] [] w (fun r w2 => (r = none) ∧ WI w2 ∧ EG w0 w2) := by
  refine sx_RP.step (pc2 := 5) (ls2 := [(0, .ref 29), (1, .int (nI u)), (2, .int x), (3, .int (nI t)), (4, .int (nI j))]) (st2 := [.int (nI j)]) (w3 := w) rfl rfl ?_
  refine sx_RP.step (pc2 := 6) (ls2 := [(0, .ref 29), (1, .int (nI u)), (2, .int x), (3, .int (nI t)), (4, .int (nI j))]) (st2 := [.int (nI t), .int (nI j)]) (w3 := w) rfl rfl ?_
  refine sx_RP.br (p1 := 44) (l1 := [(0, .ref 29), (1, .int (nI u)), (2, .int x), (3, .int (nI t)), (4, .int (nI j))]) (s1 := []) (v1 := w) (p2 := 9) (l2 := [(0, .ref 29), (1, .int (nI u)), (2, .int x), (3, .int (nI t)), (4, .int (nI j))]) (s2 := []) (v2 := w) rfl rfl (fun q1 => ?_) (fun q1 => ?_)
  · replace q1 := of_decide_eq_true q1
    replace q1 := (nI_ltI (a := t) (b := j) (by omega) (by omega)).mp q1
    refine sx_RP.ret (r := none) rfl rfl ?_
    exact ⟨rfl, hI, hE⟩
  · replace q1 := of_decide_eq_false q1
    replace q1 := mt (nI_ltI (a := t) (b := j) (by omega) (by omega)).mpr q1
    refine sx_RP.step (pc2 := 10) (ls2 := [(0, .ref 29), (1, .int (nI u)), (2, .int x), (3, .int (nI t)), (4, .int (nI j))]) (st2 := [.int (nI u)]) (w3 := w) rfl rfl ?_
    refine sx_RP.step (pc2 := 11) (ls2 := [(0, .ref 29), (1, .int (nI u)), (2, .int x), (3, .int (nI t)), (4, .int (nI j))]) (st2 := [.int 4, .int (nI u)]) (w3 := w) rfl rfl ?_
    refine sx_RP.br (p1 := 30) (l1 := [(0, .ref 29), (1, .int (nI u)), (2, .int x), (3, .int (nI t)), (4, .int (nI j))]) (s1 := []) (v1 := w) (p2 := 14) (l2 := [(0, .ref 29), (1, .int (nI u)), (2, .int x), (3, .int (nI t)), (4, .int (nI j))]) (s2 := []) (v2 := w) rfl rfl (fun q2 => ?_) (fun q2 => ?_)
    · replace q2 := of_decide_eq_true q2
      replace q2 := mt (nI_eq (a := u) (b := 4) (by omega) (by omega)).mpr q2
      refine sx_RP.step (pc2 := 31) (ls2 := [(0, .ref 29), (1, .int (nI u)), (2, .int x), (3, .int (nI t)), (4, .int (nI j))]) (st2 := [.ref 29]) (w3 := w) rfl rfl ?_
      refine sx_RP.gref (k := 0) (b := 29 + 1) hI hA rfl rfl (by omega) (show _ = 34 from rfl) ?_
      refine sx_RP.step (pc2 := 36) (ls2 := [(0, .ref 29), (1, .int (nI u)), (2, .int x), (3, .int (nI t)), (4, .int (nI j))]) (st2 := [.int (nI j), .ref (29 + 1)]) (w3 := w) rfl rfl ?_
      refine sx_RP.step (pc2 := 37) (ls2 := [(0, .ref 29), (1, .int (nI u)), (2, .int x), (3, .int (nI t)), (4, .int (nI j))]) (st2 := [.int (nI u), .int (nI j), .ref (29 + 1)]) (w3 := w) rfl rfl ?_
      refine sx_RP.stSG hI hE hA rfl (sx_in_nI (show j < 48 by omega) (by decide)) (inR.n (show u ≤ 3 by omega)) (show _ = 38 from rfl) (fun w3 hI4 hE5 => ?_)
      refine sx_RP.step (pc2 := 41) (ls2 := [(4, .int ((nI j) + 1)), (0, .ref 29), (1, .int (nI u)), (2, .int x), (3, .int (nI t))]) (st2 := []) (w3 := w3) rfl rfl ?_
      rw [nI_1 j]
      refine sx_RP.step (pc2 := 3) (ls2 := [(4, .int (nI (j + 1))), (0, .ref 29), (1, .int (nI u)), (2, .int x), (3, .int (nI t))]) (st2 := []) (w3 := w3) rfl rfl ?_
      exact sx_RP.ls (sx_lr.cons rfl (sx_lr.cons rfl (sx_lr.cons rfl (sx_lr.cons rfl (sx_lr.cons rfl sx_lr.nil))))) (kk w3 hI4 hE5 (by omega))
    · replace q2 := Decidable.not_not.mp (of_decide_eq_false q2)
      replace q2 := (nI_eq (a := u) (b := 4) (by omega) (by omega)).mp q2
      refine sx_RP.step (pc2 := 15) (ls2 := [(0, .ref 29), (1, .int (nI u)), (2, .int x), (3, .int (nI t)), (4, .int (nI j))]) (st2 := [.ref 29]) (w3 := w) rfl rfl ?_
      refine sx_RP.step (pc2 := 16) (ls2 := [(0, .ref 29), (1, .int (nI u)), (2, .int x), (3, .int (nI t)), (4, .int (nI j))]) (st2 := [.ref 29, .ref 29]) (w3 := w) rfl rfl ?_
      refine sx_RP.gw hI hA rfl rfl (show _ = 19 from rfl) ?_
      refine sx_RP.step (pc2 := 20) (ls2 := [(0, .ref 29), (1, .int (nI u)), (2, .int x), (3, .int (nI t)), (4, .int (nI j))]) (st2 := [.long 1, .long (fj w 29 1), .ref 29]) (w3 := w) rfl rfl ?_
      refine sx_RP.step (pc2 := 22) (ls2 := [(0, .ref 29), (1, .int (nI u)), (2, .int x), (3, .int (nI t)), (4, .int (nI j))]) (st2 := [.int (nI j), .long 1, .long (fj w 29 1), .ref 29]) (w3 := w) rfl rfl ?_
      refine sx_RP.step (pc2 := 23) (ls2 := [(0, .ref 29), (1, .int (nI u)), (2, .int x), (3, .int (nI t)), (4, .int (nI j))]) (st2 := [.long ((1 : Int64) <<< ((nI j).toInt64 &&& 63)), .long (fj w 29 1), .ref 29]) (w3 := w) rfl rfl ?_
      refine sx_RP.step (pc2 := 24) (ls2 := [(0, .ref 29), (1, .int (nI u)), (2, .int x), (3, .int (nI t)), (4, .int (nI j))]) (st2 := [.long ((fj w 29 1) ||| ((1 : Int64) <<< ((nI j).toInt64 &&& 63))), .ref 29]) (w3 := w) rfl rfl ?_
      refine sx_RP.pwG hI hE hA rfl rfl rfl (show _ = 27 from rfl) (fun w6 hI7 hE8 => ?_)
      refine sx_RP.step (pc2 := 38) (ls2 := [(0, .ref 29), (1, .int (nI u)), (2, .int x), (3, .int (nI t)), (4, .int (nI j))]) (st2 := []) (w3 := w6) rfl rfl ?_
      refine sx_RP.step (pc2 := 41) (ls2 := [(4, .int ((nI j) + 1)), (0, .ref 29), (1, .int (nI u)), (2, .int x), (3, .int (nI t))]) (st2 := []) (w3 := w6) rfl rfl ?_
      rw [nI_1 j]
      refine sx_RP.step (pc2 := 3) (ls2 := [(4, .int (nI (j + 1))), (0, .ref 29), (1, .int (nI u)), (2, .int x), (3, .int (nI t))]) (st2 := []) (w3 := w6) rfl rfl ?_
      exact sx_RP.ls (sx_lr.cons rfl (sx_lr.cons rfl (sx_lr.cons rfl (sx_lr.cons rfl (sx_lr.cons rfl sx_lr.nil))))) (kk w6 hI7 hE8 (by omega))
set_option maxRecDepth 20000 in
set_option maxHeartbeats 4000000 in
theorem X104L {xs : Option (List Int32)} {d : Nat} {w0 : List sx_C} (hA : isA 29) {u t : Nat} (x : Int32) (hu : u ≤ 4) (ht : t ≤ 47) : ∀ (fz j : Nat) (w : List sx_C) , 48 ≤ j + fz * 1 → j ≤ 48 → WI w → EG w0 w → sx_RP xs d 104 3 [(0, .ref 29), (1, .int (nI u)), (2, .int x), (3, .int (nI t)), (4, .int (nI j))] [] w (fun r w2 => (r = none) ∧ WI w2 ∧ EG w0 w2)
  | 0, j, w, h, hj, hI, hE => X104B hA x hu ht hI hE hj   (fun w4  hI4 hE4 hlt  => absurd hlt (by omega)) 
  | fz + 1, j, w, h, hj, hI, hE => X104B hA x hu ht hI hE hj   (fun w4  hI4 hE4 hlt  => X104L hA x hu ht  fz (j + 1) w4  (by omega) hlt hI4 hE4 ) 
set_option maxRecDepth 20000 in
set_option maxHeartbeats 4000000 in
theorem X104 {xs : Option (List Int32)} {d : Nat} {w : List sx_C} (hI : WI w) (hA : isA 29) {u f t : Nat} (hu : u ≤ 4) (hf : f ≤ 48) (ht : t ≤ 47) : sx_RP xs d 104 0 (lv_args 0 [.ref 29, .int (nI u), .int (nI f), .int (nI t)]) [] w (fun r w2 => (r = none) ∧ WI w2 ∧ EG w w2) := by
  have hE : EG w w := EG.rf
  refine sx_RP.step (pc2 := 1) (ls2 := [(0, .ref 29), (1, .int (nI u)), (2, .int (nI f)), (3, .int (nI t))]) (st2 := [.int (nI f)]) (w3 := w) rfl rfl ?_
  refine sx_RP.step (pc2 := 3) (ls2 := [(4, .int (nI f)), (0, .ref 29), (1, .int (nI u)), (2, .int (nI f)), (3, .int (nI t))]) (st2 := []) (w3 := w) rfl rfl ?_
  exact sx_RP.ls (sx_lr.cons rfl (sx_lr.cons rfl (sx_lr.cons rfl (sx_lr.cons rfl (sx_lr.cons rfl sx_lr.nil))))) (X104L hA (nI f) hu ht 48 f w  (by omega) (by omega) hI hE )
def grT (n : Nat) (X : Nat → Nat) (b : BB) (last p : Nat) : Bool × Nat × BB := if wdT n X p 116 = true then (if nmT n X (nP n X p) (last + 1) 47 = true then (true, nP n X (nP n X p), b) else (false, nP n X p, b)) else (true, p, b)
def grL (n : Nat) (X : Nat → Nat) (b : BB) : Nat → Nat → Nat → Bool × Nat × BB
  | 0, last, p => grT n X b last p
  | f + 1, last, p => if soT n X p = 2 then (if nmT n X p (last + 1) 47 = true then grL n X b f (vaT n X p) (nP n X p) else (false, p, b)) else grT n X b last p
def groT (n : Nat) (X : Nat → Nat) (p : Nat) (b : BB) : Bool × Nat × BB := if nmT n X (nP n X p) 0 47 = true then grL n X b 48 (vaT n X (nP n X p)) (nP n X (nP n X p)) else (false, nP n X p, b)
set_option maxRecDepth 20000 in
set_option maxHeartbeats 4000000 in
theorem X102t {xs : Option (List Int32)} {d u l p : Nat} {w : List sx_C} {n : Nat} {X : Nat → Nat} {b : BB} {w0 : List sx_C} (hu : u ≤ 4) (hl : l ≤ 47) (hI : WI w) (hC : CT n X w) (hT : TK' n X p w) (hp : p ≤ n) (hB : campB w 29 = b) (hO : OffT w0 w) : sx_RP xs (d + 3) 102 86 [(0, .ref 96), (1, .int (nI u)), (2, .ref 29), (3, .int (nI l))] [] w (fun r2 w2 => (r2 = some (.int (b01 (grT n X b l p).1)) ∧ Rd n X (grT n X b l p) w2) ∧ WI w2 ∧ CT n X w2 ∧ OffT w0 w2) := by
  refine sx_RP.step (pc2 := 87) (ls2 := [(0, .ref 96), (1, .int (nI u)), (2, .ref 29), (3, .int (nI l))]) (st2 := [.ref 96]) (w3 := w) rfl rfl ?_
  refine sx_RP.step (pc2 := 89) (ls2 := [(0, .ref 96), (1, .int (nI u)), (2, .ref 29), (3, .int (nI l))]) (st2 := [.float 116, .ref 96]) (w3 := w) rfl rfl ?_
  rcases Bool.eq_false_or_eq_true (wdT n X p (116 : UInt32)) with c1 | c1
  · refine sx_RP.cu (as := [.ref 96, .float 116]) (rest2 := []) (st3 := [.int 1]) rfl rfl (sx_inv_v2 (mi := 102) (k := 52) (st := [.float 116, .ref 96]) (w := w) rfl rfl hI.1.o96 rfl rfl rfl) rfl rfl (x101t (k := (116 : UInt32)) (m := 2) hI hC hT hp (by decide) rfl (by decide) c1) rfl ?_
    refine sx_RP.step (pc2 := 97) (ls2 := [(0, .ref 96), (1, .int (nI u)), (2, .ref 29), (3, .int (nI l))]) (st2 := []) (w3 := w) rfl rfl ?_
    refine sx_RP.step (pc2 := 98) (ls2 := [(0, .ref 96), (1, .int (nI u)), (2, .ref 29), (3, .int (nI l))]) (st2 := [.ref 96]) (w3 := w) rfl rfl ?_
    refine sx_RP.callp (as2 := [.ref 96]) (rest2 := []) rfl rfl (sx_inv_v2 (mi := 102) (k := 29) (st := [.ref 96]) (w := w) rfl rfl hI.1.o96 rfl rfl rfl) rfl rfl rfl (X94 hI hC hT.2.2.1 (beT_le hp)) (show _ = 101 from rfl) ?_
    rintro r4 w5 ⟨⟨rfl, hT2, h13⟩, hI6, hs4⟩
    show sx_RP _ _ _ _ _ [] _ _
    have hT11 : TK' n X (nP n X p) w5 := hT2
    have hC7 := hC.same h13 (ia_of (hs4 97 (by decide)))
    have hp8 : nP n X p ≤ n := nP_le hp
    have hB9 := (campB_96 hI hs4).trans hB
    have hO10 := hO.tr hs4.offT
    refine sx_RP.step (pc2 := 102) (ls2 := [(0, .ref 96), (1, .int (nI u)), (2, .ref 29), (3, .int (nI l))]) (st2 := [.ref 96]) (w3 := w5) rfl rfl ?_
    refine sx_RP.step (pc2 := 103) (ls2 := [(0, .ref 96), (1, .int (nI u)), (2, .ref 29), (3, .int (nI l))]) (st2 := [.int (nI l), .ref 96]) (w3 := w5) rfl rfl ?_
    refine sx_RP.step (pc2 := 104) (ls2 := [(0, .ref 96), (1, .int (nI u)), (2, .ref 29), (3, .int (nI l))]) (st2 := [.int 1, .int (nI l), .ref 96]) (w3 := w5) rfl rfl ?_
    refine sx_RP.step (pc2 := 105) (ls2 := [(0, .ref 96), (1, .int (nI u)), (2, .ref 29), (3, .int (nI l))]) (st2 := [.int ((nI l) + 1), .ref 96]) (w3 := w5) rfl rfl ?_
    rw [show ((nI l) + 1 : Int32) = nI (l + 1) from nI_add l 1]
    refine sx_RP.step (pc2 := 107) (ls2 := [(0, .ref 96), (1, .int (nI u)), (2, .ref 29), (3, .int (nI l))]) (st2 := [.int 47, .int (nI (l + 1)), .ref 96]) (w3 := w5) rfl rfl ?_
    rcases Bool.eq_false_or_eq_true (nmT n X (nP n X p) (l + 1) 47) with c12 | c12
    · refine sx_RP.cu (as := [.ref 96, .int (nI (l + 1)), .int 47]) (rest2 := []) (st3 := [.int 1]) rfl rfl (sx_inv_v2 (mi := 102) (k := 66) (st := [.int 47, .int (nI (l + 1)), .ref 96]) (w := w5) rfl rfl hI6.1.o96 rfl rfl rfl) rfl rfl (x103t (lo := (l + 1)) (hi := 47) hI6 hC7 hT11 (by omega) (by omega) c12) rfl ?_
      refine sx_RP.step (pc2 := 115) (ls2 := [(0, .ref 96), (1, .int (nI u)), (2, .ref 29), (3, .int (nI l))]) (st2 := []) (w3 := w5) rfl rfl ?_
      refine sx_RP.step (pc2 := 116) (ls2 := [(0, .ref 96), (1, .int (nI u)), (2, .ref 29), (3, .int (nI l))]) (st2 := [.ref 29]) (w3 := w5) rfl rfl ?_
      refine sx_RP.step (pc2 := 117) (ls2 := [(0, .ref 96), (1, .int (nI u)), (2, .ref 29), (3, .int (nI l))]) (st2 := [.int (nI u), .ref 29]) (w3 := w5) rfl rfl ?_
      refine sx_RP.step (pc2 := 118) (ls2 := [(0, .ref 96), (1, .int (nI u)), (2, .ref 29), (3, .int (nI l))]) (st2 := [.int (nI l), .int (nI u), .ref 29]) (w3 := w5) rfl rfl ?_
      refine sx_RP.step (pc2 := 119) (ls2 := [(0, .ref 96), (1, .int (nI u)), (2, .ref 29), (3, .int (nI l))]) (st2 := [.int 1, .int (nI l), .int (nI u), .ref 29]) (w3 := w5) rfl rfl ?_
      refine sx_RP.step (pc2 := 120) (ls2 := [(0, .ref 96), (1, .int (nI u)), (2, .ref 29), (3, .int (nI l))]) (st2 := [.int ((nI l) + 1), .int (nI u), .ref 29]) (w3 := w5) rfl rfl ?_
      rw [show ((nI l) + 1 : Int32) = nI (l + 1) from nI_add l 1]
      refine sx_RP.step (pc2 := 121) (ls2 := [(0, .ref 96), (1, .int (nI u)), (2, .ref 29), (3, .int (nI l))]) (st2 := [.ref 96, .int (nI (l + 1)), .int (nI u), .ref 29]) (w3 := w5) rfl rfl ?_
      refine sx_RP.gt (k := 5) hI6 rfl rfl (by decide) (show _ = 124 from rfl) ?_
      rw [hT11.2.2.2]
      have hv14 := nmT_in c12
      refine sx_RP.callp (as2 := [.ref 29, .int (nI u), .int (nI (l + 1)), .int (nI (vaT n X (nP n X p)))]) (rest2 := []) rfl rfl (sx_inv_v2 (mi := 102) (k := 70) (st := [.int (nI (vaT n X (nP n X p))), .int (nI (l + 1)), .int (nI u), .ref 29]) (w := w5) rfl rfl (hI6.1.oC (Or.inr (Or.inr rfl))) rfl rfl rfl) rfl rfl rfl (X104 hI6 isA29 (u := u) (f := (l + 1)) (t := (vaT n X (nP n X p))) (by omega) (by omega) (by omega)) (show _ = 127 from rfl) ?_
      rintro r4 w15 ⟨rfl, hI16, he13⟩
      show sx_RP _ _ _ _ _ [] _ _
      have hC17 := hC7.out he13.1
      have hT18 := hT11.out he13.1
      have hB19 := he13.2.trans hB9
      have hO20 := hO10.tr he13.1.offT
      refine sx_RP.step (pc2 := 128) (ls2 := [(0, .ref 96), (1, .int (nI u)), (2, .ref 29), (3, .int (nI l))]) (st2 := [.ref 96]) (w3 := w15) rfl rfl ?_
      refine sx_RP.callp (as2 := [.ref 96]) (rest2 := []) rfl rfl (sx_inv_v2 (mi := 102) (k := 29) (st := [.ref 96]) (w := w15) rfl rfl hI16.1.o96 rfl rfl rfl) rfl rfl rfl (X94 hI16 hC17 hT18.2.2.1 (beT_le hp8)) (show _ = 131 from rfl) ?_
      rintro r4 w24 ⟨⟨rfl, hT21, h122⟩, hI25, hs23⟩
      show sx_RP _ _ _ _ _ [] _ _
      have hT30 : TK' n X (nP n X (nP n X p)) w24 := hT21
      have hC26 := hC17.same h122 (ia_of (hs23 97 (by decide)))
      have hp27 : nP n X (nP n X p) ≤ n := nP_le hp8
      have hB28 := (campB_96 hI16 hs23).trans hB19
      have hO29 := hO20.tr hs23.offT
      refine sx_RP.step (pc2 := 132) (ls2 := [(0, .ref 96), (1, .int (nI u)), (2, .ref 29), (3, .int (nI l))]) (st2 := [.int 1]) (w3 := w24) rfl rfl ?_
      refine sx_RP.ret (r := (some (.int 1))) rfl rfl ?_
      rw [show grT n X b l p = (true, nP n X (nP n X p), b) by unfold grT; rw [if_pos c1, if_pos c12]]
      exact ⟨⟨rfl, hT30, fun _ => hB28⟩, hI25, hC26, hO29⟩
    · refine sx_RP.cu (as := [.ref 96, .int (nI (l + 1)), .int 47]) (rest2 := []) (st3 := [.int 0]) rfl rfl (sx_inv_v2 (mi := 102) (k := 66) (st := [.int 47, .int (nI (l + 1)), .ref 96]) (w := w5) rfl rfl hI6.1.o96 rfl rfl rfl) rfl rfl (x103f (lo := (l + 1)) (hi := 47) hI6 hC7 hT11 (by omega) (by omega) c12) rfl ?_
      refine sx_RP.step (pc2 := 113) (ls2 := [(0, .ref 96), (1, .int (nI u)), (2, .ref 29), (3, .int (nI l))]) (st2 := []) (w3 := w5) rfl rfl ?_
      refine sx_RP.step (pc2 := 114) (ls2 := [(0, .ref 96), (1, .int (nI u)), (2, .ref 29), (3, .int (nI l))]) (st2 := [.int 0]) (w3 := w5) rfl rfl ?_
      refine sx_RP.ret (r := (some (.int 0))) rfl rfl ?_
      rw [show grT n X b l p = (false, nP n X p, b) by unfold grT; rw [if_pos c1, if_neg (by rw [c12]; decide)]]
      exact ⟨⟨rfl, hT11, fun z => absurd (show false = true from z) (by decide)⟩, hI6, hC7, hO10⟩
  · refine sx_RP.cu (as := [.ref 96, .float 116]) (rest2 := []) (st3 := [.int 0]) rfl rfl (sx_inv_v2 (mi := 102) (k := 52) (st := [.float 116, .ref 96]) (w := w) rfl rfl hI.1.o96 rfl rfl rfl) rfl rfl (x101f (k := (116 : UInt32)) (m := 2) hI hC hT hp (by decide) rfl (by decide) c1) rfl ?_
    refine sx_RP.step (pc2 := 95) (ls2 := [(0, .ref 96), (1, .int (nI u)), (2, .ref 29), (3, .int (nI l))]) (st2 := []) (w3 := w) rfl rfl ?_
    refine sx_RP.step (pc2 := 96) (ls2 := [(0, .ref 96), (1, .int (nI u)), (2, .ref 29), (3, .int (nI l))]) (st2 := [.int 1]) (w3 := w) rfl rfl ?_
    refine sx_RP.ret (r := (some (.int 1))) rfl rfl ?_
    rw [show grT n X b l p = (true, p, b) by unfold grT; rw [if_neg (by rw [c1]; decide)]]
    exact ⟨⟨rfl, hT, fun _ => hB⟩, hI, hC, hO⟩
set_option maxRecDepth 20000 in
set_option maxHeartbeats 4000000 in
theorem X102L {xs : Option (List Int32)} {d u : Nat} {n : Nat} {X : Nat → Nat} {b : BB} {w0 : List sx_C} (hu : u ≤ 4) : ∀ (fz i l p : Nat) (w : List sx_C), i + fz = 48 → l ≤ 47 → WI w → CT n X w → TK' n X p w → p ≤ n → campB w 29 = b → OffT w0 w → sx_RP xs (d + 3) 102 35 [(0, .ref 96), (1, .int (nI u)), (2, .ref 29), (3, .int (nI l)), (4, .int (nI i))] [] w (fun r2 w2 => (r2 = some (.int (b01 (grL n X b fz l p).1)) ∧ Rd n X (grL n X b fz l p) w2) ∧ WI w2 ∧ CT n X w2 ∧ OffT w0 w2)
  | 0, i, l, p, w, hi, hl, hI, hC, hT, hp, hB, hO => by
    obtain rfl : i = 48 := by omega
    refine sx_RP.step (pc2 := 37) (ls2 := [(0, .ref 96), (1, .int (nI u)), (2, .ref 29), (3, .int (nI l)), (4, .int 48)]) (st2 := [.int 48]) (w3 := w) rfl rfl ?_
    refine sx_RP.step (pc2 := 39) (ls2 := [(0, .ref 96), (1, .int (nI u)), (2, .ref 29), (3, .int (nI l)), (4, .int 48)]) (st2 := [.int 48, .int 48]) (w3 := w) rfl rfl ?_
    refine sx_RP.step (pc2 := 86) (ls2 := [(0, .ref 96), (1, .int (nI u)), (2, .ref 29), (3, .int (nI l)), (4, .int 48)]) (st2 := []) (w3 := w) rfl rfl ?_
    exact sx_RP.ls (sx_lr.cons rfl (sx_lr.cons rfl (sx_lr.cons rfl (sx_lr.cons rfl sx_lr.nil)))) (X102t hu hl hI hC hT hp hB hO)
  | fz + 1, i, l, p, w, hi, hl, hI, hC, hT, hp, hB, hO => by
    have hv0 := vaT_le (n := n) (p := p) (X := X)
    have hs4 := soT_le (p := p) hC
    refine sx_RP.step (pc2 := 37) (ls2 := [(0, .ref 96), (1, .int (nI u)), (2, .ref 29), (3, .int (nI l)), (4, .int (nI i))]) (st2 := [.int (nI i)]) (w3 := w) rfl rfl ?_
    refine sx_RP.step (pc2 := 39) (ls2 := [(0, .ref 96), (1, .int (nI u)), (2, .ref 29), (3, .int (nI l)), (4, .int (nI i))]) (st2 := [.int 48, .int (nI i)]) (w3 := w) rfl rfl ?_
    refine sx_RP.br (p2 := 42) (l2 := [(0, .ref 96), (1, .int (nI u)), (2, .ref 29), (3, .int (nI l)), (4, .int (nI i))]) (s2 := []) (v2 := w) rfl rfl (fun q => absurd (of_decide_eq_true q) (fun z => absurd ((nI_leI (a := 48) (b := i) (by omega) (by omega)).mp z) (by omega))) (fun _ => ?_)
    refine sx_RP.step (pc2 := 43) (ls2 := [(0, .ref 96), (1, .int (nI u)), (2, .ref 29), (3, .int (nI l)), (4, .int (nI i))]) (st2 := [.ref 96]) (w3 := w) rfl rfl ?_
    refine sx_RP.gt (k := 2) hI rfl rfl (by decide) (show _ = 46 from rfl) ?_
    rw [hT.2.1]
    refine sx_RP.step (pc2 := 47) (ls2 := [(0, .ref 96), (1, .int (nI u)), (2, .ref 29), (3, .int (nI l)), (4, .int (nI i))]) (st2 := [.int 2, .int (nI (soT n X (p)))]) (w3 := w) rfl rfl ?_
    refine sx_RP.br (p1 := 86) (l1 := [(0, .ref 96), (1, .int (nI u)), (2, .ref 29), (3, .int (nI l)), (4, .int (nI i))]) (s1 := []) (v1 := w) (p2 := 50) (l2 := [(0, .ref 96), (1, .int (nI u)), (2, .ref 29), (3, .int (nI l)), (4, .int (nI i))]) (s2 := []) (v2 := w) rfl rfl (fun q1 => ?_) (fun q1 => ?_)
    · replace q1 := of_decide_eq_true q1
      replace q1 := mt (nI_eq (a := (soT n X (p))) (b := 2) (by omega) (by omega)).mpr q1
      rw [show grL n X b (fz + 1) l p = grT n X b l p by unfold grL; rw [if_neg (by omega)]]
      exact sx_RP.ls (sx_lr.cons rfl (sx_lr.cons rfl (sx_lr.cons rfl (sx_lr.cons rfl sx_lr.nil)))) (X102t hu hl hI hC hT hp hB hO)
    · replace q1 := Decidable.not_not.mp (of_decide_eq_false q1)
      replace q1 := (nI_eq (a := (soT n X (p))) (b := 2) (by omega) (by omega)).mp q1
      refine sx_RP.step (pc2 := 51) (ls2 := [(0, .ref 96), (1, .int (nI u)), (2, .ref 29), (3, .int (nI l)), (4, .int (nI i))]) (st2 := [.ref 96]) (w3 := w) rfl rfl ?_
      refine sx_RP.step (pc2 := 52) (ls2 := [(0, .ref 96), (1, .int (nI u)), (2, .ref 29), (3, .int (nI l)), (4, .int (nI i))]) (st2 := [.int (nI l), .ref 96]) (w3 := w) rfl rfl ?_
      refine sx_RP.step (pc2 := 53) (ls2 := [(0, .ref 96), (1, .int (nI u)), (2, .ref 29), (3, .int (nI l)), (4, .int (nI i))]) (st2 := [.int 1, .int (nI l), .ref 96]) (w3 := w) rfl rfl ?_
      refine sx_RP.step (pc2 := 54) (ls2 := [(0, .ref 96), (1, .int (nI u)), (2, .ref 29), (3, .int (nI l)), (4, .int (nI i))]) (st2 := [.int ((nI l) + 1), .ref 96]) (w3 := w) rfl rfl ?_
      rw [show ((nI l) + 1 : Int32) = nI (l + 1) from nI_add l 1]
      refine sx_RP.step (pc2 := 56) (ls2 := [(0, .ref 96), (1, .int (nI u)), (2, .ref 29), (3, .int (nI l)), (4, .int (nI i))]) (st2 := [.int 47, .int (nI (l + 1)), .ref 96]) (w3 := w) rfl rfl ?_
      rcases Bool.eq_false_or_eq_true (nmT n X p (l + 1) 47) with c2 | c2
      · refine sx_RP.cu (as := [.ref 96, .int (nI (l + 1)), .int 47]) (rest2 := []) (st3 := [.int 1]) rfl rfl (sx_inv_v2 (mi := 102) (k := 66) (st := [.int 47, .int (nI (l + 1)), .ref 96]) (w := w) rfl rfl hI.1.o96 rfl rfl rfl) rfl rfl (x103t (lo := (l + 1)) (hi := 47) hI hC hT (by omega) (by omega) c2) rfl ?_
        refine sx_RP.step (pc2 := 64) (ls2 := [(0, .ref 96), (1, .int (nI u)), (2, .ref 29), (3, .int (nI l)), (4, .int (nI i))]) (st2 := []) (w3 := w) rfl rfl ?_
        refine sx_RP.step (pc2 := 65) (ls2 := [(0, .ref 96), (1, .int (nI u)), (2, .ref 29), (3, .int (nI l)), (4, .int (nI i))]) (st2 := [.ref 96]) (w3 := w) rfl rfl ?_
        refine sx_RP.gt (k := 5) hI rfl rfl (by decide) (show _ = 68 from rfl) ?_
        rw [hT.2.2.2]
        refine sx_RP.step (pc2 := 69) (ls2 := [(3, .int (nI (vaT n X (p)))), (0, .ref 96), (1, .int (nI u)), (2, .ref 29), (4, .int (nI i))]) (st2 := []) (w3 := w) rfl rfl ?_
        refine sx_RP.step (pc2 := 70) (ls2 := [(3, .int (nI (vaT n X (p)))), (0, .ref 96), (1, .int (nI u)), (2, .ref 29), (4, .int (nI i))]) (st2 := [.ref 29]) (w3 := w) rfl rfl ?_
        refine sx_RP.step (pc2 := 71) (ls2 := [(3, .int (nI (vaT n X (p)))), (0, .ref 96), (1, .int (nI u)), (2, .ref 29), (4, .int (nI i))]) (st2 := [.int (nI u), .ref 29]) (w3 := w) rfl rfl ?_
        refine sx_RP.step (pc2 := 72) (ls2 := [(3, .int (nI (vaT n X (p)))), (0, .ref 96), (1, .int (nI u)), (2, .ref 29), (4, .int (nI i))]) (st2 := [.int (nI (vaT n X (p))), .int (nI u), .ref 29]) (w3 := w) rfl rfl ?_
        refine sx_RP.step (pc2 := 73) (ls2 := [(3, .int (nI (vaT n X (p)))), (0, .ref 96), (1, .int (nI u)), (2, .ref 29), (4, .int (nI i))]) (st2 := [.int (nI (vaT n X (p))), .int (nI (vaT n X (p))), .int (nI u), .ref 29]) (w3 := w) rfl rfl ?_
        have hv4 := nmT_in c2
        refine sx_RP.callp (as2 := [.ref 29, .int (nI u), .int (nI (vaT n X (p))), .int (nI (vaT n X (p)))]) (rest2 := []) rfl rfl (sx_inv_v2 (mi := 102) (k := 70) (st := [.int (nI (vaT n X (p))), .int (nI (vaT n X (p))), .int (nI u), .ref 29]) (w := w) rfl rfl (hI.1.oC (Or.inr (Or.inr rfl))) rfl rfl rfl) rfl rfl rfl (X104 hI isA29 (u := u) (f := (vaT n X (p))) (t := (vaT n X (p))) (by omega) (by omega) (by omega)) (show _ = 76 from rfl) ?_
        rintro r4 w5 ⟨rfl, hI6, he3⟩
        show sx_RP _ _ _ _ _ [] _ _
        have hC7 := hC.out he3.1
        have hT8 := hT.out he3.1
        have hB9 := he3.2.trans hB
        have hO10 := hO.tr he3.1.offT
        refine sx_RP.step (pc2 := 77) (ls2 := [(3, .int (nI (vaT n X (p)))), (0, .ref 96), (1, .int (nI u)), (2, .ref 29), (4, .int (nI i))]) (st2 := [.ref 96]) (w3 := w5) rfl rfl ?_
        refine sx_RP.callp (as2 := [.ref 96]) (rest2 := []) rfl rfl (sx_inv_v2 (mi := 102) (k := 29) (st := [.ref 96]) (w := w5) rfl rfl hI6.1.o96 rfl rfl rfl) rfl rfl rfl (X94 hI6 hC7 hT8.2.2.1 (beT_le hp)) (show _ = 80 from rfl) ?_
        rintro r4 w14 ⟨⟨rfl, hT11, h112⟩, hI15, hs13⟩
        show sx_RP _ _ _ _ _ [] _ _
        have hT20 : TK' n X (nP n X p) w14 := hT11
        have hC16 := hC7.same h112 (ia_of (hs13 97 (by decide)))
        have hp17 : nP n X p ≤ n := nP_le hp
        have hB18 := (campB_96 hI6 hs13).trans hB9
        have hO19 := hO10.tr hs13.offT
        refine sx_RP.step (pc2 := 83) (ls2 := [(4, .int ((nI i) + 1)), (3, .int (nI (vaT n X (p)))), (0, .ref 96), (1, .int (nI u)), (2, .ref 29)]) (st2 := []) (w3 := w14) rfl rfl ?_
        rw [nI_1 i]
        refine sx_RP.step (pc2 := 35) (ls2 := [(4, .int (nI (i + 1))), (3, .int (nI (vaT n X (p)))), (0, .ref 96), (1, .int (nI u)), (2, .ref 29)]) (st2 := []) (w3 := w14) rfl rfl ?_
        rw [show grL n X b (fz + 1) l p = grL n X b fz (vaT n X p) (nP n X p) by conv => lhs; unfold grL; rw [if_pos (by omega), if_pos c2]]
        exact sx_RP.ls (sx_lr.cons rfl (sx_lr.cons rfl (sx_lr.cons rfl (sx_lr.cons rfl (sx_lr.cons rfl sx_lr.nil))))) (X102L hu fz (i + 1) (vaT n X p) (nP n X p) w14 (by omega) (by omega) hI15 hC16 hT20 hp17 hB18 hO19)
      · refine sx_RP.cu (as := [.ref 96, .int (nI (l + 1)), .int 47]) (rest2 := []) (st3 := [.int 0]) rfl rfl (sx_inv_v2 (mi := 102) (k := 66) (st := [.int 47, .int (nI (l + 1)), .ref 96]) (w := w) rfl rfl hI.1.o96 rfl rfl rfl) rfl rfl (x103f (lo := (l + 1)) (hi := 47) hI hC hT (by omega) (by omega) c2) rfl ?_
        refine sx_RP.step (pc2 := 62) (ls2 := [(0, .ref 96), (1, .int (nI u)), (2, .ref 29), (3, .int (nI l)), (4, .int (nI i))]) (st2 := []) (w3 := w) rfl rfl ?_
        refine sx_RP.step (pc2 := 63) (ls2 := [(0, .ref 96), (1, .int (nI u)), (2, .ref 29), (3, .int (nI l)), (4, .int (nI i))]) (st2 := [.int 0]) (w3 := w) rfl rfl ?_
        refine sx_RP.ret (r := (some (.int 0))) rfl rfl ?_
        rw [show grL n X b (fz + 1) l p = (false, p, b) by unfold grL; rw [if_pos (by omega), if_neg (by rw [c2]; decide)]]
        exact ⟨⟨rfl, hT, fun z => absurd (show false = true from z) (by decide)⟩, hI, hC, hO⟩
set_option maxRecDepth 20000 in
set_option maxHeartbeats 4000000 in
theorem X102 {xs : Option (List Int32)} {d u p n : Nat} {X : Nat → Nat} {b : BB} {w : List sx_C} (hu : u ≤ 4) (hI : WI w) (hC : CT n X w) (hT : TK' n X p w) (hp : p ≤ n) (hB : campB w 29 = b) : sx_RP xs (d + 3) 102 0 (lv_args 0 [.ref 96, .int (nI u), .ref 29]) [] w (fun r2 w2 => (r2 = some (.int (b01 (groT n X p b).1)) ∧ Rd n X (groT n X p b) w2) ∧ WI w2 ∧ CT n X w2 ∧ OffT w w2) := by
  refine sx_RP.step (pc2 := 1) (ls2 := [(0, .ref 96), (1, .int (nI u)), (2, .ref 29)]) (st2 := [.ref 96]) (w3 := w) rfl rfl ?_
  refine sx_RP.callp (as2 := [.ref 96]) (rest2 := []) rfl rfl (sx_inv_v2 (mi := 102) (k := 29) (st := [.ref 96]) (w := w) rfl rfl hI.1.o96 rfl rfl rfl) rfl rfl rfl (X94 hI hC hT.2.2.1 (beT_le hp)) (show _ = 4 from rfl) ?_
  rintro r4 w4 ⟨⟨rfl, hT1, h12⟩, hI5, hs3⟩
  show sx_RP _ _ _ _ _ [] _ _
  have hT10 : TK' n X (nP n X p) w4 := hT1
  have hC6 := hC.same h12 (ia_of (hs3 97 (by decide)))
  have hp7 : nP n X p ≤ n := nP_le hp
  have hB8 := (campB_96 hI hs3).trans hB
  have hO9 := OffT.rf.tr hs3.offT
  refine sx_RP.step (pc2 := 5) (ls2 := [(0, .ref 96), (1, .int (nI u)), (2, .ref 29)]) (st2 := [.ref 96]) (w3 := w4) rfl rfl ?_
  refine sx_RP.step (pc2 := 6) (ls2 := [(0, .ref 96), (1, .int (nI u)), (2, .ref 29)]) (st2 := [.int 0, .ref 96]) (w3 := w4) rfl rfl ?_
  refine sx_RP.step (pc2 := 8) (ls2 := [(0, .ref 96), (1, .int (nI u)), (2, .ref 29)]) (st2 := [.int 47, .int 0, .ref 96]) (w3 := w4) rfl rfl ?_
  rcases Bool.eq_false_or_eq_true (nmT n X (nP n X p) 0 47) with c11 | c11
  · refine sx_RP.cu (as := [.ref 96, .int 0, .int 47]) (rest2 := []) (st3 := [.int 1]) rfl rfl (sx_inv_v2 (mi := 102) (k := 66) (st := [.int 47, .int 0, .ref 96]) (w := w4) rfl rfl hI5.1.o96 rfl rfl rfl) rfl rfl (x103t (lo := 0) (hi := 47) hI5 hC6 hT10 (by omega) (by omega) c11) rfl ?_
    refine sx_RP.step (pc2 := 16) (ls2 := [(0, .ref 96), (1, .int (nI u)), (2, .ref 29)]) (st2 := []) (w3 := w4) rfl rfl ?_
    refine sx_RP.step (pc2 := 17) (ls2 := [(0, .ref 96), (1, .int (nI u)), (2, .ref 29)]) (st2 := [.ref 96]) (w3 := w4) rfl rfl ?_
    refine sx_RP.gt (k := 5) hI5 rfl rfl (by decide) (show _ = 20 from rfl) ?_
    rw [hT10.2.2.2]
    refine sx_RP.step (pc2 := 21) (ls2 := [(3, .int (nI (vaT n X (nP n X p)))), (0, .ref 96), (1, .int (nI u)), (2, .ref 29)]) (st2 := []) (w3 := w4) rfl rfl ?_
    refine sx_RP.step (pc2 := 22) (ls2 := [(3, .int (nI (vaT n X (nP n X p)))), (0, .ref 96), (1, .int (nI u)), (2, .ref 29)]) (st2 := [.ref 29]) (w3 := w4) rfl rfl ?_
    refine sx_RP.step (pc2 := 23) (ls2 := [(3, .int (nI (vaT n X (nP n X p)))), (0, .ref 96), (1, .int (nI u)), (2, .ref 29)]) (st2 := [.int (nI u), .ref 29]) (w3 := w4) rfl rfl ?_
    refine sx_RP.step (pc2 := 24) (ls2 := [(3, .int (nI (vaT n X (nP n X p)))), (0, .ref 96), (1, .int (nI u)), (2, .ref 29)]) (st2 := [.int (nI (vaT n X (nP n X p))), .int (nI u), .ref 29]) (w3 := w4) rfl rfl ?_
    refine sx_RP.step (pc2 := 25) (ls2 := [(3, .int (nI (vaT n X (nP n X p)))), (0, .ref 96), (1, .int (nI u)), (2, .ref 29)]) (st2 := [.int (nI (vaT n X (nP n X p))), .int (nI (vaT n X (nP n X p))), .int (nI u), .ref 29]) (w3 := w4) rfl rfl ?_
    have hv13 := nmT_in c11
    refine sx_RP.callp (as2 := [.ref 29, .int (nI u), .int (nI (vaT n X (nP n X p))), .int (nI (vaT n X (nP n X p)))]) (rest2 := []) rfl rfl (sx_inv_v2 (mi := 102) (k := 70) (st := [.int (nI (vaT n X (nP n X p))), .int (nI (vaT n X (nP n X p))), .int (nI u), .ref 29]) (w := w4) rfl rfl (hI5.1.oC (Or.inr (Or.inr rfl))) rfl rfl rfl) rfl rfl rfl (X104 hI5 isA29 (u := u) (f := (vaT n X (nP n X p))) (t := (vaT n X (nP n X p))) (by omega) (by omega) (by omega)) (show _ = 28 from rfl) ?_
    rintro r4 w14 ⟨rfl, hI15, he12⟩
    show sx_RP _ _ _ _ _ [] _ _
    have hC16 := hC6.out he12.1
    have hT17 := hT10.out he12.1
    have hB18 := he12.2.trans hB8
    have hO19 := hO9.tr he12.1.offT
    refine sx_RP.step (pc2 := 29) (ls2 := [(3, .int (nI (vaT n X (nP n X p)))), (0, .ref 96), (1, .int (nI u)), (2, .ref 29)]) (st2 := [.ref 96]) (w3 := w14) rfl rfl ?_
    refine sx_RP.callp (as2 := [.ref 96]) (rest2 := []) rfl rfl (sx_inv_v2 (mi := 102) (k := 29) (st := [.ref 96]) (w := w14) rfl rfl hI15.1.o96 rfl rfl rfl) rfl rfl rfl (X94 hI15 hC16 hT17.2.2.1 (beT_le hp7)) (show _ = 32 from rfl) ?_
    rintro r4 w23 ⟨⟨rfl, hT20, h121⟩, hI24, hs22⟩
    show sx_RP _ _ _ _ _ [] _ _
    have hT29 : TK' n X (nP n X (nP n X p)) w23 := hT20
    have hC25 := hC16.same h121 (ia_of (hs22 97 (by decide)))
    have hp26 : nP n X (nP n X p) ≤ n := nP_le hp7
    have hB27 := (campB_96 hI15 hs22).trans hB18
    have hO28 := hO19.tr hs22.offT
    refine sx_RP.step (pc2 := 33) (ls2 := [(3, .int (nI (vaT n X (nP n X p)))), (0, .ref 96), (1, .int (nI u)), (2, .ref 29)]) (st2 := [.int 0]) (w3 := w23) rfl rfl ?_
    refine sx_RP.step (pc2 := 35) (ls2 := [(4, .int 0), (3, .int (nI (vaT n X (nP n X p)))), (0, .ref 96), (1, .int (nI u)), (2, .ref 29)]) (st2 := []) (w3 := w23) rfl rfl ?_
    rw [show groT n X p b = grL n X b 48 (vaT n X (nP n X p)) (nP n X (nP n X p)) by unfold groT; rw [if_pos c11]]
    exact sx_RP.ls (sx_lr.cons rfl (sx_lr.cons rfl (sx_lr.cons rfl (sx_lr.cons rfl (sx_lr.cons rfl sx_lr.nil))))) (X102L hu 48 0 (vaT n X (nP n X p)) (nP n X (nP n X p)) w23 (by omega) (by omega) hI24 hC25 hT29 hp26 hB27 hO28)
  · refine sx_RP.cu (as := [.ref 96, .int 0, .int 47]) (rest2 := []) (st3 := [.int 0]) rfl rfl (sx_inv_v2 (mi := 102) (k := 66) (st := [.int 47, .int 0, .ref 96]) (w := w4) rfl rfl hI5.1.o96 rfl rfl rfl) rfl rfl (x103f (lo := 0) (hi := 47) hI5 hC6 hT10 (by omega) (by omega) c11) rfl ?_
    refine sx_RP.step (pc2 := 14) (ls2 := [(0, .ref 96), (1, .int (nI u)), (2, .ref 29)]) (st2 := []) (w3 := w4) rfl rfl ?_
    refine sx_RP.step (pc2 := 15) (ls2 := [(0, .ref 96), (1, .int (nI u)), (2, .ref 29)]) (st2 := [.int 0]) (w3 := w4) rfl rfl ?_
    refine sx_RP.ret (r := (some (.int 0))) rfl rfl ?_
    rw [show groT n X p b = (false, nP n X p, b) by unfold groT; rw [if_neg (by rw [c11]; decide)]]
    exact ⟨⟨rfl, hT10, fun z => absurd (show false = true from z) (by decide)⟩, hI5, hC6, hO9⟩
end
-- 89k.siege.lean.txt
section
theorem b01_r98 (b : Bool) : sx_ret 98 .ireturn [.int (b01 b)] = some (some (.int (b01 b))) := by cases b <;> rfl
theorem gw_rng (n : Nat) (X : Nat → Nat) (p : Nat) : gwT n X p = -1 ∨ ∃ u, u ≤ 4 ∧ gwT n X p = nI u := by
  unfold gwT
  repeat' split
  all_goals first | exact Or.inl rfl | exact Or.inr ⟨0, by decide, rfl⟩ | exact Or.inr ⟨1, by decide, rfl⟩ | exact Or.inr ⟨2, by decide, rfl⟩ | exact Or.inr ⟨3, by decide, rfl⟩ | exact Or.inr ⟨4, by decide, rfl⟩
theorem kw_rng (n : Nat) (X : Nat → Nat) (p : Nat) : kwT n X p = -1 ∨ ∃ u, u ≤ 5 ∧ kwT n X p = nI u := by
  unfold kwT
  repeat' split
  all_goals first | exact Or.inl rfl | exact Or.inr ⟨0, by decide, rfl⟩ | exact Or.inr ⟨1, by decide, rfl⟩ | exact Or.inr ⟨2, by decide, rfl⟩ | exact Or.inr ⟨3, by decide, rfl⟩ | exact Or.inr ⟨4, by decide, rfl⟩ | exact Or.inr ⟨5, by decide, rfl⟩
def itT (n : Nat) (X : Nat → Nat) (p : Nat) (b : BB) : Bool × Nat × BB := if gwT n X p = -1 then (if kwT n X p = -1 then (if wdT n X p 104 = true then disT n X p b else (if wdT n X p 101 = true then breT n X p b else (false, p, b))) else galT n X (iN (kwT n X p)) p b) else groT n X p b
theorem nI_nm1 {u : Nat} (h : u ≤ 5) : ¬ nI u = -1 := nI_ne1 (by omega)
theorem x99e {xs : Option (List Int32)} {d n p : Nat} {X : Nat → Nat} {w : List sx_C} {v : Int32} (hI : WI w) (hC : CT n X w) (hT : TK' n X p w) (hp : p ≤ n) (h : gwT n X p = v) : sx_RU xs (d + 1) 99 0 (lv_args 0 [.ref 96]) [] w (some (.int v)) w := by
  have c := x99 (xs := xs) (d := d) hI hC hT hp
  rw [h] at c
  exact c
theorem x105e {xs : Option (List Int32)} {d n p : Nat} {X : Nat → Nat} {w : List sx_C} {v : Int32} (hI : WI w) (hC : CT n X w) (hT : TK' n X p w) (hp : p ≤ n) (h : kwT n X p = v) : sx_RU xs (d + 1) 105 0 (lv_args 0 [.ref 96]) [] w (some (.int v)) w := by
  have c := x105 (xs := xs) (d := d) hI hC hT hp
  rw [h] at c
  exact c
set_option maxRecDepth 20000 in
set_option maxHeartbeats 4000000 in
theorem X98 {xs : Option (List Int32)} {d : Nat} {w : List sx_C} (hI : WI w) {n p : Nat} {X : Nat → Nat} {b : BB} (hC : CT n X w) (hT : TK' n X p w) (hp : p ≤ n) (hB : campB w 29 = b) : sx_RP xs (d + 5) 98 0 (lv_args 0 [.ref 96, .ref 29]) [] w (fun r w2 => (r = some (.int (b01 (itT n X p b).1)) ∧ Rd n X (itT n X p b) w2) ∧ WI w2 ∧ CT n X w2 ∧ OffT w w2) := by
  refine sx_RP.step (pc2 := 1) (ls2 := [(0, .ref 96), (1, .ref 29)]) (st2 := [.ref 96]) (w3 := w) rfl rfl ?_
  rcases gw_rng n X p with c1 | ⟨u2, hu3, c1⟩
  · refine sx_RP.cu (as := [.ref 96]) (rest2 := []) (st3 := [.int (-1)]) rfl rfl (sx_inv_v2 (mi := 98) (k := 36) (st := [.ref 96]) (w := w) rfl rfl hI.1.o96 rfl rfl rfl) rfl rfl (x99e hI hC hT hp c1) rfl ?_
    refine sx_RP.step (pc2 := 5) (ls2 := [(2, .int (-1)), (0, .ref 96), (1, .ref 29)]) (st2 := []) (w3 := w) rfl rfl ?_
    refine sx_RP.step (pc2 := 6) (ls2 := [(2, .int (-1)), (0, .ref 96), (1, .ref 29)]) (st2 := [.int (-1)]) (w3 := w) rfl rfl ?_
    refine sx_RP.step (pc2 := 7) (ls2 := [(2, .int (-1)), (0, .ref 96), (1, .ref 29)]) (st2 := [.int (-1), .int (-1)]) (w3 := w) rfl rfl ?_
    refine sx_RP.step (pc2 := 17) (ls2 := [(2, .int (-1)), (0, .ref 96), (1, .ref 29)]) (st2 := []) (w3 := w) rfl rfl ?_
    refine sx_RP.step (pc2 := 18) (ls2 := [(2, .int (-1)), (0, .ref 96), (1, .ref 29)]) (st2 := [.ref 96]) (w3 := w) rfl rfl ?_
    rcases kw_rng n X p with c4 | ⟨u5, hu6, c4⟩
    · refine sx_RP.cu (as := [.ref 96]) (rest2 := []) (st3 := [.int (-1)]) rfl rfl (sx_inv_v2 (mi := 98) (k := 44) (st := [.ref 96]) (w := w) rfl rfl hI.1.o96 rfl rfl rfl) rfl rfl (x105e hI hC hT hp c4) rfl ?_
      refine sx_RP.step (pc2 := 22) (ls2 := [(3, .int (-1)), (2, .int (-1)), (0, .ref 96), (1, .ref 29)]) (st2 := []) (w3 := w) rfl rfl ?_
      refine sx_RP.step (pc2 := 23) (ls2 := [(3, .int (-1)), (2, .int (-1)), (0, .ref 96), (1, .ref 29)]) (st2 := [.int (-1)]) (w3 := w) rfl rfl ?_
      refine sx_RP.step (pc2 := 24) (ls2 := [(3, .int (-1)), (2, .int (-1)), (0, .ref 96), (1, .ref 29)]) (st2 := [.int (-1), .int (-1)]) (w3 := w) rfl rfl ?_
      refine sx_RP.step (pc2 := 34) (ls2 := [(3, .int (-1)), (2, .int (-1)), (0, .ref 96), (1, .ref 29)]) (st2 := []) (w3 := w) rfl rfl ?_
      refine sx_RP.step (pc2 := 35) (ls2 := [(3, .int (-1)), (2, .int (-1)), (0, .ref 96), (1, .ref 29)]) (st2 := [.ref 96]) (w3 := w) rfl rfl ?_
      refine sx_RP.step (pc2 := 37) (ls2 := [(3, .int (-1)), (2, .int (-1)), (0, .ref 96), (1, .ref 29)]) (st2 := [.float 104, .ref 96]) (w3 := w) rfl rfl ?_
      rcases Bool.eq_false_or_eq_true (wdT n X p (104 : UInt32)) with c7 | c7
      · refine sx_RP.cu (as := [.ref 96, .float 104]) (rest2 := []) (st3 := [.int 1]) rfl rfl (sx_inv_v2 (mi := 98) (k := 52) (st := [.float 104, .ref 96]) (w := w) rfl rfl hI.1.o96 rfl rfl rfl) rfl rfl (x101t (k := (104 : UInt32)) (m := 4) hI hC hT hp (by decide) rfl (by decide) c7) rfl ?_
        refine sx_RP.step (pc2 := 43) (ls2 := [(3, .int (-1)), (2, .int (-1)), (0, .ref 96), (1, .ref 29)]) (st2 := []) (w3 := w) rfl rfl ?_
        refine sx_RP.step (pc2 := 44) (ls2 := [(3, .int (-1)), (2, .int (-1)), (0, .ref 96), (1, .ref 29)]) (st2 := [.ref 96]) (w3 := w) rfl rfl ?_
        refine sx_RP.step (pc2 := 45) (ls2 := [(3, .int (-1)), (2, .int (-1)), (0, .ref 96), (1, .ref 29)]) (st2 := [.ref 29, .ref 96]) (w3 := w) rfl rfl ?_
        refine sx_RP.callp (as2 := [.ref 96, .ref 29]) (rest2 := []) rfl rfl (sx_inv_v2 (mi := 98) (k := 56) (st := [.ref 29, .ref 96]) (w := w) rfl rfl hI.1.o96 rfl rfl rfl) rfl rfl rfl (X109 hI hC hT hp hB) (show _ = 48 from rfl) ?_
        rintro r4 w11 ⟨⟨rfl, hr8⟩, hI12, hC9, hO10⟩
        show sx_RP _ _ _ _ _ [.int (b01 (disT n X p b).1)] _ _
        refine sx_RP.ret (r := (some (.int (b01 (disT n X p b).1)))) rfl (b01_r98 _) ?_
        rw [show itT n X p b = disT n X p b by unfold itT; rw [if_pos c1, if_pos c4, if_pos c7]]
        exact ⟨⟨rfl, hr8⟩, hI12, hC9, hO10⟩
      · refine sx_RP.cu (as := [.ref 96, .float 104]) (rest2 := []) (st3 := [.int 0]) rfl rfl (sx_inv_v2 (mi := 98) (k := 52) (st := [.float 104, .ref 96]) (w := w) rfl rfl hI.1.o96 rfl rfl rfl) rfl rfl (x101f (k := (104 : UInt32)) (m := 4) hI hC hT hp (by decide) rfl (by decide) c7) rfl ?_
        refine sx_RP.step (pc2 := 49) (ls2 := [(3, .int (-1)), (2, .int (-1)), (0, .ref 96), (1, .ref 29)]) (st2 := []) (w3 := w) rfl rfl ?_
        refine sx_RP.step (pc2 := 50) (ls2 := [(3, .int (-1)), (2, .int (-1)), (0, .ref 96), (1, .ref 29)]) (st2 := [.ref 96]) (w3 := w) rfl rfl ?_
        refine sx_RP.step (pc2 := 52) (ls2 := [(3, .int (-1)), (2, .int (-1)), (0, .ref 96), (1, .ref 29)]) (st2 := [.float 101, .ref 96]) (w3 := w) rfl rfl ?_
        rcases Bool.eq_false_or_eq_true (wdT n X p (101 : UInt32)) with c13 | c13
        · refine sx_RP.cu (as := [.ref 96, .float 101]) (rest2 := []) (st3 := [.int 1]) rfl rfl (sx_inv_v2 (mi := 98) (k := 52) (st := [.float 101, .ref 96]) (w := w) rfl rfl hI.1.o96 rfl rfl rfl) rfl rfl (x101t (k := (101 : UInt32)) (m := 5) hI hC hT hp (by decide) rfl (by decide) c13) rfl ?_
          refine sx_RP.step (pc2 := 58) (ls2 := [(3, .int (-1)), (2, .int (-1)), (0, .ref 96), (1, .ref 29)]) (st2 := []) (w3 := w) rfl rfl ?_
          refine sx_RP.step (pc2 := 59) (ls2 := [(3, .int (-1)), (2, .int (-1)), (0, .ref 96), (1, .ref 29)]) (st2 := [.ref 96]) (w3 := w) rfl rfl ?_
          refine sx_RP.step (pc2 := 60) (ls2 := [(3, .int (-1)), (2, .int (-1)), (0, .ref 96), (1, .ref 29)]) (st2 := [.ref 29, .ref 96]) (w3 := w) rfl rfl ?_
          refine sx_RP.callp (as2 := [.ref 96, .ref 29]) (rest2 := []) rfl rfl (sx_inv_v2 (mi := 98) (k := 61) (st := [.ref 29, .ref 96]) (w := w) rfl rfl hI.1.o96 rfl rfl rfl) rfl rfl rfl (X110 hI hC hT hp hB) (show _ = 63 from rfl) ?_
          rintro r4 w17 ⟨⟨rfl, hr14⟩, hI18, hC15, hO16⟩
          show sx_RP _ _ _ _ _ [.int (b01 (breT n X p b).1)] _ _
          refine sx_RP.br (p1 := 70) (l1 := [(3, .int (-1)), (2, .int (-1)), (0, .ref 96), (1, .ref 29)]) (s1 := []) (v1 := w17) (p2 := 66) (l2 := [(3, .int (-1)), (2, .int (-1)), (0, .ref 96), (1, .ref 29)]) (s2 := []) (v2 := w17) rfl rfl (fun q19 => ?_) (fun q19 => ?_)
          · replace q19 := of_decide_eq_true q19
            refine sx_RP.step (pc2 := 71) (ls2 := [(3, .int (-1)), (2, .int (-1)), (0, .ref 96), (1, .ref 29)]) (st2 := [.int 0]) (w3 := w17) rfl rfl ?_
            refine sx_RP.ret (r := (some (.int 0))) rfl rfl ?_
            rw [show itT n X p b = breT n X p b by unfold itT; rw [if_pos c1, if_pos c4, if_neg (by rw [c7]; decide), if_pos c13]]
            exact ⟨⟨by rw [b01_f q19]; rfl, hr14⟩, hI18, hC15, hO16⟩
          · replace q19 := of_decide_eq_false q19
            refine sx_RP.step (pc2 := 67) (ls2 := [(3, .int (-1)), (2, .int (-1)), (0, .ref 96), (1, .ref 29)]) (st2 := [.int 1]) (w3 := w17) rfl rfl ?_
            refine sx_RP.step (pc2 := 71) (ls2 := [(3, .int (-1)), (2, .int (-1)), (0, .ref 96), (1, .ref 29)]) (st2 := [.int 1]) (w3 := w17) rfl rfl ?_
            refine sx_RP.ret (r := (some (.int 1))) rfl rfl ?_
            rw [show itT n X p b = breT n X p b by unfold itT; rw [if_pos c1, if_pos c4, if_neg (by rw [c7]; decide), if_pos c13]]
            exact ⟨⟨by rw [b01_t q19]; rfl, hr14⟩, hI18, hC15, hO16⟩
        · refine sx_RP.cu (as := [.ref 96, .float 101]) (rest2 := []) (st3 := [.int 0]) rfl rfl (sx_inv_v2 (mi := 98) (k := 52) (st := [.float 101, .ref 96]) (w := w) rfl rfl hI.1.o96 rfl rfl rfl) rfl rfl (x101f (k := (101 : UInt32)) (m := 5) hI hC hT hp (by decide) rfl (by decide) c13) rfl ?_
          refine sx_RP.step (pc2 := 70) (ls2 := [(3, .int (-1)), (2, .int (-1)), (0, .ref 96), (1, .ref 29)]) (st2 := []) (w3 := w) rfl rfl ?_
          refine sx_RP.step (pc2 := 71) (ls2 := [(3, .int (-1)), (2, .int (-1)), (0, .ref 96), (1, .ref 29)]) (st2 := [.int 0]) (w3 := w) rfl rfl ?_
          refine sx_RP.ret (r := (some (.int 0))) rfl rfl ?_
          rw [show itT n X p b = (false, p, b) by unfold itT; rw [if_pos c1, if_pos c4, if_neg (by rw [c7]; decide), if_neg (by rw [c13]; decide)]]
          exact ⟨⟨rfl, hT, fun z => absurd (show false = true from z) (by decide)⟩, hI, hC, OffT.rf⟩
    · refine sx_RP.cu (as := [.ref 96]) (rest2 := []) (st3 := [.int (nI u5)]) rfl rfl (sx_inv_v2 (mi := 98) (k := 44) (st := [.ref 96]) (w := w) rfl rfl hI.1.o96 rfl rfl rfl) rfl rfl (x105e hI hC hT hp c4) rfl ?_
      refine sx_RP.step (pc2 := 22) (ls2 := [(3, .int (nI u5)), (2, .int (-1)), (0, .ref 96), (1, .ref 29)]) (st2 := []) (w3 := w) rfl rfl ?_
      refine sx_RP.step (pc2 := 23) (ls2 := [(3, .int (nI u5)), (2, .int (-1)), (0, .ref 96), (1, .ref 29)]) (st2 := [.int (nI u5)]) (w3 := w) rfl rfl ?_
      refine sx_RP.step (pc2 := 24) (ls2 := [(3, .int (nI u5)), (2, .int (-1)), (0, .ref 96), (1, .ref 29)]) (st2 := [.int (-1), .int (nI u5)]) (w3 := w) rfl rfl ?_
      refine sx_RP.br (p2 := 27) (l2 := [(3, .int (nI u5)), (2, .int (-1)), (0, .ref 96), (1, .ref 29)]) (s2 := []) (v2 := w) rfl rfl (fun q => absurd (of_decide_eq_true q) (nI_ne1 (by omega))) (fun _ => ?_)
      refine sx_RP.step (pc2 := 28) (ls2 := [(3, .int (nI u5)), (2, .int (-1)), (0, .ref 96), (1, .ref 29)]) (st2 := [.ref 96]) (w3 := w) rfl rfl ?_
      refine sx_RP.step (pc2 := 29) (ls2 := [(3, .int (nI u5)), (2, .int (-1)), (0, .ref 96), (1, .ref 29)]) (st2 := [.int (nI u5), .ref 96]) (w3 := w) rfl rfl ?_
      refine sx_RP.step (pc2 := 30) (ls2 := [(3, .int (nI u5)), (2, .int (-1)), (0, .ref 96), (1, .ref 29)]) (st2 := [.ref 29, .int (nI u5), .ref 96]) (w3 := w) rfl rfl ?_
      refine sx_RP.callp (as2 := [.ref 96, .int (nI u5), .ref 29]) (rest2 := []) rfl rfl (sx_inv_v2 (mi := 98) (k := 47) (st := [.ref 29, .int (nI u5), .ref 96]) (w := w) rfl rfl hI.1.o96 rfl rfl rfl) rfl rfl rfl (X107 (k := u5) hI (by omega) hC hT hp hB) (show _ = 33 from rfl) ?_
      rintro r4 w23 ⟨⟨rfl, hr20⟩, hI24, hC21, hO22⟩
      show sx_RP _ _ _ _ _ [.int (b01 (galT n X u5 p b).1)] _ _
      refine sx_RP.ret (r := (some (.int (b01 (galT n X u5 p b).1)))) rfl (b01_r98 _) ?_
      rw [show itT n X p b = galT n X u5 p b by unfold itT; rw [if_pos c1, if_neg (by rw [c4]; exact nI_nm1 (by omega)), c4, iN_n (by omega)]]
      exact ⟨⟨rfl, hr20⟩, hI24, hC21, hO22⟩
  · refine sx_RP.cu (as := [.ref 96]) (rest2 := []) (st3 := [.int (nI u2)]) rfl rfl (sx_inv_v2 (mi := 98) (k := 36) (st := [.ref 96]) (w := w) rfl rfl hI.1.o96 rfl rfl rfl) rfl rfl (x99e hI hC hT hp c1) rfl ?_
    refine sx_RP.step (pc2 := 5) (ls2 := [(2, .int (nI u2)), (0, .ref 96), (1, .ref 29)]) (st2 := []) (w3 := w) rfl rfl ?_
    refine sx_RP.step (pc2 := 6) (ls2 := [(2, .int (nI u2)), (0, .ref 96), (1, .ref 29)]) (st2 := [.int (nI u2)]) (w3 := w) rfl rfl ?_
    refine sx_RP.step (pc2 := 7) (ls2 := [(2, .int (nI u2)), (0, .ref 96), (1, .ref 29)]) (st2 := [.int (-1), .int (nI u2)]) (w3 := w) rfl rfl ?_
    refine sx_RP.br (p2 := 10) (l2 := [(2, .int (nI u2)), (0, .ref 96), (1, .ref 29)]) (s2 := []) (v2 := w) rfl rfl (fun q => absurd (of_decide_eq_true q) (nI_ne1 (by omega))) (fun _ => ?_)
    refine sx_RP.step (pc2 := 11) (ls2 := [(2, .int (nI u2)), (0, .ref 96), (1, .ref 29)]) (st2 := [.ref 96]) (w3 := w) rfl rfl ?_
    refine sx_RP.step (pc2 := 12) (ls2 := [(2, .int (nI u2)), (0, .ref 96), (1, .ref 29)]) (st2 := [.int (nI u2), .ref 96]) (w3 := w) rfl rfl ?_
    refine sx_RP.step (pc2 := 13) (ls2 := [(2, .int (nI u2)), (0, .ref 96), (1, .ref 29)]) (st2 := [.ref 29, .int (nI u2), .ref 96]) (w3 := w) rfl rfl ?_
    refine sx_RP.callp (as2 := [.ref 96, .int (nI u2), .ref 29]) (rest2 := []) rfl rfl (sx_inv_v2 (mi := 98) (k := 40) (st := [.ref 29, .int (nI u2), .ref 96]) (w := w) rfl rfl hI.1.o96 rfl rfl rfl) rfl rfl rfl (X102 (u := u2) (by omega) hI hC hT hp hB) (show _ = 16 from rfl) ?_
    rintro r4 w28 ⟨⟨rfl, hr25⟩, hI29, hC26, hO27⟩
    show sx_RP _ _ _ _ _ [.int (b01 (groT n X p b).1)] _ _
    refine sx_RP.ret (r := (some (.int (b01 (groT n X p b).1)))) rfl (b01_r98 _) ?_
    rw [show itT n X p b = groT n X p b by unfold itT; rw [if_neg (by rw [c1]; exact nI_nm1 (by omega))]]
    exact ⟨⟨rfl, hr25⟩, hI29, hC26, hO27⟩
theorem disT_le {n p : Nat} {X : Nat → Nat} {b : BB} (h : p ≤ n) : (disT n X p b).2.1 ≤ n := by
  unfold disT
  repeat' split
  all_goals first | exact nP_le (nP_le h) | exact nP_le h | exact h
theorem galT_le {n k p : Nat} {X : Nat → Nat} {b : BB} (h : p ≤ n) : (galT n X k p b).2.1 ≤ n := by
  unfold galT
  repeat' split
  all_goals first | exact h | exact nP_le h | exact wtT_le (nP_le (nP_le h)) | exact wtT_le (nP_le (wtT_le (nP_le (nP_le h)))) | exact nP_le (wtT_le (nP_le (wtT_le (nP_le (nP_le h)))))
theorem br2_le {n p : Nat} {X : Nat → Nat} {b : BB} (h : p ≤ n) : (br2 n X p b).2.1 ≤ n := by
  unfold br2
  repeat' split
  all_goals first | exact h | exact nP_le (wtT_le h) | exact wtT_le h
theorem br1_le {n p : Nat} {X : Nat → Nat} {b : BB} (h : p ≤ n) : (br1 n X p b).2.1 ≤ n := by
  unfold br1
  repeat' split
  all_goals first | exact br2_le h | exact br2_le (nP_le (wtT_le h)) | exact wtT_le h
theorem breT_le {n p : Nat} {X : Nat → Nat} {b : BB} (h : p ≤ n) : (breT n X p b).2.1 ≤ n := by
  unfold breT
  split
  · exact br1_le (nP_le (nP_le h))
  · exact nP_le h
theorem grT_le {n l p : Nat} {X : Nat → Nat} {b : BB} (h : p ≤ n) : (grT n X b l p).2.1 ≤ n := by
  unfold grT
  repeat' split
  all_goals first | exact h | exact nP_le (nP_le h) | exact nP_le h
theorem grL_le {n : Nat} {X : Nat → Nat} {b : BB} : ∀ f l p, p ≤ n → (grL n X b f l p).2.1 ≤ n
  | 0, l, p, h => grT_le h
  | f + 1, l, p, h => by
    unfold grL
    split
    · split
      · exact grL_le f _ _ (nP_le h)
      · exact h
    · exact grT_le h
theorem groT_le {n p : Nat} {X : Nat → Nat} {b : BB} (h : p ≤ n) : (groT n X p b).2.1 ≤ n := by
  unfold groT
  split
  · exact grL_le _ _ _ (nP_le (nP_le h))
  · exact nP_le h
theorem itT_le {n p : Nat} {X : Nat → Nat} {b : BB} (h : p ≤ n) : (itT n X p b).2.1 ≤ n := by
  unfold itT
  repeat' split
  all_goals first | exact disT_le h | exact breT_le h | exact galT_le h | exact groT_le h | exact h
end
-- 89l.siege.lean.txt
section
def teL (n : Nat) (X : Nat → Nat) : Nat → Nat → Nat → BB → Int32 × BB
  | 0, _, p, b => (-1 - nI p, b)
  | f + 1, it, p, b => if (itT n X p b).1 = true then (if soT n X (itT n X p b).2.1 = 0 then (nI (it + 1), (itT n X p b).2.2) else (if soT n X (itT n X p b).2.1 = 3 then teL n X f (it + 1) (nP n X (itT n X p b).2.1) (itT n X p b).2.2 else (-1 - nI (itT n X p b).2.1, b))) else (-1 - nI (itT n X p b).2.1, b)
theorem neg_p {p : Nat} (h : p ≤ 120) : ¬ (0 : Int32) ≤ -1 - nI p := by
  intro z
  rw [Int32.le_iff_toInt_le, Int32.toInt_sub, nI_toInt (by omega), show (0 : Int32).toInt = 0 by decide, show (-1 : Int32).toInt = -1 by decide, Int.bmod_def] at z
  split at z <;> omega
set_option maxRecDepth 20000 in
set_option maxHeartbeats 4000000 in
theorem X93L {xs : Option (List Int32)} {d : Nat} {n : Nat} {X : Nat → Nat} {w0 : List sx_C} : ∀ (fz i it p : Nat) (b : BB) (w : List sx_C), i + fz = 121 → WI w → CT n X w → TK' n X p w → p ≤ n → campB w 29 = b → OffT w0 w → sx_RP xs (d + 6) 93 13 [(0, .ref 96), (1, .ref 29), (2, .int (nI it)), (3, .int (nI i))] [] w (fun r2 w2 => (r2 = some (.int (teL n X fz it p b).1) ∧ (0 ≤ (teL n X fz it p b).1 → campB w2 29 = (teL n X fz it p b).2)) ∧ WI w2 ∧ CT n X w2 ∧ OffT w0 w2)
  | 0, i, it, p, b, w, hi, hI, hC, hT, hp, hB, hO => by
    obtain rfl : i = 121 := by omega
    have hn := hC.2.1
    refine sx_RP.step (pc2 := 14) (ls2 := [(0, .ref 96), (1, .ref 29), (2, .int (nI it)), (3, .int 121)]) (st2 := [.int 121]) (w3 := w) rfl rfl ?_
    refine sx_RP.step (pc2 := 16) (ls2 := [(0, .ref 96), (1, .ref 29), (2, .int (nI it)), (3, .int 121)]) (st2 := [.int 120, .int 121]) (w3 := w) rfl rfl ?_
    refine sx_RP.step (pc2 := 63) (ls2 := [(0, .ref 96), (1, .ref 29), (2, .int (nI it)), (3, .int 121)]) (st2 := []) (w3 := w) rfl rfl ?_
    refine sx_RP.step (pc2 := 64) (ls2 := [(0, .ref 96), (1, .ref 29), (2, .int (nI it)), (3, .int 121)]) (st2 := [.int (-1)]) (w3 := w) rfl rfl ?_
    refine sx_RP.step (pc2 := 65) (ls2 := [(0, .ref 96), (1, .ref 29), (2, .int (nI it)), (3, .int 121)]) (st2 := [.ref 96, .int (-1)]) (w3 := w) rfl rfl ?_
    refine sx_RP.gt (k := 3) hI rfl rfl (by decide) (show _ = 68 from rfl) ?_
    rw [hT.1]
    refine sx_RP.step (pc2 := 69) (ls2 := [(0, .ref 96), (1, .ref 29), (2, .int (nI it)), (3, .int 121)]) (st2 := [.int ((-1) - (nI p))]) (w3 := w) rfl rfl ?_
    refine sx_RP.ret (r := (some (.int ((-1) - (nI p))))) rfl rfl ?_
    exact ⟨⟨rfl, fun z => absurd z (neg_p (by omega))⟩, hI, hC, hO⟩
  | fz + 1, i, it, p, b, w, hi, hI, hC, hT, hp, hB, hO => by
    have hn := hC.2.1
    refine sx_RP.step (pc2 := 14) (ls2 := [(0, .ref 96), (1, .ref 29), (2, .int (nI it)), (3, .int (nI i))]) (st2 := [.int (nI i)]) (w3 := w) rfl rfl ?_
    refine sx_RP.step (pc2 := 16) (ls2 := [(0, .ref 96), (1, .ref 29), (2, .int (nI it)), (3, .int (nI i))]) (st2 := [.int 120, .int (nI i)]) (w3 := w) rfl rfl ?_
    refine sx_RP.br (p2 := 19) (l2 := [(0, .ref 96), (1, .ref 29), (2, .int (nI it)), (3, .int (nI i))]) (s2 := []) (v2 := w) rfl rfl (fun q => absurd (of_decide_eq_true q) (fun z => absurd ((nI_ltI (a := 120) (b := i) (by omega) (by omega)).mp z) (by omega))) (fun _ => ?_)
    refine sx_RP.step (pc2 := 20) (ls2 := [(0, .ref 96), (1, .ref 29), (2, .int (nI it)), (3, .int (nI i))]) (st2 := [.ref 96]) (w3 := w) rfl rfl ?_
    refine sx_RP.step (pc2 := 21) (ls2 := [(0, .ref 96), (1, .ref 29), (2, .int (nI it)), (3, .int (nI i))]) (st2 := [.ref 29, .ref 96]) (w3 := w) rfl rfl ?_
    refine sx_RP.callp (as2 := [.ref 96, .ref 29]) (rest2 := []) rfl rfl (sx_inv_v2 (mi := 93) (k := 32) (st := [.ref 29, .ref 96]) (w := w) rfl rfl hI.1.o96 rfl rfl rfl) rfl rfl rfl (X98 hI hC hT hp hB) (show _ = 24 from rfl) ?_
    rintro r4 w5 ⟨⟨rfl, hr1⟩, hI6, hC2, hO3⟩
    show sx_RP _ _ _ _ _ [.int (b01 (itT n X p b).1)] _ _
    have hO4 := hO.tr hO3
    have hp7 : (itT n X p b).2.1 ≤ n := itT_le hp
    have hs48 := soT_le (p := (itT n X p b).2.1) hC2
    refine sx_RP.br (p1 := 30) (l1 := [(0, .ref 96), (1, .ref 29), (2, .int (nI it)), (3, .int (nI i))]) (s1 := []) (v1 := w5) (p2 := 27) (l2 := [(0, .ref 96), (1, .ref 29), (2, .int (nI it)), (3, .int (nI i))]) (s2 := []) (v2 := w5) rfl rfl (fun q9 => ?_) (fun q9 => ?_)
    · replace q9 := of_decide_eq_true q9
      refine sx_RP.step (pc2 := 33) (ls2 := [(2, .int ((nI it) + 1)), (0, .ref 96), (1, .ref 29), (3, .int (nI i))]) (st2 := []) (w3 := w5) rfl rfl ?_
      rw [nI_1 it]
      refine sx_RP.step (pc2 := 34) (ls2 := [(2, .int (nI (it + 1))), (0, .ref 96), (1, .ref 29), (3, .int (nI i))]) (st2 := [.ref 96]) (w3 := w5) rfl rfl ?_
      refine sx_RP.gt (k := 2) hI6 rfl rfl (by decide) (show _ = 37 from rfl) ?_
      rw [hr1.1.2.1]
      refine sx_RP.br (p1 := 42) (l1 := [(2, .int (nI (it + 1))), (0, .ref 96), (1, .ref 29), (3, .int (nI i))]) (s1 := []) (v1 := w5) (p2 := 40) (l2 := [(2, .int (nI (it + 1))), (0, .ref 96), (1, .ref 29), (3, .int (nI i))]) (s2 := []) (v2 := w5) rfl rfl (fun q10 => ?_) (fun q10 => ?_)
      · replace q10 := of_decide_eq_true q10
        replace q10 := mt (nI_eq (a := (soT n X (itT n X p b).2.1)) (b := 0) (by omega) (by omega)).mpr q10
        refine sx_RP.step (pc2 := 43) (ls2 := [(2, .int (nI (it + 1))), (0, .ref 96), (1, .ref 29), (3, .int (nI i))]) (st2 := [.ref 96]) (w3 := w5) rfl rfl ?_
        refine sx_RP.gt (k := 2) hI6 rfl rfl (by decide) (show _ = 46 from rfl) ?_
        rw [hr1.1.2.1]
        refine sx_RP.step (pc2 := 47) (ls2 := [(2, .int (nI (it + 1))), (0, .ref 96), (1, .ref 29), (3, .int (nI i))]) (st2 := [.int 3, .int (nI (soT n X (itT n X p b).2.1))]) (w3 := w5) rfl rfl ?_
        refine sx_RP.br (p1 := 53) (l1 := [(2, .int (nI (it + 1))), (0, .ref 96), (1, .ref 29), (3, .int (nI i))]) (s1 := []) (v1 := w5) (p2 := 50) (l2 := [(2, .int (nI (it + 1))), (0, .ref 96), (1, .ref 29), (3, .int (nI i))]) (s2 := []) (v2 := w5) rfl rfl (fun q11 => ?_) (fun q11 => ?_)
        · replace q11 := of_decide_eq_true q11
          replace q11 := (nI_eq (a := (soT n X (itT n X p b).2.1)) (b := 3) (by omega) (by omega)).mp q11
          refine sx_RP.step (pc2 := 54) (ls2 := [(2, .int (nI (it + 1))), (0, .ref 96), (1, .ref 29), (3, .int (nI i))]) (st2 := [.ref 96]) (w3 := w5) rfl rfl ?_
          have hB12 := hr1.2 (b01_t q9)
          refine sx_RP.callp (as2 := [.ref 96]) (rest2 := []) rfl rfl (sx_inv_v2 (mi := 93) (k := 29) (st := [.ref 96]) (w := w5) rfl rfl hI6.1.o96 rfl rfl rfl) rfl rfl rfl (X94 hI6 hC2 hr1.1.2.2.1 (beT_le hp7)) (show _ = 57 from rfl) ?_
          rintro r4 w16 ⟨⟨rfl, hT13, h114⟩, hI17, hs15⟩
          show sx_RP _ _ _ _ _ [] _ _
          have hT22 : TK' n X (nP n X ((itT n X p b).2.1)) w16 := hT13
          have hC18 := hC2.same h114 (ia_of (hs15 97 (by decide)))
          have hp19 : nP n X ((itT n X p b).2.1) ≤ n := nP_le hp7
          have hB20 := (campB_96 hI6 hs15).trans hB12
          have hO21 := hO4.tr hs15.offT
          refine sx_RP.step (pc2 := 60) (ls2 := [(3, .int ((nI i) + 1)), (2, .int (nI (it + 1))), (0, .ref 96), (1, .ref 29)]) (st2 := []) (w3 := w16) rfl rfl ?_
          rw [nI_1 i]
          refine sx_RP.step (pc2 := 13) (ls2 := [(3, .int (nI (i + 1))), (2, .int (nI (it + 1))), (0, .ref 96), (1, .ref 29)]) (st2 := []) (w3 := w16) rfl rfl ?_
          rw [show teL n X (fz + 1) it p b = teL n X fz (it + 1) (nP n X (itT n X p b).2.1) (itT n X p b).2.2 by conv => lhs; unfold teL; rw [if_pos (b01_t q9), if_neg (by omega), if_pos (by omega)]]
          exact sx_RP.ls (sx_lr.cons rfl (sx_lr.cons rfl (sx_lr.cons rfl (sx_lr.cons rfl sx_lr.nil)))) (X93L fz (i + 1) (it + 1) (nP n X (itT n X p b).2.1) (itT n X p b).2.2 w16 (by omega) hI17 hC18 hT22 hp19 hB20 hO21)
        · replace q11 := of_decide_eq_false q11
          replace q11 := mt (nI_eq (a := (soT n X (itT n X p b).2.1)) (b := 3) (by omega) (by omega)).mpr q11
          refine sx_RP.step (pc2 := 63) (ls2 := [(2, .int (nI (it + 1))), (0, .ref 96), (1, .ref 29), (3, .int (nI i))]) (st2 := []) (w3 := w5) rfl rfl ?_
          refine sx_RP.step (pc2 := 64) (ls2 := [(2, .int (nI (it + 1))), (0, .ref 96), (1, .ref 29), (3, .int (nI i))]) (st2 := [.int (-1)]) (w3 := w5) rfl rfl ?_
          refine sx_RP.step (pc2 := 65) (ls2 := [(2, .int (nI (it + 1))), (0, .ref 96), (1, .ref 29), (3, .int (nI i))]) (st2 := [.ref 96, .int (-1)]) (w3 := w5) rfl rfl ?_
          refine sx_RP.gt (k := 3) hI6 rfl rfl (by decide) (show _ = 68 from rfl) ?_
          rw [hr1.1.1]
          refine sx_RP.step (pc2 := 69) (ls2 := [(2, .int (nI (it + 1))), (0, .ref 96), (1, .ref 29), (3, .int (nI i))]) (st2 := [.int ((-1) - (nI ((itT n X p b).2.1)))]) (w3 := w5) rfl rfl ?_
          refine sx_RP.ret (r := (some (.int ((-1) - (nI ((itT n X p b).2.1)))))) rfl rfl ?_
          rw [show teL n X (fz + 1) it p b = (-1 - nI (itT n X p b).2.1, b) by unfold teL; rw [if_pos (b01_t q9), if_neg (by omega), if_neg (by omega)]]
          exact ⟨⟨rfl, fun z => absurd z (neg_p (by omega))⟩, hI6, hC2, hO4⟩
      · replace q10 := Decidable.not_not.mp (of_decide_eq_false q10)
        replace q10 := (nI_eq (a := (soT n X (itT n X p b).2.1)) (b := 0) (by omega) (by omega)).mp q10
        refine sx_RP.step (pc2 := 41) (ls2 := [(2, .int (nI (it + 1))), (0, .ref 96), (1, .ref 29), (3, .int (nI i))]) (st2 := [.int (nI (it + 1))]) (w3 := w5) rfl rfl ?_
        refine sx_RP.ret (r := (some (.int (nI (it + 1))))) rfl rfl ?_
        rw [show teL n X (fz + 1) it p b = (nI (it + 1), (itT n X p b).2.2) by unfold teL; rw [if_pos (b01_t q9), if_pos (by omega)]]
        exact ⟨⟨rfl, fun _ => hr1.2 (b01_t q9)⟩, hI6, hC2, hO4⟩
    · replace q9 := Decidable.not_not.mp (of_decide_eq_false q9)
      refine sx_RP.step (pc2 := 63) (ls2 := [(0, .ref 96), (1, .ref 29), (2, .int (nI it)), (3, .int (nI i))]) (st2 := []) (w3 := w5) rfl rfl ?_
      refine sx_RP.step (pc2 := 64) (ls2 := [(0, .ref 96), (1, .ref 29), (2, .int (nI it)), (3, .int (nI i))]) (st2 := [.int (-1)]) (w3 := w5) rfl rfl ?_
      refine sx_RP.step (pc2 := 65) (ls2 := [(0, .ref 96), (1, .ref 29), (2, .int (nI it)), (3, .int (nI i))]) (st2 := [.ref 96, .int (-1)]) (w3 := w5) rfl rfl ?_
      refine sx_RP.gt (k := 3) hI6 rfl rfl (by decide) (show _ = 68 from rfl) ?_
      rw [hr1.1.1]
      refine sx_RP.step (pc2 := 69) (ls2 := [(0, .ref 96), (1, .ref 29), (2, .int (nI it)), (3, .int (nI i))]) (st2 := [.int ((-1) - (nI ((itT n X p b).2.1)))]) (w3 := w5) rfl rfl ?_
      refine sx_RP.ret (r := (some (.int ((-1) - (nI ((itT n X p b).2.1)))))) rfl rfl ?_
      rw [show teL n X (fz + 1) it p b = (-1 - nI (itT n X p b).2.1, b) by unfold teL; rw [if_neg (by rw [b01_f q9]; decide)]]
      exact ⟨⟨rfl, fun z => absurd z (neg_p (by omega))⟩, hI6, hC2, hO4⟩
set_option maxRecDepth 20000 in
set_option maxHeartbeats 4000000 in
theorem X93 {xs : Option (List Int32)} {d n : Nat} {X : Nat → Nat} {b : BB} {w : List sx_C} (hI : WI w) (hC : CT n X w) (hB : campB w 29 = b) : sx_RP xs (d + 6) 93 0 (lv_args 0 [.ref 96, .ref 29]) [] w (fun r2 w2 => (r2 = some (.int (teL n X 121 0 (rE blk n X 0) b).1) ∧ (0 ≤ (teL n X 121 0 (rE blk n X 0) b).1 → campB w2 29 = (teL n X 121 0 (rE blk n X 0) b).2)) ∧ WI w2 ∧ CT n X w2 ∧ OffT w w2) := by
  refine sx_RP.step (pc2 := 1) (ls2 := [(0, .ref 96), (1, .ref 29)]) (st2 := [.ref 96]) (w3 := w) rfl rfl ?_
  refine sx_RP.step (pc2 := 2) (ls2 := [(0, .ref 96), (1, .ref 29)]) (st2 := [.int 0, .ref 96]) (w3 := w) rfl rfl ?_
  refine sx_RP.xP (k := 4) hI rfl rfl (by decide) rfl ⟨0, by decide, rfl⟩ (show _ = 5 from rfl) (fun w1 hI2 hs3 hv4 hr5 => ?_)
  have hC6 := hC.same (hr5 1 (by decide)) (ia_of (hs3 97 (by decide)))
  have hB7 := (campB_96 hI hs3).trans hB
  refine sx_RP.step (pc2 := 6) (ls2 := [(0, .ref 96), (1, .ref 29)]) (st2 := [.ref 96]) (w3 := w1) rfl rfl ?_
  refine sx_RP.callp (as2 := [.ref 96]) (rest2 := []) rfl rfl (sx_inv_v2 (mi := 93) (k := 29) (st := [.ref 96]) (w := w1) rfl rfl hI2.1.o96 rfl rfl rfl) rfl rfl rfl (X94 (b := 0) hI2 hC6 hv4 (Nat.zero_le _)) (show _ = 9 from rfl) ?_
  rintro r4 w11 ⟨⟨rfl, hT8, h19⟩, hI12, hs10⟩
  show sx_RP _ _ _ _ _ [] _ _
  have hC13 := hC6.same h19 (ia_of (hs10 97 (by decide)))
  have hB14 := (campB_96 hI2 hs10).trans hB7
  have hO15 := OffT.tr (hs3.offT) hs10.offT
  refine sx_RP.step (pc2 := 10) (ls2 := [(0, .ref 96), (1, .ref 29)]) (st2 := [.int 0]) (w3 := w11) rfl rfl ?_
  refine sx_RP.step (pc2 := 11) (ls2 := [(2, .int 0), (0, .ref 96), (1, .ref 29)]) (st2 := []) (w3 := w11) rfl rfl ?_
  refine sx_RP.step (pc2 := 12) (ls2 := [(2, .int 0), (0, .ref 96), (1, .ref 29)]) (st2 := [.int 0]) (w3 := w11) rfl rfl ?_
  refine sx_RP.step (pc2 := 13) (ls2 := [(3, .int 0), (2, .int 0), (0, .ref 96), (1, .ref 29)]) (st2 := []) (w3 := w11) rfl rfl ?_
  exact sx_RP.ls (sx_lr.cons rfl (sx_lr.cons rfl (sx_lr.cons rfl (sx_lr.cons rfl sx_lr.nil)))) (X93L 121 0 0 (rE blk n X 0) b w11 (by omega) hI12 hC13 hT8 (rE_le (Nat.zero_le _)) hB14 hO15)
end
-- 89m.siege.lean.txt
section
def sieX (t : BT) (i : Nat) : Nat := iN (t.2.2.2.getD i 0)
def sieT (t : BT) : Int32 × BB := teL t.2.2.2.length (sieX t) 121 0 (rE blk t.2.2.2.length (sieX t) 0) t.1
def sieU (t : BT) : BT := (if 0 ≤ (sieT t).1 then (sieT t).2 else t.1, t.2.1, t.2.2.1, [])
def TBy (w : List sx_C) : Prop := ∀ i, ∃ j, j < 256 ∧ (ia w 97).getD i 0 = sgn j
theorem sgn_and : ∀ c : Fin 256, sgn c.val &&& 255 = nI c.val := by decide +kernel
theorem TBy.same {w w2 : List sx_C} (h : TBy w) (e : w2[97]? = w[97]?) : TBy w2 := by
  unfold TBy
  rw [ia_of e]
  exact h
theorem CT_of {w : List sx_C} (hI : WI w) (hY : TBy w) : CT (FCb w).2.2.2.length (sieX (FCb w)) w := by
  obtain ⟨n, hn, en⟩ := hI.t.1
  have el := tapC_len en hn
  rw [el]
  refine ⟨en, hn, fun i hi => ?_⟩
  obtain ⟨j, hj, e⟩ := hY i
  have ex : sieX (FCb w) i = j := by
    show iN ((tapC w).getD i 0) = j
    unfold tapC
    rw [map_at (by rw [en, iN_n (by omega)]; exact hi), e, sgn_and ⟨j, hj⟩, iN_n (by show j < 2 ^ 31; omega)]
  rw [ex]
  exact ⟨e, hj⟩
set_option maxRecDepth 20000 in
set_option maxHeartbeats 4000000 in
theorem B92 {xs : Option (List Int32)} {d : Nat} {w : List sx_C} (hI : WI w) (hY : TBy w) : sx_RP xs (d + 7) 92 0 (lv_args 0 [.ref 0]) [] w (fun r w2 => (r = some (.int ((sieT (FCb w)).1)) ∧ FCb w2 = sieU (FCb w)) ∧ WI w2 ∧ ∀ a, 111 ≤ a → w2[a]? = w[a]?) := by
  have hC := CT_of hI hY
  refine sx_RP.step (pc2 := 1) (ls2 := [(0, .ref 0)]) (st2 := [.ref 0]) (w3 := w) rfl rfl ?_
  refine sx_RP.gf (v := .ref 29) rfl rfl hI.1.o0 rfl rfl (show _ = 4 from rfl) ?_
  refine sx_RP.step (pc2 := 5) (ls2 := [(0, .ref 0)]) (st2 := [.ref 0, .ref 29]) (w3 := w) rfl rfl ?_
  refine sx_RP.gf (v := .ref 1) rfl rfl hI.1.o0 rfl rfl (show _ = 8 from rfl) ?_
  refine sx_RP.callp (as2 := [.ref 29, .ref 1]) (rest2 := []) rfl rfl (sx_inv_v2 (mi := 92) (k := 179) (st := [.ref 1, .ref 29]) (w := w) rfl rfl (hI.1.oC (Or.inr (Or.inr rfl))) rfl rfl rfl) rfl rfl rfl (X50 hI (Or.inr (Or.inr rfl)) (Or.inl rfl) (by omega)) (show _ = 11 from rfl) ?_
  rintro r4 w2 ⟨rfl, hI3, ht1⟩
  show sx_RP _ _ _ _ _ [] _ _
  have hC4 := hC.same (fi_same 1 (ht1.1 96 (by omega))) (ia_of (ht1.1 97 (by omega)))
  refine sx_RP.step (pc2 := 12) (ls2 := [(0, .ref 0)]) (st2 := [.ref 0]) (w3 := w2) rfl rfl ?_
  refine sx_RP.gf (v := .ref 96) rfl rfl hI3.1.o0 rfl rfl (show _ = 15 from rfl) ?_
  refine sx_RP.step (pc2 := 16) (ls2 := [(0, .ref 0)]) (st2 := [.ref 0, .ref 96]) (w3 := w2) rfl rfl ?_
  refine sx_RP.gf (v := .ref 29) rfl rfl hI3.1.o0 rfl rfl (show _ = 19 from rfl) ?_
  refine sx_RP.callp (as2 := [.ref 96, .ref 29]) (rest2 := []) rfl rfl (sx_inv_v2 (mi := 92) (k := 292) (st := [.ref 29, .ref 96]) (w := w2) rfl rfl hI3.1.o96 rfl rfl rfl) rfl rfl rfl (X93 hI3 hC4 ht1.b) (show _ = 22 from rfl) ?_
  rintro r4 w9 ⟨⟨rfl, hb6⟩, hI10, hC7, hO8⟩
  show sx_RP _ _ _ _ _ [.int ((sieT (FCb w)).1)] _ _
  refine sx_RP.step (pc2 := 23) (ls2 := [(1, .int ((sieT (FCb w)).1)), (0, .ref 0)]) (st2 := []) (w3 := w9) rfl rfl ?_
  refine sx_RP.step (pc2 := 24) (ls2 := [(1, .int ((sieT (FCb w)).1)), (0, .ref 0)]) (st2 := [.ref 0]) (w3 := w9) rfl rfl ?_
  refine sx_RP.gf (v := .ref 96) rfl rfl hI10.1.o0 rfl rfl (show _ = 27 from rfl) ?_
  refine sx_RP.callp (as2 := [.ref 96]) (rest2 := []) rfl rfl (sx_inv_v2 (mi := 92) (k := 289) (st := [.ref 96]) (w := w9) rfl rfl hI10.1.o96 rfl rfl rfl) rfl rfl rfl (X91 hI10 hC7.1) (show _ = 30 from rfl) ?_
  rintro r4 w13 ⟨⟨rfl, hv11⟩, hI14, hs12⟩
  show sx_RP _ _ _ _ _ [.int (nI (FCb w).2.2.2.length)] _ _
  refine sx_RP.step (pc2 := 31) (ls2 := [(1, .int ((sieT (FCb w)).1)), (0, .ref 0)]) (st2 := []) (w3 := w13) rfl rfl ?_
  refine sx_RP.step (pc2 := 32) (ls2 := [(1, .int ((sieT (FCb w)).1)), (0, .ref 0)]) (st2 := [.int ((sieT (FCb w)).1)]) (w3 := w13) rfl rfl ?_
  refine sx_RP.br (p1 := 46) (l1 := [(1, .int ((sieT (FCb w)).1)), (0, .ref 0)]) (s1 := []) (v1 := w13) (p2 := 35) (l2 := [(1, .int ((sieT (FCb w)).1)), (0, .ref 0)]) (s2 := []) (v2 := w13) rfl rfl (fun q15 => ?_) (fun q15 => ?_)
  · replace q15 := of_decide_eq_true q15
    refine sx_RP.step (pc2 := 47) (ls2 := [(1, .int ((sieT (FCb w)).1)), (0, .ref 0)]) (st2 := [.int ((sieT (FCb w)).1)]) (w3 := w13) rfl rfl ?_
    refine sx_RP.ret (r := (some (.int ((sieT (FCb w)).1)))) rfl rfl ?_
    have h0 : ¬ 0 ≤ (sieT (FCb w)).1 := Int32.not_le.mpr q15
    have eo : ∀ a, a ≠ 96 → (a < 29 ∨ 43 ≤ a) → w13[a]? = w[a]? := fun a h1 h2 => (hs12 a h1).trans ((hO8 a h1 (by omega)).trans (ht1.1 a (by omega)))
    refine ⟨⟨rfl, ?_⟩, hI14, fun a ha => eo a (by omega) (by omega)⟩
    unfold sieU
    rw [if_neg h0]
    unfold FCb
    rw [tapC_nil hv11, fi_same 3 (eo 0 (by omega) (by omega)), campB_same (A := 1) (fun a h1 h2 => eo a (by omega) (by omega)) (hI.many (Or.inl rfl)), campB_same (A := 15) (fun a h1 h2 => eo a (by omega) (by omega)) (hI.many (Or.inr (Or.inl rfl)))]
  · replace q15 := of_decide_eq_false q15
    refine sx_RP.step (pc2 := 36) (ls2 := [(1, .int ((sieT (FCb w)).1)), (0, .ref 0)]) (st2 := [.ref 0]) (w3 := w13) rfl rfl ?_
    refine sx_RP.gf (v := .ref 1) rfl rfl hI14.1.o0 rfl rfl (show _ = 39 from rfl) ?_
    refine sx_RP.step (pc2 := 40) (ls2 := [(1, .int ((sieT (FCb w)).1)), (0, .ref 0)]) (st2 := [.ref 0, .ref 1]) (w3 := w13) rfl rfl ?_
    refine sx_RP.gf (v := .ref 29) rfl rfl hI14.1.o0 rfl rfl (show _ = 43 from rfl) ?_
    refine sx_RP.callp (as2 := [.ref 1, .ref 29]) (rest2 := []) rfl rfl (sx_inv_v2 (mi := 92) (k := 179) (st := [.ref 29, .ref 1]) (w := w13) rfl rfl (hI14.1.oC (Or.inl rfl)) rfl rfl rfl) rfl rfl rfl (X50 hI14 (Or.inl rfl) (Or.inr (Or.inr rfl)) (by omega)) (show _ = 46 from rfl) ?_
    rintro r4 w17 ⟨rfl, hI18, ht16⟩
    show sx_RP _ _ _ _ _ [] _ _
    refine sx_RP.step (pc2 := 47) (ls2 := [(1, .int ((sieT (FCb w)).1)), (0, .ref 0)]) (st2 := [.int ((sieT (FCb w)).1)]) (w3 := w17) rfl rfl ?_
    refine sx_RP.ret (r := (some (.int ((sieT (FCb w)).1)))) rfl rfl ?_
    have h0 : 0 ≤ (sieT (FCb w)).1 := Int32.not_lt.mp q15
    have ec : campB w17 1 = (sieT (FCb w)).2 := ht16.b.trans ((campB_same (A := 29) (fun a h1 h2 => hs12 a (by omega)) (hI10.many (Or.inr (Or.inr rfl)))).trans (hb6 h0))
    have eo : ∀ a, a ≠ 96 → (a < 1 ∨ (15 ≤ a ∧ a < 29) ∨ 43 ≤ a) → w17[a]? = w[a]? := fun a h1 h2 => (ht16.1 a (by omega)).trans ((hs12 a h1).trans ((hO8 a h1 (by omega)).trans (ht1.1 a (by omega))))
    have et : tapC w17 = [] := tapC_nil ((fi_same 1 (ht16.1 96 (by omega))).trans hv11)
    refine ⟨⟨rfl, ?_⟩, hI18, fun a ha => eo a (by omega) (by omega)⟩
    unfold sieU
    rw [if_pos h0, ← ec]
    unfold FCb
    rw [et, fi_same 3 (eo 0 (by omega) (by omega)), campB_same (A := 15) (fun a h1 h2 => eo a (by omega) (by omega)) (hI.many (Or.inr (Or.inl rfl)))]
end
-- 89n.siege.lean.txt
section
def MT (n : Nat) (X : Nat → Nat) (w : List sx_C) : Prop := fi w 111 11 = nI n ∧ n ≤ 120 ∧ ∀ i, i < n → (ia w 121).getD i 0 = nI (X i) ∧ X i < 256
def HS (w w2 : List sx_C) : Prop := (∀ a, a ≠ 111 → w2[a]? = w[a]?) ∧ ∀ j, j < 12 → fi w2 111 j = fi w 111 j
theorem HS.rf {w : List sx_C} : HS w w := ⟨fun _ _ => rfl, fun _ _ => rfl⟩
theorem HS.tr {w w1 w2 : List sx_C} (h : HS w w1) (h2 : HS w1 w2) : HS w w2 := ⟨fun a ha => (h2.1 a ha).trans (h.1 a ha), fun j hj => (h2.2 j hj).trans (h.2 j hj)⟩
theorem MT.hs {n : Nat} {X : Nat → Nat} {w w2 : List sx_C} (h : MT n X w) (e : HS w w2) : MT n X w2 := ⟨(e.2 11 (by decide)).trans h.1, h.2.1, fun i hi => by rw [ia_of (e.1 121 (by decide))]; exact h.2.2 i hi⟩
def bA (n : Nat) (X : Nat → Nat) (i : Nat) : Int32 := if i < n then nI (X i) else -1
theorem bA_blk {n i : Nat} {X : Nat → Nat} (hX : i < n → X i < 256) : bA n X i = 32 ↔ (i < n ∧ blk (X i) = true) := by
  unfold bA
  split
  · rename_i h
    unfold blk
    rw [show (32 : Int32) = nI 32 from rfl, nI_eq (by have := hX h; omega) (by decide), beq_iff_eq]
    exact ⟨fun z => ⟨h, z⟩, fun z => z.2⟩
  · rename_i h
    exact ⟨fun z => absurd z (by decide), fun z => absurd z.1 h⟩
theorem bA_in {n i lo hi : Nat} {X : Nat → Nat} (hh : hi < 256) (hX : i < n → X i < 256) : (nI lo ≤ bA n X i ∧ bA n X i ≤ nI hi) ↔ (lo ≤ hi ∧ i < n ∧ lo ≤ X i ∧ X i ≤ hi) ∨ (hi < lo ∧ nI lo ≤ bA n X i ∧ bA n X i ≤ nI hi) := by
  by_cases e : lo ≤ hi
  · unfold bA
    split
    · rename_i h
      have := hX h
      rw [nI_leI (by omega) (by omega), nI_leI (by omega) (by omega)]
      omega
    · rename_i h
      refine ⟨fun z => absurd z.1 (Int32.not_le.mpr ?_), fun z => by omega⟩
      rw [Int32.lt_iff_toInt_lt, nI_toInt (by omega), show (-1 : Int32).toInt = -1 by decide]
      omega
  · exact ⟨fun z => Or.inr ⟨by omega, z⟩, fun z => by
      rcases z with z | z
      · omega
      · exact z.2⟩
theorem bA_lett {n i : Nat} {X : Nat → Nat} (hX : i < n → X i < 256) : ((97 : Int32) ≤ bA n X i ∧ bA n X i ≤ 122) ↔ (i < n ∧ lett (X i) = true) := by
  rw [show (97 : Int32) = nI 97 from rfl, show (122 : Int32) = nI 122 from rfl, bA_in (by decide) hX]
  unfold lett
  rw [Bool.and_eq_true, Nat.ble_eq, Nat.ble_eq]
  omega
theorem bA_digi {n i : Nat} {X : Nat → Nat} (hX : i < n → X i < 256) : ((48 : Int32) ≤ bA n X i ∧ bA n X i ≤ 57) ↔ (i < n ∧ digi (X i) = true) := by
  rw [show (48 : Int32) = nI 48 from rfl, show (57 : Int32) = nI 57 from rfl, bA_in (by decide) hX]
  unfold digi
  rw [Bool.and_eq_true, Nat.ble_eq, Nat.ble_eq]
  omega
theorem MT.x {n i : Nat} {X : Nat → Nat} {w : List sx_C} (h : MT n X w) (hi : i < n) : X i < 256 := (h.2.2 i hi).2
def H12 (w w2 : List sx_C) : Prop := (∀ a, a ≠ 111 → w2[a]? = w[a]?) ∧ ∀ j, j ≠ 12 → fi w2 111 j = fi w 111 j
theorem H12.rf {w : List sx_C} : H12 w w := ⟨fun _ _ => rfl, fun _ _ => rfl⟩
theorem H12.tr {w w1 w2 : List sx_C} (h : H12 w w1) (h2 : H12 w1 w2) : H12 w w2 := ⟨fun a ha => (h2.1 a ha).trans (h.1 a ha), fun j hj => (h2.2 j hj).trans (h.2 j hj)⟩
theorem H12.hs {w w2 : List sx_C} (h : H12 w w2) : HS w w2 := ⟨h.1, fun j hj => h.2 j (by omega)⟩
set_option maxRecDepth 20000 in
set_option maxHeartbeats 4000000 in
theorem y216 {xs : Option (List Int32)} {d : Nat} {w : List sx_C} (hI : WI w) {n i : Nat} {X : Nat → Nat} (hM : MT n X w) (hi : i < 2 ^ 31) : sx_RU xs d 216 0 (lv_args 0 [.ref 111, .int (nI i)]) [] w (some (.int (bA n X i))) w := by
  have hn := hM.2.1
  have h : sx_RP xs d 216 0 (lv_args 0 [.ref 111, .int (nI i)]) [] w (fun r9 w2 => r9 = some (.int (bA n X i)) ∧ w2 = w) := by
    refine sx_RP.step (pc2 := 1) (ls2 := [(0, .ref 111), (1, .int (nI i))]) (st2 := [.int (nI i)]) (w3 := w) rfl rfl ?_
    refine sx_RP.step (pc2 := 2) (ls2 := [(0, .ref 111), (1, .int (nI i))]) (st2 := [.ref 111, .int (nI i)]) (w3 := w) rfl rfl ?_
    refine sx_RP.gf (v := .int (fi w 111 11)) rfl rfl hI.1.o111 rfl rfl (show _ = 5 from rfl) ?_
    rw [hM.1]
    refine sx_RP.br (p1 := 17) (l1 := [(0, .ref 111), (1, .int (nI i))]) (s1 := []) (v1 := w) (p2 := 8) (l2 := [(0, .ref 111), (1, .int (nI i))]) (s2 := []) (v2 := w) rfl rfl (fun q1 => ?_) (fun q1 => ?_)
    · replace q1 := of_decide_eq_true q1
      replace q1 := (nI_leI (a := n) (b := i) (by omega) (by omega)).mp q1
      refine sx_RP.step (pc2 := 18) (ls2 := [(0, .ref 111), (1, .int (nI i))]) (st2 := [.int (-1)]) (w3 := w) rfl rfl ?_
      refine sx_RP.ret (r := (some (.int (-1)))) rfl rfl ?_
      exact ⟨by unfold bA; rw [if_neg (by omega)], rfl⟩
    · replace q1 := of_decide_eq_false q1
      replace q1 := mt (nI_leI (a := n) (b := i) (by omega) (by omega)).mpr q1
      refine sx_RP.step (pc2 := 9) (ls2 := [(0, .ref 111), (1, .int (nI i))]) (st2 := [.ref 111]) (w3 := w) rfl rfl ?_
      refine sx_RP.gf (v := .ref 121) rfl rfl hI.1.o111 rfl rfl (show _ = 12 from rfl) ?_
      refine sx_RP.step (pc2 := 13) (ls2 := [(0, .ref 111), (1, .int (nI i))]) (st2 := [.int (nI i), .ref 121]) (w3 := w) rfl rfl ?_
      refine sx_RP.ild (c := i) rfl hI.1.a121.1 hI.1.a121.2 (sx_in_nI (show i < 120 by omega) (by decide)) (nI_clamp (by omega)) (show _ = 14 from rfl) ?_
      rw [(hM.2.2 (i) (by omega)).1]
      refine sx_RP.step (pc2 := 18) (ls2 := [(0, .ref 111), (1, .int (nI i))]) (st2 := [.int (nI (X (i)))]) (w3 := w) rfl rfl ?_
      refine sx_RP.ret (r := (some (.int (nI (X (i)))))) rfl rfl ?_
      exact ⟨by unfold bA; rw [if_pos (by omega)], rfl⟩
  obtain ⟨r9, w2, h1, rfl, rfl⟩ := h
  exact h1
set_option maxRecDepth 20000 in
set_option maxHeartbeats 4000000 in
theorem y215B {xs : Option (List Int32)} {d n p : Nat} {X : Nat → Nat} {w w0 : List sx_C} (hI : WI w) (hM : MT n X w) (hp : p ≤ n) (ep : fi w 111 12 = nI p) (hO : H12 w0 w) (kk : ∀ w2, WI w2 → MT n X w2 → fi w2 111 12 = nI (p + 1) → H12 w0 w2 → p < n → sx_RP xs (d + 1) 215 0 [(0, .ref 111)] [] w2 (fun r w2 => (r = none ∧ fi w2 111 12 = nI (rE blk n X (p + 1))) ∧ WI w2 ∧ H12 w0 w2)) : sx_RP xs (d + 1) 215 0 [(0, .ref 111)] [] w (fun r w2 => (r = none ∧ fi w2 111 12 = nI (rE blk n X p)) ∧ WI w2 ∧ H12 w0 w2) := by
  have hn := hM.2.1
  refine sx_RP.step (pc2 := 1) (ls2 := [(0, .ref 111)]) (st2 := [.ref 111]) (w3 := w) rfl rfl ?_
  refine sx_RP.step (pc2 := 2) (ls2 := [(0, .ref 111)]) (st2 := [.ref 111, .ref 111]) (w3 := w) rfl rfl ?_
  refine sx_RP.gf (v := .int (fi w 111 12)) rfl rfl hI.1.o111 rfl rfl (show _ = 5 from rfl) ?_
  rw [ep]
  refine sx_RP.cu (as := [.ref 111, .int (nI p)]) (rest2 := []) (st3 := [.int (bA n X p)]) rfl rfl (sx_inv_v2 (mi := 215) (k := 215) (st := [.int (nI p), .ref 111]) (w := w) rfl rfl hI.1.o111 rfl rfl rfl) rfl rfl (y216 hI hM (by omega)) rfl ?_
  refine sx_RP.step (pc2 := 10) (ls2 := [(0, .ref 111)]) (st2 := [.int 32, .int (bA n X p)]) (w3 := w) rfl rfl ?_
  refine sx_RP.br (p1 := 26) (l1 := [(0, .ref 111)]) (s1 := []) (v1 := w) (p2 := 13) (l2 := [(0, .ref 111)]) (s2 := []) (v2 := w) rfl rfl (fun q1 => ?_) (fun q1 => ?_)
  · replace q1 := of_decide_eq_true q1
    refine sx_RP.ret (r := none) rfl rfl ?_
    exact ⟨⟨rfl, by rw [ep, rE_n (fun z => q1 ((bA_blk (fun z => hM.x z)).mpr z))]⟩, hI, hO⟩
  · replace q1 := Decidable.not_not.mp (of_decide_eq_false q1)
    refine sx_RP.step (pc2 := 14) (ls2 := [(0, .ref 111)]) (st2 := [.ref 111]) (w3 := w) rfl rfl ?_
    refine sx_RP.step (pc2 := 15) (ls2 := [(0, .ref 111)]) (st2 := [.ref 111, .ref 111]) (w3 := w) rfl rfl ?_
    refine sx_RP.gf (v := .int (fi w 111 12)) rfl rfl hI.1.o111 rfl rfl (show _ = 18 from rfl) ?_
    rw [ep]
    refine sx_RP.step (pc2 := 19) (ls2 := [(0, .ref 111)]) (st2 := [.int 1, .int (nI p), .ref 111]) (w3 := w) rfl rfl ?_
    refine sx_RP.step (pc2 := 20) (ls2 := [(0, .ref 111)]) (st2 := [.int ((nI p) + 1), .ref 111]) (w3 := w) rfl rfl ?_
    rw [show ((nI p) + 1 : Int32) = nI (p + 1) from nI_add p 1]
    have hb := (bA_blk (fun z => hM.x z)).mp q1
    refine sx_RP.pm (k := 12) hI EM.rf rfl rfl (by decide) rfl (inR.n (show (p + 1) ≤ 120 by omega)) (show _ = 23 from rfl) (fun w2 hI3 hE4 hv5 hr6 hs7 => ?_)
    refine sx_RP.step (pc2 := 0) (ls2 := [(0, .ref 111)]) (st2 := []) (w3 := w2) rfl rfl ?_
    have hO2 : H12 w w2 := ⟨hs7, hr6⟩
    rw [rE_y hb.1 hb.2]
    exact sx_RP.ls (sx_lr.cons rfl sx_lr.nil) (kk w2 hI3 (hM.hs hO2.hs) hv5 (hO.tr hO2) hb.1)
theorem y215L {xs : Option (List Int32)} {d n : Nat} {X : Nat → Nat} {w0 : List sx_C} : ∀ (fz p : Nat) (w : List sx_C), n ≤ p + fz → p ≤ n → WI w → MT n X w → fi w 111 12 = nI p → H12 w0 w → sx_RP xs (d + 1) 215 0 [(0, .ref 111)] [] w (fun r w2 => (r = none ∧ fi w2 111 12 = nI (rE blk n X p)) ∧ WI w2 ∧ H12 w0 w2)
  | 0, p, w, h, hp, hI, hM, ep, hO => y215B hI hM hp ep hO (fun _ _ _ _ _ z => absurd z (by omega))
  | fz + 1, p, w, h, hp, hI, hM, ep, hO => y215B hI hM hp ep hO (fun w2 a b c e z => y215L fz (p + 1) w2 (by omega) z a b c e)
theorem y215 {xs : Option (List Int32)} {d n p : Nat} {X : Nat → Nat} {w : List sx_C} (hI : WI w) (hM : MT n X w) (hp : p ≤ n) (ep : fi w 111 12 = nI p) : sx_RP xs (d + 1) 215 0 (lv_args 0 [.ref 111]) [] w (fun r w2 => (r = none ∧ fi w2 111 12 = nI (rE blk n X p)) ∧ WI w2 ∧ H12 w w2) := y215L n p w (by omega) hp hI hM ep H12.rf
set_option maxRecDepth 20000 in
set_option maxHeartbeats 4000000 in
theorem y217B {xs : Option (List Int32)} {d n j : Nat} {X : Nat → Nat} {w : List sx_C} (hI : WI w) (hM : MT n X w) (hj : j ≤ n) (kk : j < n → sx_RP xs (d + 2) 217 5 [(0, .ref 111), (1, .int (nI (j + 1)))] [] w (fun r w2 => r = some (.int (nI (rE lett n X (j + 1)))) ∧ w2 = w)) : sx_RP xs (d + 2) 217 5 [(0, .ref 111), (1, .int (nI j))] [] w (fun r w2 => r = some (.int (nI (rE lett n X j))) ∧ w2 = w) := by
  have hn := hM.2.1
  refine sx_RP.step (pc2 := 6) (ls2 := [(0, .ref 111), (1, .int (nI j))]) (st2 := [.ref 111]) (w3 := w) rfl rfl ?_
  refine sx_RP.step (pc2 := 7) (ls2 := [(0, .ref 111), (1, .int (nI j))]) (st2 := [.int (nI j), .ref 111]) (w3 := w) rfl rfl ?_
  refine sx_RP.cu (as := [.ref 111, .int (nI j)]) (rest2 := []) (st3 := [.int (bA n X j)]) rfl rfl (sx_inv_v2 (mi := 217) (k := 215) (st := [.int (nI j), .ref 111]) (w := w) rfl rfl hI.1.o111 rfl rfl rfl) rfl rfl (y216 hI hM (by omega)) rfl ?_
  rcases Classical.em (j < n ∧ lett (X j) = true) with c1 | c1
  · refine sx_RP.cu (as := [.int (bA n X j)]) (rest2 := []) (st3 := [.int 1]) rfl rfl rfl rfl rfl (cx_218p ((bA_lett (fun z => hM.x z)).mpr c1)) rfl ?_
    refine sx_RP.step (pc2 := 16) (ls2 := [(0, .ref 111), (1, .int (nI j))]) (st2 := []) (w3 := w) rfl rfl ?_
    refine sx_RP.step (pc2 := 19) (ls2 := [(1, .int ((nI j) + 1)), (0, .ref 111)]) (st2 := []) (w3 := w) rfl rfl ?_
    rw [nI_1 j]
    refine sx_RP.step (pc2 := 5) (ls2 := [(1, .int (nI (j + 1))), (0, .ref 111)]) (st2 := []) (w3 := w) rfl rfl ?_
    rw [rE_y c1.1 c1.2]
    exact sx_RP.ls (sx_lr.cons rfl (sx_lr.cons rfl sx_lr.nil)) (kk c1.1)
  · refine sx_RP.cu (as := [.int (bA n X j)]) (rest2 := []) (st3 := [.int 0]) rfl rfl rfl rfl rfl (cx_218n (fun z => c1 ((bA_lett (fun z => hM.x z)).mp z))) rfl ?_
    refine sx_RP.step (pc2 := 22) (ls2 := [(0, .ref 111), (1, .int (nI j))]) (st2 := []) (w3 := w) rfl rfl ?_
    refine sx_RP.step (pc2 := 23) (ls2 := [(0, .ref 111), (1, .int (nI j))]) (st2 := [.int (nI j)]) (w3 := w) rfl rfl ?_
    refine sx_RP.ret (r := (some (.int (nI j)))) rfl rfl ?_
    exact ⟨by rw [rE_n c1], rfl⟩
theorem y217L {xs : Option (List Int32)} {d n : Nat} {X : Nat → Nat} {w : List sx_C} (hI : WI w) (hM : MT n X w) : ∀ (fz j : Nat), n ≤ j + fz → j ≤ n → sx_RP xs (d + 2) 217 5 [(0, .ref 111), (1, .int (nI j))] [] w (fun r w2 => r = some (.int (nI (rE lett n X j))) ∧ w2 = w)
  | 0, j, h, hj => y217B hI hM hj (fun z => absurd z (by omega))
  | fz + 1, j, h, hj => y217B hI hM hj (fun z => y217L hI hM fz (j + 1) (by omega) z)
set_option maxRecDepth 20000 in
set_option maxHeartbeats 4000000 in
theorem y217 {xs : Option (List Int32)} {d : Nat} {w : List sx_C} (hI : WI w) {n p : Nat} {X : Nat → Nat} (hM : MT n X w) (hp : p ≤ n) (ep : fi w 111 12 = nI p) : sx_RU xs (d + 2) 217 0 (lv_args 0 [.ref 111]) [] w (some (.int (nI (rE lett n X p)))) w := by
  have h : sx_RP xs (d + 2) 217 0 (lv_args 0 [.ref 111]) [] w (fun r9 w2 => r9 = some (.int (nI (rE lett n X p))) ∧ w2 = w) := by
    refine sx_RP.step (pc2 := 1) (ls2 := [(0, .ref 111)]) (st2 := [.ref 111]) (w3 := w) rfl rfl ?_
    refine sx_RP.gf (v := .int (fi w 111 12)) rfl rfl hI.1.o111 rfl rfl (show _ = 4 from rfl) ?_
    rw [ep]
    refine sx_RP.step (pc2 := 5) (ls2 := [(1, .int (nI p)), (0, .ref 111)]) (st2 := []) (w3 := w) rfl rfl ?_
    exact sx_RP.ls (sx_lr.cons rfl (sx_lr.cons rfl sx_lr.nil)) (y217L hI hM n p (by omega) hp)
  obtain ⟨r9, w2, h1, rfl, rfl⟩ := h
  exact h1
end
