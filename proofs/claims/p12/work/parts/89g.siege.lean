-- the text of the class, exactly
section SXTP
variable {xs : Option (List Int32)} {d mi pc pc2 a idx p : Nat} {ls : sx_L} {r : List Value} {w w0 : List sx_C} {P : Option Value → List sx_C → Prop}
theorem sx_RP.xP {k : Nat} {v : Int32} (hI : WI w) (hi : sx_ins mi pc = some (.putfield idx, 3)) (hq : sx_lk (sx_fl (sx_own mi)) idx = some (4, k, p)) (hk : 2 ≤ k ∧ k < 6) (hf : sx_fin mi 4 k = true) (hv : tR k v) (hp : pc + 3 = pc2) (kk : ∀ w2, WI w2 → Same 96 w w2 → fi w2 96 k = v → (∀ j, j ≠ k → fi w2 96 j = fi w 96 j) → sx_RP xs d mi pc2 ls r w2 P) : sx_RP xs d mi pc ls (.int v :: .ref 96 :: r) w P := by
  have hw := hI.1.o96
  have q := hI.t
  have hfs : fs_ w 96 = [.ref 97, .int (fi w 96 1), .int (fi w 96 2), .int (fi w 96 3), .int (fi w 96 4), .int (fi w 96 5)] := by unfold fs_; rw [hw]
  have hne : ∀ (fs : List Value) (j : Nat), fs_ w 96 = fs → j ≠ k → fi (w.set 96 (.inr (.inr (.inr (4, fs.set k (.int v)))))) 96 j = fi w 96 j := by
    intro fs j e hj
    unfold fi
    rw [fs_set hw, List.getElem?_set_ne (Ne.symm hj), e]
  rcases (show k = 2 ∨ k = 3 ∨ k = 4 ∨ k = 5 by omega) with rfl | rfl | rfl | rfl
  · exact sx_RP.pf hi hq hw (by rw [hf]; rfl) rfl rfl hp (kk _ (hI.set hw rfl (cOK.t q)) Same.set (by unfold fi; rw [fs_set hw]; rfl) (fun j hj => hne _ j hfs hj))
  · exact sx_RP.pf hi hq hw (by rw [hf]; rfl) rfl rfl hp (kk _ (hI.set hw rfl (cOK.t ⟨q.1, hv, q.2.2⟩)) Same.set (by unfold fi; rw [fs_set hw]; rfl) (fun j hj => hne _ j hfs hj))
  · exact sx_RP.pf hi hq hw (by rw [hf]; rfl) rfl rfl hp (kk _ (hI.set hw rfl (cOK.t ⟨q.1, q.2.1, hv⟩)) Same.set (by unfold fi; rw [fs_set hw]; rfl) (fun j hj => hne _ j hfs hj))
  · exact sx_RP.pf hi hq hw (by rw [hf]; rfl) rfl rfl hp (kk _ (hI.set hw rfl (cOK.t q)) Same.set (by unfold fi; rw [fs_set hw]; rfl) (fun j hj => hne _ j hfs hj))
end SXTP
theorem CT.same {n : Nat} {X : Nat → Nat} {w w2 : List sx_C} (h : CT n X w) (h1 : fi w2 96 1 = fi w 96 1) (h2 : ia w2 97 = ia w 97) : CT n X w2 := ⟨h1.trans h.1, h.2.1, fun i hi => by rw [h2]; exact h.2.2 i hi⟩
theorem sgn32 {c : Nat} (h : c < 256) : sgn c = 32 ↔ blk c = true := by
  rw [← sgn32_all ⟨c, h⟩]
  exact (decide_eq_true_iff).symm
theorem nI_min {a b : Nat} (ha : a < 2 ^ 31) (hb : b < 2 ^ 31) : (if nI b < nI a then nI b else nI a) = nI (min a b) := by
  by_cases h : b < a
  · rw [if_pos ((nI_ltI hb ha).mpr h), Nat.min_eq_right (by omega)]
  · rw [if_neg (fun z => h ((nI_ltI hb ha).mp z)), Nat.min_eq_left (by omega)]
set_option maxRecDepth 20000 in
set_option maxHeartbeats 4000000 in
theorem x95 {xs : Option (List Int32)} {d : Nat} {w : List sx_C} (hI : WI w) {c : Nat} (hc : c < 256) : sx_RU xs d 95 0 (lv_args 0 [.int (sgn c)]) [] w (some (.int (nI (sortN c)))) w := by
  have h : sx_RP xs d 95 0 (lv_args 0 [.int (sgn c)]) [] w (fun r9 w2 => r9 = some (.int (nI (sortN c))) ∧ w2 = w) := by
    refine sx_RP.step (pc2 := 1) (ls2 := [(0, .int (sgn c))]) (st2 := [.int (sgn c)]) (w3 := w) rfl rfl ?_
    refine sx_RP.step (pc2 := 3) (ls2 := [(0, .int (sgn c))]) (st2 := [.int 97, .int (sgn c)]) (w3 := w) rfl rfl ?_
    refine sx_RP.br (p1 := 14) (l1 := [(0, .int (sgn c))]) (s1 := []) (v1 := w) (p2 := 6) (l2 := [(0, .int (sgn c))]) (s2 := []) (v2 := w) rfl rfl (fun q1 => ?_) (fun q1 => ?_)
    · replace q1 := of_decide_eq_true q1
      refine sx_RP.step (pc2 := 15) (ls2 := [(0, .int (sgn c))]) (st2 := [.int (sgn c)]) (w3 := w) rfl rfl ?_
      refine sx_RP.step (pc2 := 17) (ls2 := [(0, .int (sgn c))]) (st2 := [.int 48, .int (sgn c)]) (w3 := w) rfl rfl ?_
      refine sx_RP.br (p1 := 28) (l1 := [(0, .int (sgn c))]) (s1 := []) (v1 := w) (p2 := 20) (l2 := [(0, .int (sgn c))]) (s2 := []) (v2 := w) rfl rfl (fun q2 => ?_) (fun q2 => ?_)
      · replace q2 := of_decide_eq_true q2
        refine sx_RP.step (pc2 := 29) (ls2 := [(0, .int (sgn c))]) (st2 := [.int (sgn c)]) (w3 := w) rfl rfl ?_
        refine sx_RP.step (pc2 := 31) (ls2 := [(0, .int (sgn c))]) (st2 := [.int 59, .int (sgn c)]) (w3 := w) rfl rfl ?_
        refine sx_RP.br (p1 := 38) (l1 := [(0, .int (sgn c))]) (s1 := []) (v1 := w) (p2 := 34) (l2 := [(0, .int (sgn c))]) (s2 := []) (v2 := w) rfl rfl (fun q3 => ?_) (fun q3 => ?_)
        · replace q3 := of_decide_eq_true q3
          refine sx_RP.step (pc2 := 39) (ls2 := [(0, .int (sgn c))]) (st2 := [.int 4]) (w3 := w) rfl rfl ?_
          refine sx_RP.ret (r := (some (.int 4))) rfl rfl ?_
          exact ⟨by rw [sort_all ⟨c, hc⟩, if_pos q1, if_pos q2, if_pos q3], rfl⟩
        · replace q3 := Decidable.not_not.mp (of_decide_eq_false q3)
          refine sx_RP.step (pc2 := 35) (ls2 := [(0, .int (sgn c))]) (st2 := [.int 3]) (w3 := w) rfl rfl ?_
          refine sx_RP.step (pc2 := 39) (ls2 := [(0, .int (sgn c))]) (st2 := [.int 3]) (w3 := w) rfl rfl ?_
          refine sx_RP.ret (r := (some (.int 3))) rfl rfl ?_
          exact ⟨by rw [sort_all ⟨c, hc⟩, if_pos q1, if_pos q2, if_neg (fun z => z q3)], rfl⟩
      · replace q2 := of_decide_eq_false q2
        refine sx_RP.step (pc2 := 21) (ls2 := [(0, .int (sgn c))]) (st2 := [.int (sgn c)]) (w3 := w) rfl rfl ?_
        refine sx_RP.step (pc2 := 23) (ls2 := [(0, .int (sgn c))]) (st2 := [.int 57, .int (sgn c)]) (w3 := w) rfl rfl ?_
        refine sx_RP.br (p1 := 28) (l1 := [(0, .int (sgn c))]) (s1 := []) (v1 := w) (p2 := 26) (l2 := [(0, .int (sgn c))]) (s2 := []) (v2 := w) rfl rfl (fun q4 => ?_) (fun q4 => ?_)
        · replace q4 := of_decide_eq_true q4
          refine sx_RP.step (pc2 := 29) (ls2 := [(0, .int (sgn c))]) (st2 := [.int (sgn c)]) (w3 := w) rfl rfl ?_
          refine sx_RP.step (pc2 := 31) (ls2 := [(0, .int (sgn c))]) (st2 := [.int 59, .int (sgn c)]) (w3 := w) rfl rfl ?_
          refine sx_RP.br (p1 := 38) (l1 := [(0, .int (sgn c))]) (s1 := []) (v1 := w) (p2 := 34) (l2 := [(0, .int (sgn c))]) (s2 := []) (v2 := w) rfl rfl (fun q5 => ?_) (fun q5 => ?_)
          · replace q5 := of_decide_eq_true q5
            refine sx_RP.step (pc2 := 39) (ls2 := [(0, .int (sgn c))]) (st2 := [.int 4]) (w3 := w) rfl rfl ?_
            refine sx_RP.ret (r := (some (.int 4))) rfl rfl ?_
            exact ⟨by rw [sort_all ⟨c, hc⟩, if_pos q1, if_neg q2, if_pos q4, if_pos q5], rfl⟩
          · replace q5 := Decidable.not_not.mp (of_decide_eq_false q5)
            refine sx_RP.step (pc2 := 35) (ls2 := [(0, .int (sgn c))]) (st2 := [.int 3]) (w3 := w) rfl rfl ?_
            refine sx_RP.step (pc2 := 39) (ls2 := [(0, .int (sgn c))]) (st2 := [.int 3]) (w3 := w) rfl rfl ?_
            refine sx_RP.ret (r := (some (.int 3))) rfl rfl ?_
            exact ⟨by rw [sort_all ⟨c, hc⟩, if_pos q1, if_neg q2, if_pos q4, if_neg (fun z => z q5)], rfl⟩
        · replace q4 := of_decide_eq_false q4
          refine sx_RP.step (pc2 := 27) (ls2 := [(0, .int (sgn c))]) (st2 := [.int 2]) (w3 := w) rfl rfl ?_
          refine sx_RP.ret (r := (some (.int 2))) rfl rfl ?_
          exact ⟨by rw [sort_all ⟨c, hc⟩, if_pos q1, if_neg q2, if_neg q4], rfl⟩
    · replace q1 := of_decide_eq_false q1
      refine sx_RP.step (pc2 := 7) (ls2 := [(0, .int (sgn c))]) (st2 := [.int (sgn c)]) (w3 := w) rfl rfl ?_
      refine sx_RP.step (pc2 := 9) (ls2 := [(0, .int (sgn c))]) (st2 := [.int 122, .int (sgn c)]) (w3 := w) rfl rfl ?_
      refine sx_RP.br (p1 := 14) (l1 := [(0, .int (sgn c))]) (s1 := []) (v1 := w) (p2 := 12) (l2 := [(0, .int (sgn c))]) (s2 := []) (v2 := w) rfl rfl (fun q6 => ?_) (fun q6 => ?_)
      · replace q6 := of_decide_eq_true q6
        refine sx_RP.step (pc2 := 15) (ls2 := [(0, .int (sgn c))]) (st2 := [.int (sgn c)]) (w3 := w) rfl rfl ?_
        refine sx_RP.step (pc2 := 17) (ls2 := [(0, .int (sgn c))]) (st2 := [.int 48, .int (sgn c)]) (w3 := w) rfl rfl ?_
        refine sx_RP.br (p1 := 28) (l1 := [(0, .int (sgn c))]) (s1 := []) (v1 := w) (p2 := 20) (l2 := [(0, .int (sgn c))]) (s2 := []) (v2 := w) rfl rfl (fun q7 => ?_) (fun q7 => ?_)
        · replace q7 := of_decide_eq_true q7
          refine sx_RP.step (pc2 := 29) (ls2 := [(0, .int (sgn c))]) (st2 := [.int (sgn c)]) (w3 := w) rfl rfl ?_
          refine sx_RP.step (pc2 := 31) (ls2 := [(0, .int (sgn c))]) (st2 := [.int 59, .int (sgn c)]) (w3 := w) rfl rfl ?_
          refine sx_RP.br (p1 := 38) (l1 := [(0, .int (sgn c))]) (s1 := []) (v1 := w) (p2 := 34) (l2 := [(0, .int (sgn c))]) (s2 := []) (v2 := w) rfl rfl (fun q8 => ?_) (fun q8 => ?_)
          · replace q8 := of_decide_eq_true q8
            refine sx_RP.step (pc2 := 39) (ls2 := [(0, .int (sgn c))]) (st2 := [.int 4]) (w3 := w) rfl rfl ?_
            refine sx_RP.ret (r := (some (.int 4))) rfl rfl ?_
            exact ⟨by rw [sort_all ⟨c, hc⟩, if_neg q1, if_pos q6, if_pos q7, if_pos q8], rfl⟩
          · replace q8 := Decidable.not_not.mp (of_decide_eq_false q8)
            refine sx_RP.step (pc2 := 35) (ls2 := [(0, .int (sgn c))]) (st2 := [.int 3]) (w3 := w) rfl rfl ?_
            refine sx_RP.step (pc2 := 39) (ls2 := [(0, .int (sgn c))]) (st2 := [.int 3]) (w3 := w) rfl rfl ?_
            refine sx_RP.ret (r := (some (.int 3))) rfl rfl ?_
            exact ⟨by rw [sort_all ⟨c, hc⟩, if_neg q1, if_pos q6, if_pos q7, if_neg (fun z => z q8)], rfl⟩
        · replace q7 := of_decide_eq_false q7
          refine sx_RP.step (pc2 := 21) (ls2 := [(0, .int (sgn c))]) (st2 := [.int (sgn c)]) (w3 := w) rfl rfl ?_
          refine sx_RP.step (pc2 := 23) (ls2 := [(0, .int (sgn c))]) (st2 := [.int 57, .int (sgn c)]) (w3 := w) rfl rfl ?_
          refine sx_RP.br (p1 := 28) (l1 := [(0, .int (sgn c))]) (s1 := []) (v1 := w) (p2 := 26) (l2 := [(0, .int (sgn c))]) (s2 := []) (v2 := w) rfl rfl (fun q9 => ?_) (fun q9 => ?_)
          · replace q9 := of_decide_eq_true q9
            refine sx_RP.step (pc2 := 29) (ls2 := [(0, .int (sgn c))]) (st2 := [.int (sgn c)]) (w3 := w) rfl rfl ?_
            refine sx_RP.step (pc2 := 31) (ls2 := [(0, .int (sgn c))]) (st2 := [.int 59, .int (sgn c)]) (w3 := w) rfl rfl ?_
            refine sx_RP.br (p1 := 38) (l1 := [(0, .int (sgn c))]) (s1 := []) (v1 := w) (p2 := 34) (l2 := [(0, .int (sgn c))]) (s2 := []) (v2 := w) rfl rfl (fun q10 => ?_) (fun q10 => ?_)
            · replace q10 := of_decide_eq_true q10
              refine sx_RP.step (pc2 := 39) (ls2 := [(0, .int (sgn c))]) (st2 := [.int 4]) (w3 := w) rfl rfl ?_
              refine sx_RP.ret (r := (some (.int 4))) rfl rfl ?_
              exact ⟨by rw [sort_all ⟨c, hc⟩, if_neg q1, if_pos q6, if_neg q7, if_pos q9, if_pos q10], rfl⟩
            · replace q10 := Decidable.not_not.mp (of_decide_eq_false q10)
              refine sx_RP.step (pc2 := 35) (ls2 := [(0, .int (sgn c))]) (st2 := [.int 3]) (w3 := w) rfl rfl ?_
              refine sx_RP.step (pc2 := 39) (ls2 := [(0, .int (sgn c))]) (st2 := [.int 3]) (w3 := w) rfl rfl ?_
              refine sx_RP.ret (r := (some (.int 3))) rfl rfl ?_
              exact ⟨by rw [sort_all ⟨c, hc⟩, if_neg q1, if_pos q6, if_neg q7, if_pos q9, if_neg (fun z => z q10)], rfl⟩
          · replace q9 := of_decide_eq_false q9
            refine sx_RP.step (pc2 := 27) (ls2 := [(0, .int (sgn c))]) (st2 := [.int 2]) (w3 := w) rfl rfl ?_
            refine sx_RP.ret (r := (some (.int 2))) rfl rfl ?_
            exact ⟨by rw [sort_all ⟨c, hc⟩, if_neg q1, if_pos q6, if_neg q7, if_neg q9], rfl⟩
      · replace q6 := of_decide_eq_false q6
        refine sx_RP.step (pc2 := 13) (ls2 := [(0, .int (sgn c))]) (st2 := [.int 1]) (w3 := w) rfl rfl ?_
        refine sx_RP.ret (r := (some (.int 1))) rfl rfl ?_
        exact ⟨by rw [sort_all ⟨c, hc⟩, if_neg q1, if_neg q6], rfl⟩
  obtain ⟨r9, w2, h1, rfl, rfl⟩ := h
  exact h1
set_option maxRecDepth 20000 in
set_option maxHeartbeats 4000000 in
theorem x97 {xs : Option (List Int32)} {d : Nat} {w : List sx_C} (hI : WI w) (x y : Int32) : sx_RU xs d 97 0 (lv_args 0 [.int x, .int y]) [] w (some (.int (if y < x then y else x))) w := by
  have h : sx_RP xs d 97 0 (lv_args 0 [.int x, .int y]) [] w (fun r9 w2 => r9 = some (.int (if y < x then y else x)) ∧ w2 = w) := by
    refine sx_RP.step (pc2 := 1) (ls2 := [(0, .int x), (1, .int y)]) (st2 := [.int x]) (w3 := w) rfl rfl ?_
    refine sx_RP.step (pc2 := 2) (ls2 := [(0, .int x), (1, .int y)]) (st2 := [.int y, .int x]) (w3 := w) rfl rfl ?_
    refine sx_RP.br (p1 := 9) (l1 := [(0, .int x), (1, .int y)]) (s1 := []) (v1 := w) (p2 := 5) (l2 := [(0, .int x), (1, .int y)]) (s2 := []) (v2 := w) rfl rfl (fun q1 => ?_) (fun q1 => ?_)
    · replace q1 := of_decide_eq_true q1
      refine sx_RP.step (pc2 := 10) (ls2 := [(0, .int x), (1, .int y)]) (st2 := [.int y]) (w3 := w) rfl rfl ?_
      refine sx_RP.ret (r := (some (.int y))) rfl rfl ?_
      exact ⟨by first | rw [if_pos q1] | rw [if_neg q1] | rw [if_neg (Int32.not_lt.mpr q1)] | rw [if_pos (Int32.not_le.mp q1)], rfl⟩
    · replace q1 := of_decide_eq_false q1
      refine sx_RP.step (pc2 := 6) (ls2 := [(0, .int x), (1, .int y)]) (st2 := [.int x]) (w3 := w) rfl rfl ?_
      refine sx_RP.step (pc2 := 10) (ls2 := [(0, .int x), (1, .int y)]) (st2 := [.int x]) (w3 := w) rfl rfl ?_
      refine sx_RP.ret (r := (some (.int x))) rfl rfl ?_
      exact ⟨by first | rw [if_pos q1] | rw [if_neg q1] | rw [if_neg (Int32.not_lt.mpr q1)] | rw [if_pos (Int32.not_le.mp q1)], rfl⟩
  obtain ⟨r9, w2, h1, rfl, rfl⟩ := h
  exact h1
set_option maxRecDepth 20000 in
set_option maxHeartbeats 4000000 in
theorem x96L {xs : Option (List Int32)} {d n a b : Nat} {X : Nat → Nat} {w : List sx_C} (hI : WI w) (hC : CT n X w) (hb : b ≤ n) (hd0 : ∀ j, a ≤ j → j < b → digi (X j) = true) : ∀ (fz i v : Nat), i + fz = b → a ≤ i → v ≤ 1000000 → sx_RP xs (d + 1) 96 5 [(0, .ref 96), (1, .int (nI a)), (2, .int (nI b)), (3, .int (nI v)), (4, .int (nI i))] [] w (fun r2 w2 => r2 = some (.int (nI (nuV 1000000 X v i fz))) ∧ w2 = w)
  | 0, i, v, hi, hai, hv => by
    obtain rfl : i = b := by omega
    have hn := hC.2.1
    refine sx_RP.step (pc2 := 7) (ls2 := [(0, .ref 96), (1, .int (nI a)), (2, .int (nI i)), (3, .int (nI v)), (4, .int (nI i))]) (st2 := [.int (nI i)]) (w3 := w) rfl rfl ?_
    refine sx_RP.step (pc2 := 8) (ls2 := [(0, .ref 96), (1, .int (nI a)), (2, .int (nI i)), (3, .int (nI v)), (4, .int (nI i))]) (st2 := [.int (nI i), .int (nI i)]) (w3 := w) rfl rfl ?_
    refine sx_RP.br (p1 := 38) (l1 := [(0, .ref 96), (1, .int (nI a)), (2, .int (nI i)), (3, .int (nI v)), (4, .int (nI i))]) (s1 := []) (v1 := w) rfl rfl (fun _ => ?_) (fun q => absurd (nI_le (a := i) (b := i) (by omega) (by omega)) (of_decide_eq_false q))
    refine sx_RP.step (pc2 := 39) (ls2 := [(0, .ref 96), (1, .int (nI a)), (2, .int (nI i)), (3, .int (nI v)), (4, .int (nI i))]) (st2 := [.int (nI v)]) (w3 := w) rfl rfl ?_
    refine sx_RP.ret (r := (some (.int (nI v)))) rfl rfl ?_
    exact ⟨rfl, rfl⟩
  | fz + 1, i, v, hi, hai, hv => by
    have hd : sgn (X i) = nI (X i) ∧ 48 ≤ X i ∧ X i ≤ 57 := sgn_dig ⟨X i, (hC.2.2 i (by omega)).2⟩ (hd0 i hai (by omega))
    have hn := hC.2.1
    refine sx_RP.step (pc2 := 7) (ls2 := [(0, .ref 96), (1, .int (nI a)), (2, .int (nI b)), (3, .int (nI v)), (4, .int (nI i))]) (st2 := [.int (nI i)]) (w3 := w) rfl rfl ?_
    refine sx_RP.step (pc2 := 8) (ls2 := [(0, .ref 96), (1, .int (nI a)), (2, .int (nI b)), (3, .int (nI v)), (4, .int (nI i))]) (st2 := [.int (nI b), .int (nI i)]) (w3 := w) rfl rfl ?_
    refine sx_RP.br (p2 := 11) (l2 := [(0, .ref 96), (1, .int (nI a)), (2, .int (nI b)), (3, .int (nI v)), (4, .int (nI i))]) (s2 := []) (v2 := w) rfl rfl (fun q => absurd (of_decide_eq_true q) (fun z => absurd ((nI_leI (a := b) (b := i) (by omega) (by omega)).mp z) (by omega))) (fun _ => ?_)
    refine sx_RP.step (pc2 := 13) (ls2 := [(0, .ref 96), (1, .int (nI a)), (2, .int (nI b)), (3, .int (nI v)), (4, .int (nI i))]) (st2 := [.int 1000000]) (w3 := w) rfl rfl ?_
    refine sx_RP.step (pc2 := 14) (ls2 := [(0, .ref 96), (1, .int (nI a)), (2, .int (nI b)), (3, .int (nI v)), (4, .int (nI i))]) (st2 := [.int (nI v), .int 1000000]) (w3 := w) rfl rfl ?_
    refine sx_RP.step (pc2 := 16) (ls2 := [(0, .ref 96), (1, .int (nI a)), (2, .int (nI b)), (3, .int (nI v)), (4, .int (nI i))]) (st2 := [.int 10, .int (nI v), .int 1000000]) (w3 := w) rfl rfl ?_
    refine sx_RP.step (pc2 := 17) (ls2 := [(0, .ref 96), (1, .int (nI a)), (2, .int (nI b)), (3, .int (nI v)), (4, .int (nI i))]) (st2 := [.int ((nI v) * 10), .int 1000000]) (w3 := w) rfl rfl ?_
    rw [show ((nI v) * 10 : Int32) = nI (v * 10) from nI_mul v 10]
    refine sx_RP.step (pc2 := 18) (ls2 := [(0, .ref 96), (1, .int (nI a)), (2, .int (nI b)), (3, .int (nI v)), (4, .int (nI i))]) (st2 := [.ref 96, .int (nI (v * 10)), .int 1000000]) (w3 := w) rfl rfl ?_
    refine sx_RP.gf (v := .ref 97) rfl rfl hI.1.o96 rfl rfl (show _ = 21 from rfl) ?_
    refine sx_RP.step (pc2 := 23) (ls2 := [(0, .ref 96), (1, .int (nI a)), (2, .int (nI b)), (3, .int (nI v)), (4, .int (nI i))]) (st2 := [.int (nI i), .ref 97, .int (nI (v * 10)), .int 1000000]) (w3 := w) rfl rfl ?_
    refine sx_RP.bld2 (c := i) rfl hI.1.a97.1 hI.1.a97.2 (sx_in_nI (show i < 120 by omega) (by decide)) (nI_clamp (by omega)) (show _ = 24 from rfl) ?_
    rw [(hC.2.2 (i) (by omega)).1]
    rw [hd.1]
    refine sx_RP.step (pc2 := 25) (ls2 := [(0, .ref 96), (1, .int (nI a)), (2, .int (nI b)), (3, .int (nI v)), (4, .int (nI i))]) (st2 := [.int ((nI (v * 10)) + (nI (X i))), .int 1000000]) (w3 := w) rfl rfl ?_
    rw [show ((nI (v * 10)) + (nI (X i)) : Int32) = nI ((v * 10) + (X i)) from nI_add (v * 10) (X i)]
    refine sx_RP.step (pc2 := 27) (ls2 := [(0, .ref 96), (1, .int (nI a)), (2, .int (nI b)), (3, .int (nI v)), (4, .int (nI i))]) (st2 := [.int 48, .int (nI ((v * 10) + (X i))), .int 1000000]) (w3 := w) rfl rfl ?_
    refine sx_RP.step (pc2 := 28) (ls2 := [(0, .ref 96), (1, .int (nI a)), (2, .int (nI b)), (3, .int (nI v)), (4, .int (nI i))]) (st2 := [.int ((nI ((v * 10) + (X i))) - 48), .int 1000000]) (w3 := w) rfl rfl ?_
    rw [show ((nI ((v * 10) + (X i))) - 48 : Int32) = nI (10 * v + (X i - 48)) from (nI_sub (a := ((v * 10) + (X i))) (b := 48) (by omega)).trans (congrArg nI (by omega))]
    refine sx_RP.cu (as := [.int 1000000, .int (nI (10 * v + (X i - 48)))]) (rest2 := []) (st3 := [.int (nI (min 1000000 (10 * v + (X i - 48))))]) rfl rfl rfl rfl rfl ((by have c := x97 (xs := xs) (d := d) hI (nI 1000000) (nI (10 * v + (X i - 48))); rw [nI_min (by decide) (by omega)] at c; exact c)) rfl ?_
    refine sx_RP.step (pc2 := 32) (ls2 := [(3, .int (nI (min 1000000 (10 * v + (X i - 48))))), (0, .ref 96), (1, .int (nI a)), (2, .int (nI b)), (4, .int (nI i))]) (st2 := []) (w3 := w) rfl rfl ?_
    refine sx_RP.step (pc2 := 35) (ls2 := [(4, .int ((nI i) + 1)), (3, .int (nI (min 1000000 (10 * v + (X i - 48))))), (0, .ref 96), (1, .int (nI a)), (2, .int (nI b))]) (st2 := []) (w3 := w) rfl rfl ?_
    rw [nI_1 i]
    refine sx_RP.step (pc2 := 5) (ls2 := [(4, .int (nI (i + 1))), (3, .int (nI (min 1000000 (10 * v + (X i - 48))))), (0, .ref 96), (1, .int (nI a)), (2, .int (nI b))]) (st2 := []) (w3 := w) rfl rfl ?_
    exact sx_RP.ls (sx_lr.cons rfl (sx_lr.cons rfl (sx_lr.cons rfl (sx_lr.cons rfl (sx_lr.cons rfl sx_lr.nil))))) (x96L hI hC hb hd0 fz (i + 1) (min 1000000 (10 * v + (X i - 48))) (by omega) (by omega) (Nat.min_le_left _ _))
set_option maxRecDepth 20000 in
set_option maxHeartbeats 4000000 in
theorem x96 {xs : Option (List Int32)} {d : Nat} {w : List sx_C} (hI : WI w) {n a b : Nat} {X : Nat → Nat} (hC : CT n X w) (hab : a ≤ b) (hb : b ≤ n) (hd0 : ∀ j, a ≤ j → j < b → digi (X j) = true) : sx_RU xs (d + 1) 96 0 (lv_args 0 [.ref 96, .int (nI a), .int (nI b)]) [] w (some (.int (nI (nuV 1000000 X 0 a (b - a))))) w := by
  have h : sx_RP xs (d + 1) 96 0 (lv_args 0 [.ref 96, .int (nI a), .int (nI b)]) [] w (fun r9 w2 => r9 = some (.int (nI (nuV 1000000 X 0 a (b - a)))) ∧ w2 = w) := by
    refine sx_RP.step (pc2 := 1) (ls2 := [(0, .ref 96), (1, .int (nI a)), (2, .int (nI b))]) (st2 := [.int 0]) (w3 := w) rfl rfl ?_
    refine sx_RP.step (pc2 := 2) (ls2 := [(3, .int 0), (0, .ref 96), (1, .int (nI a)), (2, .int (nI b))]) (st2 := []) (w3 := w) rfl rfl ?_
    refine sx_RP.step (pc2 := 3) (ls2 := [(3, .int 0), (0, .ref 96), (1, .int (nI a)), (2, .int (nI b))]) (st2 := [.int (nI a)]) (w3 := w) rfl rfl ?_
    refine sx_RP.step (pc2 := 5) (ls2 := [(4, .int (nI a)), (3, .int 0), (0, .ref 96), (1, .int (nI a)), (2, .int (nI b))]) (st2 := []) (w3 := w) rfl rfl ?_
    exact sx_RP.ls (sx_lr.cons rfl (sx_lr.cons rfl (sx_lr.cons rfl (sx_lr.cons rfl (sx_lr.cons rfl sx_lr.nil))))) (x96L hI hC hb hd0 (b - a) a 0 (by omega) (Nat.le_refl _) (by omega))
  obtain ⟨r9, w2, h1, rfl, rfl⟩ := h
  exact h1
theorem CT.lt {n : Nat} {X : Nat → Nat} {w : List sx_C} (h : CT n X w) {i : Nat} (hi : i < n) : X i < 256 := (h.2.2 i hi).2
set_option maxRecDepth 20000 in
set_option maxHeartbeats 4000000 in
theorem X94a {xs : Option (List Int32)} {d n : Nat} {X : Nat → Nat} {w : List sx_C} {P : Option Value → List sx_C → Prop} (hI : WI w) (hC : CT n X w) : ∀ (fz i : Nat), n ≤ i + fz → i ≤ n → (∀ e, e = rE blk n X i → sx_RP xs (d + 2) 94 30 [(0, .ref 96), (1, .int (nI e))] [] w P) → sx_RP xs (d + 2) 94 5 [(0, .ref 96), (1, .int (nI i))] [] w P
  | fz, i, hf, hi, kk => by
    have hn := hC.2.1
    refine sx_RP.step (pc2 := 6) (ls2 := [(0, .ref 96), (1, .int (nI i))]) (st2 := [.int (nI i)]) (w3 := w) rfl rfl ?_
    refine sx_RP.step (pc2 := 7) (ls2 := [(0, .ref 96), (1, .int (nI i))]) (st2 := [.ref 96, .int (nI i)]) (w3 := w) rfl rfl ?_
    refine sx_RP.gt (k := 1) hI rfl rfl (by decide) (show _ = 10 from rfl) ?_
    rw [hC.1]
    refine sx_RP.br (p1 := 30) (l1 := [(0, .ref 96), (1, .int (nI i))]) (s1 := []) (v1 := w) (p2 := 13) (l2 := [(0, .ref 96), (1, .int (nI i))]) (s2 := []) (v2 := w) rfl rfl (fun q1 => ?_) (fun q1 => ?_)
    · replace q1 := of_decide_eq_true q1
      replace q1 := (nI_leI (a := n) (b := i) (by omega) (by omega)).mp q1
      exact sx_RP.ls (sx_lr.cons rfl (sx_lr.cons rfl sx_lr.nil)) (kk i (rE_n (fun z => absurd z.1 (by omega))).symm)
    · replace q1 := of_decide_eq_false q1
      replace q1 := mt (nI_leI (a := n) (b := i) (by omega) (by omega)).mpr q1
      refine sx_RP.step (pc2 := 14) (ls2 := [(0, .ref 96), (1, .int (nI i))]) (st2 := [.ref 96]) (w3 := w) rfl rfl ?_
      refine sx_RP.gf (v := .ref 97) rfl rfl hI.1.o96 rfl rfl (show _ = 17 from rfl) ?_
      refine sx_RP.step (pc2 := 18) (ls2 := [(0, .ref 96), (1, .int (nI i))]) (st2 := [.int (nI i), .ref 97]) (w3 := w) rfl rfl ?_
      refine sx_RP.bld2 (c := i) rfl hI.1.a97.1 hI.1.a97.2 (sx_in_nI (show i < 120 by omega) (by decide)) (nI_clamp (by omega)) (show _ = 19 from rfl) ?_
      rw [(hC.2.2 (i) (by omega)).1]
      refine sx_RP.step (pc2 := 21) (ls2 := [(0, .ref 96), (1, .int (nI i))]) (st2 := [.int 32, .int (sgn (X (i)))]) (w3 := w) rfl rfl ?_
      refine sx_RP.br (p1 := 30) (l1 := [(0, .ref 96), (1, .int (nI i))]) (s1 := []) (v1 := w) (p2 := 24) (l2 := [(0, .ref 96), (1, .int (nI i))]) (s2 := []) (v2 := w) rfl rfl (fun q2 => ?_) (fun q2 => ?_)
      · replace q2 := of_decide_eq_true q2
        exact sx_RP.ls (sx_lr.cons rfl (sx_lr.cons rfl sx_lr.nil)) (kk i (rE_n (fun z => q2 ((sgn32 (hC.lt (by omega))).mpr z.2))).symm)
      · replace q2 := Decidable.not_not.mp (of_decide_eq_false q2)
        refine sx_RP.step (pc2 := 27) (ls2 := [(1, .int ((nI i) + 1)), (0, .ref 96)]) (st2 := []) (w3 := w) rfl rfl ?_
        rw [nI_1 i]
        refine sx_RP.step (pc2 := 5) (ls2 := [(1, .int (nI (i + 1))), (0, .ref 96)]) (st2 := []) (w3 := w) rfl rfl ?_
        match fz, hf with
        | 0, hf => exact absurd hf (by omega)
        | fz + 1, hf => exact sx_RP.ls (sx_lr.cons rfl (sx_lr.cons rfl sx_lr.nil)) (X94a hI hC fz (i + 1) (by omega) (by omega) (fun e he => kk e (he.trans (rE_y (by omega) ((sgn32 (hC.lt (by omega))).mp q2)).symm)))
set_option maxRecDepth 20000 in
set_option maxHeartbeats 4000000 in
theorem X94b {xs : Option (List Int32)} {d n s : Nat} {X : Nat → Nat} {w : List sx_C} {q : Nat → Bool} {P : Option Value → List sx_C → Prop} (hI : WI w) (hC : CT n X w) (hs : fi w 96 2 = nI s) (hs4 : s ≤ 4) (hq : ∀ j, j < n → (sortN (X j) = s ↔ q (X j) = true)) : ∀ (fz i : Nat), n ≤ i + fz → i ≤ n → (∀ e, e = rE q n X i → sx_RP xs (d + 2) 94 121 [(0, .ref 96), (1, .int (nI e))] [] w P) → sx_RP xs (d + 2) 94 91 [(0, .ref 96), (1, .int (nI i))] [] w P
  | fz, i, hf, hi, kk => by
    have hn := hC.2.1
    have hsl : ∀ j, j < n → sortN (X j) ≤ 4 := fun j hj => (sort_le ⟨X j, hC.lt hj⟩).2
    refine sx_RP.step (pc2 := 92) (ls2 := [(0, .ref 96), (1, .int (nI i))]) (st2 := [.int (nI i)]) (w3 := w) rfl rfl ?_
    refine sx_RP.step (pc2 := 93) (ls2 := [(0, .ref 96), (1, .int (nI i))]) (st2 := [.ref 96, .int (nI i)]) (w3 := w) rfl rfl ?_
    refine sx_RP.gt (k := 1) hI rfl rfl (by decide) (show _ = 96 from rfl) ?_
    rw [hC.1]
    refine sx_RP.br (p1 := 121) (l1 := [(0, .ref 96), (1, .int (nI i))]) (s1 := []) (v1 := w) (p2 := 99) (l2 := [(0, .ref 96), (1, .int (nI i))]) (s2 := []) (v2 := w) rfl rfl (fun q1 => ?_) (fun q1 => ?_)
    · replace q1 := of_decide_eq_true q1
      replace q1 := (nI_leI (a := n) (b := i) (by omega) (by omega)).mp q1
      exact sx_RP.ls (sx_lr.cons rfl (sx_lr.cons rfl sx_lr.nil)) (kk i (rE_n (fun z => absurd z.1 (by omega))).symm)
    · replace q1 := of_decide_eq_false q1
      replace q1 := mt (nI_leI (a := n) (b := i) (by omega) (by omega)).mpr q1
      refine sx_RP.step (pc2 := 100) (ls2 := [(0, .ref 96), (1, .int (nI i))]) (st2 := [.ref 96]) (w3 := w) rfl rfl ?_
      refine sx_RP.gf (v := .ref 97) rfl rfl hI.1.o96 rfl rfl (show _ = 103 from rfl) ?_
      refine sx_RP.step (pc2 := 104) (ls2 := [(0, .ref 96), (1, .int (nI i))]) (st2 := [.int (nI i), .ref 97]) (w3 := w) rfl rfl ?_
      refine sx_RP.bld2 (c := i) rfl hI.1.a97.1 hI.1.a97.2 (sx_in_nI (show i < 120 by omega) (by decide)) (nI_clamp (by omega)) (show _ = 105 from rfl) ?_
      rw [(hC.2.2 (i) (by omega)).1]
      refine sx_RP.cu (as := [.int (sgn (X (i)))]) (rest2 := []) (st3 := [.int (nI (sortN (X (i))))]) rfl rfl rfl rfl rfl (x95 hI (hC.2.2 (i) (by omega)).2) rfl ?_
      refine sx_RP.step (pc2 := 109) (ls2 := [(0, .ref 96), (1, .int (nI i))]) (st2 := [.ref 96, .int (nI (sortN (X (i))))]) (w3 := w) rfl rfl ?_
      refine sx_RP.gt (k := 2) hI rfl rfl (by decide) (show _ = 112 from rfl) ?_
      rw [hs]
      refine sx_RP.br (p1 := 121) (l1 := [(0, .ref 96), (1, .int (nI i))]) (s1 := []) (v1 := w) (p2 := 115) (l2 := [(0, .ref 96), (1, .int (nI i))]) (s2 := []) (v2 := w) rfl rfl (fun q2 => ?_) (fun q2 => ?_)
      · replace q2 := of_decide_eq_true q2
        replace q2 := mt (nI_eq (a := sortN (X i)) (b := s) (by have := hsl i (by omega); omega) (by omega)).mpr q2
        exact sx_RP.ls (sx_lr.cons rfl (sx_lr.cons rfl sx_lr.nil)) (kk i (rE_n (fun z => q2 ((hq i (by omega)).mpr z.2))).symm)
      · replace q2 := Decidable.not_not.mp (of_decide_eq_false q2)
        replace q2 := (nI_eq (a := sortN (X i)) (b := s) (by have := hsl i (by omega); omega) (by omega)).mp q2
        refine sx_RP.step (pc2 := 118) (ls2 := [(1, .int ((nI i) + 1)), (0, .ref 96)]) (st2 := []) (w3 := w) rfl rfl ?_
        rw [nI_1 i]
        refine sx_RP.step (pc2 := 91) (ls2 := [(1, .int (nI (i + 1))), (0, .ref 96)]) (st2 := []) (w3 := w) rfl rfl ?_
        match fz, hf with
        | 0, hf => exact absurd hf (by omega)
        | fz + 1, hf => exact sx_RP.ls (sx_lr.cons rfl (sx_lr.cons rfl sx_lr.nil)) (X94b hI hC hs hs4 hq fz (i + 1) (by omega) (by omega) (fun e he => kk e (he.trans (rE_y (by omega) ((hq i (by omega)).mp q2)).symm)))
set_option maxRecDepth 20000 in
set_option maxHeartbeats 4000000 in
theorem X94 {xs : Option (List Int32)} {d : Nat} {w : List sx_C} (hI : WI w) {n b : Nat} {X : Nat → Nat} (hC : CT n X w) (hb : fi w 96 4 = nI b) (hbn : b ≤ n) : sx_RP xs (d + 2) 94 0 (lv_args 0 [.ref 96]) [] w (fun r w2 => (r = none ∧ TK' n X (rE blk n X b) w2 ∧ fi w2 96 1 = fi w 96 1) ∧ WI w2 ∧ Same 96 w w2) := by
  have hn := hC.2.1
  refine sx_RP.step (pc2 := 1) (ls2 := [(0, .ref 96)]) (st2 := [.ref 96]) (w3 := w) rfl rfl ?_
  refine sx_RP.gt (k := 4) hI rfl rfl (by decide) (show _ = 4 from rfl) ?_
  rw [hb]
  refine sx_RP.step (pc2 := 5) (ls2 := [(1, .int (nI b)), (0, .ref 96)]) (st2 := []) (w3 := w) rfl rfl ?_
  refine sx_RP.ls (sx_lr.cons rfl (sx_lr.cons rfl sx_lr.nil)) (X94a hI hC n b (by omega) (by omega) (fun e he => ?_))
  have hge : b ≤ e := by rw [he]; exact rE_ge
  have hle : e ≤ n := by rw [he]; exact rE_le hbn
  rw [← he]
  have hsl : e < n → 1 ≤ sortN (X e) ∧ sortN (X e) ≤ 4 := fun h => sort_le ⟨X e, hC.lt h⟩
  refine sx_RP.step (pc2 := 31) (ls2 := [(0, .ref 96), (1, .int (nI e))]) (st2 := [.ref 96]) (w3 := w) rfl rfl ?_
  refine sx_RP.step (pc2 := 32) (ls2 := [(0, .ref 96), (1, .int (nI e))]) (st2 := [.int (nI e), .ref 96]) (w3 := w) rfl rfl ?_
  refine sx_RP.xP (k := 3) hI rfl rfl (by decide) rfl ⟨e, by omega, rfl⟩ (show _ = 35 from rfl) (fun w1 hI2 hs3 hv4 hr5 => ?_)
  have hC6 := hC.same (hr5 1 (by decide)) (ia_of (hs3 97 (by decide)))
  have ex7 := (hr5 1 (by decide)).trans hC.1
  have ex8 := (hr5 4 (by decide)).trans hb
  refine sx_RP.step (pc2 := 36) (ls2 := [(0, .ref 96), (1, .int (nI e))]) (st2 := [.ref 96]) (w3 := w1) rfl rfl ?_
  refine sx_RP.step (pc2 := 37) (ls2 := [(0, .ref 96), (1, .int (nI e))]) (st2 := [.int (nI e), .ref 96]) (w3 := w1) rfl rfl ?_
  refine sx_RP.step (pc2 := 38) (ls2 := [(0, .ref 96), (1, .int (nI e))]) (st2 := [.ref 96, .int (nI e), .ref 96]) (w3 := w1) rfl rfl ?_
  refine sx_RP.gt (k := 1) hI2 rfl rfl (by decide) (show _ = 41 from rfl) ?_
  rw [ex7]
  refine sx_RP.br (p1 := 56) (l1 := [(0, .ref 96), (1, .int (nI e))]) (s1 := [.ref 96]) (v1 := w1) (p2 := 44) (l2 := [(0, .ref 96), (1, .int (nI e))]) (s2 := [.ref 96]) (v2 := w1) rfl rfl (fun q9 => ?_) (fun q9 => ?_)
  · replace q9 := of_decide_eq_true q9
    replace q9 := (nI_leI (a := n) (b := e) (by omega) (by omega)).mp q9
    refine sx_RP.step (pc2 := 57) (ls2 := [(0, .ref 96), (1, .int (nI e))]) (st2 := [.int 0, .ref 96]) (w3 := w1) rfl rfl ?_
    refine sx_RP.xP (k := 2) hI2 rfl rfl (by decide) rfl trivial (show _ = 60 from rfl) (fun w10 hI11 hs12 hv13 hr14 => ?_)
    have hC15 := hC6.same (hr14 1 (by decide)) (ia_of (hs12 97 (by decide)))
    have ex16 := (hr14 1 (by decide)).trans ex7
    have ex17 := (hr14 4 (by decide)).trans ex8
    have ex18 := (hr14 3 (by decide)).trans hv4
    refine sx_RP.step (pc2 := 61) (ls2 := [(0, .ref 96), (1, .int (nI e))]) (st2 := [.ref 96]) (w3 := w10) rfl rfl ?_
    refine sx_RP.step (pc2 := 62) (ls2 := [(0, .ref 96), (1, .int (nI e))]) (st2 := [.int 0, .ref 96]) (w3 := w10) rfl rfl ?_
    refine sx_RP.xP (k := 5) hI11 rfl rfl (by decide) rfl trivial (show _ = 65 from rfl) (fun w19 hI20 hs21 hv22 hr23 => ?_)
    have hC24 := hC15.same (hr23 1 (by decide)) (ia_of (hs21 97 (by decide)))
    have ex25 := (hr23 1 (by decide)).trans ex16
    have ex26 := (hr23 4 (by decide)).trans ex17
    have ex27 := (hr23 3 (by decide)).trans ex18
    have ex28 := (hr23 2 (by decide)).trans hv13
    refine sx_RP.step (pc2 := 66) (ls2 := [(0, .ref 96), (1, .int (nI e))]) (st2 := [.ref 96]) (w3 := w19) rfl rfl ?_
    refine sx_RP.gt (k := 2) hI20 rfl rfl (by decide) (show _ = 69 from rfl) ?_
    rw [ex28]
    refine sx_RP.step (pc2 := 75) (ls2 := [(0, .ref 96), (1, .int (nI e))]) (st2 := []) (w3 := w19) rfl rfl ?_
    refine sx_RP.step (pc2 := 76) (ls2 := [(0, .ref 96), (1, .int (nI e))]) (st2 := [.ref 96]) (w3 := w19) rfl rfl ?_
    refine sx_RP.gt (k := 2) hI20 rfl rfl (by decide) (show _ = 79 from rfl) ?_
    rw [ex28]
    refine sx_RP.step (pc2 := 80) (ls2 := [(0, .ref 96), (1, .int (nI e))]) (st2 := [.int 1, .int 0]) (w3 := w19) rfl rfl ?_
    refine sx_RP.step (pc2 := 83) (ls2 := [(0, .ref 96), (1, .int (nI e))]) (st2 := []) (w3 := w19) rfl rfl ?_
    refine sx_RP.step (pc2 := 84) (ls2 := [(0, .ref 96), (1, .int (nI e))]) (st2 := [.ref 96]) (w3 := w19) rfl rfl ?_
    refine sx_RP.gt (k := 2) hI20 rfl rfl (by decide) (show _ = 87 from rfl) ?_
    rw [ex28]
    refine sx_RP.step (pc2 := 88) (ls2 := [(0, .ref 96), (1, .int (nI e))]) (st2 := [.int 2, .int 0]) (w3 := w19) rfl rfl ?_
    refine sx_RP.step (pc2 := 121) (ls2 := [(0, .ref 96), (1, .int (nI e))]) (st2 := []) (w3 := w19) rfl rfl ?_
    refine sx_RP.step (pc2 := 122) (ls2 := [(0, .ref 96), (1, .int (nI e))]) (st2 := [.ref 96]) (w3 := w19) rfl rfl ?_
    refine sx_RP.step (pc2 := 123) (ls2 := [(0, .ref 96), (1, .int (nI e))]) (st2 := [.int (nI e), .ref 96]) (w3 := w19) rfl rfl ?_
    refine sx_RP.xP (k := 4) hI20 rfl rfl (by decide) rfl ⟨e, by omega, rfl⟩ (show _ = 126 from rfl) (fun w29 hI30 hs31 hv32 hr33 => ?_)
    have hC34 := hC24.same (hr33 1 (by decide)) (ia_of (hs31 97 (by decide)))
    have ex35 := (hr33 1 (by decide)).trans ex25
    have ex36 := (hr33 3 (by decide)).trans ex27
    have ex37 := (hr33 2 (by decide)).trans ex28
    have ex38 := (hr33 5 (by decide)).trans hv22
    refine sx_RP.step (pc2 := 127) (ls2 := [(0, .ref 96), (1, .int (nI e))]) (st2 := [.ref 96]) (w3 := w29) rfl rfl ?_
    refine sx_RP.gt (k := 2) hI30 rfl rfl (by decide) (show _ = 130 from rfl) ?_
    rw [ex37]
    refine sx_RP.step (pc2 := 131) (ls2 := [(0, .ref 96), (1, .int (nI e))]) (st2 := [.int 2, .int 0]) (w3 := w29) rfl rfl ?_
    refine sx_RP.step (pc2 := 150) (ls2 := [(0, .ref 96), (1, .int (nI e))]) (st2 := []) (w3 := w29) rfl rfl ?_
    refine sx_RP.ret (r := none) rfl rfl ?_
    have hlt : ¬ e < n := by omega
    have so : soT n X e = 0 := if_neg hlt
    have be : beT n X e = e := if_neg hlt
    have va : vaT n X e = 0 := by unfold vaT; rw [if_neg (by rw [so]; decide)]
    exact ⟨⟨rfl, ⟨ex36, by rw [so]; exact ex37, by rw [be]; exact hv32, by rw [va]; exact ex38⟩, (hr33 1 (by decide)).trans ((hr23 1 (by decide)).trans ((hr14 1 (by decide)).trans ((hr5 1 (by decide)).trans (rfl))))⟩, hI30, (Same.tr (Same.tr (Same.tr (Same.tr Same.rf hs3) hs12) hs21) hs31)⟩
  · replace q9 := of_decide_eq_false q9
    replace q9 := mt (nI_leI (a := n) (b := e) (by omega) (by omega)).mpr q9
    refine sx_RP.step (pc2 := 45) (ls2 := [(0, .ref 96), (1, .int (nI e))]) (st2 := [.ref 96, .ref 96]) (w3 := w1) rfl rfl ?_
    refine sx_RP.gf (v := .ref 97) rfl rfl hI2.1.o96 rfl rfl (show _ = 48 from rfl) ?_
    refine sx_RP.step (pc2 := 49) (ls2 := [(0, .ref 96), (1, .int (nI e))]) (st2 := [.int (nI e), .ref 97, .ref 96]) (w3 := w1) rfl rfl ?_
    refine sx_RP.bld2 (c := e) rfl hI2.1.a97.1 hI2.1.a97.2 (sx_in_nI (show e < 120 by omega) (by decide)) (nI_clamp (by omega)) (show _ = 50 from rfl) ?_
    rw [(hC6.2.2 (e) (by omega)).1]
    refine sx_RP.cu (as := [.int (sgn (X (e)))]) (rest2 := [.ref 96]) (st3 := [.int (nI (sortN (X (e)))), .ref 96]) rfl rfl rfl rfl rfl (x95 hI2 (hC6.2.2 (e) (by omega)).2) rfl ?_
    refine sx_RP.step (pc2 := 57) (ls2 := [(0, .ref 96), (1, .int (nI e))]) (st2 := [.int (nI (sortN (X (e)))), .ref 96]) (w3 := w1) rfl rfl ?_
    refine sx_RP.xP (k := 2) hI2 rfl rfl (by decide) rfl trivial (show _ = 60 from rfl) (fun w39 hI40 hs41 hv42 hr43 => ?_)
    have hC44 := hC6.same (hr43 1 (by decide)) (ia_of (hs41 97 (by decide)))
    have ex45 := (hr43 1 (by decide)).trans ex7
    have ex46 := (hr43 4 (by decide)).trans ex8
    have ex47 := (hr43 3 (by decide)).trans hv4
    refine sx_RP.step (pc2 := 61) (ls2 := [(0, .ref 96), (1, .int (nI e))]) (st2 := [.ref 96]) (w3 := w39) rfl rfl ?_
    refine sx_RP.step (pc2 := 62) (ls2 := [(0, .ref 96), (1, .int (nI e))]) (st2 := [.int 0, .ref 96]) (w3 := w39) rfl rfl ?_
    refine sx_RP.xP (k := 5) hI40 rfl rfl (by decide) rfl trivial (show _ = 65 from rfl) (fun w48 hI49 hs50 hv51 hr52 => ?_)
    have hC53 := hC44.same (hr52 1 (by decide)) (ia_of (hs50 97 (by decide)))
    have ex54 := (hr52 1 (by decide)).trans ex45
    have ex55 := (hr52 4 (by decide)).trans ex46
    have ex56 := (hr52 3 (by decide)).trans ex47
    have ex57 := (hr52 2 (by decide)).trans hv42
    refine sx_RP.step (pc2 := 66) (ls2 := [(0, .ref 96), (1, .int (nI e))]) (st2 := [.ref 96]) (w3 := w48) rfl rfl ?_
    refine sx_RP.gt (k := 2) hI49 rfl rfl (by decide) (show _ = 69 from rfl) ?_
    rw [ex57]
    refine sx_RP.br (p2 := 72) (l2 := [(0, .ref 96), (1, .int (nI e))]) (s2 := []) (v2 := w48) rfl rfl (fun q => absurd (of_decide_eq_true q) (fun z => absurd ((nI_eq (a := sortN (X e)) (b := 0) (by have := hsl (by omega); omega) (by omega)).mp z) (by have := hsl (by omega); omega))) (fun _ => ?_)
    refine sx_RP.step (pc2 := 75) (ls2 := [(1, .int ((nI e) + 1)), (0, .ref 96)]) (st2 := []) (w3 := w48) rfl rfl ?_
    rw [nI_1 e]
    refine sx_RP.step (pc2 := 76) (ls2 := [(1, .int (nI (e + 1))), (0, .ref 96)]) (st2 := [.ref 96]) (w3 := w48) rfl rfl ?_
    refine sx_RP.gt (k := 2) hI49 rfl rfl (by decide) (show _ = 79 from rfl) ?_
    rw [ex57]
    refine sx_RP.step (pc2 := 80) (ls2 := [(1, .int (nI (e + 1))), (0, .ref 96)]) (st2 := [.int 1, .int (nI (sortN (X (e))))]) (w3 := w48) rfl rfl ?_
    refine sx_RP.br (p1 := 91) (l1 := [(1, .int (nI (e + 1))), (0, .ref 96)]) (s1 := []) (v1 := w48) (p2 := 83) (l2 := [(1, .int (nI (e + 1))), (0, .ref 96)]) (s2 := []) (v2 := w48) rfl rfl (fun q58 => ?_) (fun q58 => ?_)
    · replace q58 := of_decide_eq_true q58
      replace q58 := (nI_eq (a := (sortN (X (e)))) (b := 1) (by omega) (by omega)).mp q58
      have hs59 : fi w48 96 2 = nI 1 := by rw [ex57, q58]
      refine sx_RP.ls (sx_lr.cons rfl (sx_lr.cons rfl sx_lr.nil)) (X94b (q := lett) hI49 hC53 hs59 (by decide) (fun j hj => sort_1 ⟨X j, hC.lt hj⟩) n (e + 1) (by omega) (by omega) (fun e60 he61 => ?_))
      have hge2 : e + 1 ≤ e60 := by rw [he61]; exact rE_ge
      have hle2 : e60 ≤ n := by rw [he61]; exact rE_le (by omega)
      refine sx_RP.step (pc2 := 122) (ls2 := [(0, .ref 96), (1, .int (nI e60))]) (st2 := [.ref 96]) (w3 := w48) rfl rfl ?_
      refine sx_RP.step (pc2 := 123) (ls2 := [(0, .ref 96), (1, .int (nI e60))]) (st2 := [.int (nI e60), .ref 96]) (w3 := w48) rfl rfl ?_
      refine sx_RP.xP (k := 4) hI49 rfl rfl (by decide) rfl ⟨e60, by omega, rfl⟩ (show _ = 126 from rfl) (fun w62 hI63 hs64 hv65 hr66 => ?_)
      have hC67 := hC53.same (hr66 1 (by decide)) (ia_of (hs64 97 (by decide)))
      have ex68 := (hr66 1 (by decide)).trans ex54
      have ex69 := (hr66 3 (by decide)).trans ex56
      have ex70 := (hr66 2 (by decide)).trans hs59
      have ex71 := (hr66 5 (by decide)).trans hv51
      refine sx_RP.step (pc2 := 127) (ls2 := [(0, .ref 96), (1, .int (nI e60))]) (st2 := [.ref 96]) (w3 := w62) rfl rfl ?_
      refine sx_RP.gt (k := 2) hI63 rfl rfl (by decide) (show _ = 130 from rfl) ?_
      rw [ex70]
      refine sx_RP.step (pc2 := 131) (ls2 := [(0, .ref 96), (1, .int (nI e60))]) (st2 := [.int 2, .int 1]) (w3 := w62) rfl rfl ?_
      refine sx_RP.step (pc2 := 150) (ls2 := [(0, .ref 96), (1, .int (nI e60))]) (st2 := []) (w3 := w62) rfl rfl ?_
      refine sx_RP.ret (r := none) rfl rfl ?_
      have hlt : e < n := by omega
      have so : soT n X e = sortN (X e) := if_pos hlt
      have be : beT n X e = e60 := by
        unfold beT
        rw [if_pos hlt, if_pos q58, he61]
      have va : vaT n X e = 0 := by unfold vaT; rw [if_neg (by rw [so]; omega)]
      exact ⟨⟨rfl, ⟨ex69, by rw [so, q58]; exact ex70, by rw [be]; exact hv65, by rw [va]; exact ex71⟩, (hr66 1 (by decide)).trans ((hr52 1 (by decide)).trans ((hr43 1 (by decide)).trans ((hr5 1 (by decide)).trans (rfl))))⟩, hI63, (Same.tr (Same.tr (Same.tr (Same.tr Same.rf hs3) hs41) hs50) hs64)⟩
    · replace q58 := of_decide_eq_false q58
      replace q58 := mt (nI_eq (a := (sortN (X (e)))) (b := 1) (by omega) (by omega)).mpr q58
      refine sx_RP.step (pc2 := 84) (ls2 := [(1, .int (nI (e + 1))), (0, .ref 96)]) (st2 := [.ref 96]) (w3 := w48) rfl rfl ?_
      refine sx_RP.gt (k := 2) hI49 rfl rfl (by decide) (show _ = 87 from rfl) ?_
      rw [ex57]
      refine sx_RP.step (pc2 := 88) (ls2 := [(1, .int (nI (e + 1))), (0, .ref 96)]) (st2 := [.int 2, .int (nI (sortN (X (e))))]) (w3 := w48) rfl rfl ?_
      refine sx_RP.br (p1 := 121) (l1 := [(1, .int (nI (e + 1))), (0, .ref 96)]) (s1 := []) (v1 := w48) (p2 := 91) (l2 := [(1, .int (nI (e + 1))), (0, .ref 96)]) (s2 := []) (v2 := w48) rfl rfl (fun q72 => ?_) (fun q72 => ?_)
      · replace q72 := of_decide_eq_true q72
        replace q72 := mt (nI_eq (a := (sortN (X (e)))) (b := 2) (by omega) (by omega)).mpr q72
        refine sx_RP.step (pc2 := 122) (ls2 := [(1, .int (nI (e + 1))), (0, .ref 96)]) (st2 := [.ref 96]) (w3 := w48) rfl rfl ?_
        refine sx_RP.step (pc2 := 123) (ls2 := [(1, .int (nI (e + 1))), (0, .ref 96)]) (st2 := [.int (nI (e + 1)), .ref 96]) (w3 := w48) rfl rfl ?_
        refine sx_RP.xP (k := 4) hI49 rfl rfl (by decide) rfl ⟨(e + 1), by omega, rfl⟩ (show _ = 126 from rfl) (fun w73 hI74 hs75 hv76 hr77 => ?_)
        have hC78 := hC53.same (hr77 1 (by decide)) (ia_of (hs75 97 (by decide)))
        have ex79 := (hr77 1 (by decide)).trans ex54
        have ex80 := (hr77 3 (by decide)).trans ex56
        have ex81 := (hr77 2 (by decide)).trans ex57
        have ex82 := (hr77 5 (by decide)).trans hv51
        refine sx_RP.step (pc2 := 127) (ls2 := [(1, .int (nI (e + 1))), (0, .ref 96)]) (st2 := [.ref 96]) (w3 := w73) rfl rfl ?_
        refine sx_RP.gt (k := 2) hI74 rfl rfl (by decide) (show _ = 130 from rfl) ?_
        rw [ex81]
        refine sx_RP.step (pc2 := 131) (ls2 := [(1, .int (nI (e + 1))), (0, .ref 96)]) (st2 := [.int 2, .int (nI (sortN (X (e))))]) (w3 := w73) rfl rfl ?_
        refine sx_RP.br (p1 := 150) (l1 := [(1, .int (nI (e + 1))), (0, .ref 96)]) (s1 := []) (v1 := w73) rfl rfl (fun _ => ?_) (fun q => absurd (show ¬ nI (sortN (X e)) = 2 from (fun z => q72 ((nI_eq (a := sortN (X e)) (b := 2) (by have := hsl (by omega); omega) (by omega)).mp z))) (of_decide_eq_false q))
        refine sx_RP.ret (r := none) rfl rfl ?_
        first | exact absurd (hsl (by omega)).1 (by omega) | skip
        have hlt : e < n := by omega
        have so : soT n X e = sortN (X e) := if_pos hlt
        have be : beT n X e = e + 1 := by unfold beT; rw [if_pos hlt, if_neg (by omega), if_neg (by omega)]
        have va : vaT n X e = 0 := by unfold vaT; rw [if_neg (by rw [so]; omega)]
        exact ⟨⟨rfl, ⟨ex80, by rw [so]; exact ex81, by rw [be]; exact hv76, by rw [va]; exact ex82⟩, (hr77 1 (by decide)).trans ((hr52 1 (by decide)).trans ((hr43 1 (by decide)).trans ((hr5 1 (by decide)).trans (rfl))))⟩, hI74, (Same.tr (Same.tr (Same.tr (Same.tr Same.rf hs3) hs41) hs50) hs75)⟩
      · replace q72 := Decidable.not_not.mp (of_decide_eq_false q72)
        replace q72 := (nI_eq (a := (sortN (X (e)))) (b := 2) (by omega) (by omega)).mp q72
        have hs83 : fi w48 96 2 = nI 2 := by rw [ex57, q72]
        refine sx_RP.ls (sx_lr.cons rfl (sx_lr.cons rfl sx_lr.nil)) (X94b (q := digi) hI49 hC53 hs83 (by decide) (fun j hj => sort_2 ⟨X j, hC.lt hj⟩) n (e + 1) (by omega) (by omega) (fun e84 he85 => ?_))
        have hge2 : e + 1 ≤ e84 := by rw [he85]; exact rE_ge
        have hle2 : e84 ≤ n := by rw [he85]; exact rE_le (by omega)
        have hdg : ∀ j, e ≤ j → j < e84 → digi (X j) = true := fun j h1 h2 => by
          by_cases hj : j = e
          · rw [hj]; exact (sort_2 ⟨X e, hC.lt (by omega)⟩).mp q72
          · exact (rE_in (i := e + 1) (by omega) (by rw [← he85]; exact h2)).2
        refine sx_RP.step (pc2 := 122) (ls2 := [(0, .ref 96), (1, .int (nI e84))]) (st2 := [.ref 96]) (w3 := w48) rfl rfl ?_
        refine sx_RP.step (pc2 := 123) (ls2 := [(0, .ref 96), (1, .int (nI e84))]) (st2 := [.int (nI e84), .ref 96]) (w3 := w48) rfl rfl ?_
        refine sx_RP.xP (k := 4) hI49 rfl rfl (by decide) rfl ⟨e84, by omega, rfl⟩ (show _ = 126 from rfl) (fun w86 hI87 hs88 hv89 hr90 => ?_)
        have hC91 := hC53.same (hr90 1 (by decide)) (ia_of (hs88 97 (by decide)))
        have ex92 := (hr90 1 (by decide)).trans ex54
        have ex93 := (hr90 3 (by decide)).trans ex56
        have ex94 := (hr90 2 (by decide)).trans hs83
        have ex95 := (hr90 5 (by decide)).trans hv51
        refine sx_RP.step (pc2 := 127) (ls2 := [(0, .ref 96), (1, .int (nI e84))]) (st2 := [.ref 96]) (w3 := w86) rfl rfl ?_
        refine sx_RP.gt (k := 2) hI87 rfl rfl (by decide) (show _ = 130 from rfl) ?_
        rw [ex94]
        refine sx_RP.step (pc2 := 131) (ls2 := [(0, .ref 96), (1, .int (nI e84))]) (st2 := [.int 2, .int 2]) (w3 := w86) rfl rfl ?_
        refine sx_RP.step (pc2 := 134) (ls2 := [(0, .ref 96), (1, .int (nI e84))]) (st2 := []) (w3 := w86) rfl rfl ?_
        refine sx_RP.step (pc2 := 135) (ls2 := [(0, .ref 96), (1, .int (nI e84))]) (st2 := [.ref 96]) (w3 := w86) rfl rfl ?_
        refine sx_RP.step (pc2 := 136) (ls2 := [(0, .ref 96), (1, .int (nI e84))]) (st2 := [.ref 96, .ref 96]) (w3 := w86) rfl rfl ?_
        refine sx_RP.step (pc2 := 137) (ls2 := [(0, .ref 96), (1, .int (nI e84))]) (st2 := [.ref 96, .ref 96, .ref 96]) (w3 := w86) rfl rfl ?_
        refine sx_RP.gt (k := 3) hI87 rfl rfl (by decide) (show _ = 140 from rfl) ?_
        rw [ex93]
        refine sx_RP.step (pc2 := 141) (ls2 := [(0, .ref 96), (1, .int (nI e84))]) (st2 := [.ref 96, .int (nI e), .ref 96, .ref 96]) (w3 := w86) rfl rfl ?_
        refine sx_RP.gt (k := 4) hI87 rfl rfl (by decide) (show _ = 144 from rfl) ?_
        rw [hv89]
        refine sx_RP.cu (as := [.ref 96, .int (nI e), .int (nI e84)]) (rest2 := [.ref 96]) (st3 := [.int (nI (nuV 1000000 X 0 e (e84 - e))), .ref 96]) rfl rfl (sx_inv_v2 (mi := 94) (k := 162) (st := [.int (nI e84), .int (nI e), .ref 96, .ref 96]) (w := w86) rfl rfl hI87.1.o96 rfl rfl rfl) rfl rfl (x96 hI87 hC91 (by omega) (by omega) hdg) rfl ?_
        refine sx_RP.xP (k := 5) hI87 rfl rfl (by decide) rfl trivial (show _ = 150 from rfl) (fun w96 hI97 hs98 hv99 hr100 => ?_)
        have hC101 := hC91.same (hr100 1 (by decide)) (ia_of (hs98 97 (by decide)))
        have ex102 := (hr100 1 (by decide)).trans ex92
        have ex103 := (hr100 3 (by decide)).trans ex93
        have ex104 := (hr100 2 (by decide)).trans ex94
        have ex105 := (hr100 4 (by decide)).trans hv89
        refine sx_RP.ret (r := none) rfl rfl ?_
        have hlt : e < n := by omega
        have so : soT n X e = sortN (X e) := if_pos hlt
        have be : beT n X e = e84 := by
          unfold beT
          rw [if_pos hlt, if_neg (by omega), if_pos q72, he85]
        have va : vaT n X e = nuV 1000000 X 0 e (e84 - e) := by unfold vaT; rw [if_pos (by rw [so]; exact q72), be]
        exact ⟨⟨rfl, ⟨ex103, by rw [so, q72]; exact ex104, by rw [be]; exact ex105, by rw [va]; exact hv99⟩, (hr100 1 (by decide)).trans ((hr90 1 (by decide)).trans ((hr52 1 (by decide)).trans ((hr43 1 (by decide)).trans ((hr5 1 (by decide)).trans (rfl)))))⟩, hI97, (Same.tr (Same.tr (Same.tr (Same.tr (Same.tr Same.rf hs3) hs41) hs50) hs88) hs98)⟩
def wc (k : UInt32) (i : Nat) : Int32 := (sx_sb.getD (k.toNat - 100) []).getD i 0
def wl (k : UInt32) : Nat := sx_sn.getD (k.toNat - 100) 0
def chE (X : Nat → Nat) (p : Nat) (k : UInt32) : Nat → Nat → Bool
  | 0, _ => true
  | f + 1, j => decide (nI (X (p + j)) = wc k j) && chE X p k f (j + 1)
/-- that word is the token at a place -/
def wdT (n : Nat) (X : Nat → Nat) (p : Nat) (k : UInt32) : Bool := decide (soT n X p = 1) && (decide (beT n X p - p = wl k) && chE X p k (wl k) 0)
def b01 (b : Bool) : Int32 := cond b 1 0
theorem wd_let {n p : Nat} {X : Nat → Nat} (h1 : soT n X p = 1) {j : Nat} (hj : p + j < beT n X p) : p + j < n ∧ lett (X (p + j)) = true := by
  unfold soT at h1
  split at h1
  · rename_i hp
    by_cases h256 : j = 0
    · subst h256
      refine ⟨hp, ?_⟩
      unfold sortN at h1
      cases hl : lett (X (p + 0)) with
      | true => rfl
      | false =>
        rw [Nat.add_zero] at hl
        rw [hl, cond_false] at h1
        cases hd : digi (X p) with
        | true => rw [hd, cond_true] at h1; exact absurd h1 (by decide)
        | false =>
          rw [hd, cond_false] at h1
          cases hs : (X p == 59) with
          | true => rw [hs, cond_true] at h1; exact absurd h1 (by decide)
          | false => rw [hs, cond_false] at h1; exact absurd h1 (by decide)
    · unfold beT at hj
      rw [if_pos hp, if_pos h1] at hj
      exact rE_in (i := p + 1) (by omega) hj
  · exact absurd h1 (by decide)
set_option maxRecDepth 20000 in
set_option maxHeartbeats 4000000 in
theorem x101L {xs : Option (List Int32)} {d n p : Nat} {X : Nat → Nat} {w : List sx_C} (hI : WI w) (hC : CT n X w) {k : UInt32} {m : Nat} (hk : 100 ≤ k.toNat ∧ k.toNat < 120) (en : sx_sn.getD (k.toNat - 100) 0 = m) (hm : m ≤ 7) (ep : fi w 96 3 = nI p) (hl : ∀ j, j < m → p + j < n ∧ lett (X (p + j)) = true) : ∀ (fz j : Nat), j + fz = m → sx_RP xs d 101 28 [(0, .ref 96), (1, .float k), (2, .int (nI j))] [] w (fun r2 w2 => r2 = some (.int (b01 (chE X p k fz j))) ∧ w2 = w)
  | 0, j, hj => by
    obtain rfl : j = m := by omega
    refine sx_RP.step (pc2 := 29) (ls2 := [(0, .ref 96), (1, .float k), (2, .int (nI j))]) (st2 := [.int (nI j)]) (w3 := w) rfl rfl ?_
    refine sx_RP.step (pc2 := 30) (ls2 := [(0, .ref 96), (1, .float k), (2, .int (nI j))]) (st2 := [.float k, .int (nI j)]) (w3 := w) rfl rfl ?_
    refine sx_RP.slen (n := j) hk en rfl rfl rfl (show _ = 33 from rfl) ?_
    refine sx_RP.br (p1 := 63) (l1 := [(0, .ref 96), (1, .float k), (2, .int (nI j))]) (s1 := []) (v1 := w) rfl rfl (fun _ => ?_) (fun q => absurd (nI_le (a := j) (b := j) (by omega) (by omega)) (of_decide_eq_false q))
    refine sx_RP.step (pc2 := 64) (ls2 := [(0, .ref 96), (1, .float k), (2, .int (nI j))]) (st2 := [.int 1]) (w3 := w) rfl rfl ?_
    refine sx_RP.ret (r := (some (.int 1))) rfl rfl ?_
    exact ⟨rfl, rfl⟩
  | fz + 1, j, hj => by
    have hn := hC.2.1
    have hpj := (hl j (by omega)).1
    refine sx_RP.step (pc2 := 29) (ls2 := [(0, .ref 96), (1, .float k), (2, .int (nI j))]) (st2 := [.int (nI j)]) (w3 := w) rfl rfl ?_
    refine sx_RP.step (pc2 := 30) (ls2 := [(0, .ref 96), (1, .float k), (2, .int (nI j))]) (st2 := [.float k, .int (nI j)]) (w3 := w) rfl rfl ?_
    refine sx_RP.slen (n := m) hk en rfl rfl rfl (show _ = 33 from rfl) ?_
    refine sx_RP.br (p2 := 36) (l2 := [(0, .ref 96), (1, .float k), (2, .int (nI j))]) (s2 := []) (v2 := w) rfl rfl (fun q => absurd (of_decide_eq_true q) (fun z => absurd ((nI_leI (a := m) (b := j) (by omega) (by omega)).mp z) (by omega))) (fun _ => ?_)
    refine sx_RP.step (pc2 := 37) (ls2 := [(0, .ref 96), (1, .float k), (2, .int (nI j))]) (st2 := [.ref 96]) (w3 := w) rfl rfl ?_
    refine sx_RP.gf (v := .ref 97) rfl rfl hI.1.o96 rfl rfl (show _ = 40 from rfl) ?_
    refine sx_RP.step (pc2 := 41) (ls2 := [(0, .ref 96), (1, .float k), (2, .int (nI j))]) (st2 := [.ref 96, .ref 97]) (w3 := w) rfl rfl ?_
    refine sx_RP.gt (k := 3) hI rfl rfl (by decide) (show _ = 44 from rfl) ?_
    rw [ep]
    refine sx_RP.step (pc2 := 45) (ls2 := [(0, .ref 96), (1, .float k), (2, .int (nI j))]) (st2 := [.int (nI j), .int (nI p), .ref 97]) (w3 := w) rfl rfl ?_
    refine sx_RP.step (pc2 := 46) (ls2 := [(0, .ref 96), (1, .float k), (2, .int (nI j))]) (st2 := [.int ((nI p) + (nI j)), .ref 97]) (w3 := w) rfl rfl ?_
    rw [show ((nI p) + (nI j) : Int32) = nI (p + j) from nI_add p j]
    refine sx_RP.bld2 (c := (p + j)) rfl hI.1.a97.1 hI.1.a97.2 (sx_in_nI (show (p + j) < 120 by omega) (by decide)) (nI_clamp (by omega)) (show _ = 47 from rfl) ?_
    rw [(hC.2.2 ((p + j)) (by omega)).1]
    rw [(sgn_let ⟨X (p + j), hC.lt (hl j (by omega)).1⟩ (hl j (by omega)).2).1]
    refine sx_RP.step (pc2 := 48) (ls2 := [(0, .ref 96), (1, .float k), (2, .int (nI j))]) (st2 := [.float k, .int (nI (X (p + j)))]) (w3 := w) rfl rfl ?_
    refine sx_RP.step (pc2 := 49) (ls2 := [(0, .ref 96), (1, .float k), (2, .int (nI j))]) (st2 := [.int (nI j), .float k, .int (nI (X (p + j)))]) (w3 := w) rfl rfl ?_
    refine sx_RP.schr (n := m) (x := j) hk en hm (show j < m by omega) rfl rfl rfl (show _ = 52 from rfl) ?_
    refine sx_RP.br (p1 := 57) (l1 := [(0, .ref 96), (1, .float k), (2, .int (nI j))]) (s1 := []) (v1 := w) (p2 := 55) (l2 := [(0, .ref 96), (1, .float k), (2, .int (nI j))]) (s2 := []) (v2 := w) rfl rfl (fun q1 => ?_) (fun q1 => ?_)
    · replace q1 := of_decide_eq_true q1
      refine sx_RP.step (pc2 := 60) (ls2 := [(2, .int ((nI j) + 1)), (0, .ref 96), (1, .float k)]) (st2 := []) (w3 := w) rfl rfl ?_
      rw [nI_1 j]
      refine sx_RP.step (pc2 := 28) (ls2 := [(2, .int (nI (j + 1))), (0, .ref 96), (1, .float k)]) (st2 := []) (w3 := w) rfl rfl ?_
      unfold chE
      rw [decide_eq_true (show nI (X (p + j)) = wc k j from q1), Bool.true_and]
      exact sx_RP.ls (sx_lr.cons rfl (sx_lr.cons rfl (sx_lr.cons rfl sx_lr.nil))) (x101L hI hC hk en hm ep hl fz (j + 1) (by omega))
    · replace q1 := of_decide_eq_false q1
      refine sx_RP.step (pc2 := 56) (ls2 := [(0, .ref 96), (1, .float k), (2, .int (nI j))]) (st2 := [.int 0]) (w3 := w) rfl rfl ?_
      refine sx_RP.ret (r := (some (.int 0))) rfl rfl ?_
      exact ⟨by unfold chE; rw [decide_eq_false (show ¬ nI (X (p + j)) = wc k j from q1)]; rfl, rfl⟩
set_option maxRecDepth 20000 in
set_option maxHeartbeats 4000000 in
theorem x101 {xs : Option (List Int32)} {d : Nat} {w : List sx_C} (hI : WI w) {n p : Nat} {X : Nat → Nat} (hC : CT n X w) (hT : TK' n X p w) (hpn : p ≤ n) {k : UInt32} {m : Nat} (hk : 100 ≤ k.toNat ∧ k.toNat < 120) (en : sx_sn.getD (k.toNat - 100) 0 = m) (hm : m ≤ 7) : sx_RU xs d 101 0 (lv_args 0 [.ref 96, .float k]) [] w (some (.int (b01 (wdT n X p k)))) w := by
  have h : sx_RP xs d 101 0 (lv_args 0 [.ref 96, .float k]) [] w (fun r9 w2 => r9 = some (.int (b01 (wdT n X p k))) ∧ w2 = w) := by
    have hn := hC.2.1
    have hs4 : soT n X p ≤ 4 := by
      unfold soT
      split
      · rename_i h
        exact (sort_le ⟨X p, hC.lt h⟩).2
      · decide
    have hbe := beT_le (X := X) hpn
    have hbg := beT_ge (n := n) (p := p) (X := X)
    refine sx_RP.step (pc2 := 1) (ls2 := [(0, .ref 96), (1, .float k)]) (st2 := [.ref 96]) (w3 := w) rfl rfl ?_
    refine sx_RP.gt (k := 2) hI rfl rfl (by decide) (show _ = 4 from rfl) ?_
    rw [hT.2.1]
    refine sx_RP.step (pc2 := 5) (ls2 := [(0, .ref 96), (1, .float k)]) (st2 := [.int 1, .int (nI (soT n X p))]) (w3 := w) rfl rfl ?_
    refine sx_RP.br (p1 := 24) (l1 := [(0, .ref 96), (1, .float k)]) (s1 := []) (v1 := w) (p2 := 8) (l2 := [(0, .ref 96), (1, .float k)]) (s2 := []) (v2 := w) rfl rfl (fun q1 => ?_) (fun q1 => ?_)
    · replace q1 := of_decide_eq_true q1
      replace q1 := mt (nI_eq (a := (soT n X p)) (b := 1) (by omega) (by omega)).mpr q1
      refine sx_RP.step (pc2 := 25) (ls2 := [(0, .ref 96), (1, .float k)]) (st2 := [.int 0]) (w3 := w) rfl rfl ?_
      refine sx_RP.ret (r := (some (.int 0))) rfl rfl ?_
      exact ⟨by unfold wdT; rw [decide_eq_false (show ¬ soT n X p = 1 by omega)]; rfl, rfl⟩
    · replace q1 := Decidable.not_not.mp (of_decide_eq_false q1)
      replace q1 := (nI_eq (a := (soT n X p)) (b := 1) (by omega) (by omega)).mp q1
      refine sx_RP.step (pc2 := 9) (ls2 := [(0, .ref 96), (1, .float k)]) (st2 := [.ref 96]) (w3 := w) rfl rfl ?_
      refine sx_RP.gt (k := 4) hI rfl rfl (by decide) (show _ = 12 from rfl) ?_
      rw [hT.2.2.1]
      refine sx_RP.step (pc2 := 13) (ls2 := [(0, .ref 96), (1, .float k)]) (st2 := [.ref 96, .int (nI (beT n X p))]) (w3 := w) rfl rfl ?_
      refine sx_RP.gt (k := 3) hI rfl rfl (by decide) (show _ = 16 from rfl) ?_
      rw [hT.1]
      refine sx_RP.step (pc2 := 17) (ls2 := [(0, .ref 96), (1, .float k)]) (st2 := [.int ((nI (beT n X p)) - (nI p))]) (w3 := w) rfl rfl ?_
      rw [show ((nI (beT n X p)) - (nI p) : Int32) = nI ((beT n X p) - p) from nI_sub (a := (beT n X p)) (b := p) (by omega)]
      refine sx_RP.step (pc2 := 18) (ls2 := [(0, .ref 96), (1, .float k)]) (st2 := [.float k, .int (nI ((beT n X p) - p))]) (w3 := w) rfl rfl ?_
      refine sx_RP.slen (n := m) hk en rfl rfl rfl (show _ = 21 from rfl) ?_
      refine sx_RP.br (p1 := 26) (l1 := [(0, .ref 96), (1, .float k)]) (s1 := []) (v1 := w) (p2 := 24) (l2 := [(0, .ref 96), (1, .float k)]) (s2 := []) (v2 := w) rfl rfl (fun q2 => ?_) (fun q2 => ?_)
      · replace q2 := of_decide_eq_true q2
        replace q2 := (nI_eq (a := ((beT n X p) - p)) (b := m) (by omega) (by omega)).mp q2
        refine sx_RP.step (pc2 := 27) (ls2 := [(0, .ref 96), (1, .float k)]) (st2 := [.int 0]) (w3 := w) rfl rfl ?_
        refine sx_RP.step (pc2 := 28) (ls2 := [(2, .int 0), (0, .ref 96), (1, .float k)]) (st2 := []) (w3 := w) rfl rfl ?_
        unfold wdT
        rw [decide_eq_true (show soT n X p = 1 by omega), decide_eq_true (show beT n X p - p = wl k by rw [show wl k = m from en]; omega), Bool.true_and, Bool.true_and, show wl k = m from en]
        exact sx_RP.ls (sx_lr.cons rfl (sx_lr.cons rfl (sx_lr.cons rfl sx_lr.nil))) (x101L hI hC hk en hm hT.1 (fun j hj => wd_let (by omega) (by omega)) m 0 (by omega))
      · replace q2 := of_decide_eq_false q2
        replace q2 := mt (nI_eq (a := ((beT n X p) - p)) (b := m) (by omega) (by omega)).mpr q2
        refine sx_RP.step (pc2 := 25) (ls2 := [(0, .ref 96), (1, .float k)]) (st2 := [.int 0]) (w3 := w) rfl rfl ?_
        refine sx_RP.ret (r := (some (.int 0))) rfl rfl ?_
        exact ⟨by unfold wdT; rw [decide_eq_false (show ¬ beT n X p - p = wl k by rw [show wl k = m from en]; omega), Bool.false_and, Bool.and_false]; rfl, rfl⟩
  obtain ⟨r9, w2, h1, rfl, rfl⟩ := h
  exact h1
