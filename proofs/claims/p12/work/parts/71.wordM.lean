-- safety: the text of the reference: words
theorem bl01 {m : Nat} {r : Option Value} (h : m ≤ 120) (k : ∃ j, j ≤ 1 ∧ r = some (.int (nI j))) : r = some (.int 0) ∨ (m ≤ 120 ∧ r = some (.int 1)) := by
  obtain ⟨j, hj, e⟩ := k
  rcases (show j = 0 ∨ j = 1 by omega) with rfl | rfl
  · exact Or.inl e
  · exact Or.inr ⟨h, e⟩
set_option maxRecDepth 20000 in
set_option maxHeartbeats 4000000 in
theorem s222 {xs : Option (List Int32)} {d : Nat} {w : List sx_C} (hI : WI w) : sx_RP xs d 222 0 (lv_args 0 [.ref 111]) [] w (fun r w2 => (r = some (.int 0)) ∧ WI w2 ∧ EH w w2) := by
  have hE : EH w w := EH.rf
  refine sx_RP.step (pc2 := 1) (ls2 := [(0, .ref 111)]) (st2 := [.ref 111]) (w3 := w) rfl rfl ?_
  refine sx_RP.step (pc2 := 2) (ls2 := [(0, .ref 111)]) (st2 := [.ref 111, .ref 111]) (w3 := w) rfl rfl ?_
  refine sx_RP.gf (v := .int (fi w 111 13)) rfl rfl hI.1.o111 rfl rfl (show _ = 5 from rfl) ?_
  refine sx_RP.br (p1 := 15) (l1 := [(0, .ref 111)]) (s1 := [.ref 111]) (v1 := w) (p2 := 8) (l2 := [(0, .ref 111)]) (s2 := [.ref 111]) (v2 := w) rfl rfl (fun q1 => ?_) (fun q1 => ?_)
  · replace q1 := of_decide_eq_true q1
    refine sx_RP.step (pc2 := 16) (ls2 := [(0, .ref 111)]) (st2 := [.ref 111, .ref 111]) (w3 := w) rfl rfl ?_
    refine sx_RP.gf (v := .int (fi w 111 13)) rfl rfl hI.1.o111 rfl rfl (show _ = 19 from rfl) ?_
    refine sx_RP.pmH (k := 13) hI hE rfl rfl (by decide) rfl trivial (fun z => absurd z (by decide)) (show _ = 22 from rfl) (fun w2 hI3 hE4 ht5 ht6 ht7 => ?_)
    refine sx_RP.step (pc2 := 23) (ls2 := [(0, .ref 111)]) (st2 := [.int 0]) (w3 := w2) rfl rfl ?_
    refine sx_RP.ret (r := (some (.int 0))) rfl rfl ?_
    exact ⟨rfl, hI3, hE4⟩
  · replace q1 := of_decide_eq_false q1
    refine sx_RP.step (pc2 := 9) (ls2 := [(0, .ref 111)]) (st2 := [.ref 111, .ref 111]) (w3 := w) rfl rfl ?_
    refine sx_RP.gf (v := .int (fi w 111 12)) rfl rfl hI.1.o111 rfl rfl (show _ = 12 from rfl) ?_
    obtain ⟨x8, hx9, ex10⟩ : inR (fi w 111 12) 120 := hI.m.2.2
    rw [ex10]
    refine sx_RP.step (pc2 := 19) (ls2 := [(0, .ref 111)]) (st2 := [.int (nI x8), .ref 111]) (w3 := w) rfl rfl ?_
    refine sx_RP.pmH (k := 13) hI hE rfl rfl (by decide) rfl trivial (fun z => absurd z (by decide)) (show _ = 22 from rfl) (fun w11 hI12 hE13 ht14 ht15 ht16 => ?_)
    have ex17 := (ht15 12 (by decide)).trans ex10
    refine sx_RP.step (pc2 := 23) (ls2 := [(0, .ref 111)]) (st2 := [.int 0]) (w3 := w11) rfl rfl ?_
    refine sx_RP.ret (r := (some (.int 0))) rfl rfl ?_
    exact ⟨rfl, hI12, hE13⟩
set_option maxRecDepth 20000 in
set_option maxHeartbeats 4000000 in
theorem p217B {xs : Option (List Int32)} {d : Nat} {w : List sx_C} (hI : WI w) {j : Nat} (hj : j ≤ 120) (kk : j + 1 ≤ 120 → sx_RP xs (d + 2) 217 5 [(0, .ref 111), (1, .int (nI (j + 1)))] [] w (fun r w2 => (∃ j, j ≤ 120 ∧ r = some (.int (nI j))) ∧ w2 = w)) : sx_RP xs (d + 2) 217 5 [(0, .ref 111), (1, .int (nI j))] [] w (fun r w2 => (∃ j, j ≤ 120 ∧ r = some (.int (nI j))) ∧ w2 = w) := by
  refine sx_RP.step (pc2 := 6) (ls2 := [(0, .ref 111), (1, .int (nI j))]) (st2 := [.ref 111]) (w3 := w) rfl rfl ?_
  refine sx_RP.step (pc2 := 7) (ls2 := [(0, .ref 111), (1, .int (nI j))]) (st2 := [.int (nI j), .ref 111]) (w3 := w) rfl rfl ?_
  rcases p216 (xs := xs) (a := j) hI (by omega) with c1 | ⟨hx2, v3, c1⟩
  · refine sx_RP.cu (as := [.ref 111, .int (nI j)]) (rest2 := []) (st3 := [.int (-1)]) rfl rfl (sx_inv_v2 (mi := 217) (k := 215) (st := [.int (nI j), .ref 111]) (w := w) rfl rfl hI.1.o111 rfl rfl rfl) rfl rfl (c1) rfl ?_
    refine sx_RP.cu (as := [.int (-1)]) (rest2 := []) (st3 := [.int 0]) rfl rfl rfl rfl rfl (cx_218n (by decide)) rfl ?_
    refine sx_RP.step (pc2 := 22) (ls2 := [(0, .ref 111), (1, .int (nI j))]) (st2 := []) (w3 := w) rfl rfl ?_
    refine sx_RP.step (pc2 := 23) (ls2 := [(0, .ref 111), (1, .int (nI j))]) (st2 := [.int (nI j)]) (w3 := w) rfl rfl ?_
    refine sx_RP.ret (r := (some (.int (nI j)))) rfl rfl ?_
    exact ⟨⟨j, by omega, rfl⟩, rfl⟩
  · refine sx_RP.cu (as := [.ref 111, .int (nI j)]) (rest2 := []) (st3 := [.int v3]) rfl rfl (sx_inv_v2 (mi := 217) (k := 215) (st := [.int (nI j), .ref 111]) (w := w) rfl rfl hI.1.o111 rfl rfl rfl) rfl rfl (c1) rfl ?_
    rcases in_cases v3 97 122 (m := 97) (n := 122) rfl rfl (by decide) (by decide) with q4 | ⟨x5, hx6, hx7, rfl⟩
    · refine sx_RP.cu (as := [.int v3]) (rest2 := []) (st3 := [.int 0]) rfl rfl rfl rfl rfl (cx_218n q4) rfl ?_
      refine sx_RP.step (pc2 := 22) (ls2 := [(0, .ref 111), (1, .int (nI j))]) (st2 := []) (w3 := w) rfl rfl ?_
      refine sx_RP.step (pc2 := 23) (ls2 := [(0, .ref 111), (1, .int (nI j))]) (st2 := [.int (nI j)]) (w3 := w) rfl rfl ?_
      refine sx_RP.ret (r := (some (.int (nI j)))) rfl rfl ?_
      exact ⟨⟨j, by omega, rfl⟩, rfl⟩
    · refine sx_RP.cu (as := [.int (nI x5)]) (rest2 := []) (st3 := [.int 1]) rfl rfl rfl rfl rfl (cx_218p ⟨nI_le (a := 97) hx6 (by omega), nI_le (b := 122) hx7 (by decide)⟩) rfl ?_
      refine sx_RP.step (pc2 := 16) (ls2 := [(0, .ref 111), (1, .int (nI j))]) (st2 := []) (w3 := w) rfl rfl ?_
      refine sx_RP.step (pc2 := 19) (ls2 := [(1, .int ((nI j) + 1)), (0, .ref 111)]) (st2 := []) (w3 := w) rfl rfl ?_
      rw [nI_1 j]
      refine sx_RP.step (pc2 := 5) (ls2 := [(1, .int (nI (j + 1))), (0, .ref 111)]) (st2 := []) (w3 := w) rfl rfl ?_
      exact sx_RP.ls (sx_lr.cons rfl (sx_lr.cons rfl sx_lr.nil)) (kk (by omega))
set_option maxRecDepth 20000 in
set_option maxHeartbeats 4000000 in
theorem p217L {xs : Option (List Int32)} {d : Nat} {w : List sx_C} (hI : WI w) : ∀ (fz j : Nat) , 120 ≤ j + fz * 1 → j ≤ 120 → sx_RP xs (d + 2) 217 5 [(0, .ref 111), (1, .int (nI j))] [] w (fun r w2 => (∃ j, j ≤ 120 ∧ r = some (.int (nI j))) ∧ w2 = w)
  | 0, j, h, hj => p217B  hI hj   (fun   hlt  => absurd hlt (by omega)) 
  | fz + 1, j, h, hj => p217B  hI hj   (fun   hlt  => p217L  hI  fz (j + 1)  (by omega) hlt ) 
set_option maxRecDepth 20000 in
set_option maxHeartbeats 4000000 in
theorem p217 {xs : Option (List Int32)} {d : Nat} {w : List sx_C} (hI : WI w) : ∃ j, j ≤ 120 ∧ sx_RU xs (d + 2) 217 0 (lv_args 0 [.ref 111]) [] w (some (.int (nI j))) w := by
  have h : sx_RP xs (d + 2) 217 0 (lv_args 0 [.ref 111]) [] w (fun r w2 => (∃ j, j ≤ 120 ∧ r = some (.int (nI j))) ∧ w2 = w) := by
    refine sx_RP.step (pc2 := 1) (ls2 := [(0, .ref 111)]) (st2 := [.ref 111]) (w3 := w) rfl rfl ?_
    refine sx_RP.gf (v := .int (fi w 111 12)) rfl rfl hI.1.o111 rfl rfl (show _ = 4 from rfl) ?_
    obtain ⟨x1, hx2, ex3⟩ : inR (fi w 111 12) 120 := hI.m.2.2
    rw [ex3]
    refine sx_RP.step (pc2 := 5) (ls2 := [(1, .int (nI x1)), (0, .ref 111)]) (st2 := []) (w3 := w) rfl rfl ?_
    exact sx_RP.ls (sx_lr.cons rfl (sx_lr.cons rfl sx_lr.nil)) (p217L  hI 120 x1  (by omega) (by omega) )
  obtain ⟨r, w2, h1, ⟨j, hj, rfl⟩, rfl⟩ := h
  exact ⟨j, hj, h1⟩
set_option maxRecDepth 20000 in
set_option maxHeartbeats 4000000 in
theorem p214B {xs : Option (List Int32)} {d : Nat} {w : List sx_C} {k : UInt32} {n : Nat} (hk : 100 ≤ k.toNat ∧ k.toNat < 120) (en : sx_sn.getD (k.toNat - 100) 0 = n) (hn : n ≤ 7) (hI : WI w) {j : Nat} (hj : j ≤ 7) (i : Nat) (hi : i ≤ 1) (kk : ∀ (ui : Nat), j + 1 ≤ 7 → ui ≤ 1 → sx_RP xs (d + 3) 214 28 [(0, .ref 111), (1, .float k), (2, .int (nI ui)), (3, .int (nI (j + 1)))] [] w (fun r w2 => (∃ j, j ≤ 1 ∧ r = some (.int (nI j))) ∧ w2 = w)) : sx_RP xs (d + 3) 214 28 [(0, .ref 111), (1, .float k), (2, .int (nI i)), (3, .int (nI j))] [] w (fun r w2 => (∃ j, j ≤ 1 ∧ r = some (.int (nI j))) ∧ w2 = w) := by
  refine sx_RP.step (pc2 := 29) (ls2 := [(0, .ref 111), (1, .float k), (2, .int (nI i)), (3, .int (nI j))]) (st2 := [.int (nI j)]) (w3 := w) rfl rfl ?_
  refine sx_RP.step (pc2 := 30) (ls2 := [(0, .ref 111), (1, .float k), (2, .int (nI i)), (3, .int (nI j))]) (st2 := [.float k, .int (nI j)]) (w3 := w) rfl rfl ?_
  refine sx_RP.slen (n := n) hk en rfl rfl rfl (show _ = 33 from rfl) ?_
  refine sx_RP.br (p1 := 70) (l1 := [(0, .ref 111), (1, .float k), (2, .int (nI i)), (3, .int (nI j))]) (s1 := []) (v1 := w) (p2 := 36) (l2 := [(0, .ref 111), (1, .float k), (2, .int (nI i)), (3, .int (nI j))]) (s2 := []) (v2 := w) rfl rfl (fun q1 => ?_) (fun q1 => ?_)
  · replace q1 := of_decide_eq_true q1
    replace q1 := (nI_leI (a := n) (b := j) (by omega) (by omega)).mp q1
    refine sx_RP.step (pc2 := 71) (ls2 := [(0, .ref 111), (1, .float k), (2, .int (nI i)), (3, .int (nI j))]) (st2 := [.int (nI i)]) (w3 := w) rfl rfl ?_
    refine sx_RP.ret (r := (some (.int (nI i)))) rfl (bo_ret rfl (inR.n (show i ≤ 1 by omega))) ?_
    exact ⟨⟨i, by omega, rfl⟩, rfl⟩
  · replace q1 := of_decide_eq_false q1
    replace q1 := mt (nI_leI (a := n) (b := j) (by omega) (by omega)).mpr q1
    refine sx_RP.step (pc2 := 37) (ls2 := [(0, .ref 111), (1, .float k), (2, .int (nI i)), (3, .int (nI j))]) (st2 := [.int (nI i)]) (w3 := w) rfl rfl ?_
    refine sx_RP.br (p1 := 70) (l1 := [(0, .ref 111), (1, .float k), (2, .int (nI i)), (3, .int (nI j))]) (s1 := []) (v1 := w) (p2 := 40) (l2 := [(0, .ref 111), (1, .float k), (2, .int (nI i)), (3, .int (nI j))]) (s2 := []) (v2 := w) rfl rfl (fun q2 => ?_) (fun q2 => ?_)
    · replace q2 := of_decide_eq_true q2
      replace q2 := (nI_eq (a := i) (b := 0) (by omega) (by omega)).mp q2
      refine sx_RP.step (pc2 := 71) (ls2 := [(0, .ref 111), (1, .float k), (2, .int (nI i)), (3, .int (nI j))]) (st2 := [.int (nI i)]) (w3 := w) rfl rfl ?_
      refine sx_RP.ret (r := (some (.int (nI i)))) rfl (bo_ret rfl (inR.n (show i ≤ 1 by omega))) ?_
      exact ⟨⟨i, by omega, rfl⟩, rfl⟩
    · replace q2 := of_decide_eq_false q2
      replace q2 := mt (nI_eq (a := i) (b := 0) (by omega) (by omega)).mpr q2
      refine sx_RP.step (pc2 := 41) (ls2 := [(0, .ref 111), (1, .float k), (2, .int (nI i)), (3, .int (nI j))]) (st2 := [.ref 111]) (w3 := w) rfl rfl ?_
      refine sx_RP.step (pc2 := 42) (ls2 := [(0, .ref 111), (1, .float k), (2, .int (nI i)), (3, .int (nI j))]) (st2 := [.ref 111, .ref 111]) (w3 := w) rfl rfl ?_
      refine sx_RP.gf (v := .int (fi w 111 12)) rfl rfl hI.1.o111 rfl rfl (show _ = 45 from rfl) ?_
      obtain ⟨x3, hx4, ex5⟩ : inR (fi w 111 12) 120 := hI.m.2.2
      rw [ex5]
      refine sx_RP.step (pc2 := 46) (ls2 := [(0, .ref 111), (1, .float k), (2, .int (nI i)), (3, .int (nI j))]) (st2 := [.int (nI j), .int (nI x3), .ref 111]) (w3 := w) rfl rfl ?_
      refine sx_RP.step (pc2 := 47) (ls2 := [(0, .ref 111), (1, .float k), (2, .int (nI i)), (3, .int (nI j))]) (st2 := [.int ((nI x3) + (nI j)), .ref 111]) (w3 := w) rfl rfl ?_
      rw [show ((nI x3) + (nI j) : Int32) = nI (x3 + j) from nI_add x3 j]
      rcases p216 (xs := xs) (a := (x3 + j)) hI (by omega) with c6 | ⟨hx7, v8, c6⟩
      · refine sx_RP.cu (as := [.ref 111, .int (nI (x3 + j))]) (rest2 := []) (st3 := [.int (-1)]) rfl rfl (sx_inv_v2 (mi := 214) (k := 215) (st := [.int (nI (x3 + j)), .ref 111]) (w := w) rfl rfl hI.1.o111 rfl rfl rfl) rfl rfl (c6) rfl ?_
        refine sx_RP.step (pc2 := 51) (ls2 := [(0, .ref 111), (1, .float k), (2, .int (nI i)), (3, .int (nI j))]) (st2 := [.float k, .int (-1)]) (w3 := w) rfl rfl ?_
        refine sx_RP.step (pc2 := 52) (ls2 := [(0, .ref 111), (1, .float k), (2, .int (nI i)), (3, .int (nI j))]) (st2 := [.int (nI j), .float k, .int (-1)]) (w3 := w) rfl rfl ?_
        refine sx_RP.schr (n := n) (x := j) hk en hn (show j < n by omega) rfl rfl rfl (show _ = 55 from rfl) ?_
        refine sx_RP.br (p1 := 62) (l1 := [(0, .ref 111), (1, .float k), (2, .int (nI i)), (3, .int (nI j))]) (s1 := []) (v1 := w) (p2 := 58) (l2 := [(0, .ref 111), (1, .float k), (2, .int (nI i)), (3, .int (nI j))]) (s2 := []) (v2 := w) rfl rfl (fun q9 => ?_) (fun q9 => ?_)
        · replace q9 := of_decide_eq_true q9
          refine sx_RP.step (pc2 := 63) (ls2 := [(0, .ref 111), (1, .float k), (2, .int (nI i)), (3, .int (nI j))]) (st2 := [.int 0]) (w3 := w) rfl rfl ?_
          refine sx_RP.step (pc2 := 64) (ls2 := [(2, .int 0), (0, .ref 111), (1, .float k), (3, .int (nI j))]) (st2 := []) (w3 := w) rfl rfl ?_
          refine sx_RP.step (pc2 := 67) (ls2 := [(3, .int ((nI j) + 1)), (2, .int 0), (0, .ref 111), (1, .float k)]) (st2 := []) (w3 := w) rfl rfl ?_
          rw [nI_1 j]
          refine sx_RP.step (pc2 := 28) (ls2 := [(3, .int (nI (j + 1))), (2, .int 0), (0, .ref 111), (1, .float k)]) (st2 := []) (w3 := w) rfl rfl ?_
          exact sx_RP.ls (sx_lr.cons rfl (sx_lr.cons rfl (sx_lr.cons rfl (sx_lr.cons rfl sx_lr.nil)))) (kk 0 (by omega) (by omega))
        · replace q9 := Decidable.not_not.mp (of_decide_eq_false q9)
          refine sx_RP.step (pc2 := 59) (ls2 := [(0, .ref 111), (1, .float k), (2, .int (nI i)), (3, .int (nI j))]) (st2 := [.int 1]) (w3 := w) rfl rfl ?_
          refine sx_RP.step (pc2 := 63) (ls2 := [(0, .ref 111), (1, .float k), (2, .int (nI i)), (3, .int (nI j))]) (st2 := [.int 1]) (w3 := w) rfl rfl ?_
          refine sx_RP.step (pc2 := 64) (ls2 := [(2, .int 1), (0, .ref 111), (1, .float k), (3, .int (nI j))]) (st2 := []) (w3 := w) rfl rfl ?_
          refine sx_RP.step (pc2 := 67) (ls2 := [(3, .int ((nI j) + 1)), (2, .int 1), (0, .ref 111), (1, .float k)]) (st2 := []) (w3 := w) rfl rfl ?_
          rw [nI_1 j]
          refine sx_RP.step (pc2 := 28) (ls2 := [(3, .int (nI (j + 1))), (2, .int 1), (0, .ref 111), (1, .float k)]) (st2 := []) (w3 := w) rfl rfl ?_
          exact sx_RP.ls (sx_lr.cons rfl (sx_lr.cons rfl (sx_lr.cons rfl (sx_lr.cons rfl sx_lr.nil)))) (kk 1 (by omega) (by omega))
      · refine sx_RP.cu (as := [.ref 111, .int (nI (x3 + j))]) (rest2 := []) (st3 := [.int v8]) rfl rfl (sx_inv_v2 (mi := 214) (k := 215) (st := [.int (nI (x3 + j)), .ref 111]) (w := w) rfl rfl hI.1.o111 rfl rfl rfl) rfl rfl (c6) rfl ?_
        refine sx_RP.step (pc2 := 51) (ls2 := [(0, .ref 111), (1, .float k), (2, .int (nI i)), (3, .int (nI j))]) (st2 := [.float k, .int v8]) (w3 := w) rfl rfl ?_
        refine sx_RP.step (pc2 := 52) (ls2 := [(0, .ref 111), (1, .float k), (2, .int (nI i)), (3, .int (nI j))]) (st2 := [.int (nI j), .float k, .int v8]) (w3 := w) rfl rfl ?_
        refine sx_RP.schr (n := n) (x := j) hk en hn (show j < n by omega) rfl rfl rfl (show _ = 55 from rfl) ?_
        refine sx_RP.br (p1 := 62) (l1 := [(0, .ref 111), (1, .float k), (2, .int (nI i)), (3, .int (nI j))]) (s1 := []) (v1 := w) (p2 := 58) (l2 := [(0, .ref 111), (1, .float k), (2, .int (nI i)), (3, .int (nI j))]) (s2 := []) (v2 := w) rfl rfl (fun q10 => ?_) (fun q10 => ?_)
        · replace q10 := of_decide_eq_true q10
          refine sx_RP.step (pc2 := 63) (ls2 := [(0, .ref 111), (1, .float k), (2, .int (nI i)), (3, .int (nI j))]) (st2 := [.int 0]) (w3 := w) rfl rfl ?_
          refine sx_RP.step (pc2 := 64) (ls2 := [(2, .int 0), (0, .ref 111), (1, .float k), (3, .int (nI j))]) (st2 := []) (w3 := w) rfl rfl ?_
          refine sx_RP.step (pc2 := 67) (ls2 := [(3, .int ((nI j) + 1)), (2, .int 0), (0, .ref 111), (1, .float k)]) (st2 := []) (w3 := w) rfl rfl ?_
          rw [nI_1 j]
          refine sx_RP.step (pc2 := 28) (ls2 := [(3, .int (nI (j + 1))), (2, .int 0), (0, .ref 111), (1, .float k)]) (st2 := []) (w3 := w) rfl rfl ?_
          exact sx_RP.ls (sx_lr.cons rfl (sx_lr.cons rfl (sx_lr.cons rfl (sx_lr.cons rfl sx_lr.nil)))) (kk 0 (by omega) (by omega))
        · replace q10 := Decidable.not_not.mp (of_decide_eq_false q10)
          refine sx_RP.step (pc2 := 59) (ls2 := [(0, .ref 111), (1, .float k), (2, .int (nI i)), (3, .int (nI j))]) (st2 := [.int 1]) (w3 := w) rfl rfl ?_
          refine sx_RP.step (pc2 := 63) (ls2 := [(0, .ref 111), (1, .float k), (2, .int (nI i)), (3, .int (nI j))]) (st2 := [.int 1]) (w3 := w) rfl rfl ?_
          refine sx_RP.step (pc2 := 64) (ls2 := [(2, .int 1), (0, .ref 111), (1, .float k), (3, .int (nI j))]) (st2 := []) (w3 := w) rfl rfl ?_
          refine sx_RP.step (pc2 := 67) (ls2 := [(3, .int ((nI j) + 1)), (2, .int 1), (0, .ref 111), (1, .float k)]) (st2 := []) (w3 := w) rfl rfl ?_
          rw [nI_1 j]
          refine sx_RP.step (pc2 := 28) (ls2 := [(3, .int (nI (j + 1))), (2, .int 1), (0, .ref 111), (1, .float k)]) (st2 := []) (w3 := w) rfl rfl ?_
          exact sx_RP.ls (sx_lr.cons rfl (sx_lr.cons rfl (sx_lr.cons rfl (sx_lr.cons rfl sx_lr.nil)))) (kk 1 (by omega) (by omega))
set_option maxRecDepth 20000 in
set_option maxHeartbeats 4000000 in
theorem p214L {xs : Option (List Int32)} {d : Nat} {w : List sx_C} {k : UInt32} {n : Nat} (hk : 100 ≤ k.toNat ∧ k.toNat < 120) (en : sx_sn.getD (k.toNat - 100) 0 = n) (hn : n ≤ 7) (hI : WI w) : ∀ (fz j : Nat) (i : Nat) , 7 ≤ j + fz * 1 → j ≤ 7 → i ≤ 1 → sx_RP xs (d + 3) 214 28 [(0, .ref 111), (1, .float k), (2, .int (nI i)), (3, .int (nI j))] [] w (fun r w2 => (∃ j, j ≤ 1 ∧ r = some (.int (nI j))) ∧ w2 = w)
  | 0, j, i, h, hj, hi => p214B hk en hn hI hj i hi (fun ui  hlt hui => absurd hlt (by omega)) 
  | fz + 1, j, i, h, hj, hi => p214B hk en hn hI hj i hi (fun ui  hlt hui => p214L hk en hn hI  fz (j + 1) ui (by omega) hlt hui) 
set_option maxRecDepth 20000 in
set_option maxHeartbeats 4000000 in
theorem s214r {xs : Option (List Int32)} {d p : Nat} {w : List sx_C} (hI : WI w) (hp : p ≤ 120) (ep : fi w 111 12 = nI p) {k : UInt32} {n : Nat} (hk : 100 ≤ k.toNat ∧ k.toNat < 120) (en : sx_sn.getD (k.toNat - 100) 0 = n) (hn : n ≤ 7) : sx_RP xs (d + 3) 214 4 [(0, .ref 111), (1, .float k)] [] w (fun r w2 => (r = some (.int 0) ∨ (p + n ≤ 120 ∧ r = some (.int 1))) ∧ w2 = w) := by
  have hE : EM w w := EM.rf
  refine sx_RP.step (pc2 := 5) (ls2 := [(0, .ref 111), (1, .float k)]) (st2 := [.ref 111]) (w3 := w) rfl rfl ?_
  obtain ⟨x1, hx2, c3⟩ := p217 hI 
  refine sx_RP.cu (as := [.ref 111]) (rest2 := []) (st3 := [.int (nI x1)]) rfl rfl (sx_inv_v2 (mi := 214) (k := 227) (st := [.ref 111]) (w := w) rfl rfl hI.1.o111 rfl rfl rfl) rfl rfl (c3) rfl ?_
  refine sx_RP.step (pc2 := 9) (ls2 := [(0, .ref 111), (1, .float k)]) (st2 := [.ref 111, .int (nI x1)]) (w3 := w) rfl rfl ?_
  refine sx_RP.gf (v := .int (fi w 111 12)) rfl rfl hI.1.o111 rfl rfl (show _ = 12 from rfl) ?_
  rw [ep]
  refine sx_RP.step (pc2 := 13) (ls2 := [(0, .ref 111), (1, .float k)]) (st2 := [.int ((nI x1) - (nI p))]) (w3 := w) rfl rfl ?_
  refine sx_RP.step (pc2 := 14) (ls2 := [(0, .ref 111), (1, .float k)]) (st2 := [.float k, .int ((nI x1) - (nI p))]) (w3 := w) rfl rfl ?_
  refine sx_RP.slen (n := n) hk en rfl rfl rfl (show _ = 17 from rfl) ?_
  refine sx_RP.br (p1 := 24) (l1 := [(0, .ref 111), (1, .float k)]) (s1 := []) (v1 := w) (p2 := 20) (l2 := [(0, .ref 111), (1, .float k)]) (s2 := []) (v2 := w) rfl rfl (fun q4 => ?_) (fun q4 => ?_)
  · replace q4 := of_decide_eq_true q4
    refine sx_RP.step (pc2 := 25) (ls2 := [(0, .ref 111), (1, .float k)]) (st2 := [.int 0]) (w3 := w) rfl rfl ?_
    refine sx_RP.step (pc2 := 26) (ls2 := [(2, .int 0), (0, .ref 111), (1, .float k)]) (st2 := []) (w3 := w) rfl rfl ?_
    refine sx_RP.step (pc2 := 27) (ls2 := [(2, .int 0), (0, .ref 111), (1, .float k)]) (st2 := [.int 0]) (w3 := w) rfl rfl ?_
    refine sx_RP.step (pc2 := 28) (ls2 := [(3, .int 0), (2, .int 0), (0, .ref 111), (1, .float k)]) (st2 := []) (w3 := w) rfl rfl ?_
    refine sx_RP.step (pc2 := 29) (ls2 := [(3, .int 0), (2, .int 0), (0, .ref 111), (1, .float k)]) (st2 := [.int 0]) (w3 := w) rfl rfl ?_
    refine sx_RP.step (pc2 := 30) (ls2 := [(3, .int 0), (2, .int 0), (0, .ref 111), (1, .float k)]) (st2 := [.float k, .int 0]) (w3 := w) rfl rfl ?_
    refine sx_RP.slen (n := n) hk en rfl rfl rfl (show _ = 33 from rfl) ?_
    refine sx_RP.br (p1 := 70) (l1 := [(3, .int 0), (2, .int 0), (0, .ref 111), (1, .float k)]) (s1 := []) (v1 := w) (p2 := 36) (l2 := [(3, .int 0), (2, .int 0), (0, .ref 111), (1, .float k)]) (s2 := []) (v2 := w) rfl rfl (fun q5 => ?_) (fun q5 => ?_)
    · replace q5 := of_decide_eq_true q5
      replace q5 := (nI_leI (a := n) (b := 0) (by omega) (by omega)).mp q5
      refine sx_RP.step (pc2 := 71) (ls2 := [(3, .int 0), (2, .int 0), (0, .ref 111), (1, .float k)]) (st2 := [.int 0]) (w3 := w) rfl rfl ?_
      refine sx_RP.ret (r := (some (.int 0))) rfl rfl ?_
      exact ⟨Or.inl rfl, rfl⟩
    · replace q5 := of_decide_eq_false q5
      replace q5 := mt (nI_leI (a := n) (b := 0) (by omega) (by omega)).mpr q5
      refine sx_RP.step (pc2 := 37) (ls2 := [(3, .int 0), (2, .int 0), (0, .ref 111), (1, .float k)]) (st2 := [.int 0]) (w3 := w) rfl rfl ?_
      refine sx_RP.step (pc2 := 70) (ls2 := [(3, .int 0), (2, .int 0), (0, .ref 111), (1, .float k)]) (st2 := []) (w3 := w) rfl rfl ?_
      refine sx_RP.step (pc2 := 71) (ls2 := [(3, .int 0), (2, .int 0), (0, .ref 111), (1, .float k)]) (st2 := [.int 0]) (w3 := w) rfl rfl ?_
      refine sx_RP.ret (r := (some (.int 0))) rfl rfl ?_
      exact ⟨Or.inl rfl, rfl⟩
  · replace q4 := Decidable.not_not.mp (of_decide_eq_false q4)
    replace q4 := sub_eqN (a := x1) (b := p) (c := n) (by omega) (by omega) (by omega) q4
    refine sx_RP.step (pc2 := 21) (ls2 := [(0, .ref 111), (1, .float k)]) (st2 := [.int 1]) (w3 := w) rfl rfl ?_
    refine sx_RP.step (pc2 := 25) (ls2 := [(0, .ref 111), (1, .float k)]) (st2 := [.int 1]) (w3 := w) rfl rfl ?_
    refine sx_RP.step (pc2 := 26) (ls2 := [(2, .int 1), (0, .ref 111), (1, .float k)]) (st2 := []) (w3 := w) rfl rfl ?_
    refine sx_RP.step (pc2 := 27) (ls2 := [(2, .int 1), (0, .ref 111), (1, .float k)]) (st2 := [.int 0]) (w3 := w) rfl rfl ?_
    refine sx_RP.step (pc2 := 28) (ls2 := [(3, .int 0), (2, .int 1), (0, .ref 111), (1, .float k)]) (st2 := []) (w3 := w) rfl rfl ?_
    exact sx_RP.ls (sx_lr.cons rfl (sx_lr.cons rfl (sx_lr.cons rfl (sx_lr.cons rfl sx_lr.nil)))) ((p214L hk en hn hI 7 0 1 (by omega) (by omega) (by omega)).mono9 (fun r w2 h => ⟨bl01 (show p + n ≤ 120 by omega) h.1, h.2⟩))
set_option maxRecDepth 20000 in
set_option maxHeartbeats 4000000 in
theorem s214p {xs : Option (List Int32)} {d : Nat} {w w1 : List sx_C} {P : Option Value → List sx_C → Prop} {k : UInt32} (hI : WI w) (hb : sx_RU xs (d + 2) 215 0 (lv_args 0 [.ref 111]) [] w none w1) (kk : sx_RP xs (d + 3) 214 4 [(0, .ref 111), (1, .float k)] [] w1 P) : sx_RP xs (d + 3) 214 0 (lv_args 0 [.ref 111, .float k]) [] w P := by
  refine sx_RP.step (pc2 := 1) (ls2 := [(0, .ref 111), (1, .float k)]) (st2 := [.ref 111]) (w3 := w) rfl rfl ?_
  refine sx_RP.cu (as := [.ref 111]) (rest2 := []) (st3 := []) rfl rfl (sx_inv_v2 (mi := 214) (k := 224) (st := [.ref 111]) (w := w) rfl rfl hI.1.o111 rfl rfl rfl) rfl rfl (hb) rfl ?_
  exact kk
/-- isWord: its answer, and that it answers so once more -/
theorem s214 {xs : Option (List Int32)} {d : Nat} {w : List sx_C} {k : UInt32} {n : Nat} (hI : WI w) (hk : 100 ≤ k.toNat ∧ k.toNat < 120) (en : sx_sn.getD (k.toNat - 100) 0 = n) (hn : n ≤ 7) : sx_RP xs (d + 3) 214 0 (lv_args 0 [.ref 111, .float k]) [] w (fun r w2 => ((r = some (.int 0) ∨ ∃ p, (p + n ≤ 120 ∧ fi w2 111 12 = nI p) ∧ r = some (.int 1)) ∧ sx_RU xs (d + 3) 214 0 (lv_args 0 [.ref 111, .float k]) [] w2 r w2) ∧ WI w2 ∧ EH w w2) := by
  obtain ⟨r0, w1, h1, ⟨rfl, hb⟩, hI1, hE1⟩ := s215 (xs := xs) (d := d + 1) hI
  obtain ⟨p, hp, ep⟩ := hI1.m.2.2
  obtain ⟨r, w2, h2, hr, rfl⟩ := s214r (xs := xs) (d := d) hI1 hp ep hk en hn
  have hq : sx_RU xs (d + 3) 214 0 (lv_args 0 [.ref 111, .float k]) [] w2 r w2 := by
    obtain ⟨r3, w3, h3, rfl, rfl⟩ := s214p (P := fun r3 w3 => r3 = r ∧ w3 = w2) hI1 hb ⟨r, w2, h2, rfl, rfl⟩
    exact h3
  refine ⟨r, w2, ?_, ⟨?_, hq⟩, hI1, hE1⟩
  · obtain ⟨r3, w3, h3, rfl, rfl⟩ := s214p (P := fun r3 w3 => r3 = r ∧ w3 = w2) hI h1 ⟨r, w2, h2, rfl, rfl⟩
    exact h3
  · rcases hr with h | ⟨h, e⟩
    · exact Or.inl h
    · exact Or.inr ⟨p, ⟨h, ep⟩, e⟩
