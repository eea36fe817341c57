set_option maxRecDepth 20000 in
set_option maxHeartbeats 4000000 in
theorem K175L {xs : Option (List Int32)} {d : Nat} {w0 : List sx_C} {a b : Nat} (ha : 112 ≤ a ∧ a ≤ 115) (hb : 112 ≤ b ∧ b ≤ 115) (hab : a ≠ b) : ∀ (fz j : Nat) (w : List sx_C), j + fz = 172 → WI w → Same b w0 w → (∀ k, k < j → (ia w b).getD k 0 = (ia w0 a).getD k 0) → WI w0 → sx_RP xs d 175 2 [(0, .ref a), (1, .ref b), (2, .int (nI j))] [] w (fun r w2 => r = none ∧ WI w2 ∧ Lay a b w0 w2)
  | 0, j, w, h, hI, hS, hk, hI0 => by
    obtain rfl : j = 172 := by omega
    refine sx_RP.step (pc2 := 3) (ls2 := [(0, .ref a), (1, .ref b), (2, .int (nI 172))]) (st2 := [.int (nI 172)]) (w3 := w) rfl rfl ?_
    refine sx_RP.step (pc2 := 6) (ls2 := [(0, .ref a), (1, .ref b), (2, .int (nI 172))]) (st2 := [.int 172, .int (nI 172)]) (w3 := w) rfl rfl ?_
    refine sx_RP.step (pc2 := 21) (ls2 := [(0, .ref a), (1, .ref b), (2, .int (nI 172))]) (st2 := []) (w3 := w) rfl rfl ?_
    refine sx_RP.ret (r := none) rfl rfl ⟨rfl, hI, hS, ?_⟩
    have l1 := (hI.1.aM hb).2
    have l0 := (hI0.1.aM ha).2
    apply List.ext_getElem?
    intro i
    by_cases hi : i < 172
    · have := hk i hi
      rw [List.getD_eq_getElem?_getD, List.getD_eq_getElem?_getD, List.getElem?_eq_getElem (by omega), List.getElem?_eq_getElem (by omega)] at this
      rw [List.getElem?_eq_getElem (by omega), List.getElem?_eq_getElem (by omega)]
      exact congrArg some this
    · rw [List.getElem?_eq_none (by omega), List.getElem?_eq_none (by omega)]
  | fz + 1, j, w, h, hI, hS, hk, hI0 => by
    refine sx_RP.step (pc2 := 3) (ls2 := [(0, .ref a), (1, .ref b), (2, .int (nI j))]) (st2 := [.int (nI j)]) (w3 := w) rfl rfl ?_
    refine sx_RP.step (pc2 := 6) (ls2 := [(0, .ref a), (1, .ref b), (2, .int (nI j))]) (st2 := [.int 172, .int (nI j)]) (w3 := w) rfl rfl ?_
    refine sx_RP.br (p1 := 21) (l1 := [(0, .ref a), (1, .ref b), (2, .int (nI j))]) (s1 := []) (v1 := w) (p2 := 9) (l2 := [(0, .ref a), (1, .ref b), (2, .int (nI j))]) (s2 := []) (v2 := w) rfl rfl (fun q => absurd ((nI_leI (a := 172) (b := j) (by omega) (by omega)).mp (of_decide_eq_true q)) (by omega)) (fun _ => ?_)
    refine sx_RP.step (pc2 := 10) (ls2 := [(0, .ref a), (1, .ref b), (2, .int (nI j))]) (st2 := [.ref b]) (w3 := w) rfl rfl ?_
    refine sx_RP.step (pc2 := 11) (ls2 := [(0, .ref a), (1, .ref b), (2, .int (nI j))]) (st2 := [.int (nI j), .ref b]) (w3 := w) rfl rfl ?_
    refine sx_RP.step (pc2 := 12) (ls2 := [(0, .ref a), (1, .ref b), (2, .int (nI j))]) (st2 := [.ref a, .int (nI j), .ref b]) (w3 := w) rfl rfl ?_
    refine sx_RP.step (pc2 := 13) (ls2 := [(0, .ref a), (1, .ref b), (2, .int (nI j))]) (st2 := [.int (nI j), .ref a, .int (nI j), .ref b]) (w3 := w) rfl rfl ?_
    refine sx_RP.ild (c := j) rfl (hI.1.aM ha).1 (hI.1.aM ha).2 (sx_in_nI (show j < 172 by omega) (by decide)) (nI_clamp (by omega)) (show _ = 14 from rfl) ?_
    refine sx_RP.xM hI hb rfl (show j < 172 by omega) (hI.sA ha j (by omega)) (show _ = 15 from rfl) (fun w2 h1 h2 h3 => ?_)
    refine sx_RP.step (pc2 := 18) (ls2 := [(2, .int (nI j + 1)), (0, .ref a), (1, .ref b)]) (st2 := []) (w3 := w2) rfl rfl ?_
    rw [nI_1 j]
    refine sx_RP.step (pc2 := 2) (ls2 := [(2, .int (nI (j + 1))), (0, .ref a), (1, .ref b)]) (st2 := []) (w3 := w2) rfl rfl ?_
    refine sx_RP.ls (sx_lr.cons rfl (sx_lr.cons rfl (sx_lr.cons rfl sx_lr.nil))) (K175L ha hb hab fz (j + 1) w2 (by omega) h1 (fun c hc => (h2 c hc).trans (hS c hc)) (fun k hk2 => ?_) hI0)
    rw [h3, gd_set (by rw [(hI.1.aM hb).2]; omega)]
    split
    · rename_i e
      rw [e, ia_of (hS a hab)]
    · exact hk k (by omega)
set_option maxRecDepth 20000 in
set_option maxHeartbeats 4000000 in
theorem K175 {xs : Option (List Int32)} {d : Nat} {w : List sx_C} (hI : WI w) {a b : Nat} (ha : 112 ≤ a ∧ a ≤ 115) (hb : 112 ≤ b ∧ b ≤ 115) (hab : a ≠ b) : sx_RP xs d 175 0 (lv_args 0 [.ref a, .ref b]) [] w (fun r w2 => r = none ∧ WI w2 ∧ Lay a b w w2) := by
  refine sx_RP.step (pc2 := 1) (ls2 := [(0, .ref a), (1, .ref b)]) (st2 := [.int 0]) (w3 := w) rfl rfl ?_
  refine sx_RP.step (pc2 := 2) (ls2 := [(2, .int 0), (0, .ref a), (1, .ref b)]) (st2 := []) (w3 := w) rfl rfl ?_
  exact sx_RP.ls (sx_lr.cons rfl (sx_lr.cons rfl (sx_lr.cons rfl sx_lr.nil))) (K175L ha hb hab 172 0 w (by omega) hI (fun _ _ => rfl) (fun k hk => absurd hk (by omega)) hI)
set_option maxRecDepth 20000 in
set_option maxHeartbeats 4000000 in
theorem K133_0 {xs : Option (List Int32)} {d : Nat} {w : List sx_C} (hI : WI w) : sx_RP xs d 133 0 (lv_args 0 [.ref 111, .int 0]) [] w (fun r w2 => (r = some (.int (-1000000001))) ∧ WI w2 ∧ EK w w2) := by
  have hE : EK w w := EK.rf
  refine sx_RP.step (pc2 := 1) (ls2 := [(0, .ref 111), (1, .int 0)]) (st2 := [.ref 111]) (w3 := w) rfl rfl ?_
  refine sx_RP.gf (v := .ref 116) rfl rfl hI.1.o111 rfl rfl (show _ = 4 from rfl) ?_
  refine sx_RP.step (pc2 := 5) (ls2 := [(0, .ref 111), (1, .int 0)]) (st2 := [.int 0, .ref 116]) (w3 := w) rfl rfl ?_
  refine sx_RP.step (pc2 := 6) (ls2 := [(0, .ref 111), (1, .int 0)]) (st2 := [.int 0, .ref 116, .int 0, .ref 116]) (w3 := w) rfl rfl ?_
  refine sx_RP.ild (c := 0) rfl hI.1.a116.1 hI.1.a116.2 (sx_in_nI (show 0 < 7 by omega) (by decide)) (show (nI 0).toNatClampNeg = 0 from nI_clamp (by omega)) (show _ = 7 from rfl) ?_
  refine sx_RP.step (pc2 := 8) (ls2 := [(0, .ref 111), (1, .int 0)]) (st2 := [.int 1, .int ((ia w 116).getD 0 0), .int 0, .ref 116]) (w3 := w) rfl rfl ?_
  refine sx_RP.step (pc2 := 9) (ls2 := [(0, .ref 111), (1, .int 0)]) (st2 := [.int (((ia w 116).getD 0 0) + 1), .int 0, .ref 116]) (w3 := w) rfl rfl ?_
  refine sx_RP.mFK hI hE rfl hI.1.a116 (sx_in_nI (show 0 < 7 by omega) (by decide)) (by decide) (show _ = 10 from rfl) (fun w1 hI2 hE3 hk4 => ?_)
  refine sx_RP.step (pc2 := 12) (ls2 := [(0, .ref 111), (1, .int 0)]) (st2 := [.int (-1000000001)]) (w3 := w1) rfl rfl ?_
  refine sx_RP.step (pc2 := 13) (ls2 := [(0, .ref 111), (1, .int 0)]) (st2 := [.int 0, .int (-1000000001)]) (w3 := w1) rfl rfl ?_
  refine sx_RP.step (pc2 := 14) (ls2 := [(0, .ref 111), (1, .int 0)]) (st2 := [.int (-1000000001)]) (w3 := w1) rfl rfl ?_
  refine sx_RP.ret (r := (some (.int (-1000000001)))) rfl rfl ?_
  exact ⟨rfl, hI2, hE3⟩
set_option maxRecDepth 20000 in
set_option maxHeartbeats 4000000 in
theorem K133_1 {xs : Option (List Int32)} {d : Nat} {w : List sx_C} (hI : WI w) : sx_RP xs d 133 0 (lv_args 0 [.ref 111, .int 1]) [] w (fun r w2 => (r = some (.int (-1000000002))) ∧ WI w2 ∧ EK w w2) := by
  have hE : EK w w := EK.rf
  refine sx_RP.step (pc2 := 1) (ls2 := [(0, .ref 111), (1, .int 1)]) (st2 := [.ref 111]) (w3 := w) rfl rfl ?_
  refine sx_RP.gf (v := .ref 116) rfl rfl hI.1.o111 rfl rfl (show _ = 4 from rfl) ?_
  refine sx_RP.step (pc2 := 5) (ls2 := [(0, .ref 111), (1, .int 1)]) (st2 := [.int 1, .ref 116]) (w3 := w) rfl rfl ?_
  refine sx_RP.step (pc2 := 6) (ls2 := [(0, .ref 111), (1, .int 1)]) (st2 := [.int 1, .ref 116, .int 1, .ref 116]) (w3 := w) rfl rfl ?_
  refine sx_RP.ild (c := 1) rfl hI.1.a116.1 hI.1.a116.2 (sx_in_nI (show 1 < 7 by omega) (by decide)) (show (nI 1).toNatClampNeg = 1 from nI_clamp (by omega)) (show _ = 7 from rfl) ?_
  refine sx_RP.step (pc2 := 8) (ls2 := [(0, .ref 111), (1, .int 1)]) (st2 := [.int 1, .int ((ia w 116).getD 1 0), .int 1, .ref 116]) (w3 := w) rfl rfl ?_
  refine sx_RP.step (pc2 := 9) (ls2 := [(0, .ref 111), (1, .int 1)]) (st2 := [.int (((ia w 116).getD 1 0) + 1), .int 1, .ref 116]) (w3 := w) rfl rfl ?_
  refine sx_RP.mFK hI hE rfl hI.1.a116 (sx_in_nI (show 1 < 7 by omega) (by decide)) (by decide) (show _ = 10 from rfl) (fun w1 hI2 hE3 hk4 => ?_)
  refine sx_RP.step (pc2 := 12) (ls2 := [(0, .ref 111), (1, .int 1)]) (st2 := [.int (-1000000001)]) (w3 := w1) rfl rfl ?_
  refine sx_RP.step (pc2 := 13) (ls2 := [(0, .ref 111), (1, .int 1)]) (st2 := [.int 1, .int (-1000000001)]) (w3 := w1) rfl rfl ?_
  refine sx_RP.step (pc2 := 14) (ls2 := [(0, .ref 111), (1, .int 1)]) (st2 := [.int (-1000000002)]) (w3 := w1) rfl rfl ?_
  refine sx_RP.ret (r := (some (.int (-1000000002)))) rfl rfl ?_
  exact ⟨rfl, hI2, hE3⟩
set_option maxRecDepth 20000 in
set_option maxHeartbeats 4000000 in
theorem K133_2 {xs : Option (List Int32)} {d : Nat} {w : List sx_C} (hI : WI w) : sx_RP xs d 133 0 (lv_args 0 [.ref 111, .int 2]) [] w (fun r w2 => (r = some (.int (-1000000003))) ∧ WI w2 ∧ EK w w2) := by
  have hE : EK w w := EK.rf
  refine sx_RP.step (pc2 := 1) (ls2 := [(0, .ref 111), (1, .int 2)]) (st2 := [.ref 111]) (w3 := w) rfl rfl ?_
  refine sx_RP.gf (v := .ref 116) rfl rfl hI.1.o111 rfl rfl (show _ = 4 from rfl) ?_
  refine sx_RP.step (pc2 := 5) (ls2 := [(0, .ref 111), (1, .int 2)]) (st2 := [.int 2, .ref 116]) (w3 := w) rfl rfl ?_
  refine sx_RP.step (pc2 := 6) (ls2 := [(0, .ref 111), (1, .int 2)]) (st2 := [.int 2, .ref 116, .int 2, .ref 116]) (w3 := w) rfl rfl ?_
  refine sx_RP.ild (c := 2) rfl hI.1.a116.1 hI.1.a116.2 (sx_in_nI (show 2 < 7 by omega) (by decide)) (show (nI 2).toNatClampNeg = 2 from nI_clamp (by omega)) (show _ = 7 from rfl) ?_
  refine sx_RP.step (pc2 := 8) (ls2 := [(0, .ref 111), (1, .int 2)]) (st2 := [.int 1, .int ((ia w 116).getD 2 0), .int 2, .ref 116]) (w3 := w) rfl rfl ?_
  refine sx_RP.step (pc2 := 9) (ls2 := [(0, .ref 111), (1, .int 2)]) (st2 := [.int (((ia w 116).getD 2 0) + 1), .int 2, .ref 116]) (w3 := w) rfl rfl ?_
  refine sx_RP.mFK hI hE rfl hI.1.a116 (sx_in_nI (show 2 < 7 by omega) (by decide)) (by decide) (show _ = 10 from rfl) (fun w1 hI2 hE3 hk4 => ?_)
  refine sx_RP.step (pc2 := 12) (ls2 := [(0, .ref 111), (1, .int 2)]) (st2 := [.int (-1000000001)]) (w3 := w1) rfl rfl ?_
  refine sx_RP.step (pc2 := 13) (ls2 := [(0, .ref 111), (1, .int 2)]) (st2 := [.int 2, .int (-1000000001)]) (w3 := w1) rfl rfl ?_
  refine sx_RP.step (pc2 := 14) (ls2 := [(0, .ref 111), (1, .int 2)]) (st2 := [.int (-1000000003)]) (w3 := w1) rfl rfl ?_
  refine sx_RP.ret (r := (some (.int (-1000000003)))) rfl rfl ?_
  exact ⟨rfl, hI2, hE3⟩
set_option maxRecDepth 20000 in
set_option maxHeartbeats 4000000 in
theorem K133_3 {xs : Option (List Int32)} {d : Nat} {w : List sx_C} (hI : WI w) : sx_RP xs d 133 0 (lv_args 0 [.ref 111, .int 3]) [] w (fun r w2 => (r = some (.int (-1000000004))) ∧ WI w2 ∧ EK w w2) := by
  have hE : EK w w := EK.rf
  refine sx_RP.step (pc2 := 1) (ls2 := [(0, .ref 111), (1, .int 3)]) (st2 := [.ref 111]) (w3 := w) rfl rfl ?_
  refine sx_RP.gf (v := .ref 116) rfl rfl hI.1.o111 rfl rfl (show _ = 4 from rfl) ?_
  refine sx_RP.step (pc2 := 5) (ls2 := [(0, .ref 111), (1, .int 3)]) (st2 := [.int 3, .ref 116]) (w3 := w) rfl rfl ?_
  refine sx_RP.step (pc2 := 6) (ls2 := [(0, .ref 111), (1, .int 3)]) (st2 := [.int 3, .ref 116, .int 3, .ref 116]) (w3 := w) rfl rfl ?_
  refine sx_RP.ild (c := 3) rfl hI.1.a116.1 hI.1.a116.2 (sx_in_nI (show 3 < 7 by omega) (by decide)) (show (nI 3).toNatClampNeg = 3 from nI_clamp (by omega)) (show _ = 7 from rfl) ?_
  refine sx_RP.step (pc2 := 8) (ls2 := [(0, .ref 111), (1, .int 3)]) (st2 := [.int 1, .int ((ia w 116).getD 3 0), .int 3, .ref 116]) (w3 := w) rfl rfl ?_
  refine sx_RP.step (pc2 := 9) (ls2 := [(0, .ref 111), (1, .int 3)]) (st2 := [.int (((ia w 116).getD 3 0) + 1), .int 3, .ref 116]) (w3 := w) rfl rfl ?_
  refine sx_RP.mFK hI hE rfl hI.1.a116 (sx_in_nI (show 3 < 7 by omega) (by decide)) (by decide) (show _ = 10 from rfl) (fun w1 hI2 hE3 hk4 => ?_)
  refine sx_RP.step (pc2 := 12) (ls2 := [(0, .ref 111), (1, .int 3)]) (st2 := [.int (-1000000001)]) (w3 := w1) rfl rfl ?_
  refine sx_RP.step (pc2 := 13) (ls2 := [(0, .ref 111), (1, .int 3)]) (st2 := [.int 3, .int (-1000000001)]) (w3 := w1) rfl rfl ?_
  refine sx_RP.step (pc2 := 14) (ls2 := [(0, .ref 111), (1, .int 3)]) (st2 := [.int (-1000000004)]) (w3 := w1) rfl rfl ?_
  refine sx_RP.ret (r := (some (.int (-1000000004)))) rfl rfl ?_
  exact ⟨rfl, hI2, hE3⟩
set_option maxRecDepth 20000 in
set_option maxHeartbeats 4000000 in
theorem K133_4 {xs : Option (List Int32)} {d : Nat} {w : List sx_C} (hI : WI w) : sx_RP xs d 133 0 (lv_args 0 [.ref 111, .int 4]) [] w (fun r w2 => (r = some (.int (-1000000005))) ∧ WI w2 ∧ EK w w2) := by
  have hE : EK w w := EK.rf
  refine sx_RP.step (pc2 := 1) (ls2 := [(0, .ref 111), (1, .int 4)]) (st2 := [.ref 111]) (w3 := w) rfl rfl ?_
  refine sx_RP.gf (v := .ref 116) rfl rfl hI.1.o111 rfl rfl (show _ = 4 from rfl) ?_
  refine sx_RP.step (pc2 := 5) (ls2 := [(0, .ref 111), (1, .int 4)]) (st2 := [.int 4, .ref 116]) (w3 := w) rfl rfl ?_
  refine sx_RP.step (pc2 := 6) (ls2 := [(0, .ref 111), (1, .int 4)]) (st2 := [.int 4, .ref 116, .int 4, .ref 116]) (w3 := w) rfl rfl ?_
  refine sx_RP.ild (c := 4) rfl hI.1.a116.1 hI.1.a116.2 (sx_in_nI (show 4 < 7 by omega) (by decide)) (show (nI 4).toNatClampNeg = 4 from nI_clamp (by omega)) (show _ = 7 from rfl) ?_
  refine sx_RP.step (pc2 := 8) (ls2 := [(0, .ref 111), (1, .int 4)]) (st2 := [.int 1, .int ((ia w 116).getD 4 0), .int 4, .ref 116]) (w3 := w) rfl rfl ?_
  refine sx_RP.step (pc2 := 9) (ls2 := [(0, .ref 111), (1, .int 4)]) (st2 := [.int (((ia w 116).getD 4 0) + 1), .int 4, .ref 116]) (w3 := w) rfl rfl ?_
  refine sx_RP.mFK hI hE rfl hI.1.a116 (sx_in_nI (show 4 < 7 by omega) (by decide)) (by decide) (show _ = 10 from rfl) (fun w1 hI2 hE3 hk4 => ?_)
  refine sx_RP.step (pc2 := 12) (ls2 := [(0, .ref 111), (1, .int 4)]) (st2 := [.int (-1000000001)]) (w3 := w1) rfl rfl ?_
  refine sx_RP.step (pc2 := 13) (ls2 := [(0, .ref 111), (1, .int 4)]) (st2 := [.int 4, .int (-1000000001)]) (w3 := w1) rfl rfl ?_
  refine sx_RP.step (pc2 := 14) (ls2 := [(0, .ref 111), (1, .int 4)]) (st2 := [.int (-1000000005)]) (w3 := w1) rfl rfl ?_
  refine sx_RP.ret (r := (some (.int (-1000000005)))) rfl rfl ?_
  exact ⟨rfl, hI2, hE3⟩
set_option maxRecDepth 20000 in
set_option maxHeartbeats 4000000 in
theorem K133_5 {xs : Option (List Int32)} {d : Nat} {w : List sx_C} (hI : WI w) : sx_RP xs d 133 0 (lv_args 0 [.ref 111, .int 5]) [] w (fun r w2 => (r = some (.int (-1000000006))) ∧ WI w2 ∧ EK w w2) := by
  have hE : EK w w := EK.rf
  refine sx_RP.step (pc2 := 1) (ls2 := [(0, .ref 111), (1, .int 5)]) (st2 := [.ref 111]) (w3 := w) rfl rfl ?_
  refine sx_RP.gf (v := .ref 116) rfl rfl hI.1.o111 rfl rfl (show _ = 4 from rfl) ?_
  refine sx_RP.step (pc2 := 5) (ls2 := [(0, .ref 111), (1, .int 5)]) (st2 := [.int 5, .ref 116]) (w3 := w) rfl rfl ?_
  refine sx_RP.step (pc2 := 6) (ls2 := [(0, .ref 111), (1, .int 5)]) (st2 := [.int 5, .ref 116, .int 5, .ref 116]) (w3 := w) rfl rfl ?_
  refine sx_RP.ild (c := 5) rfl hI.1.a116.1 hI.1.a116.2 (sx_in_nI (show 5 < 7 by omega) (by decide)) (show (nI 5).toNatClampNeg = 5 from nI_clamp (by omega)) (show _ = 7 from rfl) ?_
  refine sx_RP.step (pc2 := 8) (ls2 := [(0, .ref 111), (1, .int 5)]) (st2 := [.int 1, .int ((ia w 116).getD 5 0), .int 5, .ref 116]) (w3 := w) rfl rfl ?_
  refine sx_RP.step (pc2 := 9) (ls2 := [(0, .ref 111), (1, .int 5)]) (st2 := [.int (((ia w 116).getD 5 0) + 1), .int 5, .ref 116]) (w3 := w) rfl rfl ?_
  refine sx_RP.mFK hI hE rfl hI.1.a116 (sx_in_nI (show 5 < 7 by omega) (by decide)) (by decide) (show _ = 10 from rfl) (fun w1 hI2 hE3 hk4 => ?_)
  refine sx_RP.step (pc2 := 12) (ls2 := [(0, .ref 111), (1, .int 5)]) (st2 := [.int (-1000000001)]) (w3 := w1) rfl rfl ?_
  refine sx_RP.step (pc2 := 13) (ls2 := [(0, .ref 111), (1, .int 5)]) (st2 := [.int 5, .int (-1000000001)]) (w3 := w1) rfl rfl ?_
  refine sx_RP.step (pc2 := 14) (ls2 := [(0, .ref 111), (1, .int 5)]) (st2 := [.int (-1000000006)]) (w3 := w1) rfl rfl ?_
  refine sx_RP.ret (r := (some (.int (-1000000006)))) rfl rfl ?_
  exact ⟨rfl, hI2, hE3⟩
set_option maxRecDepth 20000 in
set_option maxHeartbeats 4000000 in
theorem K133_6 {xs : Option (List Int32)} {d : Nat} {w : List sx_C} (hI : WI w) : sx_RP xs d 133 0 (lv_args 0 [.ref 111, .int 6]) [] w (fun r w2 => (r = some (.int (-1000000007))) ∧ WI w2 ∧ EK w w2) := by
  have hE : EK w w := EK.rf
  refine sx_RP.step (pc2 := 1) (ls2 := [(0, .ref 111), (1, .int 6)]) (st2 := [.ref 111]) (w3 := w) rfl rfl ?_
  refine sx_RP.gf (v := .ref 116) rfl rfl hI.1.o111 rfl rfl (show _ = 4 from rfl) ?_
  refine sx_RP.step (pc2 := 5) (ls2 := [(0, .ref 111), (1, .int 6)]) (st2 := [.int 6, .ref 116]) (w3 := w) rfl rfl ?_
  refine sx_RP.step (pc2 := 6) (ls2 := [(0, .ref 111), (1, .int 6)]) (st2 := [.int 6, .ref 116, .int 6, .ref 116]) (w3 := w) rfl rfl ?_
  refine sx_RP.ild (c := 6) rfl hI.1.a116.1 hI.1.a116.2 (sx_in_nI (show 6 < 7 by omega) (by decide)) (show (nI 6).toNatClampNeg = 6 from nI_clamp (by omega)) (show _ = 7 from rfl) ?_
  refine sx_RP.step (pc2 := 8) (ls2 := [(0, .ref 111), (1, .int 6)]) (st2 := [.int 1, .int ((ia w 116).getD 6 0), .int 6, .ref 116]) (w3 := w) rfl rfl ?_
  refine sx_RP.step (pc2 := 9) (ls2 := [(0, .ref 111), (1, .int 6)]) (st2 := [.int (((ia w 116).getD 6 0) + 1), .int 6, .ref 116]) (w3 := w) rfl rfl ?_
  refine sx_RP.mFK hI hE rfl hI.1.a116 (sx_in_nI (show 6 < 7 by omega) (by decide)) (by decide) (show _ = 10 from rfl) (fun w1 hI2 hE3 hk4 => ?_)
  refine sx_RP.step (pc2 := 12) (ls2 := [(0, .ref 111), (1, .int 6)]) (st2 := [.int (-1000000001)]) (w3 := w1) rfl rfl ?_
  refine sx_RP.step (pc2 := 13) (ls2 := [(0, .ref 111), (1, .int 6)]) (st2 := [.int 6, .int (-1000000001)]) (w3 := w1) rfl rfl ?_
  refine sx_RP.step (pc2 := 14) (ls2 := [(0, .ref 111), (1, .int 6)]) (st2 := [.int (-1000000007)]) (w3 := w1) rfl rfl ?_
  refine sx_RP.ret (r := (some (.int (-1000000007)))) rfl rfl ?_
  exact ⟨rfl, hI2, hE3⟩
set_option maxRecDepth 20000 in
set_option maxHeartbeats 4000000 in
theorem K154_2 {xs : Option (List Int32)} {d : Nat} {w : List sx_C} (hI : WI w) {g : Nat} (hg : g < 10) {v : Nat} (hv : v ≤ 47) : sx_RP xs (d + 1) 154 0 (lv_args 0 [.ref 111, .int (nI g), .int 2, .int (nI v)]) [] w (fun r w2 => (∃ v : Int32, r = some (.int v)) ∧ WI w2 ∧ EK w w2) := by
  have hE : EK w w := EK.rf
  refine sx_RP.step (pc2 := 1) (ls2 := [(0, .ref 111), (1, .int (nI g)), (2, .int 2), (3, .int (nI v))]) (st2 := [.ref 111]) (w3 := w) rfl rfl ?_
  refine sx_RP.step (pc2 := 2) (ls2 := [(0, .ref 111), (1, .int (nI g)), (2, .int 2), (3, .int (nI v))]) (st2 := [.int (nI g), .ref 111]) (w3 := w) rfl rfl ?_
  refine sx_RP.step (pc2 := 3) (ls2 := [(0, .ref 111), (1, .int (nI g)), (2, .int 2), (3, .int (nI v))]) (st2 := [.int 2, .int (nI g), .ref 111]) (w3 := w) rfl rfl ?_
  obtain ⟨x1, hx2, c3⟩ := p138_2 hI (show g < 10 by omega)
  refine sx_RP.cu (as := [.ref 111, .int (nI g), .int 2]) (rest2 := []) (st3 := [.int (nI x1)]) rfl rfl (sx_inv_v2 (mi := 154) (k := 59) (st := [.int 2, .int (nI g), .ref 111]) (w := w) rfl rfl hI.1.o111 rfl rfl rfl) rfl rfl (c3) rfl ?_
  refine sx_RP.step (pc2 := 8) (ls2 := [(4, .int (nI x1)), (0, .ref 111), (1, .int (nI g)), (2, .int 2), (3, .int (nI v))]) (st2 := []) (w3 := w) rfl rfl ?_
  refine sx_RP.step (pc2 := 9) (ls2 := [(4, .int (nI x1)), (0, .ref 111), (1, .int (nI g)), (2, .int 2), (3, .int (nI v))]) (st2 := [.ref 111]) (w3 := w) rfl rfl ?_
  refine sx_RP.gf (v := .ref 112) rfl rfl hI.1.o111 rfl rfl (show _ = 12 from rfl) ?_
  refine sx_RP.step (pc2 := 14) (ls2 := [(4, .int (nI x1)), (0, .ref 111), (1, .int (nI g)), (2, .int 2), (3, .int (nI v))]) (st2 := [.int 103, .ref 112]) (w3 := w) rfl rfl ?_
  refine sx_RP.step (pc2 := 16) (ls2 := [(4, .int (nI x1)), (0, .ref 111), (1, .int (nI g)), (2, .int 2), (3, .int (nI v))]) (st2 := [.int 6, .int 103, .ref 112]) (w3 := w) rfl rfl ?_
  refine sx_RP.step (pc2 := 17) (ls2 := [(4, .int (nI x1)), (0, .ref 111), (1, .int (nI g)), (2, .int 2), (3, .int (nI v))]) (st2 := [.int (nI g), .int 6, .int 103, .ref 112]) (w3 := w) rfl rfl ?_
  refine sx_RP.step (pc2 := 18) (ls2 := [(4, .int (nI x1)), (0, .ref 111), (1, .int (nI g)), (2, .int 2), (3, .int (nI v))]) (st2 := [.int (6 * (nI g)), .int 103, .ref 112]) (w3 := w) rfl rfl ?_
  rw [show (6 * (nI g) : Int32) = nI (6 * g) from nI_mul 6 g]
  refine sx_RP.step (pc2 := 19) (ls2 := [(4, .int (nI x1)), (0, .ref 111), (1, .int (nI g)), (2, .int 2), (3, .int (nI v))]) (st2 := [.int (103 + (nI (6 * g))), .ref 112]) (w3 := w) rfl rfl ?_
  rw [show (103 + (nI (6 * g)) : Int32) = nI (103 + (6 * g)) from nI_add 103 (6 * g)]
  refine sx_RP.step (pc2 := 20) (ls2 := [(4, .int (nI x1)), (0, .ref 111), (1, .int (nI g)), (2, .int 2), (3, .int (nI v))]) (st2 := [.int 2, .int (nI (103 + (6 * g))), .ref 112]) (w3 := w) rfl rfl ?_
  refine sx_RP.step (pc2 := 21) (ls2 := [(4, .int (nI x1)), (0, .ref 111), (1, .int (nI g)), (2, .int 2), (3, .int (nI v))]) (st2 := [.int ((nI (103 + (6 * g))) + 2), .ref 112]) (w3 := w) rfl rfl ?_
  rw [show ((nI (103 + (6 * g))) + 2 : Int32) = nI ((103 + (6 * g)) + 2) from nI_add (103 + (6 * g)) 2]
  refine sx_RP.step (pc2 := 22) (ls2 := [(4, .int (nI x1)), (0, .ref 111), (1, .int (nI g)), (2, .int 2), (3, .int (nI v))]) (st2 := [.int (nI v), .int (nI ((103 + (6 * g)) + 2)), .ref 112]) (w3 := w) rfl rfl ?_
  refine sx_RP.mSK (k := ((103 + (6 * g)) + 2)) hI hE (by omega) (by decide) rfl rfl (by omega) (eOK_g (g := g) (c := 2) (by omega) (by decide) (inR.n (show v ≤ 47 by omega))) (show _ = 23 from rfl) (fun w4 hI5 hE6 hk7 => ?_)
  refine sx_RP.step (pc2 := 25) (ls2 := [(4, .int (nI x1)), (0, .ref 111), (1, .int (nI g)), (2, .int 2), (3, .int (nI v))]) (st2 := [.int (nI x1)]) (w3 := w4) rfl rfl ?_
  refine sx_RP.ret (r := (some (.int (nI x1)))) rfl rfl ?_
  exact ⟨⟨_, rfl⟩, hI5, hE6⟩
set_option maxRecDepth 20000 in
set_option maxHeartbeats 4000000 in
theorem K154_3 {xs : Option (List Int32)} {d : Nat} {w : List sx_C} (hI : WI w) {g : Nat} (hg : g < 10) {v : Nat} (hv : v ≤ 3) : sx_RP xs (d + 1) 154 0 (lv_args 0 [.ref 111, .int (nI g), .int 3, .int (nI v)]) [] w (fun r w2 => (∃ v : Int32, r = some (.int v)) ∧ WI w2 ∧ EK w w2) := by
  have hE : EK w w := EK.rf
  refine sx_RP.step (pc2 := 1) (ls2 := [(0, .ref 111), (1, .int (nI g)), (2, .int 3), (3, .int (nI v))]) (st2 := [.ref 111]) (w3 := w) rfl rfl ?_
  refine sx_RP.step (pc2 := 2) (ls2 := [(0, .ref 111), (1, .int (nI g)), (2, .int 3), (3, .int (nI v))]) (st2 := [.int (nI g), .ref 111]) (w3 := w) rfl rfl ?_
  refine sx_RP.step (pc2 := 3) (ls2 := [(0, .ref 111), (1, .int (nI g)), (2, .int 3), (3, .int (nI v))]) (st2 := [.int 3, .int (nI g), .ref 111]) (w3 := w) rfl rfl ?_
  obtain ⟨x1, hx2, c3⟩ := p138_3 hI (show g < 10 by omega)
  refine sx_RP.cu (as := [.ref 111, .int (nI g), .int 3]) (rest2 := []) (st3 := [.int (nI x1)]) rfl rfl (sx_inv_v2 (mi := 154) (k := 59) (st := [.int 3, .int (nI g), .ref 111]) (w := w) rfl rfl hI.1.o111 rfl rfl rfl) rfl rfl (c3) rfl ?_
  refine sx_RP.step (pc2 := 8) (ls2 := [(4, .int (nI x1)), (0, .ref 111), (1, .int (nI g)), (2, .int 3), (3, .int (nI v))]) (st2 := []) (w3 := w) rfl rfl ?_
  refine sx_RP.step (pc2 := 9) (ls2 := [(4, .int (nI x1)), (0, .ref 111), (1, .int (nI g)), (2, .int 3), (3, .int (nI v))]) (st2 := [.ref 111]) (w3 := w) rfl rfl ?_
  refine sx_RP.gf (v := .ref 112) rfl rfl hI.1.o111 rfl rfl (show _ = 12 from rfl) ?_
  refine sx_RP.step (pc2 := 14) (ls2 := [(4, .int (nI x1)), (0, .ref 111), (1, .int (nI g)), (2, .int 3), (3, .int (nI v))]) (st2 := [.int 103, .ref 112]) (w3 := w) rfl rfl ?_
  refine sx_RP.step (pc2 := 16) (ls2 := [(4, .int (nI x1)), (0, .ref 111), (1, .int (nI g)), (2, .int 3), (3, .int (nI v))]) (st2 := [.int 6, .int 103, .ref 112]) (w3 := w) rfl rfl ?_
  refine sx_RP.step (pc2 := 17) (ls2 := [(4, .int (nI x1)), (0, .ref 111), (1, .int (nI g)), (2, .int 3), (3, .int (nI v))]) (st2 := [.int (nI g), .int 6, .int 103, .ref 112]) (w3 := w) rfl rfl ?_
  refine sx_RP.step (pc2 := 18) (ls2 := [(4, .int (nI x1)), (0, .ref 111), (1, .int (nI g)), (2, .int 3), (3, .int (nI v))]) (st2 := [.int (6 * (nI g)), .int 103, .ref 112]) (w3 := w) rfl rfl ?_
  rw [show (6 * (nI g) : Int32) = nI (6 * g) from nI_mul 6 g]
  refine sx_RP.step (pc2 := 19) (ls2 := [(4, .int (nI x1)), (0, .ref 111), (1, .int (nI g)), (2, .int 3), (3, .int (nI v))]) (st2 := [.int (103 + (nI (6 * g))), .ref 112]) (w3 := w) rfl rfl ?_
  rw [show (103 + (nI (6 * g)) : Int32) = nI (103 + (6 * g)) from nI_add 103 (6 * g)]
  refine sx_RP.step (pc2 := 20) (ls2 := [(4, .int (nI x1)), (0, .ref 111), (1, .int (nI g)), (2, .int 3), (3, .int (nI v))]) (st2 := [.int 3, .int (nI (103 + (6 * g))), .ref 112]) (w3 := w) rfl rfl ?_
  refine sx_RP.step (pc2 := 21) (ls2 := [(4, .int (nI x1)), (0, .ref 111), (1, .int (nI g)), (2, .int 3), (3, .int (nI v))]) (st2 := [.int ((nI (103 + (6 * g))) + 3), .ref 112]) (w3 := w) rfl rfl ?_
  rw [show ((nI (103 + (6 * g))) + 3 : Int32) = nI ((103 + (6 * g)) + 3) from nI_add (103 + (6 * g)) 3]
  refine sx_RP.step (pc2 := 22) (ls2 := [(4, .int (nI x1)), (0, .ref 111), (1, .int (nI g)), (2, .int 3), (3, .int (nI v))]) (st2 := [.int (nI v), .int (nI ((103 + (6 * g)) + 3)), .ref 112]) (w3 := w) rfl rfl ?_
  refine sx_RP.mSK (k := ((103 + (6 * g)) + 3)) hI hE (by omega) (by decide) rfl rfl (by omega) (eOK_g (g := g) (c := 3) (by omega) (by decide) (inR.n (show v ≤ 3 by omega))) (show _ = 23 from rfl) (fun w4 hI5 hE6 hk7 => ?_)
  refine sx_RP.step (pc2 := 25) (ls2 := [(4, .int (nI x1)), (0, .ref 111), (1, .int (nI g)), (2, .int 3), (3, .int (nI v))]) (st2 := [.int (nI x1)]) (w3 := w4) rfl rfl ?_
  refine sx_RP.ret (r := (some (.int (nI x1)))) rfl rfl ?_
  exact ⟨⟨_, rfl⟩, hI5, hE6⟩
set_option maxRecDepth 20000 in
set_option maxHeartbeats 4000000 in
theorem K154_4 {xs : Option (List Int32)} {d : Nat} {w : List sx_C} (hI : WI w) {g : Nat} (hg : g < 10) (v : Int32) : sx_RP xs (d + 1) 154 0 (lv_args 0 [.ref 111, .int (nI g), .int 4, .int v]) [] w (fun r w2 => (∃ v : Int32, r = some (.int v)) ∧ WI w2 ∧ EK w w2) := by
  have hE : EK w w := EK.rf
  refine sx_RP.step (pc2 := 1) (ls2 := [(0, .ref 111), (1, .int (nI g)), (2, .int 4), (3, .int v)]) (st2 := [.ref 111]) (w3 := w) rfl rfl ?_
  refine sx_RP.step (pc2 := 2) (ls2 := [(0, .ref 111), (1, .int (nI g)), (2, .int 4), (3, .int v)]) (st2 := [.int (nI g), .ref 111]) (w3 := w) rfl rfl ?_
  refine sx_RP.step (pc2 := 3) (ls2 := [(0, .ref 111), (1, .int (nI g)), (2, .int 4), (3, .int v)]) (st2 := [.int 4, .int (nI g), .ref 111]) (w3 := w) rfl rfl ?_
  obtain ⟨v1, c2⟩ := p138_4 hI (show g < 10 by omega)
  refine sx_RP.cu (as := [.ref 111, .int (nI g), .int 4]) (rest2 := []) (st3 := [.int v1]) rfl rfl (sx_inv_v2 (mi := 154) (k := 59) (st := [.int 4, .int (nI g), .ref 111]) (w := w) rfl rfl hI.1.o111 rfl rfl rfl) rfl rfl (c2) rfl ?_
  refine sx_RP.step (pc2 := 8) (ls2 := [(4, .int v1), (0, .ref 111), (1, .int (nI g)), (2, .int 4), (3, .int v)]) (st2 := []) (w3 := w) rfl rfl ?_
  refine sx_RP.step (pc2 := 9) (ls2 := [(4, .int v1), (0, .ref 111), (1, .int (nI g)), (2, .int 4), (3, .int v)]) (st2 := [.ref 111]) (w3 := w) rfl rfl ?_
  refine sx_RP.gf (v := .ref 112) rfl rfl hI.1.o111 rfl rfl (show _ = 12 from rfl) ?_
  refine sx_RP.step (pc2 := 14) (ls2 := [(4, .int v1), (0, .ref 111), (1, .int (nI g)), (2, .int 4), (3, .int v)]) (st2 := [.int 103, .ref 112]) (w3 := w) rfl rfl ?_
  refine sx_RP.step (pc2 := 16) (ls2 := [(4, .int v1), (0, .ref 111), (1, .int (nI g)), (2, .int 4), (3, .int v)]) (st2 := [.int 6, .int 103, .ref 112]) (w3 := w) rfl rfl ?_
  refine sx_RP.step (pc2 := 17) (ls2 := [(4, .int v1), (0, .ref 111), (1, .int (nI g)), (2, .int 4), (3, .int v)]) (st2 := [.int (nI g), .int 6, .int 103, .ref 112]) (w3 := w) rfl rfl ?_
  refine sx_RP.step (pc2 := 18) (ls2 := [(4, .int v1), (0, .ref 111), (1, .int (nI g)), (2, .int 4), (3, .int v)]) (st2 := [.int (6 * (nI g)), .int 103, .ref 112]) (w3 := w) rfl rfl ?_
  rw [show (6 * (nI g) : Int32) = nI (6 * g) from nI_mul 6 g]
  refine sx_RP.step (pc2 := 19) (ls2 := [(4, .int v1), (0, .ref 111), (1, .int (nI g)), (2, .int 4), (3, .int v)]) (st2 := [.int (103 + (nI (6 * g))), .ref 112]) (w3 := w) rfl rfl ?_
  rw [show (103 + (nI (6 * g)) : Int32) = nI (103 + (6 * g)) from nI_add 103 (6 * g)]
  refine sx_RP.step (pc2 := 20) (ls2 := [(4, .int v1), (0, .ref 111), (1, .int (nI g)), (2, .int 4), (3, .int v)]) (st2 := [.int 4, .int (nI (103 + (6 * g))), .ref 112]) (w3 := w) rfl rfl ?_
  refine sx_RP.step (pc2 := 21) (ls2 := [(4, .int v1), (0, .ref 111), (1, .int (nI g)), (2, .int 4), (3, .int v)]) (st2 := [.int ((nI (103 + (6 * g))) + 4), .ref 112]) (w3 := w) rfl rfl ?_
  rw [show ((nI (103 + (6 * g))) + 4 : Int32) = nI ((103 + (6 * g)) + 4) from nI_add (103 + (6 * g)) 4]
  refine sx_RP.step (pc2 := 22) (ls2 := [(4, .int v1), (0, .ref 111), (1, .int (nI g)), (2, .int 4), (3, .int v)]) (st2 := [.int v, .int (nI ((103 + (6 * g)) + 4)), .ref 112]) (w3 := w) rfl rfl ?_
  refine sx_RP.mSK (k := ((103 + (6 * g)) + 4)) hI hE (by omega) (by decide) rfl rfl (by omega) (eOK_g (g := g) (c := 4) (by omega) (by decide) trivial) (show _ = 23 from rfl) (fun w3 hI4 hE5 hk6 => ?_)
  refine sx_RP.step (pc2 := 25) (ls2 := [(4, .int v1), (0, .ref 111), (1, .int (nI g)), (2, .int 4), (3, .int v)]) (st2 := [.int v1]) (w3 := w3) rfl rfl ?_
  refine sx_RP.ret (r := (some (.int v1))) rfl rfl ?_
  exact ⟨⟨_, rfl⟩, hI4, hE5⟩
set_option maxRecDepth 20000 in
set_option maxHeartbeats 4000000 in
theorem K154_5 {xs : Option (List Int32)} {d : Nat} {w : List sx_C} (hI : WI w) {g : Nat} (hg : g < 10) {v : Nat} (hv : v ≤ 1) : sx_RP xs (d + 1) 154 0 (lv_args 0 [.ref 111, .int (nI g), .int 5, .int (nI v)]) [] w (fun r w2 => (∃ v : Int32, r = some (.int v)) ∧ WI w2 ∧ EK w w2) := by
  have hE : EK w w := EK.rf
  refine sx_RP.step (pc2 := 1) (ls2 := [(0, .ref 111), (1, .int (nI g)), (2, .int 5), (3, .int (nI v))]) (st2 := [.ref 111]) (w3 := w) rfl rfl ?_
  refine sx_RP.step (pc2 := 2) (ls2 := [(0, .ref 111), (1, .int (nI g)), (2, .int 5), (3, .int (nI v))]) (st2 := [.int (nI g), .ref 111]) (w3 := w) rfl rfl ?_
  refine sx_RP.step (pc2 := 3) (ls2 := [(0, .ref 111), (1, .int (nI g)), (2, .int 5), (3, .int (nI v))]) (st2 := [.int 5, .int (nI g), .ref 111]) (w3 := w) rfl rfl ?_
  obtain ⟨x1, hx2, c3⟩ := p138_5 hI (show g < 10 by omega)
  refine sx_RP.cu (as := [.ref 111, .int (nI g), .int 5]) (rest2 := []) (st3 := [.int (nI x1)]) rfl rfl (sx_inv_v2 (mi := 154) (k := 59) (st := [.int 5, .int (nI g), .ref 111]) (w := w) rfl rfl hI.1.o111 rfl rfl rfl) rfl rfl (c3) rfl ?_
  refine sx_RP.step (pc2 := 8) (ls2 := [(4, .int (nI x1)), (0, .ref 111), (1, .int (nI g)), (2, .int 5), (3, .int (nI v))]) (st2 := []) (w3 := w) rfl rfl ?_
  refine sx_RP.step (pc2 := 9) (ls2 := [(4, .int (nI x1)), (0, .ref 111), (1, .int (nI g)), (2, .int 5), (3, .int (nI v))]) (st2 := [.ref 111]) (w3 := w) rfl rfl ?_
  refine sx_RP.gf (v := .ref 112) rfl rfl hI.1.o111 rfl rfl (show _ = 12 from rfl) ?_
  refine sx_RP.step (pc2 := 14) (ls2 := [(4, .int (nI x1)), (0, .ref 111), (1, .int (nI g)), (2, .int 5), (3, .int (nI v))]) (st2 := [.int 103, .ref 112]) (w3 := w) rfl rfl ?_
  refine sx_RP.step (pc2 := 16) (ls2 := [(4, .int (nI x1)), (0, .ref 111), (1, .int (nI g)), (2, .int 5), (3, .int (nI v))]) (st2 := [.int 6, .int 103, .ref 112]) (w3 := w) rfl rfl ?_
  refine sx_RP.step (pc2 := 17) (ls2 := [(4, .int (nI x1)), (0, .ref 111), (1, .int (nI g)), (2, .int 5), (3, .int (nI v))]) (st2 := [.int (nI g), .int 6, .int 103, .ref 112]) (w3 := w) rfl rfl ?_
  refine sx_RP.step (pc2 := 18) (ls2 := [(4, .int (nI x1)), (0, .ref 111), (1, .int (nI g)), (2, .int 5), (3, .int (nI v))]) (st2 := [.int (6 * (nI g)), .int 103, .ref 112]) (w3 := w) rfl rfl ?_
  rw [show (6 * (nI g) : Int32) = nI (6 * g) from nI_mul 6 g]
  refine sx_RP.step (pc2 := 19) (ls2 := [(4, .int (nI x1)), (0, .ref 111), (1, .int (nI g)), (2, .int 5), (3, .int (nI v))]) (st2 := [.int (103 + (nI (6 * g))), .ref 112]) (w3 := w) rfl rfl ?_
  rw [show (103 + (nI (6 * g)) : Int32) = nI (103 + (6 * g)) from nI_add 103 (6 * g)]
  refine sx_RP.step (pc2 := 20) (ls2 := [(4, .int (nI x1)), (0, .ref 111), (1, .int (nI g)), (2, .int 5), (3, .int (nI v))]) (st2 := [.int 5, .int (nI (103 + (6 * g))), .ref 112]) (w3 := w) rfl rfl ?_
  refine sx_RP.step (pc2 := 21) (ls2 := [(4, .int (nI x1)), (0, .ref 111), (1, .int (nI g)), (2, .int 5), (3, .int (nI v))]) (st2 := [.int ((nI (103 + (6 * g))) + 5), .ref 112]) (w3 := w) rfl rfl ?_
  rw [show ((nI (103 + (6 * g))) + 5 : Int32) = nI ((103 + (6 * g)) + 5) from nI_add (103 + (6 * g)) 5]
  refine sx_RP.step (pc2 := 22) (ls2 := [(4, .int (nI x1)), (0, .ref 111), (1, .int (nI g)), (2, .int 5), (3, .int (nI v))]) (st2 := [.int (nI v), .int (nI ((103 + (6 * g)) + 5)), .ref 112]) (w3 := w) rfl rfl ?_
  refine sx_RP.mSK (k := ((103 + (6 * g)) + 5)) hI hE (by omega) (by decide) rfl rfl (by omega) (eOK_g (g := g) (c := 5) (by omega) (by decide) (inR.n (show v ≤ 1 by omega))) (show _ = 23 from rfl) (fun w4 hI5 hE6 hk7 => ?_)
  refine sx_RP.step (pc2 := 25) (ls2 := [(4, .int (nI x1)), (0, .ref 111), (1, .int (nI g)), (2, .int 5), (3, .int (nI v))]) (st2 := [.int (nI x1)]) (w3 := w4) rfl rfl ?_
  refine sx_RP.ret (r := (some (.int (nI x1)))) rfl rfl ?_
  exact ⟨⟨_, rfl⟩, hI5, hE6⟩
set_option maxRecDepth 20000 in
set_option maxHeartbeats 4000000 in
theorem K170 {xs : Option (List Int32)} {d : Nat} {w : List sx_C} (hI : WI w) {g : Nat} (hg : g < 10) : sx_RP xs (d + 2) 170 0 (lv_args 0 [.ref 111, .int (nI g)]) [] w (fun r w2 => (r = none) ∧ WI w2 ∧ EK w w2) := by
  have hE : EK w w := EK.rf
  refine sx_RP.step (pc2 := 1) (ls2 := [(0, .ref 111), (1, .int (nI g))]) (st2 := [.ref 111]) (w3 := w) rfl rfl ?_
  refine sx_RP.step (pc2 := 2) (ls2 := [(0, .ref 111), (1, .int (nI g))]) (st2 := [.int (nI g), .ref 111]) (w3 := w) rfl rfl ?_
  refine sx_RP.step (pc2 := 3) (ls2 := [(0, .ref 111), (1, .int (nI g))]) (st2 := [.int 2, .int (nI g), .ref 111]) (w3 := w) rfl rfl ?_
  obtain ⟨x1, hx2, c3⟩ := p138_2 hI (show g < 10 by omega)
  refine sx_RP.cu (as := [.ref 111, .int (nI g), .int 2]) (rest2 := []) (st3 := [.int (nI x1)]) rfl rfl (sx_inv_v2 (mi := 170) (k := 59) (st := [.int 2, .int (nI g), .ref 111]) (w := w) rfl rfl hI.1.o111 rfl rfl rfl) rfl rfl (c3) rfl ?_
  refine sx_RP.step (pc2 := 7) (ls2 := [(0, .ref 111), (1, .int (nI g))]) (st2 := [.ref 111, .int (nI x1)]) (w3 := w) rfl rfl ?_
  refine sx_RP.step (pc2 := 8) (ls2 := [(0, .ref 111), (1, .int (nI g))]) (st2 := [.int (nI g), .ref 111, .int (nI x1)]) (w3 := w) rfl rfl ?_
  refine sx_RP.step (pc2 := 9) (ls2 := [(0, .ref 111), (1, .int (nI g))]) (st2 := [.int 3, .int (nI g), .ref 111, .int (nI x1)]) (w3 := w) rfl rfl ?_
  obtain ⟨x4, hx5, c6⟩ := p138_3 hI (show g < 10 by omega)
  refine sx_RP.cu (as := [.ref 111, .int (nI g), .int 3]) (rest2 := [.int (nI x1)]) (st3 := [.int (nI x4), .int (nI x1)]) rfl rfl (sx_inv_v2 (mi := 170) (k := 59) (st := [.int 3, .int (nI g), .ref 111, .int (nI x1)]) (w := w) rfl rfl hI.1.o111 rfl rfl rfl) rfl rfl (c6) rfl ?_
  rcases bes_cases (c := x1) (j := x4) (by omega) (by omega) with q7 | ⟨x8, hx9, q7⟩
  · refine sx_RP.cu (as := [.int (nI x1), .int (nI x4)]) (rest2 := []) (st3 := [.int (-1)]) rfl rfl rfl rfl rfl (cb_142e (by omega) (by omega) q7) rfl ?_
    refine sx_RP.step (pc2 := 16) (ls2 := [(2, .int (-1)), (0, .ref 111), (1, .int (nI g))]) (st2 := []) (w3 := w) rfl rfl ?_
    refine sx_RP.step (pc2 := 17) (ls2 := [(2, .int (-1)), (0, .ref 111), (1, .int (nI g))]) (st2 := [.int (-1)]) (w3 := w) rfl rfl ?_
    refine sx_RP.step (pc2 := 20) (ls2 := [(2, .int (-1)), (0, .ref 111), (1, .int (nI g))]) (st2 := []) (w3 := w) rfl rfl ?_
    refine sx_RP.ret (r := none) rfl rfl ?_
    exact ⟨rfl, hI, hE⟩
  · refine sx_RP.cu (as := [.int (nI x1), .int (nI x4)]) (rest2 := []) (st3 := [.int (nI x8)]) rfl rfl rfl rfl rfl (cb_142e (by omega) (by omega) q7) rfl ?_
    refine sx_RP.step (pc2 := 16) (ls2 := [(2, .int (nI x8)), (0, .ref 111), (1, .int (nI g))]) (st2 := []) (w3 := w) rfl rfl ?_
    refine sx_RP.step (pc2 := 17) (ls2 := [(2, .int (nI x8)), (0, .ref 111), (1, .int (nI g))]) (st2 := [.int (nI x8)]) (w3 := w) rfl rfl ?_
    refine sx_RP.br (p1 := 21) (l1 := [(2, .int (nI x8)), (0, .ref 111), (1, .int (nI g))]) (s1 := []) (v1 := w) rfl rfl (fun _ => ?_) (fun q => absurd (nI_pos' (by omega)) (of_decide_eq_false q))
    refine sx_RP.step (pc2 := 22) (ls2 := [(2, .int (nI x8)), (0, .ref 111), (1, .int (nI g))]) (st2 := [.ref 111]) (w3 := w) rfl rfl ?_
    refine sx_RP.step (pc2 := 23) (ls2 := [(2, .int (nI x8)), (0, .ref 111), (1, .int (nI g))]) (st2 := [.int (nI g), .ref 111]) (w3 := w) rfl rfl ?_
    refine sx_RP.step (pc2 := 24) (ls2 := [(2, .int (nI x8)), (0, .ref 111), (1, .int (nI g))]) (st2 := [.int (nI x8), .int (nI g), .ref 111]) (w3 := w) rfl rfl ?_
    obtain ⟨v10, c11⟩ := p147 hI (show g < 10 by omega) (show x8 < 48 by omega)
    refine sx_RP.cu (as := [.ref 111, .int (nI g), .int (nI x8)]) (rest2 := []) (st3 := [.int v10]) rfl rfl (sx_inv_v2 (mi := 170) (k := 87) (st := [.int (nI x8), .int (nI g), .ref 111]) (w := w) rfl rfl hI.1.o111 rfl rfl rfl) rfl rfl (c11) rfl ?_
    refine sx_RP.step (pc2 := 28) (ls2 := [(3, .int v10), (2, .int (nI x8)), (0, .ref 111), (1, .int (nI g))]) (st2 := []) (w3 := w) rfl rfl ?_
    refine sx_RP.step (pc2 := 29) (ls2 := [(3, .int v10), (2, .int (nI x8)), (0, .ref 111), (1, .int (nI g))]) (st2 := [.int v10]) (w3 := w) rfl rfl ?_
    refine sx_RP.br (p1 := 41) (l1 := [(3, .int v10), (2, .int (nI x8)), (0, .ref 111), (1, .int (nI g))]) (s1 := []) (v1 := w) (p2 := 32) (l2 := [(3, .int v10), (2, .int (nI x8)), (0, .ref 111), (1, .int (nI g))]) (s2 := []) (v2 := w) rfl rfl (fun q12 => ?_) (fun q12 => ?_)
    · replace q12 := of_decide_eq_true q12
      refine sx_RP.step (pc2 := 42) (ls2 := [(3, .int v10), (2, .int (nI x8)), (0, .ref 111), (1, .int (nI g))]) (st2 := [.ref 111]) (w3 := w) rfl rfl ?_
      refine sx_RP.step (pc2 := 43) (ls2 := [(3, .int v10), (2, .int (nI x8)), (0, .ref 111), (1, .int (nI g))]) (st2 := [.int (nI g), .ref 111]) (w3 := w) rfl rfl ?_
      refine sx_RP.step (pc2 := 44) (ls2 := [(3, .int v10), (2, .int (nI x8)), (0, .ref 111), (1, .int (nI g))]) (st2 := [.int 4, .int (nI g), .ref 111]) (w3 := w) rfl rfl ?_
      obtain ⟨v13, c14⟩ := p138_4 hI (show g < 10 by omega)
      refine sx_RP.cu (as := [.ref 111, .int (nI g), .int 4]) (rest2 := []) (st3 := [.int v13]) rfl rfl (sx_inv_v2 (mi := 170) (k := 59) (st := [.int 4, .int (nI g), .ref 111]) (w := w) rfl rfl hI.1.o111 rfl rfl rfl) rfl rfl (c14) rfl ?_
      refine sx_RP.step (pc2 := 48) (ls2 := [(3, .int v10), (2, .int (nI x8)), (0, .ref 111), (1, .int (nI g))]) (st2 := [.int 1, .int v13]) (w3 := w) rfl rfl ?_
      refine sx_RP.step (pc2 := 49) (ls2 := [(3, .int v10), (2, .int (nI x8)), (0, .ref 111), (1, .int (nI g))]) (st2 := [.int (v13 + 1)]) (w3 := w) rfl rfl ?_
      refine sx_RP.step (pc2 := 51) (ls2 := [(4, .int (v13 + 1)), (3, .int v10), (2, .int (nI x8)), (0, .ref 111), (1, .int (nI g))]) (st2 := []) (w3 := w) rfl rfl ?_
      refine sx_RP.step (pc2 := 52) (ls2 := [(4, .int (v13 + 1)), (3, .int v10), (2, .int (nI x8)), (0, .ref 111), (1, .int (nI g))]) (st2 := [.ref 111]) (w3 := w) rfl rfl ?_
      refine sx_RP.step (pc2 := 53) (ls2 := [(4, .int (v13 + 1)), (3, .int v10), (2, .int (nI x8)), (0, .ref 111), (1, .int (nI g))]) (st2 := [.int (nI g), .ref 111]) (w3 := w) rfl rfl ?_
      refine sx_RP.step (pc2 := 54) (ls2 := [(4, .int (v13 + 1)), (3, .int v10), (2, .int (nI x8)), (0, .ref 111), (1, .int (nI g))]) (st2 := [.int 4, .int (nI g), .ref 111]) (w3 := w) rfl rfl ?_
      refine sx_RP.step (pc2 := 56) (ls2 := [(4, .int (v13 + 1)), (3, .int v10), (2, .int (nI x8)), (0, .ref 111), (1, .int (nI g))]) (st2 := [.int (v13 + 1), .int 4, .int (nI g), .ref 111]) (w3 := w) rfl rfl ?_
      refine sx_RP.step (pc2 := 57) (ls2 := [(4, .int (v13 + 1)), (3, .int v10), (2, .int (nI x8)), (0, .ref 111), (1, .int (nI g))]) (st2 := [.int v10, .int (v13 + 1), .int 4, .int (nI g), .ref 111]) (w3 := w) rfl rfl ?_
      refine sx_RP.br (p1 := 64) (l1 := [(4, .int (v13 + 1)), (3, .int v10), (2, .int (nI x8)), (0, .ref 111), (1, .int (nI g))]) (s1 := [.int 4, .int (nI g), .ref 111]) (v1 := w) (p2 := 60) (l2 := [(4, .int (v13 + 1)), (3, .int v10), (2, .int (nI x8)), (0, .ref 111), (1, .int (nI g))]) (s2 := [.int 4, .int (nI g), .ref 111]) (v2 := w) rfl rfl (fun q15 => ?_) (fun q15 => ?_)
      · replace q15 := of_decide_eq_true q15
        refine sx_RP.step (pc2 := 66) (ls2 := [(4, .int (v13 + 1)), (3, .int v10), (2, .int (nI x8)), (0, .ref 111), (1, .int (nI g))]) (st2 := [.int (v13 + 1), .int 4, .int (nI g), .ref 111]) (w3 := w) rfl rfl ?_
        refine sx_RP.callp (as2 := [.ref 111, .int (nI g), .int 4, .int (v13 + 1)]) (rest2 := []) rfl rfl (sx_inv_v2 (mi := 170) (k := 110) (st := [.int (v13 + 1), .int 4, .int (nI g), .ref 111]) (w := w) rfl rfl hI.1.o111 rfl rfl rfl) rfl rfl rfl (K154_4 hI (show g < 10 by omega) (v13 + 1)) (show _ = 69 from rfl) ?_
        rintro r4 w17 ⟨⟨v16, rfl⟩, hI18, hE20⟩
        have hE19 := hE.tr (hE20)
        show sx_RP _ _ _ _ _ [.int v16] _ _
        refine sx_RP.step (pc2 := 70) (ls2 := [(4, .int (v13 + 1)), (3, .int v10), (2, .int (nI x8)), (0, .ref 111), (1, .int (nI g))]) (st2 := []) (w3 := w17) rfl rfl ?_
        refine sx_RP.step (pc2 := 72) (ls2 := [(4, .int (v13 + 1)), (3, .int v10), (2, .int (nI x8)), (0, .ref 111), (1, .int (nI g))]) (st2 := [.int (v13 + 1)]) (w3 := w17) rfl rfl ?_
        refine sx_RP.step (pc2 := 73) (ls2 := [(4, .int (v13 + 1)), (3, .int v10), (2, .int (nI x8)), (0, .ref 111), (1, .int (nI g))]) (st2 := [.int v10, .int (v13 + 1)]) (w3 := w17) rfl rfl ?_
        refine sx_RP.br (p1 := 105) (l1 := [(4, .int (v13 + 1)), (3, .int v10), (2, .int (nI x8)), (0, .ref 111), (1, .int (nI g))]) (s1 := []) (v1 := w17) (p2 := 76) (l2 := [(4, .int (v13 + 1)), (3, .int v10), (2, .int (nI x8)), (0, .ref 111), (1, .int (nI g))]) (s2 := []) (v2 := w17) rfl rfl (fun q21 => ?_) (fun q21 => ?_)
        · replace q21 := of_decide_eq_true q21
          refine sx_RP.ret (r := none) rfl rfl ?_
          exact ⟨rfl, hI18, hE19⟩
        · replace q21 := of_decide_eq_false q21
          refine sx_RP.step (pc2 := 77) (ls2 := [(4, .int (v13 + 1)), (3, .int v10), (2, .int (nI x8)), (0, .ref 111), (1, .int (nI g))]) (st2 := [.ref 111]) (w3 := w17) rfl rfl ?_
          refine sx_RP.step (pc2 := 78) (ls2 := [(4, .int (v13 + 1)), (3, .int v10), (2, .int (nI x8)), (0, .ref 111), (1, .int (nI g))]) (st2 := [.int (nI g), .ref 111]) (w3 := w17) rfl rfl ?_
          refine sx_RP.step (pc2 := 79) (ls2 := [(4, .int (v13 + 1)), (3, .int v10), (2, .int (nI x8)), (0, .ref 111), (1, .int (nI g))]) (st2 := [.int 2, .int (nI g), .ref 111]) (w3 := w17) rfl rfl ?_
          refine sx_RP.step (pc2 := 80) (ls2 := [(4, .int (v13 + 1)), (3, .int v10), (2, .int (nI x8)), (0, .ref 111), (1, .int (nI g))]) (st2 := [.int (nI x8), .int 2, .int (nI g), .ref 111]) (w3 := w17) rfl rfl ?_
          refine sx_RP.callp (as2 := [.ref 111, .int (nI g), .int 2, .int (nI x8)]) (rest2 := []) rfl rfl (sx_inv_v2 (mi := 170) (k := 110) (st := [.int (nI x8), .int 2, .int (nI g), .ref 111]) (w := w17) rfl rfl hI18.1.o111 rfl rfl rfl) rfl rfl rfl (K154_2 hI18 (show g < 10 by omega) (show x8 ≤ 47 by omega)) (show _ = 83 from rfl) ?_
          rintro r4 w23 ⟨⟨v22, rfl⟩, hI24, hE26⟩
          have hE25 := hE19.tr (hE26)
          show sx_RP _ _ _ _ _ [.int v22] _ _
          refine sx_RP.step (pc2 := 84) (ls2 := [(4, .int (v13 + 1)), (3, .int v10), (2, .int (nI x8)), (0, .ref 111), (1, .int (nI g))]) (st2 := []) (w3 := w23) rfl rfl ?_
          refine sx_RP.step (pc2 := 85) (ls2 := [(4, .int (v13 + 1)), (3, .int v10), (2, .int (nI x8)), (0, .ref 111), (1, .int (nI g))]) (st2 := [.ref 111]) (w3 := w23) rfl rfl ?_
          refine sx_RP.step (pc2 := 86) (ls2 := [(4, .int (v13 + 1)), (3, .int v10), (2, .int (nI x8)), (0, .ref 111), (1, .int (nI g))]) (st2 := [.int (nI g), .ref 111]) (w3 := w23) rfl rfl ?_
          refine sx_RP.step (pc2 := 87) (ls2 := [(4, .int (v13 + 1)), (3, .int v10), (2, .int (nI x8)), (0, .ref 111), (1, .int (nI g))]) (st2 := [.int 5, .int (nI g), .ref 111]) (w3 := w23) rfl rfl ?_
          refine sx_RP.step (pc2 := 88) (ls2 := [(4, .int (v13 + 1)), (3, .int v10), (2, .int (nI x8)), (0, .ref 111), (1, .int (nI g))]) (st2 := [.ref 111, .int 5, .int (nI g), .ref 111]) (w3 := w23) rfl rfl ?_
          refine sx_RP.step (pc2 := 89) (ls2 := [(4, .int (v13 + 1)), (3, .int v10), (2, .int (nI x8)), (0, .ref 111), (1, .int (nI g))]) (st2 := [.int (nI g), .ref 111, .int 5, .int (nI g), .ref 111]) (w3 := w23) rfl rfl ?_
          refine sx_RP.step (pc2 := 90) (ls2 := [(4, .int (v13 + 1)), (3, .int v10), (2, .int (nI x8)), (0, .ref 111), (1, .int (nI g))]) (st2 := [.int (nI x8), .int (nI g), .ref 111, .int 5, .int (nI g), .ref 111]) (w3 := w23) rfl rfl ?_
          obtain ⟨x27, hx28, c29⟩ := p144 hI24 (show g < 10 by omega) (show x8 < 48 by omega)
          refine sx_RP.cu (as := [.ref 111, .int (nI g), .int (nI x8)]) (rest2 := [.int 5, .int (nI g), .ref 111]) (st3 := [.int (nI x27), .int 5, .int (nI g), .ref 111]) rfl rfl (sx_inv_v2 (mi := 170) (k := 107) (st := [.int (nI x8), .int (nI g), .ref 111, .int 5, .int (nI g), .ref 111]) (w := w23) rfl rfl hI24.1.o111 rfl rfl rfl) rfl rfl (c29) rfl ?_
          refine sx_RP.br (p1 := 100) (l1 := [(4, .int (v13 + 1)), (3, .int v10), (2, .int (nI x8)), (0, .ref 111), (1, .int (nI g))]) (s1 := [.int 5, .int (nI g), .ref 111]) (v1 := w23) (p2 := 96) (l2 := [(4, .int (v13 + 1)), (3, .int v10), (2, .int (nI x8)), (0, .ref 111), (1, .int (nI g))]) (s2 := [.int 5, .int (nI g), .ref 111]) (v2 := w23) rfl rfl (fun q30 => ?_) (fun q30 => ?_)
          · replace q30 := of_decide_eq_true q30
            replace q30 := (nI_eq (a := x27) (b := 0) (by omega) (by omega)).mp q30
            refine sx_RP.step (pc2 := 101) (ls2 := [(4, .int (v13 + 1)), (3, .int v10), (2, .int (nI x8)), (0, .ref 111), (1, .int (nI g))]) (st2 := [.int 1, .int 5, .int (nI g), .ref 111]) (w3 := w23) rfl rfl ?_
            refine sx_RP.callp (as2 := [.ref 111, .int (nI g), .int 5, .int 1]) (rest2 := []) rfl rfl (sx_inv_v2 (mi := 170) (k := 110) (st := [.int 1, .int 5, .int (nI g), .ref 111]) (w := w23) rfl rfl hI24.1.o111 rfl rfl rfl) rfl rfl rfl (K154_5 hI24 (show g < 10 by omega) (show 1 ≤ 1 by omega)) (show _ = 104 from rfl) ?_
            rintro r4 w32 ⟨⟨v31, rfl⟩, hI33, hE35⟩
            have hE34 := hE25.tr (hE35)
            show sx_RP _ _ _ _ _ [.int v31] _ _
            refine sx_RP.step (pc2 := 105) (ls2 := [(4, .int (v13 + 1)), (3, .int v10), (2, .int (nI x8)), (0, .ref 111), (1, .int (nI g))]) (st2 := []) (w3 := w32) rfl rfl ?_
            refine sx_RP.ret (r := none) rfl rfl ?_
            exact ⟨rfl, hI33, hE34⟩
          · replace q30 := of_decide_eq_false q30
            replace q30 := mt (nI_eq (a := x27) (b := 0) (by omega) (by omega)).mpr q30
            refine sx_RP.step (pc2 := 97) (ls2 := [(4, .int (v13 + 1)), (3, .int v10), (2, .int (nI x8)), (0, .ref 111), (1, .int (nI g))]) (st2 := [.int 0, .int 5, .int (nI g), .ref 111]) (w3 := w23) rfl rfl ?_
            refine sx_RP.step (pc2 := 101) (ls2 := [(4, .int (v13 + 1)), (3, .int v10), (2, .int (nI x8)), (0, .ref 111), (1, .int (nI g))]) (st2 := [.int 0, .int 5, .int (nI g), .ref 111]) (w3 := w23) rfl rfl ?_
            refine sx_RP.callp (as2 := [.ref 111, .int (nI g), .int 5, .int 0]) (rest2 := []) rfl rfl (sx_inv_v2 (mi := 170) (k := 110) (st := [.int 0, .int 5, .int (nI g), .ref 111]) (w := w23) rfl rfl hI24.1.o111 rfl rfl rfl) rfl rfl rfl (K154_5 hI24 (show g < 10 by omega) (show 0 ≤ 1 by omega)) (show _ = 104 from rfl) ?_
            rintro r4 w37 ⟨⟨v36, rfl⟩, hI38, hE40⟩
            have hE39 := hE25.tr (hE40)
            show sx_RP _ _ _ _ _ [.int v36] _ _
            refine sx_RP.step (pc2 := 105) (ls2 := [(4, .int (v13 + 1)), (3, .int v10), (2, .int (nI x8)), (0, .ref 111), (1, .int (nI g))]) (st2 := []) (w3 := w37) rfl rfl ?_
            refine sx_RP.ret (r := none) rfl rfl ?_
            exact ⟨rfl, hI38, hE39⟩
      · replace q15 := of_decide_eq_false q15
        refine sx_RP.step (pc2 := 61) (ls2 := [(4, .int (v13 + 1)), (3, .int v10), (2, .int (nI x8)), (0, .ref 111), (1, .int (nI g))]) (st2 := [.int 0, .int 4, .int (nI g), .ref 111]) (w3 := w) rfl rfl ?_
        refine sx_RP.step (pc2 := 66) (ls2 := [(4, .int (v13 + 1)), (3, .int v10), (2, .int (nI x8)), (0, .ref 111), (1, .int (nI g))]) (st2 := [.int 0, .int 4, .int (nI g), .ref 111]) (w3 := w) rfl rfl ?_
        refine sx_RP.callp (as2 := [.ref 111, .int (nI g), .int 4, .int 0]) (rest2 := []) rfl rfl (sx_inv_v2 (mi := 170) (k := 110) (st := [.int 0, .int 4, .int (nI g), .ref 111]) (w := w) rfl rfl hI.1.o111 rfl rfl rfl) rfl rfl rfl (K154_4 hI (show g < 10 by omega) 0) (show _ = 69 from rfl) ?_
        rintro r4 w42 ⟨⟨v41, rfl⟩, hI43, hE45⟩
        have hE44 := hE.tr (hE45)
        show sx_RP _ _ _ _ _ [.int v41] _ _
        refine sx_RP.step (pc2 := 70) (ls2 := [(4, .int (v13 + 1)), (3, .int v10), (2, .int (nI x8)), (0, .ref 111), (1, .int (nI g))]) (st2 := []) (w3 := w42) rfl rfl ?_
        refine sx_RP.step (pc2 := 72) (ls2 := [(4, .int (v13 + 1)), (3, .int v10), (2, .int (nI x8)), (0, .ref 111), (1, .int (nI g))]) (st2 := [.int (v13 + 1)]) (w3 := w42) rfl rfl ?_
        refine sx_RP.step (pc2 := 73) (ls2 := [(4, .int (v13 + 1)), (3, .int v10), (2, .int (nI x8)), (0, .ref 111), (1, .int (nI g))]) (st2 := [.int v10, .int (v13 + 1)]) (w3 := w42) rfl rfl ?_
        refine sx_RP.br (p1 := 105) (l1 := [(4, .int (v13 + 1)), (3, .int v10), (2, .int (nI x8)), (0, .ref 111), (1, .int (nI g))]) (s1 := []) (v1 := w42) (p2 := 76) (l2 := [(4, .int (v13 + 1)), (3, .int v10), (2, .int (nI x8)), (0, .ref 111), (1, .int (nI g))]) (s2 := []) (v2 := w42) rfl rfl (fun q46 => ?_) (fun q46 => ?_)
        · replace q46 := of_decide_eq_true q46
          refine sx_RP.ret (r := none) rfl rfl ?_
          exact ⟨rfl, hI43, hE44⟩
        · replace q46 := of_decide_eq_false q46
          refine sx_RP.step (pc2 := 77) (ls2 := [(4, .int (v13 + 1)), (3, .int v10), (2, .int (nI x8)), (0, .ref 111), (1, .int (nI g))]) (st2 := [.ref 111]) (w3 := w42) rfl rfl ?_
          refine sx_RP.step (pc2 := 78) (ls2 := [(4, .int (v13 + 1)), (3, .int v10), (2, .int (nI x8)), (0, .ref 111), (1, .int (nI g))]) (st2 := [.int (nI g), .ref 111]) (w3 := w42) rfl rfl ?_
          refine sx_RP.step (pc2 := 79) (ls2 := [(4, .int (v13 + 1)), (3, .int v10), (2, .int (nI x8)), (0, .ref 111), (1, .int (nI g))]) (st2 := [.int 2, .int (nI g), .ref 111]) (w3 := w42) rfl rfl ?_
          refine sx_RP.step (pc2 := 80) (ls2 := [(4, .int (v13 + 1)), (3, .int v10), (2, .int (nI x8)), (0, .ref 111), (1, .int (nI g))]) (st2 := [.int (nI x8), .int 2, .int (nI g), .ref 111]) (w3 := w42) rfl rfl ?_
          refine sx_RP.callp (as2 := [.ref 111, .int (nI g), .int 2, .int (nI x8)]) (rest2 := []) rfl rfl (sx_inv_v2 (mi := 170) (k := 110) (st := [.int (nI x8), .int 2, .int (nI g), .ref 111]) (w := w42) rfl rfl hI43.1.o111 rfl rfl rfl) rfl rfl rfl (K154_2 hI43 (show g < 10 by omega) (show x8 ≤ 47 by omega)) (show _ = 83 from rfl) ?_
          rintro r4 w48 ⟨⟨v47, rfl⟩, hI49, hE51⟩
          have hE50 := hE44.tr (hE51)
          show sx_RP _ _ _ _ _ [.int v47] _ _
          refine sx_RP.step (pc2 := 84) (ls2 := [(4, .int (v13 + 1)), (3, .int v10), (2, .int (nI x8)), (0, .ref 111), (1, .int (nI g))]) (st2 := []) (w3 := w48) rfl rfl ?_
          refine sx_RP.step (pc2 := 85) (ls2 := [(4, .int (v13 + 1)), (3, .int v10), (2, .int (nI x8)), (0, .ref 111), (1, .int (nI g))]) (st2 := [.ref 111]) (w3 := w48) rfl rfl ?_
          refine sx_RP.step (pc2 := 86) (ls2 := [(4, .int (v13 + 1)), (3, .int v10), (2, .int (nI x8)), (0, .ref 111), (1, .int (nI g))]) (st2 := [.int (nI g), .ref 111]) (w3 := w48) rfl rfl ?_
          refine sx_RP.step (pc2 := 87) (ls2 := [(4, .int (v13 + 1)), (3, .int v10), (2, .int (nI x8)), (0, .ref 111), (1, .int (nI g))]) (st2 := [.int 5, .int (nI g), .ref 111]) (w3 := w48) rfl rfl ?_
          refine sx_RP.step (pc2 := 88) (ls2 := [(4, .int (v13 + 1)), (3, .int v10), (2, .int (nI x8)), (0, .ref 111), (1, .int (nI g))]) (st2 := [.ref 111, .int 5, .int (nI g), .ref 111]) (w3 := w48) rfl rfl ?_
          refine sx_RP.step (pc2 := 89) (ls2 := [(4, .int (v13 + 1)), (3, .int v10), (2, .int (nI x8)), (0, .ref 111), (1, .int (nI g))]) (st2 := [.int (nI g), .ref 111, .int 5, .int (nI g), .ref 111]) (w3 := w48) rfl rfl ?_
          refine sx_RP.step (pc2 := 90) (ls2 := [(4, .int (v13 + 1)), (3, .int v10), (2, .int (nI x8)), (0, .ref 111), (1, .int (nI g))]) (st2 := [.int (nI x8), .int (nI g), .ref 111, .int 5, .int (nI g), .ref 111]) (w3 := w48) rfl rfl ?_
          obtain ⟨x52, hx53, c54⟩ := p144 hI49 (show g < 10 by omega) (show x8 < 48 by omega)
          refine sx_RP.cu (as := [.ref 111, .int (nI g), .int (nI x8)]) (rest2 := [.int 5, .int (nI g), .ref 111]) (st3 := [.int (nI x52), .int 5, .int (nI g), .ref 111]) rfl rfl (sx_inv_v2 (mi := 170) (k := 107) (st := [.int (nI x8), .int (nI g), .ref 111, .int 5, .int (nI g), .ref 111]) (w := w48) rfl rfl hI49.1.o111 rfl rfl rfl) rfl rfl (c54) rfl ?_
          refine sx_RP.br (p1 := 100) (l1 := [(4, .int (v13 + 1)), (3, .int v10), (2, .int (nI x8)), (0, .ref 111), (1, .int (nI g))]) (s1 := [.int 5, .int (nI g), .ref 111]) (v1 := w48) (p2 := 96) (l2 := [(4, .int (v13 + 1)), (3, .int v10), (2, .int (nI x8)), (0, .ref 111), (1, .int (nI g))]) (s2 := [.int 5, .int (nI g), .ref 111]) (v2 := w48) rfl rfl (fun q55 => ?_) (fun q55 => ?_)
          · replace q55 := of_decide_eq_true q55
            replace q55 := (nI_eq (a := x52) (b := 0) (by omega) (by omega)).mp q55
            refine sx_RP.step (pc2 := 101) (ls2 := [(4, .int (v13 + 1)), (3, .int v10), (2, .int (nI x8)), (0, .ref 111), (1, .int (nI g))]) (st2 := [.int 1, .int 5, .int (nI g), .ref 111]) (w3 := w48) rfl rfl ?_
            refine sx_RP.callp (as2 := [.ref 111, .int (nI g), .int 5, .int 1]) (rest2 := []) rfl rfl (sx_inv_v2 (mi := 170) (k := 110) (st := [.int 1, .int 5, .int (nI g), .ref 111]) (w := w48) rfl rfl hI49.1.o111 rfl rfl rfl) rfl rfl rfl (K154_5 hI49 (show g < 10 by omega) (show 1 ≤ 1 by omega)) (show _ = 104 from rfl) ?_
            rintro r4 w57 ⟨⟨v56, rfl⟩, hI58, hE60⟩
            have hE59 := hE50.tr (hE60)
            show sx_RP _ _ _ _ _ [.int v56] _ _
            refine sx_RP.step (pc2 := 105) (ls2 := [(4, .int (v13 + 1)), (3, .int v10), (2, .int (nI x8)), (0, .ref 111), (1, .int (nI g))]) (st2 := []) (w3 := w57) rfl rfl ?_
            refine sx_RP.ret (r := none) rfl rfl ?_
            exact ⟨rfl, hI58, hE59⟩
          · replace q55 := of_decide_eq_false q55
            replace q55 := mt (nI_eq (a := x52) (b := 0) (by omega) (by omega)).mpr q55
            refine sx_RP.step (pc2 := 97) (ls2 := [(4, .int (v13 + 1)), (3, .int v10), (2, .int (nI x8)), (0, .ref 111), (1, .int (nI g))]) (st2 := [.int 0, .int 5, .int (nI g), .ref 111]) (w3 := w48) rfl rfl ?_
            refine sx_RP.step (pc2 := 101) (ls2 := [(4, .int (v13 + 1)), (3, .int v10), (2, .int (nI x8)), (0, .ref 111), (1, .int (nI g))]) (st2 := [.int 0, .int 5, .int (nI g), .ref 111]) (w3 := w48) rfl rfl ?_
            refine sx_RP.callp (as2 := [.ref 111, .int (nI g), .int 5, .int 0]) (rest2 := []) rfl rfl (sx_inv_v2 (mi := 170) (k := 110) (st := [.int 0, .int 5, .int (nI g), .ref 111]) (w := w48) rfl rfl hI49.1.o111 rfl rfl rfl) rfl rfl rfl (K154_5 hI49 (show g < 10 by omega) (show 0 ≤ 1 by omega)) (show _ = 104 from rfl) ?_
            rintro r4 w62 ⟨⟨v61, rfl⟩, hI63, hE65⟩
            have hE64 := hE50.tr (hE65)
            show sx_RP _ _ _ _ _ [.int v61] _ _
            refine sx_RP.step (pc2 := 105) (ls2 := [(4, .int (v13 + 1)), (3, .int v10), (2, .int (nI x8)), (0, .ref 111), (1, .int (nI g))]) (st2 := []) (w3 := w62) rfl rfl ?_
            refine sx_RP.ret (r := none) rfl rfl ?_
            exact ⟨rfl, hI63, hE64⟩
    · replace q12 := of_decide_eq_false q12
      refine sx_RP.step (pc2 := 33) (ls2 := [(3, .int v10), (2, .int (nI x8)), (0, .ref 111), (1, .int (nI g))]) (st2 := [.ref 111]) (w3 := w) rfl rfl ?_
      refine sx_RP.step (pc2 := 34) (ls2 := [(3, .int v10), (2, .int (nI x8)), (0, .ref 111), (1, .int (nI g))]) (st2 := [.int (nI g), .ref 111]) (w3 := w) rfl rfl ?_
      refine sx_RP.step (pc2 := 35) (ls2 := [(3, .int v10), (2, .int (nI x8)), (0, .ref 111), (1, .int (nI g))]) (st2 := [.int 5, .int (nI g), .ref 111]) (w3 := w) rfl rfl ?_
      refine sx_RP.step (pc2 := 36) (ls2 := [(3, .int v10), (2, .int (nI x8)), (0, .ref 111), (1, .int (nI g))]) (st2 := [.int 1, .int 5, .int (nI g), .ref 111]) (w3 := w) rfl rfl ?_
      refine sx_RP.callp (as2 := [.ref 111, .int (nI g), .int 5, .int 1]) (rest2 := []) rfl rfl (sx_inv_v2 (mi := 170) (k := 110) (st := [.int 1, .int 5, .int (nI g), .ref 111]) (w := w) rfl rfl hI.1.o111 rfl rfl rfl) rfl rfl rfl (K154_5 hI (show g < 10 by omega) (show 1 ≤ 1 by omega)) (show _ = 39 from rfl) ?_
      rintro r4 w67 ⟨⟨v66, rfl⟩, hI68, hE70⟩
      have hE69 := hE.tr (hE70)
      show sx_RP _ _ _ _ _ [.int v66] _ _
      refine sx_RP.step (pc2 := 40) (ls2 := [(3, .int v10), (2, .int (nI x8)), (0, .ref 111), (1, .int (nI g))]) (st2 := []) (w3 := w67) rfl rfl ?_
      refine sx_RP.ret (r := none) rfl rfl ?_
      exact ⟨rfl, hI68, hE69⟩
set_option maxRecDepth 20000 in
set_option maxHeartbeats 4000000 in
theorem K169bB {xs : Option (List Int32)} {d : Nat} {w w0 : List sx_C} (hI : WI w) (hE : EK w0 w) {j : Nat} (hj : j ≤ 10) (kk : ∀ (w4 : List sx_C), WI w4 → EK w0 w4 → j + 1 ≤ 10 → sx_RP xs (d + 3) 169 33 [(0, .ref 111), (1, .int (nI (j + 1)))] [] w4 (fun r w2 => (r = none) ∧ WI w2 ∧ EK w0 w2)) : sx_RP xs (d + 3) 169 33 [(0, .ref 111), (1, .int (nI j))] [] w (fun r w2 => (r = none) ∧ WI w2 ∧ EK w0 w2) := by
  refine sx_RP.step (pc2 := 34) (ls2 := [(0, .ref 111), (1, .int (nI j))]) (st2 := [.int (nI j)]) (w3 := w) rfl rfl ?_
  refine sx_RP.step (pc2 := 35) (ls2 := [(0, .ref 111), (1, .int (nI j))]) (st2 := [.ref 111, .int (nI j)]) (w3 := w) rfl rfl ?_
  refine sx_RP.gf (v := .ref 112) rfl rfl hI.1.o111 rfl rfl (show _ = 38 from rfl) ?_
  refine sx_RP.step (pc2 := 39) (ls2 := [(0, .ref 111), (1, .int (nI j))]) (st2 := [.int 1, .ref 112, .int (nI j)]) (w3 := w) rfl rfl ?_
  refine sx_RP.ild (c := 1) rfl hI.1.a112.1 hI.1.a112.2 (sx_in_nI (show 1 < 172 by omega) (by decide)) (show (nI 1).toNatClampNeg = 1 from nI_clamp (by omega)) (show _ = 40 from rfl) ?_
  obtain ⟨x1, hx2, ex3⟩ : inR ((ia w 112).getD 1 0) 10 := (hI.s (1) (by omega)).1 rfl
  rw [ex3]
  refine sx_RP.br (p1 := 92) (l1 := [(0, .ref 111), (1, .int (nI j))]) (s1 := []) (v1 := w) (p2 := 43) (l2 := [(0, .ref 111), (1, .int (nI j))]) (s2 := []) (v2 := w) rfl rfl (fun q4 => ?_) (fun q4 => ?_)
  · replace q4 := of_decide_eq_true q4
    replace q4 := (nI_leI (a := x1) (b := j) (by omega) (by omega)).mp q4
    refine sx_RP.step (pc2 := 93) (ls2 := [(0, .ref 111), (1, .int (nI j))]) (st2 := [.ref 111]) (w3 := w) rfl rfl ?_
    refine sx_RP.gf (v := .ref 112) rfl rfl hI.1.o111 rfl rfl (show _ = 96 from rfl) ?_
    refine sx_RP.step (pc2 := 97) (ls2 := [(0, .ref 111), (1, .int (nI j))]) (st2 := [.int 0, .ref 112]) (w3 := w) rfl rfl ?_
    refine sx_RP.step (pc2 := 98) (ls2 := [(0, .ref 111), (1, .int (nI j))]) (st2 := [.int 0, .ref 112, .int 0, .ref 112]) (w3 := w) rfl rfl ?_
    refine sx_RP.ild (c := 0) rfl hI.1.a112.1 hI.1.a112.2 (sx_in_nI (show 0 < 172 by omega) (by decide)) (show (nI 0).toNatClampNeg = 0 from nI_clamp (by omega)) (show _ = 99 from rfl) ?_
    refine sx_RP.step (pc2 := 100) (ls2 := [(0, .ref 111), (1, .int (nI j))]) (st2 := [.int 1, .int ((ia w 112).getD 0 0), .int 0, .ref 112]) (w3 := w) rfl rfl ?_
    refine sx_RP.step (pc2 := 101) (ls2 := [(0, .ref 111), (1, .int (nI j))]) (st2 := [.int (((ia w 112).getD 0 0) + 1), .int 0, .ref 112]) (w3 := w) rfl rfl ?_
    refine sx_RP.mSK (k := 0) hI hE (by omega) (by decide) rfl rfl (by omega) (eOK_n (by decide)) (show _ = 102 from rfl) (fun w5 hI6 hE7 hk8 => ?_)
    have ex9 := (hk8 1 (by omega) (by omega)).trans ex3
    refine sx_RP.ret (r := none) rfl rfl ?_
    exact ⟨rfl, hI6, hE7⟩
  · replace q4 := of_decide_eq_false q4
    replace q4 := mt (nI_leI (a := x1) (b := j) (by omega) (by omega)).mpr q4
    refine sx_RP.step (pc2 := 44) (ls2 := [(0, .ref 111), (1, .int (nI j))]) (st2 := [.ref 111]) (w3 := w) rfl rfl ?_
    refine sx_RP.step (pc2 := 45) (ls2 := [(0, .ref 111), (1, .int (nI j))]) (st2 := [.int (nI j), .ref 111]) (w3 := w) rfl rfl ?_
    refine sx_RP.step (pc2 := 46) (ls2 := [(0, .ref 111), (1, .int (nI j))]) (st2 := [.int 1, .int (nI j), .ref 111]) (w3 := w) rfl rfl ?_
    obtain ⟨x10, hx11, c12⟩ := p138_1 hI (show j < 10 by omega)
    refine sx_RP.cu (as := [.ref 111, .int (nI j), .int 1]) (rest2 := []) (st3 := [.int (nI x10)]) rfl rfl (sx_inv_v2 (mi := 169) (k := 59) (st := [.int 1, .int (nI j), .ref 111]) (w := w) rfl rfl hI.1.o111 rfl rfl rfl) rfl rfl (c12) rfl ?_
    refine sx_RP.br (p1 := 86) (l1 := [(0, .ref 111), (1, .int (nI j))]) (s1 := []) (v1 := w) (p2 := 52) (l2 := [(0, .ref 111), (1, .int (nI j))]) (s2 := []) (v2 := w) rfl rfl (fun q13 => ?_) (fun q13 => ?_)
    · replace q13 := of_decide_eq_true q13
      replace q13 := mt (nI_eq (a := x10) (b := 0) (by omega) (by omega)).mpr q13
      refine sx_RP.step (pc2 := 89) (ls2 := [(1, .int ((nI j) + 1)), (0, .ref 111)]) (st2 := []) (w3 := w) rfl rfl ?_
      rw [nI_1 j]
      refine sx_RP.step (pc2 := 33) (ls2 := [(1, .int (nI (j + 1))), (0, .ref 111)]) (st2 := []) (w3 := w) rfl rfl ?_
      exact sx_RP.ls (sx_lr.cons rfl (sx_lr.cons rfl sx_lr.nil)) (kk w hI hE (by omega))
    · replace q13 := Decidable.not_not.mp (of_decide_eq_false q13)
      replace q13 := (nI_eq (a := x10) (b := 0) (by omega) (by omega)).mp q13
      refine sx_RP.step (pc2 := 53) (ls2 := [(0, .ref 111), (1, .int (nI j))]) (st2 := [.ref 111]) (w3 := w) rfl rfl ?_
      refine sx_RP.step (pc2 := 54) (ls2 := [(0, .ref 111), (1, .int (nI j))]) (st2 := [.int (nI j), .ref 111]) (w3 := w) rfl rfl ?_
      obtain ⟨x14, hx15, c16⟩ := p137 hI (show j < 10 by omega)
      refine sx_RP.cu (as := [.ref 111, .int (nI j)]) (rest2 := []) (st3 := [.int (nI x14)]) rfl rfl (sx_inv_v2 (mi := 169) (k := 74) (st := [.int (nI j), .ref 111]) (w := w) rfl rfl hI.1.o111 rfl rfl rfl) rfl rfl (c16) rfl ?_
      refine sx_RP.br (p1 := 86) (l1 := [(0, .ref 111), (1, .int (nI j))]) (s1 := []) (v1 := w) (p2 := 60) (l2 := [(0, .ref 111), (1, .int (nI j))]) (s2 := []) (v2 := w) rfl rfl (fun q17 => ?_) (fun q17 => ?_)
      · replace q17 := of_decide_eq_true q17
        replace q17 := (nI_eq (a := x14) (b := 0) (by omega) (by omega)).mp q17
        refine sx_RP.step (pc2 := 89) (ls2 := [(1, .int ((nI j) + 1)), (0, .ref 111)]) (st2 := []) (w3 := w) rfl rfl ?_
        rw [nI_1 j]
        refine sx_RP.step (pc2 := 33) (ls2 := [(1, .int (nI (j + 1))), (0, .ref 111)]) (st2 := []) (w3 := w) rfl rfl ?_
        exact sx_RP.ls (sx_lr.cons rfl (sx_lr.cons rfl sx_lr.nil)) (kk w hI hE (by omega))
      · replace q17 := of_decide_eq_false q17
        replace q17 := mt (nI_eq (a := x14) (b := 0) (by omega) (by omega)).mpr q17
        refine sx_RP.step (pc2 := 61) (ls2 := [(0, .ref 111), (1, .int (nI j))]) (st2 := [.ref 111]) (w3 := w) rfl rfl ?_
        refine sx_RP.step (pc2 := 62) (ls2 := [(0, .ref 111), (1, .int (nI j))]) (st2 := [.int (nI j), .ref 111]) (w3 := w) rfl rfl ?_
        obtain ⟨x18, hx19, c20⟩ := p171 hI (show j < 10 by omega)
        refine sx_RP.cu (as := [.ref 111, .int (nI j)]) (rest2 := []) (st3 := [.int (nI x18)]) rfl rfl (sx_inv_v2 (mi := 169) (k := 140) (st := [.int (nI j), .ref 111]) (w := w) rfl rfl hI.1.o111 rfl rfl rfl) rfl rfl (c20) rfl ?_
        refine sx_RP.br (p1 := 86) (l1 := [(0, .ref 111), (1, .int (nI j))]) (s1 := []) (v1 := w) (p2 := 68) (l2 := [(0, .ref 111), (1, .int (nI j))]) (s2 := []) (v2 := w) rfl rfl (fun q21 => ?_) (fun q21 => ?_)
        · replace q21 := of_decide_eq_true q21
          replace q21 := (nI_eq (a := x18) (b := 0) (by omega) (by omega)).mp q21
          refine sx_RP.step (pc2 := 89) (ls2 := [(1, .int ((nI j) + 1)), (0, .ref 111)]) (st2 := []) (w3 := w) rfl rfl ?_
          rw [nI_1 j]
          refine sx_RP.step (pc2 := 33) (ls2 := [(1, .int (nI (j + 1))), (0, .ref 111)]) (st2 := []) (w3 := w) rfl rfl ?_
          exact sx_RP.ls (sx_lr.cons rfl (sx_lr.cons rfl sx_lr.nil)) (kk w hI hE (by omega))
        · replace q21 := of_decide_eq_false q21
          replace q21 := mt (nI_eq (a := x18) (b := 0) (by omega) (by omega)).mpr q21
          refine sx_RP.step (pc2 := 69) (ls2 := [(0, .ref 111), (1, .int (nI j))]) (st2 := [.ref 111]) (w3 := w) rfl rfl ?_
          refine sx_RP.step (pc2 := 70) (ls2 := [(0, .ref 111), (1, .int (nI j))]) (st2 := [.int (nI j), .ref 111]) (w3 := w) rfl rfl ?_
          refine sx_RP.step (pc2 := 71) (ls2 := [(0, .ref 111), (1, .int (nI j))]) (st2 := [.int 5, .int (nI j), .ref 111]) (w3 := w) rfl rfl ?_
          refine sx_RP.step (pc2 := 72) (ls2 := [(0, .ref 111), (1, .int (nI j))]) (st2 := [.int 1, .int 5, .int (nI j), .ref 111]) (w3 := w) rfl rfl ?_
          refine sx_RP.callp (as2 := [.ref 111, .int (nI j), .int 5, .int 1]) (rest2 := []) rfl rfl (sx_inv_v2 (mi := 169) (k := 110) (st := [.int 1, .int 5, .int (nI j), .ref 111]) (w := w) rfl rfl hI.1.o111 rfl rfl rfl) rfl rfl rfl (K154_5 hI (show j < 10 by omega) (show 1 ≤ 1 by omega)) (show _ = 75 from rfl) ?_
          rintro r4 w23 ⟨⟨v22, rfl⟩, hI24, hE26⟩
          have hE25 := hE.tr (hE26)
          show sx_RP _ _ _ _ _ [.int v22] _ _
          refine sx_RP.step (pc2 := 76) (ls2 := [(0, .ref 111), (1, .int (nI j))]) (st2 := []) (w3 := w23) rfl rfl ?_
          refine sx_RP.step (pc2 := 77) (ls2 := [(0, .ref 111), (1, .int (nI j))]) (st2 := [.ref 111]) (w3 := w23) rfl rfl ?_
          refine sx_RP.gf (v := .ref 112) rfl rfl hI24.1.o111 rfl rfl (show _ = 80 from rfl) ?_
          refine sx_RP.step (pc2 := 81) (ls2 := [(0, .ref 111), (1, .int (nI j))]) (st2 := [.int 3, .ref 112]) (w3 := w23) rfl rfl ?_
          refine sx_RP.step (pc2 := 82) (ls2 := [(0, .ref 111), (1, .int (nI j))]) (st2 := [.int 3, .ref 112, .int 3, .ref 112]) (w3 := w23) rfl rfl ?_
          refine sx_RP.ild (c := 3) rfl hI24.1.a112.1 hI24.1.a112.2 (sx_in_nI (show 3 < 172 by omega) (by decide)) (show (nI 3).toNatClampNeg = 3 from nI_clamp (by omega)) (show _ = 83 from rfl) ?_
          refine sx_RP.step (pc2 := 84) (ls2 := [(0, .ref 111), (1, .int (nI j))]) (st2 := [.int 1, .int ((ia w23 112).getD 3 0), .int 3, .ref 112]) (w3 := w23) rfl rfl ?_
          refine sx_RP.step (pc2 := 85) (ls2 := [(0, .ref 111), (1, .int (nI j))]) (st2 := [.int (((ia w23 112).getD 3 0) + 1), .int 3, .ref 112]) (w3 := w23) rfl rfl ?_
          refine sx_RP.mSK (k := 3) hI24 hE25 (by omega) (by decide) rfl rfl (by omega) (eOK_n (by decide)) (show _ = 86 from rfl) (fun w27 hI28 hE29 hk30 => ?_)
          refine sx_RP.step (pc2 := 89) (ls2 := [(1, .int ((nI j) + 1)), (0, .ref 111)]) (st2 := []) (w3 := w27) rfl rfl ?_
          rw [nI_1 j]
          refine sx_RP.step (pc2 := 33) (ls2 := [(1, .int (nI (j + 1))), (0, .ref 111)]) (st2 := []) (w3 := w27) rfl rfl ?_
          exact sx_RP.ls (sx_lr.cons rfl (sx_lr.cons rfl sx_lr.nil)) (kk w27 hI28 hE29 (by omega))
set_option maxRecDepth 20000 in
set_option maxHeartbeats 4000000 in
theorem K169bL {xs : Option (List Int32)} {d : Nat} {w0 : List sx_C} : ∀ (fz j : Nat) (w : List sx_C) , 10 ≤ j + fz * 1 → j ≤ 10 → WI w → EK w0 w → sx_RP xs (d + 3) 169 33 [(0, .ref 111), (1, .int (nI j))] [] w (fun r w2 => (r = none) ∧ WI w2 ∧ EK w0 w2)
  | 0, j, w, h, hj, hI, hE => K169bB  hI hE hj   (fun w4  hI4 hE4 hlt  => absurd hlt (by omega)) 
  | fz + 1, j, w, h, hj, hI, hE => K169bB  hI hE hj   (fun w4  hI4 hE4 hlt  => K169bL   fz (j + 1) w4  (by omega) hlt hI4 hE4 ) 
set_option maxRecDepth 20000 in
set_option maxHeartbeats 4000000 in
theorem K169aB {xs : Option (List Int32)} {d : Nat} {w w0 : List sx_C} (hI : WI w) (hE : EK w0 w) {j : Nat} (hj : j ≤ 10) (kk : ∀ (w4 : List sx_C), WI w4 → EK w0 w4 → j + 1 ≤ 10 → sx_RP xs (d + 3) 169 2 [(0, .ref 111), (1, .int (nI (j + 1)))] [] w4 (fun r w2 => (r = none) ∧ WI w2 ∧ EK w0 w2)) (kx31 : ∀ (w4 : List sx_C), WI w4 → EK w0 w4 → sx_RP xs (d + 3) 169 31 [(0, .ref 111)] [] w4 (fun r w2 => (r = none) ∧ WI w2 ∧ EK w0 w2)) : sx_RP xs (d + 3) 169 2 [(0, .ref 111), (1, .int (nI j))] [] w (fun r w2 => (r = none) ∧ WI w2 ∧ EK w0 w2) := by
  refine sx_RP.step (pc2 := 3) (ls2 := [(0, .ref 111), (1, .int (nI j))]) (st2 := [.int (nI j)]) (w3 := w) rfl rfl ?_
  refine sx_RP.step (pc2 := 4) (ls2 := [(0, .ref 111), (1, .int (nI j))]) (st2 := [.ref 111, .int (nI j)]) (w3 := w) rfl rfl ?_
  refine sx_RP.gf (v := .ref 112) rfl rfl hI.1.o111 rfl rfl (show _ = 7 from rfl) ?_
  refine sx_RP.step (pc2 := 8) (ls2 := [(0, .ref 111), (1, .int (nI j))]) (st2 := [.int 1, .ref 112, .int (nI j)]) (w3 := w) rfl rfl ?_
  refine sx_RP.ild (c := 1) rfl hI.1.a112.1 hI.1.a112.2 (sx_in_nI (show 1 < 172 by omega) (by decide)) (show (nI 1).toNatClampNeg = 1 from nI_clamp (by omega)) (show _ = 9 from rfl) ?_
  obtain ⟨x1, hx2, ex3⟩ : inR ((ia w 112).getD 1 0) 10 := (hI.s (1) (by omega)).1 rfl
  rw [ex3]
  refine sx_RP.br (p1 := 31) (l1 := [(0, .ref 111), (1, .int (nI j))]) (s1 := []) (v1 := w) (p2 := 12) (l2 := [(0, .ref 111), (1, .int (nI j))]) (s2 := []) (v2 := w) rfl rfl (fun q4 => ?_) (fun q4 => ?_)
  · replace q4 := of_decide_eq_true q4
    replace q4 := (nI_leI (a := x1) (b := j) (by omega) (by omega)).mp q4
    exact sx_RP.ls (sx_lr.cons rfl sx_lr.nil) (kx31 w hI hE)
  · replace q4 := of_decide_eq_false q4
    replace q4 := mt (nI_leI (a := x1) (b := j) (by omega) (by omega)).mpr q4
    refine sx_RP.step (pc2 := 13) (ls2 := [(0, .ref 111), (1, .int (nI j))]) (st2 := [.ref 111]) (w3 := w) rfl rfl ?_
    refine sx_RP.step (pc2 := 14) (ls2 := [(0, .ref 111), (1, .int (nI j))]) (st2 := [.int (nI j), .ref 111]) (w3 := w) rfl rfl ?_
    obtain ⟨x5, hx6, c7⟩ := p137 hI (show j < 10 by omega)
    refine sx_RP.cu (as := [.ref 111, .int (nI j)]) (rest2 := []) (st3 := [.int (nI x5)]) rfl rfl (sx_inv_v2 (mi := 169) (k := 74) (st := [.int (nI j), .ref 111]) (w := w) rfl rfl hI.1.o111 rfl rfl rfl) rfl rfl (c7) rfl ?_
    refine sx_RP.br (p1 := 25) (l1 := [(0, .ref 111), (1, .int (nI j))]) (s1 := []) (v1 := w) (p2 := 20) (l2 := [(0, .ref 111), (1, .int (nI j))]) (s2 := []) (v2 := w) rfl rfl (fun q8 => ?_) (fun q8 => ?_)
    · replace q8 := of_decide_eq_true q8
      replace q8 := (nI_eq (a := x5) (b := 0) (by omega) (by omega)).mp q8
      refine sx_RP.step (pc2 := 28) (ls2 := [(1, .int ((nI j) + 1)), (0, .ref 111)]) (st2 := []) (w3 := w) rfl rfl ?_
      rw [nI_1 j]
      refine sx_RP.step (pc2 := 2) (ls2 := [(1, .int (nI (j + 1))), (0, .ref 111)]) (st2 := []) (w3 := w) rfl rfl ?_
      exact sx_RP.ls (sx_lr.cons rfl (sx_lr.cons rfl sx_lr.nil)) (kk w hI hE (by omega))
    · replace q8 := of_decide_eq_false q8
      replace q8 := mt (nI_eq (a := x5) (b := 0) (by omega) (by omega)).mpr q8
      refine sx_RP.step (pc2 := 21) (ls2 := [(0, .ref 111), (1, .int (nI j))]) (st2 := [.ref 111]) (w3 := w) rfl rfl ?_
      refine sx_RP.step (pc2 := 22) (ls2 := [(0, .ref 111), (1, .int (nI j))]) (st2 := [.int (nI j), .ref 111]) (w3 := w) rfl rfl ?_
      refine sx_RP.callp (as2 := [.ref 111, .int (nI j)]) (rest2 := []) rfl rfl (sx_inv_v2 (mi := 169) (k := 136) (st := [.int (nI j), .ref 111]) (w := w) rfl rfl hI.1.o111 rfl rfl rfl) rfl rfl rfl (K170 hI (show j < 10 by omega)) (show _ = 25 from rfl) ?_
      rintro r4 w9 ⟨rfl, hI10, hE12⟩
      have hE11 := hE.tr (hE12)
      show sx_RP _ _ _ _ _ [] _ _
      refine sx_RP.step (pc2 := 28) (ls2 := [(1, .int ((nI j) + 1)), (0, .ref 111)]) (st2 := []) (w3 := w9) rfl rfl ?_
      rw [nI_1 j]
      refine sx_RP.step (pc2 := 2) (ls2 := [(1, .int (nI (j + 1))), (0, .ref 111)]) (st2 := []) (w3 := w9) rfl rfl ?_
      exact sx_RP.ls (sx_lr.cons rfl (sx_lr.cons rfl sx_lr.nil)) (kk w9 hI10 hE11 (by omega))
set_option maxRecDepth 20000 in
set_option maxHeartbeats 4000000 in
theorem K169aL {xs : Option (List Int32)} {d : Nat} {w0 : List sx_C} (kx31 : ∀ (w4 : List sx_C), WI w4 → EK w0 w4 → sx_RP xs (d + 3) 169 31 [(0, .ref 111)] [] w4 (fun r w2 => (r = none) ∧ WI w2 ∧ EK w0 w2)) : ∀ (fz j : Nat) (w : List sx_C) , 10 ≤ j + fz * 1 → j ≤ 10 → WI w → EK w0 w → sx_RP xs (d + 3) 169 2 [(0, .ref 111), (1, .int (nI j))] [] w (fun r w2 => (r = none) ∧ WI w2 ∧ EK w0 w2)
  | 0, j, w, h, hj, hI, hE => K169aB  hI hE hj   (fun w4  hI4 hE4 hlt  => absurd hlt (by omega)) kx31
  | fz + 1, j, w, h, hj, hI, hE => K169aB  hI hE hj   (fun w4  hI4 hE4 hlt  => K169aL  kx31 fz (j + 1) w4  (by omega) hlt hI4 hE4 ) kx31
set_option maxRecDepth 20000 in
set_option maxHeartbeats 4000000 in
theorem K169 {xs : Option (List Int32)} {d : Nat} {w : List sx_C} (hI : WI w) : sx_RP xs (d + 3) 169 0 (lv_args 0 [.ref 111]) [] w (fun r w2 => (r = none) ∧ WI w2 ∧ EK w w2) := by
  have hE : EK w w := EK.rf
  refine sx_RP.step (pc2 := 1) (ls2 := [(0, .ref 111)]) (st2 := [.int 0]) (w3 := w) rfl rfl ?_
  refine sx_RP.step (pc2 := 2) (ls2 := [(1, .int 0), (0, .ref 111)]) (st2 := []) (w3 := w) rfl rfl ?_
  refine sx_RP.ls (sx_lr.cons rfl (sx_lr.cons rfl sx_lr.nil)) (K169aL  (fun w1 hI2 hE3 => ?_) 10 0 w  (by omega) (by omega) hI hE )
  refine sx_RP.step (pc2 := 32) (ls2 := [(0, .ref 111)]) (st2 := [.int 0]) (w3 := w1) rfl rfl ?_
  refine sx_RP.step (pc2 := 33) (ls2 := [(1, .int 0), (0, .ref 111)]) (st2 := []) (w3 := w1) rfl rfl ?_
  exact sx_RP.ls (sx_lr.cons rfl (sx_lr.cons rfl sx_lr.nil)) (K169bL  10 0 w1  (by omega) (by omega) hI2 hE3 )
set_option maxRecDepth 20000 in
set_option maxHeartbeats 4000000 in
theorem K168B {xs : Option (List Int32)} {d : Nat} {w w0 : List sx_C} {n : Nat} (hn : n ≤ 99) (hI : WI w) (hE : EK w0 w) {j : Nat} (hj : j ≤ 99) (kk : ∀ (w4 : List sx_C), WI w4 → EK w0 w4 → j + 1 ≤ 99 → sx_RP xs (d + 4) 168 2 [(0, .ref 111), (1, .int (nI n)), (2, .int (nI (j + 1)))] [] w4 (fun r w2 => (r = none) ∧ WI w2 ∧ EK w0 w2)) : sx_RP xs (d + 4) 168 2 [(0, .ref 111), (1, .int (nI n)), (2, .int (nI j))] [] w (fun r w2 => (r = none) ∧ WI w2 ∧ EK w0 w2) := by
  refine sx_RP.step (pc2 := 3) (ls2 := [(0, .ref 111), (1, .int (nI n)), (2, .int (nI j))]) (st2 := [.int (nI j)]) (w3 := w) rfl rfl ?_
  refine sx_RP.step (pc2 := 4) (ls2 := [(0, .ref 111), (1, .int (nI n)), (2, .int (nI j))]) (st2 := [.int (nI n), .int (nI j)]) (w3 := w) rfl rfl ?_
  refine sx_RP.br (p1 := 17) (l1 := [(0, .ref 111), (1, .int (nI n)), (2, .int (nI j))]) (s1 := []) (v1 := w) (p2 := 7) (l2 := [(0, .ref 111), (1, .int (nI n)), (2, .int (nI j))]) (s2 := []) (v2 := w) rfl rfl (fun q1 => ?_) (fun q1 => ?_)
  · replace q1 := of_decide_eq_true q1
    replace q1 := (nI_leI (a := n) (b := j) (by omega) (by omega)).mp q1
    refine sx_RP.ret (r := none) rfl rfl ?_
    exact ⟨rfl, hI, hE⟩
  · replace q1 := of_decide_eq_false q1
    replace q1 := mt (nI_leI (a := n) (b := j) (by omega) (by omega)).mpr q1
    refine sx_RP.step (pc2 := 8) (ls2 := [(0, .ref 111), (1, .int (nI n)), (2, .int (nI j))]) (st2 := [.ref 111]) (w3 := w) rfl rfl ?_
    refine sx_RP.callp (as2 := [.ref 111]) (rest2 := []) rfl rfl (sx_inv_v2 (mi := 168) (k := 143) (st := [.ref 111]) (w := w) rfl rfl hI.1.o111 rfl rfl rfl) rfl rfl rfl (K169 hI ) (show _ = 11 from rfl) ?_
    rintro r4 w2 ⟨rfl, hI3, hE5⟩
    have hE4 := hE.tr (hE5)
    show sx_RP _ _ _ _ _ [] _ _
    refine sx_RP.step (pc2 := 14) (ls2 := [(2, .int ((nI j) + 1)), (0, .ref 111), (1, .int (nI n))]) (st2 := []) (w3 := w2) rfl rfl ?_
    rw [nI_1 j]
    refine sx_RP.step (pc2 := 2) (ls2 := [(2, .int (nI (j + 1))), (0, .ref 111), (1, .int (nI n))]) (st2 := []) (w3 := w2) rfl rfl ?_
    exact sx_RP.ls (sx_lr.cons rfl (sx_lr.cons rfl (sx_lr.cons rfl sx_lr.nil))) (kk w2 hI3 hE4 (by omega))
set_option maxRecDepth 20000 in
set_option maxHeartbeats 4000000 in
theorem K168L {xs : Option (List Int32)} {d : Nat} {w0 : List sx_C} {n : Nat} (hn : n ≤ 99) : ∀ (fz j : Nat) (w : List sx_C) , 99 ≤ j + fz * 1 → j ≤ 99 → WI w → EK w0 w → sx_RP xs (d + 4) 168 2 [(0, .ref 111), (1, .int (nI n)), (2, .int (nI j))] [] w (fun r w2 => (r = none) ∧ WI w2 ∧ EK w0 w2)
  | 0, j, w, h, hj, hI, hE => K168B hn hI hE hj   (fun w4  hI4 hE4 hlt  => absurd hlt (by omega)) 
  | fz + 1, j, w, h, hj, hI, hE => K168B hn hI hE hj   (fun w4  hI4 hE4 hlt  => K168L hn  fz (j + 1) w4  (by omega) hlt hI4 hE4 ) 
set_option maxRecDepth 20000 in
set_option maxHeartbeats 4000000 in
theorem K168 {xs : Option (List Int32)} {d : Nat} {w : List sx_C} (hI : WI w) {n : Nat} (hn : n ≤ 99) : sx_RP xs (d + 4) 168 0 (lv_args 0 [.ref 111, .int (nI n)]) [] w (fun r w2 => (r = none) ∧ WI w2 ∧ EK w w2) := by
  have hE : EK w w := EK.rf
  refine sx_RP.step (pc2 := 1) (ls2 := [(0, .ref 111), (1, .int (nI n))]) (st2 := [.int 0]) (w3 := w) rfl rfl ?_
  refine sx_RP.step (pc2 := 2) (ls2 := [(2, .int 0), (0, .ref 111), (1, .int (nI n))]) (st2 := []) (w3 := w) rfl rfl ?_
  exact sx_RP.ls (sx_lr.cons rfl (sx_lr.cons rfl (sx_lr.cons rfl sx_lr.nil))) (K168L hn 99 0 w  (by omega) (by omega) hI hE )
set_option maxRecDepth 20000 in
set_option maxHeartbeats 4000000 in
theorem K130 {xs : Option (List Int32)} {d : Nat} {w : List sx_C} (hI : WI w) (a1 a2 : Int32) : sx_RP xs (d + 7) 130 0 (lv_args 0 [.ref 111, .int a1, .int a2]) [] w (fun r w2 => (∃ v : Int32, r = some (.int v)) ∧ WI w2 ∧ EK w w2) := by
  have hE : EK w w := EK.rf
  refine sx_RP.step (pc2 := 1) (ls2 := [(0, .ref 111), (1, .int a1), (2, .int a2)]) (st2 := [.int a1]) (w3 := w) rfl rfl ?_
  rcases in_cases a1 0 47 (m := 0) (n := 47) rfl rfl (by decide) (by decide) with q1 | ⟨x2, hx3, hx4, rfl⟩
  · refine sx_RP.cu (as := [.int a1]) (rest2 := []) (st3 := [.int 0]) rfl rfl rfl rfl rfl (cx_131n q1) rfl ?_
    refine sx_RP.step (pc2 := 16) (ls2 := [(0, .ref 111), (1, .int a1), (2, .int a2)]) (st2 := []) (w3 := w) rfl rfl ?_
    refine sx_RP.step (pc2 := 17) (ls2 := [(0, .ref 111), (1, .int a1), (2, .int a2)]) (st2 := [.ref 111]) (w3 := w) rfl rfl ?_
    refine sx_RP.step (pc2 := 18) (ls2 := [(0, .ref 111), (1, .int a1), (2, .int a2)]) (st2 := [.int 0, .ref 111]) (w3 := w) rfl rfl ?_
    refine sx_RP.callp (as2 := [.ref 111, .int 0]) (rest2 := []) rfl rfl (sx_inv_v2 (mi := 130) (k := 70) (st := [.int 0, .ref 111]) (w := w) rfl rfl hI.1.o111 rfl rfl rfl) rfl rfl rfl (K133_0 hI) (show _ = 21 from rfl) ?_
    rintro r4 w6 ⟨rfl, hI7, hE9⟩
    have hE8 := hE.tr (hE9)
    show sx_RP _ _ _ _ _ [.int (-1000000001)] _ _
    refine sx_RP.ret (r := (some (.int (-1000000001)))) rfl rfl ?_
    exact ⟨⟨_, rfl⟩, hI7, hE8⟩
  · refine sx_RP.cu (as := [.int (nI x2)]) (rest2 := []) (st3 := [.int 1]) rfl rfl rfl rfl rfl (cx_131p ⟨nI_le (a := 0) hx3 (by omega), nI_le (b := 47) hx4 (by decide)⟩) rfl ?_
    refine sx_RP.step (pc2 := 7) (ls2 := [(0, .ref 111), (1, .int (nI x2)), (2, .int a2)]) (st2 := []) (w3 := w) rfl rfl ?_
    refine sx_RP.step (pc2 := 8) (ls2 := [(0, .ref 111), (1, .int (nI x2)), (2, .int a2)]) (st2 := [.int a2]) (w3 := w) rfl rfl ?_
    refine sx_RP.step (pc2 := 9) (ls2 := [(0, .ref 111), (1, .int (nI x2)), (2, .int a2)]) (st2 := [.int 0, .int a2]) (w3 := w) rfl rfl ?_
    refine sx_RP.step (pc2 := 10) (ls2 := [(0, .ref 111), (1, .int (nI x2)), (2, .int a2)]) (st2 := [.int 3, .int 0, .int a2]) (w3 := w) rfl rfl ?_
    rcases in_cases a2 0 3 (m := 0) (n := 3) rfl rfl (by decide) (by decide) with q10 | ⟨x11, hx12, hx13, rfl⟩
    · refine sx_RP.cu (as := [.int a2, .int 0, .int 3]) (rest2 := []) (st3 := [.int 0]) rfl rfl rfl rfl rfl (cx_132o q10) rfl ?_
      refine sx_RP.step (pc2 := 16) (ls2 := [(0, .ref 111), (1, .int (nI x2)), (2, .int a2)]) (st2 := []) (w3 := w) rfl rfl ?_
      refine sx_RP.step (pc2 := 17) (ls2 := [(0, .ref 111), (1, .int (nI x2)), (2, .int a2)]) (st2 := [.ref 111]) (w3 := w) rfl rfl ?_
      refine sx_RP.step (pc2 := 18) (ls2 := [(0, .ref 111), (1, .int (nI x2)), (2, .int a2)]) (st2 := [.int 0, .ref 111]) (w3 := w) rfl rfl ?_
      refine sx_RP.callp (as2 := [.ref 111, .int 0]) (rest2 := []) rfl rfl (sx_inv_v2 (mi := 130) (k := 70) (st := [.int 0, .ref 111]) (w := w) rfl rfl hI.1.o111 rfl rfl rfl) rfl rfl rfl (K133_0 hI) (show _ = 21 from rfl) ?_
      rintro r4 w15 ⟨rfl, hI16, hE18⟩
      have hE17 := hE.tr (hE18)
      show sx_RP _ _ _ _ _ [.int (-1000000001)] _ _
      refine sx_RP.ret (r := (some (.int (-1000000001)))) rfl rfl ?_
      exact ⟨⟨_, rfl⟩, hI16, hE17⟩
    · refine sx_RP.cu (as := [.int (nI x11), .int 0, .int 3]) (rest2 := []) (st3 := [.int 1]) rfl rfl rfl rfl rfl (cx_132p ⟨nI_le (a := 0) hx12 (by omega), nI_le (b := 3) hx13 (by decide)⟩) rfl ?_
      refine sx_RP.step (pc2 := 22) (ls2 := [(0, .ref 111), (1, .int (nI x2)), (2, .int (nI x11))]) (st2 := []) (w3 := w) rfl rfl ?_
      refine sx_RP.step (pc2 := 23) (ls2 := [(0, .ref 111), (1, .int (nI x2)), (2, .int (nI x11))]) (st2 := [.ref 111]) (w3 := w) rfl rfl ?_
      refine sx_RP.gf (v := .ref 112) rfl rfl hI.1.o111 rfl rfl (show _ = 26 from rfl) ?_
      refine sx_RP.step (pc2 := 28) (ls2 := [(0, .ref 111), (1, .int (nI x2)), (2, .int (nI x11))]) (st2 := [.int 7, .ref 112]) (w3 := w) rfl rfl ?_
      refine sx_RP.step (pc2 := 29) (ls2 := [(0, .ref 111), (1, .int (nI x2)), (2, .int (nI x11))]) (st2 := [.int (nI x2), .int 7, .ref 112]) (w3 := w) rfl rfl ?_
      refine sx_RP.step (pc2 := 30) (ls2 := [(0, .ref 111), (1, .int (nI x2)), (2, .int (nI x11))]) (st2 := [.int (7 + (nI x2)), .ref 112]) (w3 := w) rfl rfl ?_
      rw [show (7 + (nI x2) : Int32) = nI (7 + x2) from nI_add 7 x2]
      refine sx_RP.ild (c := (7 + x2)) rfl hI.1.a112.1 hI.1.a112.2 (sx_in_nI (show (7 + x2) < 172 by omega) (by decide)) (show (nI (7 + x2)).toNatClampNeg = (7 + x2) from nI_clamp (by omega)) (show _ = 31 from rfl) ?_
      obtain ⟨x19, hx20, ex21⟩ : inR ((ia w 112).getD (7 + x2) 0) 3 := (hI.s ((7 + x2)) (by omega)).2.2.1 (by omega)
      rw [ex21]
      refine sx_RP.step (pc2 := 32) (ls2 := [(3, .int (nI x19)), (0, .ref 111), (1, .int (nI x2)), (2, .int (nI x11))]) (st2 := []) (w3 := w) rfl rfl ?_
      refine sx_RP.step (pc2 := 33) (ls2 := [(3, .int (nI x19)), (0, .ref 111), (1, .int (nI x2)), (2, .int (nI x11))]) (st2 := [.ref 111]) (w3 := w) rfl rfl ?_
      refine sx_RP.gf (v := .ref 112) rfl rfl hI.1.o111 rfl rfl (show _ = 36 from rfl) ?_
      refine sx_RP.step (pc2 := 38) (ls2 := [(3, .int (nI x19)), (0, .ref 111), (1, .int (nI x2)), (2, .int (nI x11))]) (st2 := [.int 7, .ref 112]) (w3 := w) rfl rfl ?_
      refine sx_RP.step (pc2 := 39) (ls2 := [(3, .int (nI x19)), (0, .ref 111), (1, .int (nI x2)), (2, .int (nI x11))]) (st2 := [.int (nI x2), .int 7, .ref 112]) (w3 := w) rfl rfl ?_
      refine sx_RP.step (pc2 := 40) (ls2 := [(3, .int (nI x19)), (0, .ref 111), (1, .int (nI x2)), (2, .int (nI x11))]) (st2 := [.int (7 + (nI x2)), .ref 112]) (w3 := w) rfl rfl ?_
      rw [show (7 + (nI x2) : Int32) = nI (7 + x2) from nI_add 7 x2]
      refine sx_RP.step (pc2 := 41) (ls2 := [(3, .int (nI x19)), (0, .ref 111), (1, .int (nI x2)), (2, .int (nI x11))]) (st2 := [.int (nI x11), .int (nI (7 + x2)), .ref 112]) (w3 := w) rfl rfl ?_
      refine sx_RP.mSK (k := (7 + x2)) hI hE (by omega) (by decide) rfl rfl (by omega) (eOK_st (by omega) (inR.n (show x11 ≤ 3 by omega))) (show _ = 42 from rfl) (fun w22 hI23 hE24 hk25 => ?_)
      refine sx_RP.step (pc2 := 43) (ls2 := [(3, .int (nI x19)), (0, .ref 111), (1, .int (nI x2)), (2, .int (nI x11))]) (st2 := [.int (nI x19)]) (w3 := w22) rfl rfl ?_
      refine sx_RP.ret (r := (some (.int (nI x19)))) rfl rfl ?_
      exact ⟨⟨_, rfl⟩, hI23, hE24⟩
set_option maxRecDepth 20000 in
set_option maxHeartbeats 4000000 in
theorem K134 {xs : Option (List Int32)} {d : Nat} {w : List sx_C} (hI : WI w) (a1 a2 : Int32) : sx_RP xs (d + 7) 134 0 (lv_args 0 [.ref 111, .int a1, .int a2]) [] w (fun r w2 => (∃ v : Int32, r = some (.int v)) ∧ WI w2 ∧ EK w w2) := by
  have hE : EK w w := EK.rf
  refine sx_RP.step (pc2 := 1) (ls2 := [(0, .ref 111), (1, .int a1), (2, .int a2)]) (st2 := [.int a1]) (w3 := w) rfl rfl ?_
  rcases in_cases a1 0 47 (m := 0) (n := 47) rfl rfl (by decide) (by decide) with q1 | ⟨x2, hx3, hx4, rfl⟩
  · refine sx_RP.cu (as := [.int a1]) (rest2 := []) (st3 := [.int 0]) rfl rfl rfl rfl rfl (cx_131n q1) rfl ?_
    refine sx_RP.step (pc2 := 7) (ls2 := [(0, .ref 111), (1, .int a1), (2, .int a2)]) (st2 := []) (w3 := w) rfl rfl ?_
    refine sx_RP.step (pc2 := 8) (ls2 := [(0, .ref 111), (1, .int a1), (2, .int a2)]) (st2 := [.ref 111]) (w3 := w) rfl rfl ?_
    refine sx_RP.step (pc2 := 9) (ls2 := [(0, .ref 111), (1, .int a1), (2, .int a2)]) (st2 := [.int 0, .ref 111]) (w3 := w) rfl rfl ?_
    refine sx_RP.callp (as2 := [.ref 111, .int 0]) (rest2 := []) rfl rfl (sx_inv_v2 (mi := 134) (k := 70) (st := [.int 0, .ref 111]) (w := w) rfl rfl hI.1.o111 rfl rfl rfl) rfl rfl rfl (K133_0 hI) (show _ = 12 from rfl) ?_
    rintro r4 w6 ⟨rfl, hI7, hE9⟩
    have hE8 := hE.tr (hE9)
    show sx_RP _ _ _ _ _ [.int (-1000000001)] _ _
    refine sx_RP.ret (r := (some (.int (-1000000001)))) rfl rfl ?_
    exact ⟨⟨_, rfl⟩, hI7, hE8⟩
  · refine sx_RP.cu (as := [.int (nI x2)]) (rest2 := []) (st3 := [.int 1]) rfl rfl rfl rfl rfl (cx_131p ⟨nI_le (a := 0) hx3 (by omega), nI_le (b := 47) hx4 (by decide)⟩) rfl ?_
    refine sx_RP.step (pc2 := 13) (ls2 := [(0, .ref 111), (1, .int (nI x2)), (2, .int a2)]) (st2 := []) (w3 := w) rfl rfl ?_
    refine sx_RP.step (pc2 := 14) (ls2 := [(0, .ref 111), (1, .int (nI x2)), (2, .int a2)]) (st2 := [.int a2]) (w3 := w) rfl rfl ?_
    refine sx_RP.br (p1 := 21) (l1 := [(0, .ref 111), (1, .int (nI x2)), (2, .int a2)]) (s1 := []) (v1 := w) (p2 := 17) (l2 := [(0, .ref 111), (1, .int (nI x2)), (2, .int a2)]) (s2 := []) (v2 := w) rfl rfl (fun q10 => ?_) (fun q10 => ?_)
    · replace q10 := of_decide_eq_true q10
      refine sx_RP.step (pc2 := 22) (ls2 := [(0, .ref 111), (1, .int (nI x2)), (2, .int a2)]) (st2 := [.int 0]) (w3 := w) rfl rfl ?_
      refine sx_RP.step (pc2 := 23) (ls2 := [(3, .int 0), (0, .ref 111), (1, .int (nI x2)), (2, .int a2)]) (st2 := []) (w3 := w) rfl rfl ?_
      refine sx_RP.step (pc2 := 24) (ls2 := [(3, .int 0), (0, .ref 111), (1, .int (nI x2)), (2, .int a2)]) (st2 := [.ref 111]) (w3 := w) rfl rfl ?_
      refine sx_RP.gf (v := .ref 112) rfl rfl hI.1.o111 rfl rfl (show _ = 27 from rfl) ?_
      refine sx_RP.step (pc2 := 29) (ls2 := [(3, .int 0), (0, .ref 111), (1, .int (nI x2)), (2, .int a2)]) (st2 := [.int 55, .ref 112]) (w3 := w) rfl rfl ?_
      refine sx_RP.step (pc2 := 30) (ls2 := [(3, .int 0), (0, .ref 111), (1, .int (nI x2)), (2, .int a2)]) (st2 := [.int (nI x2), .int 55, .ref 112]) (w3 := w) rfl rfl ?_
      refine sx_RP.step (pc2 := 31) (ls2 := [(3, .int 0), (0, .ref 111), (1, .int (nI x2)), (2, .int a2)]) (st2 := [.int (55 + (nI x2)), .ref 112]) (w3 := w) rfl rfl ?_
      rw [show (55 + (nI x2) : Int32) = nI (55 + x2) from nI_add 55 x2]
      refine sx_RP.ild (c := (55 + x2)) rfl hI.1.a112.1 hI.1.a112.2 (sx_in_nI (show (55 + x2) < 172 by omega) (by decide)) (show (nI (55 + x2)).toNatClampNeg = (55 + x2) from nI_clamp (by omega)) (show _ = 32 from rfl) ?_
      refine sx_RP.step (pc2 := 34) (ls2 := [(4, .int ((ia w 112).getD (55 + x2) 0)), (3, .int 0), (0, .ref 111), (1, .int (nI x2)), (2, .int a2)]) (st2 := []) (w3 := w) rfl rfl ?_
      refine sx_RP.step (pc2 := 35) (ls2 := [(4, .int ((ia w 112).getD (55 + x2) 0)), (3, .int 0), (0, .ref 111), (1, .int (nI x2)), (2, .int a2)]) (st2 := [.ref 111]) (w3 := w) rfl rfl ?_
      refine sx_RP.gf (v := .ref 112) rfl rfl hI.1.o111 rfl rfl (show _ = 38 from rfl) ?_
      refine sx_RP.step (pc2 := 40) (ls2 := [(4, .int ((ia w 112).getD (55 + x2) 0)), (3, .int 0), (0, .ref 111), (1, .int (nI x2)), (2, .int a2)]) (st2 := [.int 55, .ref 112]) (w3 := w) rfl rfl ?_
      refine sx_RP.step (pc2 := 41) (ls2 := [(4, .int ((ia w 112).getD (55 + x2) 0)), (3, .int 0), (0, .ref 111), (1, .int (nI x2)), (2, .int a2)]) (st2 := [.int (nI x2), .int 55, .ref 112]) (w3 := w) rfl rfl ?_
      refine sx_RP.step (pc2 := 42) (ls2 := [(4, .int ((ia w 112).getD (55 + x2) 0)), (3, .int 0), (0, .ref 111), (1, .int (nI x2)), (2, .int a2)]) (st2 := [.int (55 + (nI x2)), .ref 112]) (w3 := w) rfl rfl ?_
      rw [show (55 + (nI x2) : Int32) = nI (55 + x2) from nI_add 55 x2]
      refine sx_RP.step (pc2 := 43) (ls2 := [(4, .int ((ia w 112).getD (55 + x2) 0)), (3, .int 0), (0, .ref 111), (1, .int (nI x2)), (2, .int a2)]) (st2 := [.int 0, .int (nI (55 + x2)), .ref 112]) (w3 := w) rfl rfl ?_
      refine sx_RP.mSK (k := (55 + x2)) hI hE (by omega) (by decide) rfl rfl (by omega) (eOK_n (by omega)) (show _ = 44 from rfl) (fun w11 hI12 hE13 hk14 => ?_)
      refine sx_RP.step (pc2 := 46) (ls2 := [(4, .int ((ia w 112).getD (55 + x2) 0)), (3, .int 0), (0, .ref 111), (1, .int (nI x2)), (2, .int a2)]) (st2 := [.int ((ia w 112).getD (55 + x2) 0)]) (w3 := w11) rfl rfl ?_
      refine sx_RP.step (pc2 := 47) (ls2 := [(4, .int ((ia w 112).getD (55 + x2) 0)), (3, .int 0), (0, .ref 111), (1, .int (nI x2)), (2, .int a2)]) (st2 := [.int 0, .int ((ia w 112).getD (55 + x2) 0)]) (w3 := w11) rfl rfl ?_
      refine sx_RP.br (p1 := 54) (l1 := [(4, .int ((ia w 112).getD (55 + x2) 0)), (3, .int 0), (0, .ref 111), (1, .int (nI x2)), (2, .int a2)]) (s1 := []) (v1 := w11) (p2 := 50) (l2 := [(4, .int ((ia w 112).getD (55 + x2) 0)), (3, .int 0), (0, .ref 111), (1, .int (nI x2)), (2, .int a2)]) (s2 := []) (v2 := w11) rfl rfl (fun q15 => ?_) (fun q15 => ?_)
      · replace q15 := of_decide_eq_true q15
        refine sx_RP.step (pc2 := 55) (ls2 := [(4, .int ((ia w 112).getD (55 + x2) 0)), (3, .int 0), (0, .ref 111), (1, .int (nI x2)), (2, .int a2)]) (st2 := [.int 1]) (w3 := w11) rfl rfl ?_
        refine sx_RP.ret (r := (some (.int 1))) rfl rfl ?_
        exact ⟨⟨_, rfl⟩, hI12, hE13⟩
      · replace q15 := Decidable.not_not.mp (of_decide_eq_false q15)
        refine sx_RP.step (pc2 := 51) (ls2 := [(4, .int ((ia w 112).getD (55 + x2) 0)), (3, .int 0), (0, .ref 111), (1, .int (nI x2)), (2, .int a2)]) (st2 := [.int 0]) (w3 := w11) rfl rfl ?_
        refine sx_RP.step (pc2 := 55) (ls2 := [(4, .int ((ia w 112).getD (55 + x2) 0)), (3, .int 0), (0, .ref 111), (1, .int (nI x2)), (2, .int a2)]) (st2 := [.int 0]) (w3 := w11) rfl rfl ?_
        refine sx_RP.ret (r := (some (.int 0))) rfl rfl ?_
        exact ⟨⟨_, rfl⟩, hI12, hE13⟩
    · replace q10 := of_decide_eq_false q10
      refine sx_RP.step (pc2 := 18) (ls2 := [(0, .ref 111), (1, .int (nI x2)), (2, .int a2)]) (st2 := [.int 1]) (w3 := w) rfl rfl ?_
      refine sx_RP.step (pc2 := 22) (ls2 := [(0, .ref 111), (1, .int (nI x2)), (2, .int a2)]) (st2 := [.int 1]) (w3 := w) rfl rfl ?_
      refine sx_RP.step (pc2 := 23) (ls2 := [(3, .int 1), (0, .ref 111), (1, .int (nI x2)), (2, .int a2)]) (st2 := []) (w3 := w) rfl rfl ?_
      refine sx_RP.step (pc2 := 24) (ls2 := [(3, .int 1), (0, .ref 111), (1, .int (nI x2)), (2, .int a2)]) (st2 := [.ref 111]) (w3 := w) rfl rfl ?_
      refine sx_RP.gf (v := .ref 112) rfl rfl hI.1.o111 rfl rfl (show _ = 27 from rfl) ?_
      refine sx_RP.step (pc2 := 29) (ls2 := [(3, .int 1), (0, .ref 111), (1, .int (nI x2)), (2, .int a2)]) (st2 := [.int 55, .ref 112]) (w3 := w) rfl rfl ?_
      refine sx_RP.step (pc2 := 30) (ls2 := [(3, .int 1), (0, .ref 111), (1, .int (nI x2)), (2, .int a2)]) (st2 := [.int (nI x2), .int 55, .ref 112]) (w3 := w) rfl rfl ?_
      refine sx_RP.step (pc2 := 31) (ls2 := [(3, .int 1), (0, .ref 111), (1, .int (nI x2)), (2, .int a2)]) (st2 := [.int (55 + (nI x2)), .ref 112]) (w3 := w) rfl rfl ?_
      rw [show (55 + (nI x2) : Int32) = nI (55 + x2) from nI_add 55 x2]
      refine sx_RP.ild (c := (55 + x2)) rfl hI.1.a112.1 hI.1.a112.2 (sx_in_nI (show (55 + x2) < 172 by omega) (by decide)) (show (nI (55 + x2)).toNatClampNeg = (55 + x2) from nI_clamp (by omega)) (show _ = 32 from rfl) ?_
      refine sx_RP.step (pc2 := 34) (ls2 := [(4, .int ((ia w 112).getD (55 + x2) 0)), (3, .int 1), (0, .ref 111), (1, .int (nI x2)), (2, .int a2)]) (st2 := []) (w3 := w) rfl rfl ?_
      refine sx_RP.step (pc2 := 35) (ls2 := [(4, .int ((ia w 112).getD (55 + x2) 0)), (3, .int 1), (0, .ref 111), (1, .int (nI x2)), (2, .int a2)]) (st2 := [.ref 111]) (w3 := w) rfl rfl ?_
      refine sx_RP.gf (v := .ref 112) rfl rfl hI.1.o111 rfl rfl (show _ = 38 from rfl) ?_
      refine sx_RP.step (pc2 := 40) (ls2 := [(4, .int ((ia w 112).getD (55 + x2) 0)), (3, .int 1), (0, .ref 111), (1, .int (nI x2)), (2, .int a2)]) (st2 := [.int 55, .ref 112]) (w3 := w) rfl rfl ?_
      refine sx_RP.step (pc2 := 41) (ls2 := [(4, .int ((ia w 112).getD (55 + x2) 0)), (3, .int 1), (0, .ref 111), (1, .int (nI x2)), (2, .int a2)]) (st2 := [.int (nI x2), .int 55, .ref 112]) (w3 := w) rfl rfl ?_
      refine sx_RP.step (pc2 := 42) (ls2 := [(4, .int ((ia w 112).getD (55 + x2) 0)), (3, .int 1), (0, .ref 111), (1, .int (nI x2)), (2, .int a2)]) (st2 := [.int (55 + (nI x2)), .ref 112]) (w3 := w) rfl rfl ?_
      rw [show (55 + (nI x2) : Int32) = nI (55 + x2) from nI_add 55 x2]
      refine sx_RP.step (pc2 := 43) (ls2 := [(4, .int ((ia w 112).getD (55 + x2) 0)), (3, .int 1), (0, .ref 111), (1, .int (nI x2)), (2, .int a2)]) (st2 := [.int 1, .int (nI (55 + x2)), .ref 112]) (w3 := w) rfl rfl ?_
      refine sx_RP.mSK (k := (55 + x2)) hI hE (by omega) (by decide) rfl rfl (by omega) (eOK_n (by omega)) (show _ = 44 from rfl) (fun w16 hI17 hE18 hk19 => ?_)
      refine sx_RP.step (pc2 := 46) (ls2 := [(4, .int ((ia w 112).getD (55 + x2) 0)), (3, .int 1), (0, .ref 111), (1, .int (nI x2)), (2, .int a2)]) (st2 := [.int ((ia w 112).getD (55 + x2) 0)]) (w3 := w16) rfl rfl ?_
      refine sx_RP.step (pc2 := 47) (ls2 := [(4, .int ((ia w 112).getD (55 + x2) 0)), (3, .int 1), (0, .ref 111), (1, .int (nI x2)), (2, .int a2)]) (st2 := [.int 1, .int ((ia w 112).getD (55 + x2) 0)]) (w3 := w16) rfl rfl ?_
      refine sx_RP.br (p1 := 54) (l1 := [(4, .int ((ia w 112).getD (55 + x2) 0)), (3, .int 1), (0, .ref 111), (1, .int (nI x2)), (2, .int a2)]) (s1 := []) (v1 := w16) (p2 := 50) (l2 := [(4, .int ((ia w 112).getD (55 + x2) 0)), (3, .int 1), (0, .ref 111), (1, .int (nI x2)), (2, .int a2)]) (s2 := []) (v2 := w16) rfl rfl (fun q20 => ?_) (fun q20 => ?_)
      · replace q20 := of_decide_eq_true q20
        refine sx_RP.step (pc2 := 55) (ls2 := [(4, .int ((ia w 112).getD (55 + x2) 0)), (3, .int 1), (0, .ref 111), (1, .int (nI x2)), (2, .int a2)]) (st2 := [.int 1]) (w3 := w16) rfl rfl ?_
        refine sx_RP.ret (r := (some (.int 1))) rfl rfl ?_
        exact ⟨⟨_, rfl⟩, hI17, hE18⟩
      · replace q20 := Decidable.not_not.mp (of_decide_eq_false q20)
        refine sx_RP.step (pc2 := 51) (ls2 := [(4, .int ((ia w 112).getD (55 + x2) 0)), (3, .int 1), (0, .ref 111), (1, .int (nI x2)), (2, .int a2)]) (st2 := [.int 0]) (w3 := w16) rfl rfl ?_
        refine sx_RP.step (pc2 := 55) (ls2 := [(4, .int ((ia w 112).getD (55 + x2) 0)), (3, .int 1), (0, .ref 111), (1, .int (nI x2)), (2, .int a2)]) (st2 := [.int 0]) (w3 := w16) rfl rfl ?_
        refine sx_RP.ret (r := (some (.int 0))) rfl rfl ?_
        exact ⟨⟨_, rfl⟩, hI17, hE18⟩
set_option maxRecDepth 20000 in
set_option maxHeartbeats 4000000 in
theorem K135 {xs : Option (List Int32)} {d : Nat} {w : List sx_C} (hI : WI w) (a1 a2 : Int32) : sx_RP xs (d + 7) 135 0 (lv_args 0 [.ref 111, .int a1, .int a2]) [] w (fun r w2 => (∃ v : Int32, r = some (.int v)) ∧ WI w2 ∧ EK w w2) := by
  have hE : EK w w := EK.rf
  refine sx_RP.step (pc2 := 1) (ls2 := [(0, .ref 111), (1, .int a1), (2, .int a2)]) (st2 := [.int a1]) (w3 := w) rfl rfl ?_
  rcases in_cases a1 0 47 (m := 0) (n := 47) rfl rfl (by decide) (by decide) with q1 | ⟨x2, hx3, hx4, rfl⟩
  · refine sx_RP.cu (as := [.int a1]) (rest2 := []) (st3 := [.int 0]) rfl rfl rfl rfl rfl (cx_131n q1) rfl ?_
    refine sx_RP.step (pc2 := 16) (ls2 := [(0, .ref 111), (1, .int a1), (2, .int a2)]) (st2 := []) (w3 := w) rfl rfl ?_
    refine sx_RP.step (pc2 := 17) (ls2 := [(0, .ref 111), (1, .int a1), (2, .int a2)]) (st2 := [.ref 111]) (w3 := w) rfl rfl ?_
    refine sx_RP.step (pc2 := 18) (ls2 := [(0, .ref 111), (1, .int a1), (2, .int a2)]) (st2 := [.int 0, .ref 111]) (w3 := w) rfl rfl ?_
    refine sx_RP.callp (as2 := [.ref 111, .int 0]) (rest2 := []) rfl rfl (sx_inv_v2 (mi := 135) (k := 70) (st := [.int 0, .ref 111]) (w := w) rfl rfl hI.1.o111 rfl rfl rfl) rfl rfl rfl (K133_0 hI) (show _ = 21 from rfl) ?_
    rintro r4 w6 ⟨rfl, hI7, hE9⟩
    have hE8 := hE.tr (hE9)
    show sx_RP _ _ _ _ _ [.int (-1000000001)] _ _
    refine sx_RP.ret (r := (some (.int (-1000000001)))) rfl rfl ?_
    exact ⟨⟨_, rfl⟩, hI7, hE8⟩
  · refine sx_RP.cu (as := [.int (nI x2)]) (rest2 := []) (st3 := [.int 1]) rfl rfl rfl rfl rfl (cx_131p ⟨nI_le (a := 0) hx3 (by omega), nI_le (b := 47) hx4 (by decide)⟩) rfl ?_
    refine sx_RP.step (pc2 := 7) (ls2 := [(0, .ref 111), (1, .int (nI x2)), (2, .int a2)]) (st2 := []) (w3 := w) rfl rfl ?_
    refine sx_RP.step (pc2 := 8) (ls2 := [(0, .ref 111), (1, .int (nI x2)), (2, .int a2)]) (st2 := [.int a2]) (w3 := w) rfl rfl ?_
    refine sx_RP.step (pc2 := 9) (ls2 := [(0, .ref 111), (1, .int (nI x2)), (2, .int a2)]) (st2 := [.int 0, .int a2]) (w3 := w) rfl rfl ?_
    refine sx_RP.step (pc2 := 10) (ls2 := [(0, .ref 111), (1, .int (nI x2)), (2, .int a2)]) (st2 := [.int 2, .int 0, .int a2]) (w3 := w) rfl rfl ?_
    rcases in_cases a2 0 2 (m := 0) (n := 2) rfl rfl (by decide) (by decide) with q10 | ⟨x11, hx12, hx13, rfl⟩
    · refine sx_RP.cu (as := [.int a2, .int 0, .int 2]) (rest2 := []) (st3 := [.int 0]) rfl rfl rfl rfl rfl (cx_132o q10) rfl ?_
      refine sx_RP.step (pc2 := 16) (ls2 := [(0, .ref 111), (1, .int (nI x2)), (2, .int a2)]) (st2 := []) (w3 := w) rfl rfl ?_
      refine sx_RP.step (pc2 := 17) (ls2 := [(0, .ref 111), (1, .int (nI x2)), (2, .int a2)]) (st2 := [.ref 111]) (w3 := w) rfl rfl ?_
      refine sx_RP.step (pc2 := 18) (ls2 := [(0, .ref 111), (1, .int (nI x2)), (2, .int a2)]) (st2 := [.int 0, .ref 111]) (w3 := w) rfl rfl ?_
      refine sx_RP.callp (as2 := [.ref 111, .int 0]) (rest2 := []) rfl rfl (sx_inv_v2 (mi := 135) (k := 70) (st := [.int 0, .ref 111]) (w := w) rfl rfl hI.1.o111 rfl rfl rfl) rfl rfl rfl (K133_0 hI) (show _ = 21 from rfl) ?_
      rintro r4 w15 ⟨rfl, hI16, hE18⟩
      have hE17 := hE.tr (hE18)
      show sx_RP _ _ _ _ _ [.int (-1000000001)] _ _
      refine sx_RP.ret (r := (some (.int (-1000000001)))) rfl rfl ?_
      exact ⟨⟨_, rfl⟩, hI16, hE17⟩
    · refine sx_RP.cu (as := [.int (nI x11), .int 0, .int 2]) (rest2 := []) (st3 := [.int 1]) rfl rfl rfl rfl rfl (cx_132p ⟨nI_le (a := 0) hx12 (by omega), nI_le (b := 2) hx13 (by decide)⟩) rfl ?_
      refine sx_RP.step (pc2 := 22) (ls2 := [(0, .ref 111), (1, .int (nI x2)), (2, .int (nI x11))]) (st2 := []) (w3 := w) rfl rfl ?_
      refine sx_RP.step (pc2 := 23) (ls2 := [(0, .ref 111), (1, .int (nI x2)), (2, .int (nI x11))]) (st2 := [.int (nI x11)]) (w3 := w) rfl rfl ?_
      refine sx_RP.br (p1 := 38) (l1 := [(0, .ref 111), (1, .int (nI x2)), (2, .int (nI x11))]) (s1 := []) (v1 := w) (p2 := 26) (l2 := [(0, .ref 111), (1, .int (nI x2)), (2, .int (nI x11))]) (s2 := []) (v2 := w) rfl rfl (fun q19 => ?_) (fun q19 => ?_)
      · replace q19 := of_decide_eq_true q19
        replace q19 := mt (nI_eq (a := x11) (b := 0) (by omega) (by omega)).mpr q19
        refine sx_RP.step (pc2 := 39) (ls2 := [(0, .ref 111), (1, .int (nI x2)), (2, .int (nI x11))]) (st2 := [.int (nI x11)]) (w3 := w) rfl rfl ?_
        refine sx_RP.step (pc2 := 40) (ls2 := [(0, .ref 111), (1, .int (nI x2)), (2, .int (nI x11))]) (st2 := [.int 1, .int (nI x11)]) (w3 := w) rfl rfl ?_
        refine sx_RP.br (p1 := 55) (l1 := [(0, .ref 111), (1, .int (nI x2)), (2, .int (nI x11))]) (s1 := []) (v1 := w) (p2 := 43) (l2 := [(0, .ref 111), (1, .int (nI x2)), (2, .int (nI x11))]) (s2 := []) (v2 := w) rfl rfl (fun q20 => ?_) (fun q20 => ?_)
        · replace q20 := of_decide_eq_true q20
          replace q20 := mt (nI_eq (a := x11) (b := 1) (by omega) (by omega)).mpr q20
          refine sx_RP.step (pc2 := 56) (ls2 := [(0, .ref 111), (1, .int (nI x2)), (2, .int (nI x11))]) (st2 := [.ref 111]) (w3 := w) rfl rfl ?_
          refine sx_RP.step (pc2 := 57) (ls2 := [(0, .ref 111), (1, .int (nI x2)), (2, .int (nI x11))]) (st2 := [.int (nI x2), .ref 111]) (w3 := w) rfl rfl ?_
          obtain ⟨v21, c22⟩ := p136 hI (nI x2)
          refine sx_RP.cu (as := [.ref 111, .int (nI x2)]) (rest2 := []) (st3 := [.int v21]) rfl rfl (sx_inv_v2 (mi := 135) (k := 77) (st := [.int (nI x2), .ref 111]) (w := w) rfl rfl hI.1.o111 rfl rfl rfl) rfl rfl (c22) rfl ?_
          refine sx_RP.ret (r := (some (.int v21))) rfl rfl ?_
          exact ⟨⟨_, rfl⟩, hI, hE⟩
        · replace q20 := Decidable.not_not.mp (of_decide_eq_false q20)
          replace q20 := (nI_eq (a := x11) (b := 1) (by omega) (by omega)).mp q20
          refine sx_RP.step (pc2 := 44) (ls2 := [(0, .ref 111), (1, .int (nI x2)), (2, .int (nI x11))]) (st2 := [.ref 111]) (w3 := w) rfl rfl ?_
          refine sx_RP.gf (v := .ref 112) rfl rfl hI.1.o111 rfl rfl (show _ = 47 from rfl) ?_
          refine sx_RP.step (pc2 := 49) (ls2 := [(0, .ref 111), (1, .int (nI x2)), (2, .int (nI x11))]) (st2 := [.int 55, .ref 112]) (w3 := w) rfl rfl ?_
          refine sx_RP.step (pc2 := 50) (ls2 := [(0, .ref 111), (1, .int (nI x2)), (2, .int (nI x11))]) (st2 := [.int (nI x2), .int 55, .ref 112]) (w3 := w) rfl rfl ?_
          refine sx_RP.step (pc2 := 51) (ls2 := [(0, .ref 111), (1, .int (nI x2)), (2, .int (nI x11))]) (st2 := [.int (55 + (nI x2)), .ref 112]) (w3 := w) rfl rfl ?_
          rw [show (55 + (nI x2) : Int32) = nI (55 + x2) from nI_add 55 x2]
          refine sx_RP.ild (c := (55 + x2)) rfl hI.1.a112.1 hI.1.a112.2 (sx_in_nI (show (55 + x2) < 172 by omega) (by decide)) (show (nI (55 + x2)).toNatClampNeg = (55 + x2) from nI_clamp (by omega)) (show _ = 52 from rfl) ?_
          refine sx_RP.step (pc2 := 60) (ls2 := [(0, .ref 111), (1, .int (nI x2)), (2, .int (nI x11))]) (st2 := [.int ((ia w 112).getD (55 + x2) 0)]) (w3 := w) rfl rfl ?_
          refine sx_RP.ret (r := (some (.int ((ia w 112).getD (55 + x2) 0)))) rfl rfl ?_
          exact ⟨⟨_, rfl⟩, hI, hE⟩
      · replace q19 := Decidable.not_not.mp (of_decide_eq_false q19)
        replace q19 := (nI_eq (a := x11) (b := 0) (by omega) (by omega)).mp q19
        refine sx_RP.step (pc2 := 27) (ls2 := [(0, .ref 111), (1, .int (nI x2)), (2, .int (nI x11))]) (st2 := [.ref 111]) (w3 := w) rfl rfl ?_
        refine sx_RP.gf (v := .ref 112) rfl rfl hI.1.o111 rfl rfl (show _ = 30 from rfl) ?_
        refine sx_RP.step (pc2 := 32) (ls2 := [(0, .ref 111), (1, .int (nI x2)), (2, .int (nI x11))]) (st2 := [.int 7, .ref 112]) (w3 := w) rfl rfl ?_
        refine sx_RP.step (pc2 := 33) (ls2 := [(0, .ref 111), (1, .int (nI x2)), (2, .int (nI x11))]) (st2 := [.int (nI x2), .int 7, .ref 112]) (w3 := w) rfl rfl ?_
        refine sx_RP.step (pc2 := 34) (ls2 := [(0, .ref 111), (1, .int (nI x2)), (2, .int (nI x11))]) (st2 := [.int (7 + (nI x2)), .ref 112]) (w3 := w) rfl rfl ?_
        rw [show (7 + (nI x2) : Int32) = nI (7 + x2) from nI_add 7 x2]
        refine sx_RP.ild (c := (7 + x2)) rfl hI.1.a112.1 hI.1.a112.2 (sx_in_nI (show (7 + x2) < 172 by omega) (by decide)) (show (nI (7 + x2)).toNatClampNeg = (7 + x2) from nI_clamp (by omega)) (show _ = 35 from rfl) ?_
        obtain ⟨x23, hx24, ex25⟩ : inR ((ia w 112).getD (7 + x2) 0) 3 := (hI.s ((7 + x2)) (by omega)).2.2.1 (by omega)
        rw [ex25]
        refine sx_RP.step (pc2 := 60) (ls2 := [(0, .ref 111), (1, .int (nI x2)), (2, .int (nI x11))]) (st2 := [.int (nI x23)]) (w3 := w) rfl rfl ?_
        refine sx_RP.ret (r := (some (.int (nI x23)))) rfl rfl ?_
        exact ⟨⟨_, rfl⟩, hI, hE⟩
set_option maxRecDepth 20000 in
set_option maxHeartbeats 4000000 in
theorem K155 {xs : Option (List Int32)} {d : Nat} {w : List sx_C} (hI : WI w) (a1 a2 : Int32) : sx_RP xs (d + 7) 155 0 (lv_args 0 [.ref 111, .int a1, .int a2]) [] w (fun r w2 => (∃ v : Int32, r = some (.int v)) ∧ WI w2 ∧ EK w w2) := by
  have hE : EK w w := EK.rf
  refine sx_RP.step (pc2 := 1) (ls2 := [(0, .ref 111), (1, .int a1), (2, .int a2)]) (st2 := [.ref 111]) (w3 := w) rfl rfl ?_
  refine sx_RP.step (pc2 := 2) (ls2 := [(0, .ref 111), (1, .int a1), (2, .int a2)]) (st2 := [.int a1, .ref 111]) (w3 := w) rfl rfl ?_
  rcases p156 (xs := xs) hI a1 with c2 | ⟨⟨x3, hx4, rfl⟩, c2⟩
  · refine sx_RP.cu (as := [.ref 111, .int a1]) (rest2 := []) (st3 := [.int 0]) rfl rfl (sx_inv_v2 (mi := 155) (k := 124) (st := [.int a1, .ref 111]) (w := w) rfl rfl hI.1.o111 rfl rfl rfl) rfl rfl (c2) rfl ?_
    refine sx_RP.step (pc2 := 26) (ls2 := [(0, .ref 111), (1, .int a1), (2, .int a2)]) (st2 := []) (w3 := w) rfl rfl ?_
    refine sx_RP.step (pc2 := 27) (ls2 := [(0, .ref 111), (1, .int a1), (2, .int a2)]) (st2 := [.ref 111]) (w3 := w) rfl rfl ?_
    refine sx_RP.step (pc2 := 28) (ls2 := [(0, .ref 111), (1, .int a1), (2, .int a2)]) (st2 := [.int 0, .ref 111]) (w3 := w) rfl rfl ?_
    refine sx_RP.callp (as2 := [.ref 111, .int 0]) (rest2 := []) rfl rfl (sx_inv_v2 (mi := 155) (k := 70) (st := [.int 0, .ref 111]) (w := w) rfl rfl hI.1.o111 rfl rfl rfl) rfl rfl rfl (K133_0 hI) (show _ = 31 from rfl) ?_
    rintro r4 w6 ⟨rfl, hI7, hE9⟩
    have hE8 := hE.tr (hE9)
    show sx_RP _ _ _ _ _ [.int (-1000000001)] _ _
    refine sx_RP.ret (r := (some (.int (-1000000001)))) rfl rfl ?_
    exact ⟨⟨_, rfl⟩, hI7, hE8⟩
  · refine sx_RP.cu (as := [.ref 111, .int (nI x3)]) (rest2 := []) (st3 := [.int 1]) rfl rfl (sx_inv_v2 (mi := 155) (k := 124) (st := [.int (nI x3), .ref 111]) (w := w) rfl rfl hI.1.o111 rfl rfl rfl) rfl rfl (c2) rfl ?_
    refine sx_RP.step (pc2 := 8) (ls2 := [(0, .ref 111), (1, .int (nI x3)), (2, .int a2)]) (st2 := []) (w3 := w) rfl rfl ?_
    refine sx_RP.step (pc2 := 9) (ls2 := [(0, .ref 111), (1, .int (nI x3)), (2, .int a2)]) (st2 := [.int a2]) (w3 := w) rfl rfl ?_
    refine sx_RP.step (pc2 := 10) (ls2 := [(0, .ref 111), (1, .int (nI x3)), (2, .int a2)]) (st2 := [.int 0, .int a2]) (w3 := w) rfl rfl ?_
    refine sx_RP.step (pc2 := 11) (ls2 := [(0, .ref 111), (1, .int (nI x3)), (2, .int a2)]) (st2 := [.int 5, .int 0, .int a2]) (w3 := w) rfl rfl ?_
    rcases in_cases a2 0 5 (m := 0) (n := 5) rfl rfl (by decide) (by decide) with q10 | ⟨x11, hx12, hx13, rfl⟩
    · refine sx_RP.cu (as := [.int a2, .int 0, .int 5]) (rest2 := []) (st3 := [.int 0]) rfl rfl rfl rfl rfl (cx_132o q10) rfl ?_
      refine sx_RP.step (pc2 := 26) (ls2 := [(0, .ref 111), (1, .int (nI x3)), (2, .int a2)]) (st2 := []) (w3 := w) rfl rfl ?_
      refine sx_RP.step (pc2 := 27) (ls2 := [(0, .ref 111), (1, .int (nI x3)), (2, .int a2)]) (st2 := [.ref 111]) (w3 := w) rfl rfl ?_
      refine sx_RP.step (pc2 := 28) (ls2 := [(0, .ref 111), (1, .int (nI x3)), (2, .int a2)]) (st2 := [.int 0, .ref 111]) (w3 := w) rfl rfl ?_
      refine sx_RP.callp (as2 := [.ref 111, .int 0]) (rest2 := []) rfl rfl (sx_inv_v2 (mi := 155) (k := 70) (st := [.int 0, .ref 111]) (w := w) rfl rfl hI.1.o111 rfl rfl rfl) rfl rfl rfl (K133_0 hI) (show _ = 31 from rfl) ?_
      rintro r4 w15 ⟨rfl, hI16, hE18⟩
      have hE17 := hE.tr (hE18)
      show sx_RP _ _ _ _ _ [.int (-1000000001)] _ _
      refine sx_RP.ret (r := (some (.int (-1000000001)))) rfl rfl ?_
      exact ⟨⟨_, rfl⟩, hI16, hE17⟩
    · refine sx_RP.cu (as := [.int (nI x11), .int 0, .int 5]) (rest2 := []) (st3 := [.int 1]) rfl rfl rfl rfl rfl (cx_132p ⟨nI_le (a := 0) hx12 (by omega), nI_le (b := 5) hx13 (by decide)⟩) rfl ?_
      refine sx_RP.step (pc2 := 17) (ls2 := [(0, .ref 111), (1, .int (nI x3)), (2, .int (nI x11))]) (st2 := []) (w3 := w) rfl rfl ?_
      refine sx_RP.step (pc2 := 18) (ls2 := [(0, .ref 111), (1, .int (nI x3)), (2, .int (nI x11))]) (st2 := [.ref 111]) (w3 := w) rfl rfl ?_
      refine sx_RP.step (pc2 := 19) (ls2 := [(0, .ref 111), (1, .int (nI x3)), (2, .int (nI x11))]) (st2 := [.int (nI x3), .ref 111]) (w3 := w) rfl rfl ?_
      refine sx_RP.step (pc2 := 20) (ls2 := [(0, .ref 111), (1, .int (nI x3)), (2, .int (nI x11))]) (st2 := [.int (nI x11), .int (nI x3), .ref 111]) (w3 := w) rfl rfl ?_
      obtain ⟨v19, c20⟩ := p138a hI (show x3 < 10 by omega) (show x11 ≤ 5 by omega)
      refine sx_RP.cu (as := [.ref 111, .int (nI x3), .int (nI x11)]) (rest2 := []) (st3 := [.int v19]) rfl rfl (sx_inv_v2 (mi := 155) (k := 59) (st := [.int (nI x11), .int (nI x3), .ref 111]) (w := w) rfl rfl hI.1.o111 rfl rfl rfl) rfl rfl (c20) rfl ?_
      refine sx_RP.step (pc2 := 31) (ls2 := [(0, .ref 111), (1, .int (nI x3)), (2, .int (nI x11))]) (st2 := [.int v19]) (w3 := w) rfl rfl ?_
      refine sx_RP.ret (r := (some (.int v19))) rfl rfl ?_
      exact ⟨⟨_, rfl⟩, hI, hE⟩
set_option maxRecDepth 20000 in
set_option maxHeartbeats 4000000 in
theorem K157 {xs : Option (List Int32)} {d : Nat} {w : List sx_C} (hI : WI w) (a1 a2 : Int32) : sx_RP xs (d + 7) 157 0 (lv_args 0 [.ref 111, .int a1, .int a2]) [] w (fun r w2 => (∃ v : Int32, r = some (.int v)) ∧ WI w2 ∧ EK w w2) := by
  have hE : EK w w := EK.rf
  refine sx_RP.step (pc2 := 1) (ls2 := [(0, .ref 111), (1, .int a1), (2, .int a2)]) (st2 := [.ref 111]) (w3 := w) rfl rfl ?_
  refine sx_RP.step (pc2 := 2) (ls2 := [(0, .ref 111), (1, .int a1), (2, .int a2)]) (st2 := [.int a1, .ref 111]) (w3 := w) rfl rfl ?_
  rcases p156 (xs := xs) hI a1 with c2 | ⟨⟨x3, hx4, rfl⟩, c2⟩
  · refine sx_RP.cu (as := [.ref 111, .int a1]) (rest2 := []) (st3 := [.int 0]) rfl rfl (sx_inv_v2 (mi := 157) (k := 124) (st := [.int a1, .ref 111]) (w := w) rfl rfl hI.1.o111 rfl rfl rfl) rfl rfl (c2) rfl ?_
    refine sx_RP.step (pc2 := 15) (ls2 := [(0, .ref 111), (1, .int a1), (2, .int a2)]) (st2 := []) (w3 := w) rfl rfl ?_
    refine sx_RP.step (pc2 := 16) (ls2 := [(0, .ref 111), (1, .int a1), (2, .int a2)]) (st2 := [.ref 111]) (w3 := w) rfl rfl ?_
    refine sx_RP.step (pc2 := 17) (ls2 := [(0, .ref 111), (1, .int a1), (2, .int a2)]) (st2 := [.int 0, .ref 111]) (w3 := w) rfl rfl ?_
    refine sx_RP.callp (as2 := [.ref 111, .int 0]) (rest2 := []) rfl rfl (sx_inv_v2 (mi := 157) (k := 70) (st := [.int 0, .ref 111]) (w := w) rfl rfl hI.1.o111 rfl rfl rfl) rfl rfl rfl (K133_0 hI) (show _ = 20 from rfl) ?_
    rintro r4 w6 ⟨rfl, hI7, hE9⟩
    have hE8 := hE.tr (hE9)
    show sx_RP _ _ _ _ _ [.int (-1000000001)] _ _
    refine sx_RP.ret (r := (some (.int (-1000000001)))) rfl rfl ?_
    exact ⟨⟨_, rfl⟩, hI7, hE8⟩
  · refine sx_RP.cu (as := [.ref 111, .int (nI x3)]) (rest2 := []) (st3 := [.int 1]) rfl rfl (sx_inv_v2 (mi := 157) (k := 124) (st := [.int (nI x3), .ref 111]) (w := w) rfl rfl hI.1.o111 rfl rfl rfl) rfl rfl (c2) rfl ?_
    refine sx_RP.step (pc2 := 8) (ls2 := [(0, .ref 111), (1, .int (nI x3)), (2, .int a2)]) (st2 := []) (w3 := w) rfl rfl ?_
    refine sx_RP.step (pc2 := 9) (ls2 := [(0, .ref 111), (1, .int (nI x3)), (2, .int a2)]) (st2 := [.int a2]) (w3 := w) rfl rfl ?_
    rcases in_cases a2 0 3 (m := 0) (n := 3) rfl rfl (by decide) (by decide) with q10 | ⟨x11, hx12, hx13, rfl⟩
    · refine sx_RP.cu (as := [.int a2]) (rest2 := []) (st3 := [.int 0]) rfl rfl rfl rfl rfl (cx_152n q10) rfl ?_
      refine sx_RP.step (pc2 := 15) (ls2 := [(0, .ref 111), (1, .int (nI x3)), (2, .int a2)]) (st2 := []) (w3 := w) rfl rfl ?_
      refine sx_RP.step (pc2 := 16) (ls2 := [(0, .ref 111), (1, .int (nI x3)), (2, .int a2)]) (st2 := [.ref 111]) (w3 := w) rfl rfl ?_
      refine sx_RP.step (pc2 := 17) (ls2 := [(0, .ref 111), (1, .int (nI x3)), (2, .int a2)]) (st2 := [.int 0, .ref 111]) (w3 := w) rfl rfl ?_
      refine sx_RP.callp (as2 := [.ref 111, .int 0]) (rest2 := []) rfl rfl (sx_inv_v2 (mi := 157) (k := 70) (st := [.int 0, .ref 111]) (w := w) rfl rfl hI.1.o111 rfl rfl rfl) rfl rfl rfl (K133_0 hI) (show _ = 20 from rfl) ?_
      rintro r4 w15 ⟨rfl, hI16, hE18⟩
      have hE17 := hE.tr (hE18)
      show sx_RP _ _ _ _ _ [.int (-1000000001)] _ _
      refine sx_RP.ret (r := (some (.int (-1000000001)))) rfl rfl ?_
      exact ⟨⟨_, rfl⟩, hI16, hE17⟩
    · refine sx_RP.cu (as := [.int (nI x11)]) (rest2 := []) (st3 := [.int 1]) rfl rfl rfl rfl rfl (cx_152p ⟨nI_le (a := 0) hx12 (by omega), nI_le (b := 3) hx13 (by decide)⟩) rfl ?_
      refine sx_RP.step (pc2 := 21) (ls2 := [(0, .ref 111), (1, .int (nI x3)), (2, .int (nI x11))]) (st2 := []) (w3 := w) rfl rfl ?_
      refine sx_RP.step (pc2 := 22) (ls2 := [(0, .ref 111), (1, .int (nI x3)), (2, .int (nI x11))]) (st2 := [.ref 111]) (w3 := w) rfl rfl ?_
      refine sx_RP.step (pc2 := 23) (ls2 := [(0, .ref 111), (1, .int (nI x3)), (2, .int (nI x11))]) (st2 := [.int (nI x3), .ref 111]) (w3 := w) rfl rfl ?_
      obtain ⟨x19, hx20, c21⟩ := p137 hI (show x3 < 10 by omega)
      refine sx_RP.cu (as := [.ref 111, .int (nI x3)]) (rest2 := []) (st3 := [.int (nI x19)]) rfl rfl (sx_inv_v2 (mi := 157) (k := 74) (st := [.int (nI x3), .ref 111]) (w := w) rfl rfl hI.1.o111 rfl rfl rfl) rfl rfl (c21) rfl ?_
      refine sx_RP.br (p1 := 35) (l1 := [(0, .ref 111), (1, .int (nI x3)), (2, .int (nI x11))]) (s1 := []) (v1 := w) (p2 := 29) (l2 := [(0, .ref 111), (1, .int (nI x3)), (2, .int (nI x11))]) (s2 := []) (v2 := w) rfl rfl (fun q22 => ?_) (fun q22 => ?_)
      · replace q22 := of_decide_eq_true q22
        replace q22 := mt (nI_eq (a := x19) (b := 0) (by omega) (by omega)).mpr q22
        refine sx_RP.step (pc2 := 36) (ls2 := [(0, .ref 111), (1, .int (nI x3)), (2, .int (nI x11))]) (st2 := [.ref 111]) (w3 := w) rfl rfl ?_
        refine sx_RP.step (pc2 := 37) (ls2 := [(0, .ref 111), (1, .int (nI x3)), (2, .int (nI x11))]) (st2 := [.int (nI x3), .ref 111]) (w3 := w) rfl rfl ?_
        refine sx_RP.step (pc2 := 38) (ls2 := [(0, .ref 111), (1, .int (nI x3)), (2, .int (nI x11))]) (st2 := [.int 3, .int (nI x3), .ref 111]) (w3 := w) rfl rfl ?_
        refine sx_RP.step (pc2 := 39) (ls2 := [(0, .ref 111), (1, .int (nI x3)), (2, .int (nI x11))]) (st2 := [.int (nI x11), .int 3, .int (nI x3), .ref 111]) (w3 := w) rfl rfl ?_
        refine sx_RP.callp (as2 := [.ref 111, .int (nI x3), .int 3, .int (nI x11)]) (rest2 := []) rfl rfl (sx_inv_v2 (mi := 157) (k := 110) (st := [.int (nI x11), .int 3, .int (nI x3), .ref 111]) (w := w) rfl rfl hI.1.o111 rfl rfl rfl) rfl rfl rfl (K154_3 hI (show x3 < 10 by omega) (show x11 ≤ 3 by omega)) (show _ = 42 from rfl) ?_
        rintro r4 w24 ⟨⟨v23, rfl⟩, hI25, hE27⟩
        have hE26 := hE.tr (hE27)
        show sx_RP _ _ _ _ _ [.int v23] _ _
        refine sx_RP.step (pc2 := 43) (ls2 := [(3, .int v23), (0, .ref 111), (1, .int (nI x3)), (2, .int (nI x11))]) (st2 := []) (w3 := w24) rfl rfl ?_
        refine sx_RP.step (pc2 := 44) (ls2 := [(3, .int v23), (0, .ref 111), (1, .int (nI x3)), (2, .int (nI x11))]) (st2 := [.ref 111]) (w3 := w24) rfl rfl ?_
        refine sx_RP.step (pc2 := 45) (ls2 := [(3, .int v23), (0, .ref 111), (1, .int (nI x3)), (2, .int (nI x11))]) (st2 := [.int (nI x3), .ref 111]) (w3 := w24) rfl rfl ?_
        refine sx_RP.step (pc2 := 46) (ls2 := [(3, .int v23), (0, .ref 111), (1, .int (nI x3)), (2, .int (nI x11))]) (st2 := [.int 4, .int (nI x3), .ref 111]) (w3 := w24) rfl rfl ?_
        refine sx_RP.step (pc2 := 47) (ls2 := [(3, .int v23), (0, .ref 111), (1, .int (nI x3)), (2, .int (nI x11))]) (st2 := [.int v23, .int 4, .int (nI x3), .ref 111]) (w3 := w24) rfl rfl ?_
        refine sx_RP.step (pc2 := 48) (ls2 := [(3, .int v23), (0, .ref 111), (1, .int (nI x3)), (2, .int (nI x11))]) (st2 := [.int (nI x11), .int v23, .int 4, .int (nI x3), .ref 111]) (w3 := w24) rfl rfl ?_
        refine sx_RP.br (p1 := 60) (l1 := [(3, .int v23), (0, .ref 111), (1, .int (nI x3)), (2, .int (nI x11))]) (s1 := [.int 4, .int (nI x3), .ref 111]) (v1 := w24) (p2 := 51) (l2 := [(3, .int v23), (0, .ref 111), (1, .int (nI x3)), (2, .int (nI x11))]) (s2 := [.int 4, .int (nI x3), .ref 111]) (v2 := w24) rfl rfl (fun q28 => ?_) (fun q28 => ?_)
        · replace q28 := of_decide_eq_true q28
          refine sx_RP.step (pc2 := 61) (ls2 := [(3, .int v23), (0, .ref 111), (1, .int (nI x3)), (2, .int (nI x11))]) (st2 := [.int 0, .int 4, .int (nI x3), .ref 111]) (w3 := w24) rfl rfl ?_
          refine sx_RP.callp (as2 := [.ref 111, .int (nI x3), .int 4, .int 0]) (rest2 := []) rfl rfl (sx_inv_v2 (mi := 157) (k := 110) (st := [.int 0, .int 4, .int (nI x3), .ref 111]) (w := w24) rfl rfl hI25.1.o111 rfl rfl rfl) rfl rfl rfl (K154_4 hI25 (show x3 < 10 by omega) 0) (show _ = 64 from rfl) ?_
          rintro r4 w30 ⟨⟨v29, rfl⟩, hI31, hE33⟩
          have hE32 := hE26.tr (hE33)
          show sx_RP _ _ _ _ _ [.int v29] _ _
          refine sx_RP.step (pc2 := 65) (ls2 := [(3, .int v23), (0, .ref 111), (1, .int (nI x3)), (2, .int (nI x11))]) (st2 := []) (w3 := w30) rfl rfl ?_
          refine sx_RP.step (pc2 := 66) (ls2 := [(3, .int v23), (0, .ref 111), (1, .int (nI x3)), (2, .int (nI x11))]) (st2 := [.int v23]) (w3 := w30) rfl rfl ?_
          refine sx_RP.ret (r := (some (.int v23))) rfl rfl ?_
          exact ⟨⟨_, rfl⟩, hI31, hE32⟩
        · replace q28 := Decidable.not_not.mp (of_decide_eq_false q28)
          refine sx_RP.step (pc2 := 52) (ls2 := [(3, .int v23), (0, .ref 111), (1, .int (nI x3)), (2, .int (nI x11))]) (st2 := [.ref 111, .int 4, .int (nI x3), .ref 111]) (w3 := w24) rfl rfl ?_
          refine sx_RP.step (pc2 := 53) (ls2 := [(3, .int v23), (0, .ref 111), (1, .int (nI x3)), (2, .int (nI x11))]) (st2 := [.int (nI x3), .ref 111, .int 4, .int (nI x3), .ref 111]) (w3 := w24) rfl rfl ?_
          refine sx_RP.step (pc2 := 54) (ls2 := [(3, .int v23), (0, .ref 111), (1, .int (nI x3)), (2, .int (nI x11))]) (st2 := [.int 4, .int (nI x3), .ref 111, .int 4, .int (nI x3), .ref 111]) (w3 := w24) rfl rfl ?_
          obtain ⟨v34, c35⟩ := p138_4 hI25 (show x3 < 10 by omega)
          refine sx_RP.cu (as := [.ref 111, .int (nI x3), .int 4]) (rest2 := [.int 4, .int (nI x3), .ref 111]) (st3 := [.int v34, .int 4, .int (nI x3), .ref 111]) rfl rfl (sx_inv_v2 (mi := 157) (k := 59) (st := [.int 4, .int (nI x3), .ref 111, .int 4, .int (nI x3), .ref 111]) (w := w24) rfl rfl hI25.1.o111 rfl rfl rfl) rfl rfl (c35) rfl ?_
          refine sx_RP.step (pc2 := 61) (ls2 := [(3, .int v23), (0, .ref 111), (1, .int (nI x3)), (2, .int (nI x11))]) (st2 := [.int v34, .int 4, .int (nI x3), .ref 111]) (w3 := w24) rfl rfl ?_
          refine sx_RP.callp (as2 := [.ref 111, .int (nI x3), .int 4, .int v34]) (rest2 := []) rfl rfl (sx_inv_v2 (mi := 157) (k := 110) (st := [.int v34, .int 4, .int (nI x3), .ref 111]) (w := w24) rfl rfl hI25.1.o111 rfl rfl rfl) rfl rfl rfl (K154_4 hI25 (show x3 < 10 by omega) v34) (show _ = 64 from rfl) ?_
          rintro r4 w37 ⟨⟨v36, rfl⟩, hI38, hE40⟩
          have hE39 := hE26.tr (hE40)
          show sx_RP _ _ _ _ _ [.int v36] _ _
          refine sx_RP.step (pc2 := 65) (ls2 := [(3, .int v23), (0, .ref 111), (1, .int (nI x3)), (2, .int (nI x11))]) (st2 := []) (w3 := w37) rfl rfl ?_
          refine sx_RP.step (pc2 := 66) (ls2 := [(3, .int v23), (0, .ref 111), (1, .int (nI x3)), (2, .int (nI x11))]) (st2 := [.int v23]) (w3 := w37) rfl rfl ?_
          refine sx_RP.ret (r := (some (.int v23))) rfl rfl ?_
          exact ⟨⟨_, rfl⟩, hI38, hE39⟩
      · replace q22 := Decidable.not_not.mp (of_decide_eq_false q22)
        replace q22 := (nI_eq (a := x19) (b := 0) (by omega) (by omega)).mp q22
        refine sx_RP.step (pc2 := 30) (ls2 := [(0, .ref 111), (1, .int (nI x3)), (2, .int (nI x11))]) (st2 := [.ref 111]) (w3 := w) rfl rfl ?_
        refine sx_RP.step (pc2 := 31) (ls2 := [(0, .ref 111), (1, .int (nI x3)), (2, .int (nI x11))]) (st2 := [.int 4, .ref 111]) (w3 := w) rfl rfl ?_
        refine sx_RP.callp (as2 := [.ref 111, .int 4]) (rest2 := []) rfl rfl (sx_inv_v2 (mi := 157) (k := 70) (st := [.int 4, .ref 111]) (w := w) rfl rfl hI.1.o111 rfl rfl rfl) rfl rfl rfl (K133_4 hI) (show _ = 34 from rfl) ?_
        rintro r4 w41 ⟨rfl, hI42, hE44⟩
        have hE43 := hE.tr (hE44)
        show sx_RP _ _ _ _ _ [.int (-1000000005)] _ _
        refine sx_RP.ret (r := (some (.int (-1000000005)))) rfl rfl ?_
        exact ⟨⟨_, rfl⟩, hI42, hE43⟩
set_option maxRecDepth 20000 in
set_option maxHeartbeats 4000000 in
theorem K159 {xs : Option (List Int32)} {d : Nat} {w : List sx_C} (hI : WI w) (a1 a2 : Int32) : sx_RP xs (d + 7) 159 0 (lv_args 0 [.ref 111, .int a1, .int a2]) [] w (fun r w2 => (∃ v : Int32, r = some (.int v)) ∧ WI w2 ∧ EK w w2) := by
  have hE : EK w w := EK.rf
  refine sx_RP.step (pc2 := 1) (ls2 := [(0, .ref 111), (1, .int a1), (2, .int a2)]) (st2 := [.ref 111]) (w3 := w) rfl rfl ?_
  refine sx_RP.step (pc2 := 2) (ls2 := [(0, .ref 111), (1, .int a1), (2, .int a2)]) (st2 := [.int a1, .ref 111]) (w3 := w) rfl rfl ?_
  rcases p156 (xs := xs) hI a1 with c2 | ⟨⟨x3, hx4, rfl⟩, c2⟩
  · refine sx_RP.cu (as := [.ref 111, .int a1]) (rest2 := []) (st3 := [.int 0]) rfl rfl (sx_inv_v2 (mi := 159) (k := 124) (st := [.int a1, .ref 111]) (w := w) rfl rfl hI.1.o111 rfl rfl rfl) rfl rfl (c2) rfl ?_
    refine sx_RP.step (pc2 := 15) (ls2 := [(0, .ref 111), (1, .int a1), (2, .int a2)]) (st2 := []) (w3 := w) rfl rfl ?_
    refine sx_RP.step (pc2 := 16) (ls2 := [(0, .ref 111), (1, .int a1), (2, .int a2)]) (st2 := [.ref 111]) (w3 := w) rfl rfl ?_
    refine sx_RP.step (pc2 := 17) (ls2 := [(0, .ref 111), (1, .int a1), (2, .int a2)]) (st2 := [.int 0, .ref 111]) (w3 := w) rfl rfl ?_
    refine sx_RP.callp (as2 := [.ref 111, .int 0]) (rest2 := []) rfl rfl (sx_inv_v2 (mi := 159) (k := 70) (st := [.int 0, .ref 111]) (w := w) rfl rfl hI.1.o111 rfl rfl rfl) rfl rfl rfl (K133_0 hI) (show _ = 20 from rfl) ?_
    rintro r4 w6 ⟨rfl, hI7, hE9⟩
    have hE8 := hE.tr (hE9)
    show sx_RP _ _ _ _ _ [.int (-1000000001)] _ _
    refine sx_RP.ret (r := (some (.int (-1000000001)))) rfl rfl ?_
    exact ⟨⟨_, rfl⟩, hI7, hE8⟩
  · refine sx_RP.cu (as := [.ref 111, .int (nI x3)]) (rest2 := []) (st3 := [.int 1]) rfl rfl (sx_inv_v2 (mi := 159) (k := 124) (st := [.int (nI x3), .ref 111]) (w := w) rfl rfl hI.1.o111 rfl rfl rfl) rfl rfl (c2) rfl ?_
    refine sx_RP.step (pc2 := 8) (ls2 := [(0, .ref 111), (1, .int (nI x3)), (2, .int a2)]) (st2 := []) (w3 := w) rfl rfl ?_
    refine sx_RP.step (pc2 := 9) (ls2 := [(0, .ref 111), (1, .int (nI x3)), (2, .int a2)]) (st2 := [.int a2]) (w3 := w) rfl rfl ?_
    rcases in_cases a2 0 5 (m := 0) (n := 5) rfl rfl (by decide) (by decide) with q10 | ⟨x11, hx12, hx13, rfl⟩
    · refine sx_RP.cu (as := [.int a2]) (rest2 := []) (st3 := [.int 0]) rfl rfl rfl rfl rfl (cx_151n q10) rfl ?_
      refine sx_RP.step (pc2 := 15) (ls2 := [(0, .ref 111), (1, .int (nI x3)), (2, .int a2)]) (st2 := []) (w3 := w) rfl rfl ?_
      refine sx_RP.step (pc2 := 16) (ls2 := [(0, .ref 111), (1, .int (nI x3)), (2, .int a2)]) (st2 := [.ref 111]) (w3 := w) rfl rfl ?_
      refine sx_RP.step (pc2 := 17) (ls2 := [(0, .ref 111), (1, .int (nI x3)), (2, .int a2)]) (st2 := [.int 0, .ref 111]) (w3 := w) rfl rfl ?_
      refine sx_RP.callp (as2 := [.ref 111, .int 0]) (rest2 := []) rfl rfl (sx_inv_v2 (mi := 159) (k := 70) (st := [.int 0, .ref 111]) (w := w) rfl rfl hI.1.o111 rfl rfl rfl) rfl rfl rfl (K133_0 hI) (show _ = 20 from rfl) ?_
      rintro r4 w15 ⟨rfl, hI16, hE18⟩
      have hE17 := hE.tr (hE18)
      show sx_RP _ _ _ _ _ [.int (-1000000001)] _ _
      refine sx_RP.ret (r := (some (.int (-1000000001)))) rfl rfl ?_
      exact ⟨⟨_, rfl⟩, hI16, hE17⟩
    · refine sx_RP.cu (as := [.int (nI x11)]) (rest2 := []) (st3 := [.int 1]) rfl rfl rfl rfl rfl (cx_151p ⟨nI_le (a := 0) hx12 (by omega), nI_le (b := 5) hx13 (by decide)⟩) rfl ?_
      refine sx_RP.step (pc2 := 21) (ls2 := [(0, .ref 111), (1, .int (nI x3)), (2, .int (nI x11))]) (st2 := []) (w3 := w) rfl rfl ?_
      refine sx_RP.step (pc2 := 22) (ls2 := [(0, .ref 111), (1, .int (nI x3)), (2, .int (nI x11))]) (st2 := [.ref 111]) (w3 := w) rfl rfl ?_
      refine sx_RP.step (pc2 := 23) (ls2 := [(0, .ref 111), (1, .int (nI x3)), (2, .int (nI x11))]) (st2 := [.int (nI x3), .ref 111]) (w3 := w) rfl rfl ?_
      refine sx_RP.step (pc2 := 24) (ls2 := [(0, .ref 111), (1, .int (nI x3)), (2, .int (nI x11))]) (st2 := [.int 0, .int (nI x3), .ref 111]) (w3 := w) rfl rfl ?_
      obtain ⟨x19, hx20, c21⟩ := p138_0 hI (show x3 < 10 by omega)
      refine sx_RP.cu (as := [.ref 111, .int (nI x3), .int 0]) (rest2 := []) (st3 := [.int (nI x19)]) rfl rfl (sx_inv_v2 (mi := 159) (k := 59) (st := [.int 0, .int (nI x3), .ref 111]) (w := w) rfl rfl hI.1.o111 rfl rfl rfl) rfl rfl (c21) rfl ?_
      refine sx_RP.step (pc2 := 28) (ls2 := [(0, .ref 111), (1, .int (nI x3)), (2, .int (nI x11))]) (st2 := [.int (nI x11), .int (nI x19)]) (w3 := w) rfl rfl ?_
      obtain ⟨x22, hx23, c24⟩ := p160 hI (nI x19) (nI x11)
      refine sx_RP.cu (as := [.int (nI x19), .int (nI x11)]) (rest2 := []) (st3 := [.int (nI x22)]) rfl rfl rfl rfl rfl (c24) rfl ?_
      refine sx_RP.br (p1 := 43) (l1 := [(0, .ref 111), (1, .int (nI x3)), (2, .int (nI x11))]) (s1 := []) (v1 := w) (p2 := 34) (l2 := [(0, .ref 111), (1, .int (nI x3)), (2, .int (nI x11))]) (s2 := []) (v2 := w) rfl rfl (fun q25 => ?_) (fun q25 => ?_)
      · replace q25 := of_decide_eq_true q25
        replace q25 := (nI_eq (a := x22) (b := 0) (by omega) (by omega)).mp q25
        refine sx_RP.step (pc2 := 44) (ls2 := [(0, .ref 111), (1, .int (nI x3)), (2, .int (nI x11))]) (st2 := [.ref 111]) (w3 := w) rfl rfl ?_
        refine sx_RP.step (pc2 := 45) (ls2 := [(0, .ref 111), (1, .int (nI x3)), (2, .int (nI x11))]) (st2 := [.int 2, .ref 111]) (w3 := w) rfl rfl ?_
        refine sx_RP.callp (as2 := [.ref 111, .int 2]) (rest2 := []) rfl rfl (sx_inv_v2 (mi := 159) (k := 70) (st := [.int 2, .ref 111]) (w := w) rfl rfl hI.1.o111 rfl rfl rfl) rfl rfl rfl (K133_2 hI) (show _ = 48 from rfl) ?_
        rintro r4 w26 ⟨rfl, hI27, hE29⟩
        have hE28 := hE.tr (hE29)
        show sx_RP _ _ _ _ _ [.int (-1000000003)] _ _
        refine sx_RP.ret (r := (some (.int (-1000000003)))) rfl rfl ?_
        exact ⟨⟨_, rfl⟩, hI27, hE28⟩
      · replace q25 := of_decide_eq_false q25
        replace q25 := mt (nI_eq (a := x22) (b := 0) (by omega) (by omega)).mpr q25
        refine sx_RP.step (pc2 := 35) (ls2 := [(0, .ref 111), (1, .int (nI x3)), (2, .int (nI x11))]) (st2 := [.ref 111]) (w3 := w) rfl rfl ?_
        refine sx_RP.step (pc2 := 36) (ls2 := [(0, .ref 111), (1, .int (nI x3)), (2, .int (nI x11))]) (st2 := [.int (nI x3), .ref 111]) (w3 := w) rfl rfl ?_
        refine sx_RP.step (pc2 := 37) (ls2 := [(0, .ref 111), (1, .int (nI x3)), (2, .int (nI x11))]) (st2 := [.int 2, .int (nI x3), .ref 111]) (w3 := w) rfl rfl ?_
        obtain ⟨x30, hx31, c32⟩ := p138_2 hI (show x3 < 10 by omega)
        refine sx_RP.cu (as := [.ref 111, .int (nI x3), .int 2]) (rest2 := []) (st3 := [.int (nI x30)]) rfl rfl (sx_inv_v2 (mi := 159) (k := 59) (st := [.int 2, .int (nI x3), .ref 111]) (w := w) rfl rfl hI.1.o111 rfl rfl rfl) rfl rfl (c32) rfl ?_
        refine sx_RP.step (pc2 := 48) (ls2 := [(0, .ref 111), (1, .int (nI x3)), (2, .int (nI x11))]) (st2 := [.int (nI x30)]) (w3 := w) rfl rfl ?_
        refine sx_RP.ret (r := (some (.int (nI x30)))) rfl rfl ?_
        exact ⟨⟨_, rfl⟩, hI, hE⟩
set_option maxRecDepth 20000 in
set_option maxHeartbeats 4000000 in
theorem K161 {xs : Option (List Int32)} {d : Nat} {w : List sx_C} (hI : WI w) (a1 a2 a3 : Int32) : sx_RP xs (d + 7) 161 0 (lv_args 0 [.ref 111, .int a1, .int a2, .int a3]) [] w (fun r w2 => (∃ v : Int32, r = some (.int v)) ∧ WI w2 ∧ EK w w2) := by
  have hE : EK w w := EK.rf
  refine sx_RP.step (pc2 := 1) (ls2 := [(0, .ref 111), (1, .int a1), (2, .int a2), (3, .int a3)]) (st2 := [.ref 111]) (w3 := w) rfl rfl ?_
  refine sx_RP.step (pc2 := 2) (ls2 := [(0, .ref 111), (1, .int a1), (2, .int a2), (3, .int a3)]) (st2 := [.int a1, .ref 111]) (w3 := w) rfl rfl ?_
  rcases p156 (xs := xs) hI a1 with c2 | ⟨⟨x3, hx4, rfl⟩, c2⟩
  · refine sx_RP.cu (as := [.ref 111, .int a1]) (rest2 := []) (st3 := [.int 0]) rfl rfl (sx_inv_v2 (mi := 161) (k := 124) (st := [.int a1, .ref 111]) (w := w) rfl rfl hI.1.o111 rfl rfl rfl) rfl rfl (c2) rfl ?_
    refine sx_RP.step (pc2 := 24) (ls2 := [(0, .ref 111), (1, .int a1), (2, .int a2), (3, .int a3)]) (st2 := []) (w3 := w) rfl rfl ?_
    refine sx_RP.step (pc2 := 25) (ls2 := [(0, .ref 111), (1, .int a1), (2, .int a2), (3, .int a3)]) (st2 := [.ref 111]) (w3 := w) rfl rfl ?_
    refine sx_RP.step (pc2 := 26) (ls2 := [(0, .ref 111), (1, .int a1), (2, .int a2), (3, .int a3)]) (st2 := [.int 0, .ref 111]) (w3 := w) rfl rfl ?_
    refine sx_RP.callp (as2 := [.ref 111, .int 0]) (rest2 := []) rfl rfl (sx_inv_v2 (mi := 161) (k := 70) (st := [.int 0, .ref 111]) (w := w) rfl rfl hI.1.o111 rfl rfl rfl) rfl rfl rfl (K133_0 hI) (show _ = 29 from rfl) ?_
    rintro r4 w6 ⟨rfl, hI7, hE9⟩
    have hE8 := hE.tr (hE9)
    show sx_RP _ _ _ _ _ [.int (-1000000001)] _ _
    refine sx_RP.ret (r := (some (.int (-1000000001)))) rfl rfl ?_
    exact ⟨⟨_, rfl⟩, hI7, hE8⟩
  · refine sx_RP.cu (as := [.ref 111, .int (nI x3)]) (rest2 := []) (st3 := [.int 1]) rfl rfl (sx_inv_v2 (mi := 161) (k := 124) (st := [.int (nI x3), .ref 111]) (w := w) rfl rfl hI.1.o111 rfl rfl rfl) rfl rfl (c2) rfl ?_
    refine sx_RP.step (pc2 := 8) (ls2 := [(0, .ref 111), (1, .int (nI x3)), (2, .int a2), (3, .int a3)]) (st2 := []) (w3 := w) rfl rfl ?_
    refine sx_RP.step (pc2 := 9) (ls2 := [(0, .ref 111), (1, .int (nI x3)), (2, .int a2), (3, .int a3)]) (st2 := [.int a2]) (w3 := w) rfl rfl ?_
    rcases in_cases a2 0 47 (m := 0) (n := 47) rfl rfl (by decide) (by decide) with q10 | ⟨x11, hx12, hx13, rfl⟩
    · refine sx_RP.cu (as := [.int a2]) (rest2 := []) (st3 := [.int 0]) rfl rfl rfl rfl rfl (cx_131n q10) rfl ?_
      refine sx_RP.step (pc2 := 24) (ls2 := [(0, .ref 111), (1, .int (nI x3)), (2, .int a2), (3, .int a3)]) (st2 := []) (w3 := w) rfl rfl ?_
      refine sx_RP.step (pc2 := 25) (ls2 := [(0, .ref 111), (1, .int (nI x3)), (2, .int a2), (3, .int a3)]) (st2 := [.ref 111]) (w3 := w) rfl rfl ?_
      refine sx_RP.step (pc2 := 26) (ls2 := [(0, .ref 111), (1, .int (nI x3)), (2, .int a2), (3, .int a3)]) (st2 := [.int 0, .ref 111]) (w3 := w) rfl rfl ?_
      refine sx_RP.callp (as2 := [.ref 111, .int 0]) (rest2 := []) rfl rfl (sx_inv_v2 (mi := 161) (k := 70) (st := [.int 0, .ref 111]) (w := w) rfl rfl hI.1.o111 rfl rfl rfl) rfl rfl rfl (K133_0 hI) (show _ = 29 from rfl) ?_
      rintro r4 w15 ⟨rfl, hI16, hE18⟩
      have hE17 := hE.tr (hE18)
      show sx_RP _ _ _ _ _ [.int (-1000000001)] _ _
      refine sx_RP.ret (r := (some (.int (-1000000001)))) rfl rfl ?_
      exact ⟨⟨_, rfl⟩, hI16, hE17⟩
    · refine sx_RP.cu (as := [.int (nI x11)]) (rest2 := []) (st3 := [.int 1]) rfl rfl rfl rfl rfl (cx_131p ⟨nI_le (a := 0) hx12 (by omega), nI_le (b := 47) hx13 (by decide)⟩) rfl ?_
      refine sx_RP.step (pc2 := 15) (ls2 := [(0, .ref 111), (1, .int (nI x3)), (2, .int (nI x11)), (3, .int a3)]) (st2 := []) (w3 := w) rfl rfl ?_
      refine sx_RP.step (pc2 := 16) (ls2 := [(0, .ref 111), (1, .int (nI x3)), (2, .int (nI x11)), (3, .int a3)]) (st2 := [.int a3]) (w3 := w) rfl rfl ?_
      refine sx_RP.step (pc2 := 17) (ls2 := [(0, .ref 111), (1, .int (nI x3)), (2, .int (nI x11)), (3, .int a3)]) (st2 := [.int 0, .int a3]) (w3 := w) rfl rfl ?_
      refine sx_RP.step (pc2 := 18) (ls2 := [(0, .ref 111), (1, .int (nI x3)), (2, .int (nI x11)), (3, .int a3)]) (st2 := [.int 2, .int 0, .int a3]) (w3 := w) rfl rfl ?_
      rcases in_cases a3 0 2 (m := 0) (n := 2) rfl rfl (by decide) (by decide) with q19 | ⟨x20, hx21, hx22, rfl⟩
      · refine sx_RP.cu (as := [.int a3, .int 0, .int 2]) (rest2 := []) (st3 := [.int 0]) rfl rfl rfl rfl rfl (cx_132o q19) rfl ?_
        refine sx_RP.step (pc2 := 24) (ls2 := [(0, .ref 111), (1, .int (nI x3)), (2, .int (nI x11)), (3, .int a3)]) (st2 := []) (w3 := w) rfl rfl ?_
        refine sx_RP.step (pc2 := 25) (ls2 := [(0, .ref 111), (1, .int (nI x3)), (2, .int (nI x11)), (3, .int a3)]) (st2 := [.ref 111]) (w3 := w) rfl rfl ?_
        refine sx_RP.step (pc2 := 26) (ls2 := [(0, .ref 111), (1, .int (nI x3)), (2, .int (nI x11)), (3, .int a3)]) (st2 := [.int 0, .ref 111]) (w3 := w) rfl rfl ?_
        refine sx_RP.callp (as2 := [.ref 111, .int 0]) (rest2 := []) rfl rfl (sx_inv_v2 (mi := 161) (k := 70) (st := [.int 0, .ref 111]) (w := w) rfl rfl hI.1.o111 rfl rfl rfl) rfl rfl rfl (K133_0 hI) (show _ = 29 from rfl) ?_
        rintro r4 w24 ⟨rfl, hI25, hE27⟩
        have hE26 := hE.tr (hE27)
        show sx_RP _ _ _ _ _ [.int (-1000000001)] _ _
        refine sx_RP.ret (r := (some (.int (-1000000001)))) rfl rfl ?_
        exact ⟨⟨_, rfl⟩, hI25, hE26⟩
      · refine sx_RP.cu (as := [.int (nI x20), .int 0, .int 2]) (rest2 := []) (st3 := [.int 1]) rfl rfl rfl rfl rfl (cx_132p ⟨nI_le (a := 0) hx21 (by omega), nI_le (b := 2) hx22 (by decide)⟩) rfl ?_
        refine sx_RP.step (pc2 := 30) (ls2 := [(0, .ref 111), (1, .int (nI x3)), (2, .int (nI x11)), (3, .int (nI x20))]) (st2 := []) (w3 := w) rfl rfl ?_
        refine sx_RP.step (pc2 := 31) (ls2 := [(0, .ref 111), (1, .int (nI x3)), (2, .int (nI x11)), (3, .int (nI x20))]) (st2 := [.int (nI x20)]) (w3 := w) rfl rfl ?_
        refine sx_RP.step (pc2 := 32) (ls2 := [(0, .ref 111), (1, .int (nI x3)), (2, .int (nI x11)), (3, .int (nI x20))]) (st2 := [.int 1, .int (nI x20)]) (w3 := w) rfl rfl ?_
        refine sx_RP.br (p1 := 47) (l1 := [(0, .ref 111), (1, .int (nI x3)), (2, .int (nI x11)), (3, .int (nI x20))]) (s1 := []) (v1 := w) (p2 := 35) (l2 := [(0, .ref 111), (1, .int (nI x3)), (2, .int (nI x11)), (3, .int (nI x20))]) (s2 := []) (v2 := w) rfl rfl (fun q28 => ?_) (fun q28 => ?_)
        · replace q28 := of_decide_eq_true q28
          replace q28 := mt (nI_eq (a := x20) (b := 1) (by omega) (by omega)).mpr q28
          refine sx_RP.step (pc2 := 48) (ls2 := [(0, .ref 111), (1, .int (nI x3)), (2, .int (nI x11)), (3, .int (nI x20))]) (st2 := [.int (nI x20)]) (w3 := w) rfl rfl ?_
          refine sx_RP.step (pc2 := 49) (ls2 := [(0, .ref 111), (1, .int (nI x3)), (2, .int (nI x11)), (3, .int (nI x20))]) (st2 := [.int 2, .int (nI x20)]) (w3 := w) rfl rfl ?_
          refine sx_RP.br (p1 := 69) (l1 := [(0, .ref 111), (1, .int (nI x3)), (2, .int (nI x11)), (3, .int (nI x20))]) (s1 := []) (v1 := w) (p2 := 52) (l2 := [(0, .ref 111), (1, .int (nI x3)), (2, .int (nI x11)), (3, .int (nI x20))]) (s2 := []) (v2 := w) rfl rfl (fun q29 => ?_) (fun q29 => ?_)
          · replace q29 := of_decide_eq_true q29
            replace q29 := mt (nI_eq (a := x20) (b := 2) (by omega) (by omega)).mpr q29
            refine sx_RP.step (pc2 := 70) (ls2 := [(0, .ref 111), (1, .int (nI x3)), (2, .int (nI x11)), (3, .int (nI x20))]) (st2 := [.ref 111]) (w3 := w) rfl rfl ?_
            refine sx_RP.step (pc2 := 71) (ls2 := [(0, .ref 111), (1, .int (nI x3)), (2, .int (nI x11)), (3, .int (nI x20))]) (st2 := [.int (nI x3), .ref 111]) (w3 := w) rfl rfl ?_
            refine sx_RP.step (pc2 := 72) (ls2 := [(0, .ref 111), (1, .int (nI x3)), (2, .int (nI x11)), (3, .int (nI x20))]) (st2 := [.int (nI x11), .int (nI x3), .ref 111]) (w3 := w) rfl rfl ?_
            obtain ⟨v30, c31⟩ := p147 hI (show x3 < 10 by omega) (show x11 < 48 by omega)
            refine sx_RP.cu (as := [.ref 111, .int (nI x3), .int (nI x11)]) (rest2 := []) (st3 := [.int v30]) rfl rfl (sx_inv_v2 (mi := 161) (k := 87) (st := [.int (nI x11), .int (nI x3), .ref 111]) (w := w) rfl rfl hI.1.o111 rfl rfl rfl) rfl rfl (c31) rfl ?_
            refine sx_RP.step (pc2 := 77) (ls2 := [(4, .int v30), (0, .ref 111), (1, .int (nI x3)), (2, .int (nI x11)), (3, .int (nI x20))]) (st2 := []) (w3 := w) rfl rfl ?_
            refine sx_RP.step (pc2 := 79) (ls2 := [(4, .int v30), (0, .ref 111), (1, .int (nI x3)), (2, .int (nI x11)), (3, .int (nI x20))]) (st2 := [.int v30]) (w3 := w) rfl rfl ?_
            refine sx_RP.br (p1 := 90) (l1 := [(4, .int v30), (0, .ref 111), (1, .int (nI x3)), (2, .int (nI x11)), (3, .int (nI x20))]) (s1 := []) (v1 := w) (p2 := 82) (l2 := [(4, .int v30), (0, .ref 111), (1, .int (nI x3)), (2, .int (nI x11)), (3, .int (nI x20))]) (s2 := []) (v2 := w) rfl rfl (fun q32 => ?_) (fun q32 => ?_)
            · replace q32 := of_decide_eq_true q32
              refine sx_RP.step (pc2 := 92) (ls2 := [(4, .int v30), (0, .ref 111), (1, .int (nI x3)), (2, .int (nI x11)), (3, .int (nI x20))]) (st2 := [.int v30]) (w3 := w) rfl rfl ?_
              refine sx_RP.ret (r := (some (.int v30))) rfl rfl ?_
              exact ⟨⟨_, rfl⟩, hI, hE⟩
            · replace q32 := of_decide_eq_false q32
              refine sx_RP.step (pc2 := 83) (ls2 := [(4, .int v30), (0, .ref 111), (1, .int (nI x3)), (2, .int (nI x11)), (3, .int (nI x20))]) (st2 := [.ref 111]) (w3 := w) rfl rfl ?_
              refine sx_RP.step (pc2 := 84) (ls2 := [(4, .int v30), (0, .ref 111), (1, .int (nI x3)), (2, .int (nI x11)), (3, .int (nI x20))]) (st2 := [.int 3, .ref 111]) (w3 := w) rfl rfl ?_
              refine sx_RP.callp (as2 := [.ref 111, .int 3]) (rest2 := []) rfl rfl (sx_inv_v2 (mi := 161) (k := 70) (st := [.int 3, .ref 111]) (w := w) rfl rfl hI.1.o111 rfl rfl rfl) rfl rfl rfl (K133_3 hI) (show _ = 87 from rfl) ?_
              rintro r4 w33 ⟨rfl, hI34, hE36⟩
              have hE35 := hE.tr (hE36)
              show sx_RP _ _ _ _ _ [.int (-1000000004)] _ _
              refine sx_RP.step (pc2 := 92) (ls2 := [(4, .int v30), (0, .ref 111), (1, .int (nI x3)), (2, .int (nI x11)), (3, .int (nI x20))]) (st2 := [.int (-1000000004)]) (w3 := w33) rfl rfl ?_
              refine sx_RP.ret (r := (some (.int (-1000000004)))) rfl rfl ?_
              exact ⟨⟨_, rfl⟩, hI34, hE35⟩
          · replace q29 := Decidable.not_not.mp (of_decide_eq_false q29)
            replace q29 := (nI_eq (a := x20) (b := 2) (by omega) (by omega)).mp q29
            refine sx_RP.step (pc2 := 53) (ls2 := [(0, .ref 111), (1, .int (nI x3)), (2, .int (nI x11)), (3, .int (nI x20))]) (st2 := [.ref 111]) (w3 := w) rfl rfl ?_
            refine sx_RP.step (pc2 := 54) (ls2 := [(0, .ref 111), (1, .int (nI x3)), (2, .int (nI x11)), (3, .int (nI x20))]) (st2 := [.int (nI x3), .ref 111]) (w3 := w) rfl rfl ?_
            refine sx_RP.step (pc2 := 55) (ls2 := [(0, .ref 111), (1, .int (nI x3)), (2, .int (nI x11)), (3, .int (nI x20))]) (st2 := [.int (nI x11), .int (nI x3), .ref 111]) (w3 := w) rfl rfl ?_
            obtain ⟨x37, hx38, c39⟩ := p144 hI (show x3 < 10 by omega) (show x11 < 48 by omega)
            refine sx_RP.cu (as := [.ref 111, .int (nI x3), .int (nI x11)]) (rest2 := []) (st3 := [.int (nI x37)]) rfl rfl (sx_inv_v2 (mi := 161) (k := 107) (st := [.int (nI x11), .int (nI x3), .ref 111]) (w := w) rfl rfl hI.1.o111 rfl rfl rfl) rfl rfl (c39) rfl ?_
            refine sx_RP.br (p1 := 65) (l1 := [(0, .ref 111), (1, .int (nI x3)), (2, .int (nI x11)), (3, .int (nI x20))]) (s1 := []) (v1 := w) (p2 := 61) (l2 := [(0, .ref 111), (1, .int (nI x3)), (2, .int (nI x11)), (3, .int (nI x20))]) (s2 := []) (v2 := w) rfl rfl (fun q40 => ?_) (fun q40 => ?_)
            · replace q40 := of_decide_eq_true q40
              replace q40 := (nI_eq (a := x37) (b := 0) (by omega) (by omega)).mp q40
              refine sx_RP.step (pc2 := 66) (ls2 := [(0, .ref 111), (1, .int (nI x3)), (2, .int (nI x11)), (3, .int (nI x20))]) (st2 := [.int 0]) (w3 := w) rfl rfl ?_
              refine sx_RP.step (pc2 := 75) (ls2 := [(0, .ref 111), (1, .int (nI x3)), (2, .int (nI x11)), (3, .int (nI x20))]) (st2 := [.int 0]) (w3 := w) rfl rfl ?_
              refine sx_RP.step (pc2 := 77) (ls2 := [(4, .int 0), (0, .ref 111), (1, .int (nI x3)), (2, .int (nI x11)), (3, .int (nI x20))]) (st2 := []) (w3 := w) rfl rfl ?_
              refine sx_RP.step (pc2 := 79) (ls2 := [(4, .int 0), (0, .ref 111), (1, .int (nI x3)), (2, .int (nI x11)), (3, .int (nI x20))]) (st2 := [.int 0]) (w3 := w) rfl rfl ?_
              refine sx_RP.step (pc2 := 90) (ls2 := [(4, .int 0), (0, .ref 111), (1, .int (nI x3)), (2, .int (nI x11)), (3, .int (nI x20))]) (st2 := []) (w3 := w) rfl rfl ?_
              refine sx_RP.step (pc2 := 92) (ls2 := [(4, .int 0), (0, .ref 111), (1, .int (nI x3)), (2, .int (nI x11)), (3, .int (nI x20))]) (st2 := [.int 0]) (w3 := w) rfl rfl ?_
              refine sx_RP.ret (r := (some (.int 0))) rfl rfl ?_
              exact ⟨⟨_, rfl⟩, hI, hE⟩
            · replace q40 := of_decide_eq_false q40
              replace q40 := mt (nI_eq (a := x37) (b := 0) (by omega) (by omega)).mpr q40
              refine sx_RP.step (pc2 := 62) (ls2 := [(0, .ref 111), (1, .int (nI x3)), (2, .int (nI x11)), (3, .int (nI x20))]) (st2 := [.int 1]) (w3 := w) rfl rfl ?_
              refine sx_RP.step (pc2 := 75) (ls2 := [(0, .ref 111), (1, .int (nI x3)), (2, .int (nI x11)), (3, .int (nI x20))]) (st2 := [.int 1]) (w3 := w) rfl rfl ?_
              refine sx_RP.step (pc2 := 77) (ls2 := [(4, .int 1), (0, .ref 111), (1, .int (nI x3)), (2, .int (nI x11)), (3, .int (nI x20))]) (st2 := []) (w3 := w) rfl rfl ?_
              refine sx_RP.step (pc2 := 79) (ls2 := [(4, .int 1), (0, .ref 111), (1, .int (nI x3)), (2, .int (nI x11)), (3, .int (nI x20))]) (st2 := [.int 1]) (w3 := w) rfl rfl ?_
              refine sx_RP.step (pc2 := 90) (ls2 := [(4, .int 1), (0, .ref 111), (1, .int (nI x3)), (2, .int (nI x11)), (3, .int (nI x20))]) (st2 := []) (w3 := w) rfl rfl ?_
              refine sx_RP.step (pc2 := 92) (ls2 := [(4, .int 1), (0, .ref 111), (1, .int (nI x3)), (2, .int (nI x11)), (3, .int (nI x20))]) (st2 := [.int 1]) (w3 := w) rfl rfl ?_
              refine sx_RP.ret (r := (some (.int 1))) rfl rfl ?_
              exact ⟨⟨_, rfl⟩, hI, hE⟩
        · replace q28 := Decidable.not_not.mp (of_decide_eq_false q28)
          replace q28 := (nI_eq (a := x20) (b := 1) (by omega) (by omega)).mp q28
          refine sx_RP.step (pc2 := 36) (ls2 := [(0, .ref 111), (1, .int (nI x3)), (2, .int (nI x11)), (3, .int (nI x20))]) (st2 := [.ref 111]) (w3 := w) rfl rfl ?_
          refine sx_RP.step (pc2 := 37) (ls2 := [(0, .ref 111), (1, .int (nI x3)), (2, .int (nI x11)), (3, .int (nI x20))]) (st2 := [.ref 111, .ref 111]) (w3 := w) rfl rfl ?_
          refine sx_RP.step (pc2 := 38) (ls2 := [(0, .ref 111), (1, .int (nI x3)), (2, .int (nI x11)), (3, .int (nI x20))]) (st2 := [.int (nI x3), .ref 111, .ref 111]) (w3 := w) rfl rfl ?_
          refine sx_RP.step (pc2 := 39) (ls2 := [(0, .ref 111), (1, .int (nI x3)), (2, .int (nI x11)), (3, .int (nI x20))]) (st2 := [.int 0, .int (nI x3), .ref 111, .ref 111]) (w3 := w) rfl rfl ?_
          obtain ⟨x41, hx42, c43⟩ := p138_0 hI (show x3 < 10 by omega)
          refine sx_RP.cu (as := [.ref 111, .int (nI x3), .int 0]) (rest2 := [.ref 111]) (st3 := [.int (nI x41), .ref 111]) rfl rfl (sx_inv_v2 (mi := 161) (k := 59) (st := [.int 0, .int (nI x3), .ref 111, .ref 111]) (w := w) rfl rfl hI.1.o111 rfl rfl rfl) rfl rfl (c43) rfl ?_
          refine sx_RP.step (pc2 := 43) (ls2 := [(0, .ref 111), (1, .int (nI x3)), (2, .int (nI x11)), (3, .int (nI x20))]) (st2 := [.int (nI x11), .int (nI x41), .ref 111]) (w3 := w) rfl rfl ?_
          obtain ⟨v44, c45⟩ := p162 hI (nI x41) (show x11 < 48 by omega)
          refine sx_RP.cu (as := [.ref 111, .int (nI x41), .int (nI x11)]) (rest2 := []) (st3 := [.int v44]) rfl rfl (sx_inv_v2 (mi := 161) (k := 130) (st := [.int (nI x11), .int (nI x41), .ref 111]) (w := w) rfl rfl hI.1.o111 rfl rfl rfl) rfl rfl (c45) rfl ?_
          refine sx_RP.ret (r := (some (.int v44))) rfl rfl ?_
          exact ⟨⟨_, rfl⟩, hI, hE⟩
set_option maxRecDepth 20000 in
set_option maxHeartbeats 4000000 in
theorem K164 {xs : Option (List Int32)} {d : Nat} {w : List sx_C} (hI : WI w) (a1 : Int32) : sx_RP xs (d + 7) 164 0 (lv_args 0 [.ref 111, .int a1]) [] w (fun r w2 => (∃ v : Int32, r = some (.int v)) ∧ WI w2 ∧ EK w w2) := by
  have hE : EK w w := EK.rf
  refine sx_RP.step (pc2 := 1) (ls2 := [(0, .ref 111), (1, .int a1)]) (st2 := [.int a1]) (w3 := w) rfl rfl ?_
  refine sx_RP.step (pc2 := 2) (ls2 := [(0, .ref 111), (1, .int a1)]) (st2 := [.int 1, .int a1]) (w3 := w) rfl rfl ?_
  refine sx_RP.step (pc2 := 4) (ls2 := [(0, .ref 111), (1, .int a1)]) (st2 := [.int 60, .int 1, .int a1]) (w3 := w) rfl rfl ?_
  rcases in_cases a1 1 60 (m := 1) (n := 60) rfl rfl (by decide) (by decide) with q1 | ⟨x2, hx3, hx4, rfl⟩
  · refine sx_RP.cu (as := [.int a1, .int 1, .int 60]) (rest2 := []) (st3 := [.int 0]) rfl rfl rfl rfl rfl (cx_132o q1) rfl ?_
    refine sx_RP.step (pc2 := 10) (ls2 := [(0, .ref 111), (1, .int a1)]) (st2 := []) (w3 := w) rfl rfl ?_
    refine sx_RP.step (pc2 := 11) (ls2 := [(0, .ref 111), (1, .int a1)]) (st2 := [.ref 111]) (w3 := w) rfl rfl ?_
    refine sx_RP.step (pc2 := 12) (ls2 := [(0, .ref 111), (1, .int a1)]) (st2 := [.int 0, .ref 111]) (w3 := w) rfl rfl ?_
    refine sx_RP.callp (as2 := [.ref 111, .int 0]) (rest2 := []) rfl rfl (sx_inv_v2 (mi := 164) (k := 70) (st := [.int 0, .ref 111]) (w := w) rfl rfl hI.1.o111 rfl rfl rfl) rfl rfl rfl (K133_0 hI) (show _ = 15 from rfl) ?_
    rintro r4 w6 ⟨rfl, hI7, hE9⟩
    have hE8 := hE.tr (hE9)
    show sx_RP _ _ _ _ _ [.int (-1000000001)] _ _
    refine sx_RP.ret (r := (some (.int (-1000000001)))) rfl rfl ?_
    exact ⟨⟨_, rfl⟩, hI7, hE8⟩
  · refine sx_RP.cu (as := [.int (nI x2), .int 1, .int 60]) (rest2 := []) (st3 := [.int 1]) rfl rfl rfl rfl rfl (cx_132p ⟨nI_le (a := 1) hx3 (by omega), nI_le (b := 60) hx4 (by decide)⟩) rfl ?_
    refine sx_RP.step (pc2 := 16) (ls2 := [(0, .ref 111), (1, .int (nI x2))]) (st2 := []) (w3 := w) rfl rfl ?_
    refine sx_RP.step (pc2 := 17) (ls2 := [(0, .ref 111), (1, .int (nI x2))]) (st2 := [.ref 111]) (w3 := w) rfl rfl ?_
    refine sx_RP.step (pc2 := 18) (ls2 := [(0, .ref 111), (1, .int (nI x2))]) (st2 := [.int (nI x2), .ref 111]) (w3 := w) rfl rfl ?_
    obtain ⟨x10, hx11, c12⟩ := p165 hI (nI x2)
    refine sx_RP.cu (as := [.ref 111, .int (nI x2)]) (rest2 := []) (st3 := [.int (nI x10)]) rfl rfl (sx_inv_v2 (mi := 164) (k := 149) (st := [.int (nI x2), .ref 111]) (w := w) rfl rfl hI.1.o111 rfl rfl rfl) rfl rfl (c12) rfl ?_
    refine sx_RP.br (p1 := 30) (l1 := [(0, .ref 111), (1, .int (nI x2))]) (s1 := []) (v1 := w) (p2 := 24) (l2 := [(0, .ref 111), (1, .int (nI x2))]) (s2 := []) (v2 := w) rfl rfl (fun q13 => ?_) (fun q13 => ?_)
    · replace q13 := of_decide_eq_true q13
      replace q13 := (nI_eq (a := x10) (b := 0) (by omega) (by omega)).mp q13
      refine sx_RP.step (pc2 := 31) (ls2 := [(0, .ref 111), (1, .int (nI x2))]) (st2 := [.ref 111]) (w3 := w) rfl rfl ?_
      obtain ⟨v14, c15⟩ := p166 hI 
      refine sx_RP.cu (as := [.ref 111]) (rest2 := []) (st3 := [.int v14]) rfl rfl (sx_inv_v2 (mi := 164) (k := 152) (st := [.ref 111]) (w := w) rfl rfl hI.1.o111 rfl rfl rfl) rfl rfl (c15) rfl ?_
      refine sx_RP.step (pc2 := 35) (ls2 := [(2, .int v14), (0, .ref 111), (1, .int (nI x2))]) (st2 := []) (w3 := w) rfl rfl ?_
      refine sx_RP.step (pc2 := 36) (ls2 := [(2, .int v14), (0, .ref 111), (1, .int (nI x2))]) (st2 := [.ref 111]) (w3 := w) rfl rfl ?_
      refine sx_RP.step (pc2 := 37) (ls2 := [(2, .int v14), (0, .ref 111), (1, .int (nI x2))]) (st2 := [.int (nI x2), .ref 111]) (w3 := w) rfl rfl ?_
      refine sx_RP.callp (as2 := [.ref 111, .int (nI x2)]) (rest2 := []) rfl rfl (sx_inv_v2 (mi := 164) (k := 155) (st := [.int (nI x2), .ref 111]) (w := w) rfl rfl hI.1.o111 rfl rfl rfl) rfl rfl rfl (K168 hI (show x2 ≤ 99 by omega)) (show _ = 40 from rfl) ?_
      rintro r4 w16 ⟨rfl, hI17, hE19⟩
      have hE18 := hE.tr (hE19)
      show sx_RP _ _ _ _ _ [] _ _
      refine sx_RP.step (pc2 := 41) (ls2 := [(2, .int v14), (0, .ref 111), (1, .int (nI x2))]) (st2 := [.int v14]) (w3 := w16) rfl rfl ?_
      refine sx_RP.step (pc2 := 42) (ls2 := [(2, .int v14), (0, .ref 111), (1, .int (nI x2))]) (st2 := [.ref 111, .int v14]) (w3 := w16) rfl rfl ?_
      obtain ⟨v20, c21⟩ := p166 hI17 
      refine sx_RP.cu (as := [.ref 111]) (rest2 := [.int v14]) (st3 := [.int v20, .int v14]) rfl rfl (sx_inv_v2 (mi := 164) (k := 152) (st := [.ref 111, .int v14]) (w := w16) rfl rfl hI17.1.o111 rfl rfl rfl) rfl rfl (c21) rfl ?_
      refine sx_RP.step (pc2 := 46) (ls2 := [(2, .int v14), (0, .ref 111), (1, .int (nI x2))]) (st2 := [.int (v14 - v20)]) (w3 := w16) rfl rfl ?_
      refine sx_RP.ret (r := (some (.int (v14 - v20)))) rfl rfl ?_
      exact ⟨⟨_, rfl⟩, hI17, hE18⟩
    · replace q13 := of_decide_eq_false q13
      replace q13 := mt (nI_eq (a := x10) (b := 0) (by omega) (by omega)).mpr q13
      refine sx_RP.step (pc2 := 25) (ls2 := [(0, .ref 111), (1, .int (nI x2))]) (st2 := [.ref 111]) (w3 := w) rfl rfl ?_
      refine sx_RP.step (pc2 := 26) (ls2 := [(0, .ref 111), (1, .int (nI x2))]) (st2 := [.int 4, .ref 111]) (w3 := w) rfl rfl ?_
      refine sx_RP.callp (as2 := [.ref 111, .int 4]) (rest2 := []) rfl rfl (sx_inv_v2 (mi := 164) (k := 70) (st := [.int 4, .ref 111]) (w := w) rfl rfl hI.1.o111 rfl rfl rfl) rfl rfl rfl (K133_4 hI) (show _ = 29 from rfl) ?_
      rintro r4 w22 ⟨rfl, hI23, hE25⟩
      have hE24 := hE.tr (hE25)
      show sx_RP _ _ _ _ _ [.int (-1000000005)] _ _
      refine sx_RP.ret (r := (some (.int (-1000000005)))) rfl rfl ?_
      exact ⟨⟨_, rfl⟩, hI23, hE24⟩
set_option maxRecDepth 20000 in
set_option maxHeartbeats 4000000 in
theorem K173 {xs : Option (List Int32)} {d : Nat} {w : List sx_C} (hI : WI w) (a1 : Int32) : sx_RP xs (d + 7) 173 0 (lv_args 0 [.ref 111, .int a1]) [] w (fun r w2 => (∃ v : Int32, r = some (.int v)) ∧ WI w2 ∧ EK w w2) := by
  have hE : EK w w := EK.rf
  refine sx_RP.step (pc2 := 1) (ls2 := [(0, .ref 111), (1, .int a1)]) (st2 := [.int a1]) (w3 := w) rfl rfl ?_
  rcases sw_cases (n := 3) (a1) with q1 | ⟨x2, hx3, ex4⟩
  · refine sx_RP.swo (t := 58) rfl q1 rfl ?_
    refine sx_RP.step (pc2 := 59) (ls2 := [(0, .ref 111), (1, .int a1)]) (st2 := [.ref 111]) (w3 := w) rfl rfl ?_
    refine sx_RP.step (pc2 := 60) (ls2 := [(0, .ref 111), (1, .int a1)]) (st2 := [.int 0, .ref 111]) (w3 := w) rfl rfl ?_
    refine sx_RP.callp (as2 := [.ref 111, .int 0]) (rest2 := []) rfl rfl (sx_inv_v2 (mi := 173) (k := 70) (st := [.int 0, .ref 111]) (w := w) rfl rfl hI.1.o111 rfl rfl rfl) rfl rfl rfl (K133_0 hI) (show _ = 63 from rfl) ?_
    rintro r4 w5 ⟨rfl, hI6, hE8⟩
    have hE7 := hE.tr (hE8)
    show sx_RP _ _ _ _ _ [.int (-1000000001)] _ _
    refine sx_RP.ret (r := (some (.int (-1000000001)))) rfl rfl ?_
    exact ⟨⟨_, rfl⟩, hI6, hE7⟩
  · rw [ex4]
    rcases (show x2 = 0 ∨ x2 = 1 ∨ x2 = 2 ∨ x2 = 3 by omega) with rfl | rfl | rfl | rfl
    · refine sx_RP.step (pc2 := 32) (ls2 := [(0, .ref 111), (1, .int (nI 0))]) (st2 := []) (w3 := w) rfl rfl ?_
      refine sx_RP.step (pc2 := 33) (ls2 := [(0, .ref 111), (1, .int (nI 0))]) (st2 := [.ref 111]) (w3 := w) rfl rfl ?_
      refine sx_RP.gf (v := .ref 112) rfl rfl hI.1.o111 rfl rfl (show _ = 36 from rfl) ?_
      refine sx_RP.step (pc2 := 37) (ls2 := [(0, .ref 111), (1, .int (nI 0))]) (st2 := [.int 0, .ref 112]) (w3 := w) rfl rfl ?_
      refine sx_RP.ild (c := 0) rfl hI.1.a112.1 hI.1.a112.2 (sx_in_nI (show 0 < 172 by omega) (by decide)) (show (nI 0).toNatClampNeg = 0 from nI_clamp (by omega)) (show _ = 38 from rfl) ?_
      refine sx_RP.ret (r := (some (.int ((ia w 112).getD 0 0)))) rfl rfl ?_
      exact ⟨⟨_, rfl⟩, hI, hE⟩
    · refine sx_RP.step (pc2 := 39) (ls2 := [(0, .ref 111), (1, .int (nI 1))]) (st2 := []) (w3 := w) rfl rfl ?_
      refine sx_RP.step (pc2 := 40) (ls2 := [(0, .ref 111), (1, .int (nI 1))]) (st2 := [.ref 111]) (w3 := w) rfl rfl ?_
      refine sx_RP.step (pc2 := 41) (ls2 := [(0, .ref 111), (1, .int (nI 1))]) (st2 := [.int 0, .ref 111]) (w3 := w) rfl rfl ?_
      obtain ⟨v9, c10⟩ := p167 hI 0
      refine sx_RP.cu (as := [.ref 111, .int 0]) (rest2 := []) (st3 := [.int v9]) rfl rfl (sx_inv_v2 (mi := 173) (k := 146) (st := [.int 0, .ref 111]) (w := w) rfl rfl hI.1.o111 rfl rfl rfl) rfl rfl (c10) rfl ?_
      refine sx_RP.ret (r := (some (.int v9))) rfl rfl ?_
      exact ⟨⟨_, rfl⟩, hI, hE⟩
    · refine sx_RP.step (pc2 := 45) (ls2 := [(0, .ref 111), (1, .int (nI 2))]) (st2 := []) (w3 := w) rfl rfl ?_
      refine sx_RP.step (pc2 := 46) (ls2 := [(0, .ref 111), (1, .int (nI 2))]) (st2 := [.ref 111]) (w3 := w) rfl rfl ?_
      refine sx_RP.step (pc2 := 47) (ls2 := [(0, .ref 111), (1, .int (nI 2))]) (st2 := [.int 1, .ref 111]) (w3 := w) rfl rfl ?_
      obtain ⟨v11, c12⟩ := p167 hI 1
      refine sx_RP.cu (as := [.ref 111, .int 1]) (rest2 := []) (st3 := [.int v11]) rfl rfl (sx_inv_v2 (mi := 173) (k := 146) (st := [.int 1, .ref 111]) (w := w) rfl rfl hI.1.o111 rfl rfl rfl) rfl rfl (c12) rfl ?_
      refine sx_RP.ret (r := (some (.int v11))) rfl rfl ?_
      exact ⟨⟨_, rfl⟩, hI, hE⟩
    · refine sx_RP.step (pc2 := 51) (ls2 := [(0, .ref 111), (1, .int (nI 3))]) (st2 := []) (w3 := w) rfl rfl ?_
      refine sx_RP.step (pc2 := 52) (ls2 := [(0, .ref 111), (1, .int (nI 3))]) (st2 := [.ref 111]) (w3 := w) rfl rfl ?_
      refine sx_RP.gf (v := .ref 112) rfl rfl hI.1.o111 rfl rfl (show _ = 55 from rfl) ?_
      refine sx_RP.step (pc2 := 56) (ls2 := [(0, .ref 111), (1, .int (nI 3))]) (st2 := [.int 3, .ref 112]) (w3 := w) rfl rfl ?_
      refine sx_RP.ild (c := 3) rfl hI.1.a112.1 hI.1.a112.2 (sx_in_nI (show 3 < 172 by omega) (by decide)) (show (nI 3).toNatClampNeg = 3 from nI_clamp (by omega)) (show _ = 57 from rfl) ?_
      refine sx_RP.ret (r := (some (.int ((ia w 112).getD 3 0)))) rfl rfl ?_
      exact ⟨⟨_, rfl⟩, hI, hE⟩
set_option maxRecDepth 20000 in
set_option maxHeartbeats 4000000 in
theorem K174 {xs : Option (List Int32)} {d : Nat} {w : List sx_C} (hI : WI w) (a1 a2 : Int32) : sx_RP xs (d + 7) 174 0 (lv_args 0 [.ref 111, .int a1, .int a2]) [] w (fun r w2 => (∃ v : Int32, r = some (.int v)) ∧ WI w2 ∧ EL w w2) := by
  have hE : EK w w := EK.rf
  refine sx_RP.step (pc2 := 1) (ls2 := [(0, .ref 111), (1, .int a1), (2, .int a2)]) (st2 := [.ref 111]) (w3 := w) rfl rfl ?_
  refine sx_RP.step (pc2 := 2) (ls2 := [(0, .ref 111), (1, .int a1), (2, .int a2)]) (st2 := [.int a1, .ref 111]) (w3 := w) rfl rfl ?_
  rcases p156 (xs := xs) hI a1 with c2 | ⟨⟨x3, hx4, rfl⟩, c2⟩
  · refine sx_RP.cu (as := [.ref 111, .int a1]) (rest2 := []) (st3 := [.int 0]) rfl rfl (sx_inv_v2 (mi := 174) (k := 124) (st := [.int a1, .ref 111]) (w := w) rfl rfl hI.1.o111 rfl rfl rfl) rfl rfl (c2) rfl ?_
    refine sx_RP.step (pc2 := 18) (ls2 := [(0, .ref 111), (1, .int a1), (2, .int a2)]) (st2 := []) (w3 := w) rfl rfl ?_
    refine sx_RP.step (pc2 := 19) (ls2 := [(0, .ref 111), (1, .int a1), (2, .int a2)]) (st2 := [.ref 111]) (w3 := w) rfl rfl ?_
    refine sx_RP.step (pc2 := 20) (ls2 := [(0, .ref 111), (1, .int a1), (2, .int a2)]) (st2 := [.int 0, .ref 111]) (w3 := w) rfl rfl ?_
    refine sx_RP.callp (as2 := [.ref 111, .int 0]) (rest2 := []) rfl rfl (sx_inv_v2 (mi := 174) (k := 70) (st := [.int 0, .ref 111]) (w := w) rfl rfl hI.1.o111 rfl rfl rfl) rfl rfl rfl (K133_0 hI) (show _ = 23 from rfl) ?_
    rintro r4 w6 ⟨rfl, hI7, hE9⟩
    have hE8 := hE.tr (hE9)
    show sx_RP _ _ _ _ _ [.int (-1000000001)] _ _
    refine sx_RP.ret (r := (some (.int (-1000000001)))) rfl rfl ?_
    exact ⟨⟨_, rfl⟩, hI7, hE8.el⟩
  · refine sx_RP.cu (as := [.ref 111, .int (nI x3)]) (rest2 := []) (st3 := [.int 1]) rfl rfl (sx_inv_v2 (mi := 174) (k := 124) (st := [.int (nI x3), .ref 111]) (w := w) rfl rfl hI.1.o111 rfl rfl rfl) rfl rfl (c2) rfl ?_
    refine sx_RP.step (pc2 := 8) (ls2 := [(0, .ref 111), (1, .int (nI x3)), (2, .int a2)]) (st2 := []) (w3 := w) rfl rfl ?_
    refine sx_RP.step (pc2 := 9) (ls2 := [(0, .ref 111), (1, .int (nI x3)), (2, .int a2)]) (st2 := [.int a2]) (w3 := w) rfl rfl ?_
    refine sx_RP.step (pc2 := 10) (ls2 := [(0, .ref 111), (1, .int (nI x3)), (2, .int a2)]) (st2 := [.int 0, .int a2]) (w3 := w) rfl rfl ?_
    refine sx_RP.step (pc2 := 12) (ls2 := [(0, .ref 111), (1, .int (nI x3)), (2, .int a2)]) (st2 := [.int 99, .int 0, .int a2]) (w3 := w) rfl rfl ?_
    rcases in_cases a2 0 99 (m := 0) (n := 99) rfl rfl (by decide) (by decide) with q10 | ⟨x11, hx12, hx13, rfl⟩
    · refine sx_RP.cu (as := [.int a2, .int 0, .int 99]) (rest2 := []) (st3 := [.int 0]) rfl rfl rfl rfl rfl (cx_132o q10) rfl ?_
      refine sx_RP.step (pc2 := 18) (ls2 := [(0, .ref 111), (1, .int (nI x3)), (2, .int a2)]) (st2 := []) (w3 := w) rfl rfl ?_
      refine sx_RP.step (pc2 := 19) (ls2 := [(0, .ref 111), (1, .int (nI x3)), (2, .int a2)]) (st2 := [.ref 111]) (w3 := w) rfl rfl ?_
      refine sx_RP.step (pc2 := 20) (ls2 := [(0, .ref 111), (1, .int (nI x3)), (2, .int a2)]) (st2 := [.int 0, .ref 111]) (w3 := w) rfl rfl ?_
      refine sx_RP.callp (as2 := [.ref 111, .int 0]) (rest2 := []) rfl rfl (sx_inv_v2 (mi := 174) (k := 70) (st := [.int 0, .ref 111]) (w := w) rfl rfl hI.1.o111 rfl rfl rfl) rfl rfl rfl (K133_0 hI) (show _ = 23 from rfl) ?_
      rintro r4 w15 ⟨rfl, hI16, hE18⟩
      have hE17 := hE.tr (hE18)
      show sx_RP _ _ _ _ _ [.int (-1000000001)] _ _
      refine sx_RP.ret (r := (some (.int (-1000000001)))) rfl rfl ?_
      exact ⟨⟨_, rfl⟩, hI16, hE17.el⟩
    · refine sx_RP.cu (as := [.int (nI x11), .int 0, .int 99]) (rest2 := []) (st3 := [.int 1]) rfl rfl rfl rfl rfl (cx_132p ⟨nI_le (a := 0) hx12 (by omega), nI_le (b := 99) hx13 (by decide)⟩) rfl ?_
      refine sx_RP.step (pc2 := 24) (ls2 := [(0, .ref 111), (1, .int (nI x3)), (2, .int (nI x11))]) (st2 := []) (w3 := w) rfl rfl ?_
      refine sx_RP.step (pc2 := 25) (ls2 := [(0, .ref 111), (1, .int (nI x3)), (2, .int (nI x11))]) (st2 := [.ref 111]) (w3 := w) rfl rfl ?_
      refine sx_RP.step (pc2 := 26) (ls2 := [(0, .ref 111), (1, .int (nI x3)), (2, .int (nI x11))]) (st2 := [.int (nI x11), .ref 111]) (w3 := w) rfl rfl ?_
      obtain ⟨x19, hx20, c21⟩ := p165 hI (nI x11)
      refine sx_RP.cu (as := [.ref 111, .int (nI x11)]) (rest2 := []) (st3 := [.int (nI x19)]) rfl rfl (sx_inv_v2 (mi := 174) (k := 149) (st := [.int (nI x11), .ref 111]) (w := w) rfl rfl hI.1.o111 rfl rfl rfl) rfl rfl (c21) rfl ?_
      refine sx_RP.br (p1 := 38) (l1 := [(0, .ref 111), (1, .int (nI x3)), (2, .int (nI x11))]) (s1 := []) (v1 := w) (p2 := 32) (l2 := [(0, .ref 111), (1, .int (nI x3)), (2, .int (nI x11))]) (s2 := []) (v2 := w) rfl rfl (fun q22 => ?_) (fun q22 => ?_)
      · replace q22 := of_decide_eq_true q22
        replace q22 := (nI_eq (a := x19) (b := 0) (by omega) (by omega)).mp q22
        refine sx_RP.step (pc2 := 39) (ls2 := [(0, .ref 111), (1, .int (nI x3)), (2, .int (nI x11))]) (st2 := [.ref 111]) (w3 := w) rfl rfl ?_
        refine sx_RP.gf (v := .ref 112) rfl rfl hI.1.o111 rfl rfl (show _ = 42 from rfl) ?_
        refine sx_RP.step (pc2 := 43) (ls2 := [(0, .ref 111), (1, .int (nI x3)), (2, .int (nI x11))]) (st2 := [.ref 111, .ref 112]) (w3 := w) rfl rfl ?_
        refine sx_RP.gf (v := .ref 114) rfl rfl hI.1.o111 rfl rfl (show _ = 46 from rfl) ?_
        refine sx_RP.callp (as2 := [.ref 112, .ref 114]) (rest2 := []) rfl rfl rfl rfl rfl rfl (K175 hI (a := 112) (b := 114) (by decide) (by decide) (by decide)) (show _ = 49 from rfl) ?_
        rintro r4 w23 ⟨rfl, hI24, hE26⟩
        have hE25 : EK w23 w23 := EK.rf
        show sx_RP _ _ _ _ _ [] _ _
        refine sx_RP.step (pc2 := 50) (ls2 := [(0, .ref 111), (1, .int (nI x3)), (2, .int (nI x11))]) (st2 := [.ref 111]) (w3 := w23) rfl rfl ?_
        refine sx_RP.step (pc2 := 51) (ls2 := [(0, .ref 111), (1, .int (nI x3)), (2, .int (nI x11))]) (st2 := [.int (nI x11), .ref 111]) (w3 := w23) rfl rfl ?_
        refine sx_RP.callp (as2 := [.ref 111, .int (nI x11)]) (rest2 := []) rfl rfl (sx_inv_v2 (mi := 174) (k := 155) (st := [.int (nI x11), .ref 111]) (w := w23) rfl rfl hI24.1.o111 rfl rfl rfl) rfl rfl rfl (K168 hI24 (show x11 ≤ 99 by omega)) (show _ = 54 from rfl) ?_
        rintro r4 w27 ⟨rfl, hI28, hE30⟩
        have hE29 := hE25.tr (hE30)
        show sx_RP _ _ _ _ _ [] _ _
        refine sx_RP.step (pc2 := 55) (ls2 := [(0, .ref 111), (1, .int (nI x3)), (2, .int (nI x11))]) (st2 := [.ref 111]) (w3 := w27) rfl rfl ?_
        refine sx_RP.step (pc2 := 56) (ls2 := [(0, .ref 111), (1, .int (nI x3)), (2, .int (nI x11))]) (st2 := [.int (nI x3), .ref 111]) (w3 := w27) rfl rfl ?_
        refine sx_RP.step (pc2 := 57) (ls2 := [(0, .ref 111), (1, .int (nI x3)), (2, .int (nI x11))]) (st2 := [.int 2, .int (nI x3), .ref 111]) (w3 := w27) rfl rfl ?_
        obtain ⟨x31, hx32, c33⟩ := p138_2 hI28 (show x3 < 10 by omega)
        refine sx_RP.cu (as := [.ref 111, .int (nI x3), .int 2]) (rest2 := []) (st3 := [.int (nI x31)]) rfl rfl (sx_inv_v2 (mi := 174) (k := 59) (st := [.int 2, .int (nI x3), .ref 111]) (w := w27) rfl rfl hI28.1.o111 rfl rfl rfl) rfl rfl (c33) rfl ?_
        refine sx_RP.step (pc2 := 61) (ls2 := [(3, .int (nI x31)), (0, .ref 111), (1, .int (nI x3)), (2, .int (nI x11))]) (st2 := []) (w3 := w27) rfl rfl ?_
        refine sx_RP.step (pc2 := 62) (ls2 := [(3, .int (nI x31)), (0, .ref 111), (1, .int (nI x3)), (2, .int (nI x11))]) (st2 := [.ref 111]) (w3 := w27) rfl rfl ?_
        refine sx_RP.gf (v := .ref 114) rfl rfl hI28.1.o111 rfl rfl (show _ = 65 from rfl) ?_
        refine sx_RP.step (pc2 := 66) (ls2 := [(3, .int (nI x31)), (0, .ref 111), (1, .int (nI x3)), (2, .int (nI x11))]) (st2 := [.ref 111, .ref 114]) (w3 := w27) rfl rfl ?_
        refine sx_RP.gf (v := .ref 112) rfl rfl hI28.1.o111 rfl rfl (show _ = 69 from rfl) ?_
        refine sx_RP.callp (as2 := [.ref 114, .ref 112]) (rest2 := []) rfl rfl rfl rfl rfl rfl (K175 hI28 (a := 114) (b := 112) (by decide) (by decide) (by decide)) (show _ = 72 from rfl) ?_
        rintro r4 w34 ⟨rfl, hI35, hE37⟩
        have hE36 := ER.of hE29 hE37
        show sx_RP _ _ _ _ _ [] _ _
        refine sx_RP.step (pc2 := 73) (ls2 := [(3, .int (nI x31)), (0, .ref 111), (1, .int (nI x3)), (2, .int (nI x11))]) (st2 := [.int (nI x31)]) (w3 := w34) rfl rfl ?_
        refine sx_RP.ret (r := (some (.int (nI x31)))) rfl rfl ?_
        exact ⟨⟨_, rfl⟩, hI35, EL.of hE hE26 hE36⟩
      · replace q22 := of_decide_eq_false q22
        replace q22 := mt (nI_eq (a := x19) (b := 0) (by omega) (by omega)).mpr q22
        refine sx_RP.step (pc2 := 33) (ls2 := [(0, .ref 111), (1, .int (nI x3)), (2, .int (nI x11))]) (st2 := [.ref 111]) (w3 := w) rfl rfl ?_
        refine sx_RP.step (pc2 := 34) (ls2 := [(0, .ref 111), (1, .int (nI x3)), (2, .int (nI x11))]) (st2 := [.int 4, .ref 111]) (w3 := w) rfl rfl ?_
        refine sx_RP.callp (as2 := [.ref 111, .int 4]) (rest2 := []) rfl rfl (sx_inv_v2 (mi := 174) (k := 70) (st := [.int 4, .ref 111]) (w := w) rfl rfl hI.1.o111 rfl rfl rfl) rfl rfl rfl (K133_4 hI) (show _ = 37 from rfl) ?_
        rintro r4 w38 ⟨rfl, hI39, hE41⟩
        have hE40 := hE.tr (hE41)
        show sx_RP _ _ _ _ _ [.int (-1000000005)] _ _
        refine sx_RP.ret (r := (some (.int (-1000000005)))) rfl rfl ?_
        exact ⟨⟨_, rfl⟩, hI39, hE40.el⟩
set_option maxRecDepth 20000 in
set_option maxHeartbeats 4000000 in
theorem K196 {xs : Option (List Int32)} {d : Nat} {w : List sx_C} (hI : WI w) (a1 a2 : Int32) : sx_RP xs (d + 7) 196 0 (lv_args 0 [.ref 111, .int a1, .int a2]) [] w (fun r w2 => (∃ v : Int32, r = some (.int v)) ∧ WI w2 ∧ EK w w2) := by
  have hE : EK w w := EK.rf
  refine sx_RP.step (pc2 := 1) (ls2 := [(0, .ref 111), (1, .int a1), (2, .int a2)]) (st2 := [.int a1]) (w3 := w) rfl rfl ?_
  rcases in_cases a1 0 47 (m := 0) (n := 47) rfl rfl (by decide) (by decide) with q1 | ⟨x2, hx3, hx4, rfl⟩
  · refine sx_RP.cu (as := [.int a1]) (rest2 := []) (st3 := [.int 0]) rfl rfl rfl rfl rfl (cx_131n q1) rfl ?_
    refine sx_RP.step (pc2 := 23) (ls2 := [(0, .ref 111), (1, .int a1), (2, .int a2)]) (st2 := []) (w3 := w) rfl rfl ?_
    refine sx_RP.step (pc2 := 24) (ls2 := [(0, .ref 111), (1, .int a1), (2, .int a2)]) (st2 := [.ref 111]) (w3 := w) rfl rfl ?_
    refine sx_RP.step (pc2 := 25) (ls2 := [(0, .ref 111), (1, .int a1), (2, .int a2)]) (st2 := [.int 0, .ref 111]) (w3 := w) rfl rfl ?_
    refine sx_RP.callp (as2 := [.ref 111, .int 0]) (rest2 := []) rfl rfl (sx_inv_v2 (mi := 196) (k := 70) (st := [.int 0, .ref 111]) (w := w) rfl rfl hI.1.o111 rfl rfl rfl) rfl rfl rfl (K133_0 hI) (show _ = 28 from rfl) ?_
    rintro r4 w6 ⟨rfl, hI7, hE9⟩
    have hE8 := hE.tr (hE9)
    show sx_RP _ _ _ _ _ [.int (-1000000001)] _ _
    refine sx_RP.ret (r := (some (.int (-1000000001)))) rfl rfl ?_
    exact ⟨⟨_, rfl⟩, hI7, hE8⟩
  · refine sx_RP.cu (as := [.int (nI x2)]) (rest2 := []) (st3 := [.int 1]) rfl rfl rfl rfl rfl (cx_131p ⟨nI_le (a := 0) hx3 (by omega), nI_le (b := 47) hx4 (by decide)⟩) rfl ?_
    refine sx_RP.step (pc2 := 7) (ls2 := [(0, .ref 111), (1, .int (nI x2)), (2, .int a2)]) (st2 := []) (w3 := w) rfl rfl ?_
    refine sx_RP.step (pc2 := 8) (ls2 := [(0, .ref 111), (1, .int (nI x2)), (2, .int a2)]) (st2 := [.int a2]) (w3 := w) rfl rfl ?_
    rcases in_cases a2 1 30 (m := 1) (n := 30) rfl rfl (by decide) (by decide) with q10 | ⟨x11, hx12, hx13, rfl⟩
    · refine sx_RP.cu (as := [.int a2]) (rest2 := []) (st3 := [.int 0]) rfl rfl rfl rfl rfl (cx_197n q10) rfl ?_
      refine sx_RP.step (pc2 := 23) (ls2 := [(0, .ref 111), (1, .int (nI x2)), (2, .int a2)]) (st2 := []) (w3 := w) rfl rfl ?_
      refine sx_RP.step (pc2 := 24) (ls2 := [(0, .ref 111), (1, .int (nI x2)), (2, .int a2)]) (st2 := [.ref 111]) (w3 := w) rfl rfl ?_
      refine sx_RP.step (pc2 := 25) (ls2 := [(0, .ref 111), (1, .int (nI x2)), (2, .int a2)]) (st2 := [.int 0, .ref 111]) (w3 := w) rfl rfl ?_
      refine sx_RP.callp (as2 := [.ref 111, .int 0]) (rest2 := []) rfl rfl (sx_inv_v2 (mi := 196) (k := 70) (st := [.int 0, .ref 111]) (w := w) rfl rfl hI.1.o111 rfl rfl rfl) rfl rfl rfl (K133_0 hI) (show _ = 28 from rfl) ?_
      rintro r4 w15 ⟨rfl, hI16, hE18⟩
      have hE17 := hE.tr (hE18)
      show sx_RP _ _ _ _ _ [.int (-1000000001)] _ _
      refine sx_RP.ret (r := (some (.int (-1000000001)))) rfl rfl ?_
      exact ⟨⟨_, rfl⟩, hI16, hE17⟩
    · refine sx_RP.cu (as := [.int (nI x11)]) (rest2 := []) (st3 := [.int 1]) rfl rfl rfl rfl rfl (cx_197p ⟨nI_le (a := 1) hx12 (by omega), nI_le (b := 30) hx13 (by decide)⟩) rfl ?_
      refine sx_RP.step (pc2 := 14) (ls2 := [(0, .ref 111), (1, .int (nI x2)), (2, .int (nI x11))]) (st2 := []) (w3 := w) rfl rfl ?_
      refine sx_RP.step (pc2 := 15) (ls2 := [(0, .ref 111), (1, .int (nI x2)), (2, .int (nI x11))]) (st2 := [.ref 111]) (w3 := w) rfl rfl ?_
      refine sx_RP.step (pc2 := 16) (ls2 := [(0, .ref 111), (1, .int (nI x2)), (2, .int (nI x11))]) (st2 := [.int (nI x2), .ref 111]) (w3 := w) rfl rfl ?_
      refine sx_RP.step (pc2 := 17) (ls2 := [(0, .ref 111), (1, .int (nI x2)), (2, .int (nI x11))]) (st2 := [.int (nI x11), .int (nI x2), .ref 111]) (w3 := w) rfl rfl ?_
      obtain ⟨v19, c20⟩ := p198 hI (nI x2) (nI x11)
      refine sx_RP.cu (as := [.ref 111, .int (nI x2), .int (nI x11)]) (rest2 := []) (st3 := [.int v19]) rfl rfl (sx_inv_v2 (mi := 196) (k := 198) (st := [.int (nI x11), .int (nI x2), .ref 111]) (w := w) rfl rfl hI.1.o111 rfl rfl rfl) rfl rfl (c20) rfl ?_
      refine sx_RP.step (pc2 := 28) (ls2 := [(0, .ref 111), (1, .int (nI x2)), (2, .int (nI x11))]) (st2 := [.int v19]) (w3 := w) rfl rfl ?_
      refine sx_RP.ret (r := (some (.int v19))) rfl rfl ?_
      exact ⟨⟨_, rfl⟩, hI, hE⟩
set_option maxRecDepth 20000 in
set_option maxHeartbeats 4000000 in
theorem K243 {xs : Option (List Int32)} {d : Nat} {w : List sx_C} (hI : WI w) (a1 : Int32) : sx_RP xs (d + 7) 243 0 (lv_args 0 [.ref 111, .int a1]) [] w (fun r w2 => (∃ v : Int32, r = some (.int v)) ∧ WI w2 ∧ EK w w2) := by
  have hE : EK w w := EK.rf
  refine sx_RP.step (pc2 := 1) (ls2 := [(0, .ref 111), (1, .int a1)]) (st2 := [.int a1]) (w3 := w) rfl rfl ?_
  rcases sw_cases (n := 6) (a1) with q1 | ⟨x2, hx3, ex4⟩
  · refine sx_RP.swo (t := 90) rfl q1 rfl ?_
    refine sx_RP.step (pc2 := 91) (ls2 := [(0, .ref 111), (1, .int a1)]) (st2 := [.ref 111]) (w3 := w) rfl rfl ?_
    refine sx_RP.step (pc2 := 92) (ls2 := [(0, .ref 111), (1, .int a1)]) (st2 := [.int 0, .ref 111]) (w3 := w) rfl rfl ?_
    refine sx_RP.callp (as2 := [.ref 111, .int 0]) (rest2 := []) rfl rfl (sx_inv_v2 (mi := 243) (k := 70) (st := [.int 0, .ref 111]) (w := w) rfl rfl hI.1.o111 rfl rfl rfl) rfl rfl rfl (K133_0 hI) (show _ = 95 from rfl) ?_
    rintro r4 w5 ⟨rfl, hI6, hE8⟩
    have hE7 := hE.tr (hE8)
    show sx_RP _ _ _ _ _ [.int (-1000000001)] _ _
    refine sx_RP.ret (r := (some (.int (-1000000001)))) rfl rfl ?_
    exact ⟨⟨_, rfl⟩, hI6, hE7⟩
  · rw [ex4]
    rcases (show x2 = 0 ∨ x2 = 1 ∨ x2 = 2 ∨ x2 = 3 ∨ x2 = 4 ∨ x2 = 5 ∨ x2 = 6 by omega) with rfl | rfl | rfl | rfl | rfl | rfl | rfl
    · refine sx_RP.step (pc2 := 44) (ls2 := [(0, .ref 111), (1, .int (nI 0))]) (st2 := []) (w3 := w) rfl rfl ?_
      refine sx_RP.step (pc2 := 45) (ls2 := [(0, .ref 111), (1, .int (nI 0))]) (st2 := [.ref 111]) (w3 := w) rfl rfl ?_
      refine sx_RP.gf (v := .ref 112) rfl rfl hI.1.o111 rfl rfl (show _ = 48 from rfl) ?_
      refine sx_RP.step (pc2 := 49) (ls2 := [(0, .ref 111), (1, .int (nI 0))]) (st2 := [.int 1, .ref 112]) (w3 := w) rfl rfl ?_
      refine sx_RP.ild (c := 1) rfl hI.1.a112.1 hI.1.a112.2 (sx_in_nI (show 1 < 172 by omega) (by decide)) (show (nI 1).toNatClampNeg = 1 from nI_clamp (by omega)) (show _ = 50 from rfl) ?_
      obtain ⟨x9, hx10, ex11⟩ : inR ((ia w 112).getD 1 0) 10 := (hI.s (1) (by omega)).1 rfl
      rw [ex11]
      refine sx_RP.ret (r := (some (.int (nI x9)))) rfl rfl ?_
      exact ⟨⟨_, rfl⟩, hI, hE⟩
    · refine sx_RP.step (pc2 := 51) (ls2 := [(0, .ref 111), (1, .int (nI 1))]) (st2 := []) (w3 := w) rfl rfl ?_
      refine sx_RP.step (pc2 := 52) (ls2 := [(0, .ref 111), (1, .int (nI 1))]) (st2 := [.ref 111]) (w3 := w) rfl rfl ?_
      refine sx_RP.gf (v := .ref 112) rfl rfl hI.1.o111 rfl rfl (show _ = 55 from rfl) ?_
      refine sx_RP.step (pc2 := 56) (ls2 := [(0, .ref 111), (1, .int (nI 1))]) (st2 := [.int 2, .ref 112]) (w3 := w) rfl rfl ?_
      refine sx_RP.ild (c := 2) rfl hI.1.a112.1 hI.1.a112.2 (sx_in_nI (show 2 < 172 by omega) (by decide)) (show (nI 2).toNatClampNeg = 2 from nI_clamp (by omega)) (show _ = 57 from rfl) ?_
      obtain ⟨x12, hx13, ex14⟩ : inR ((ia w 112).getD 2 0) 9 := (hI.s (2) (by omega)).2.1 rfl
      rw [ex14]
      refine sx_RP.ret (r := (some (.int (nI x12)))) rfl rfl ?_
      exact ⟨⟨_, rfl⟩, hI, hE⟩
    · refine sx_RP.step (pc2 := 58) (ls2 := [(0, .ref 111), (1, .int (nI 2))]) (st2 := []) (w3 := w) rfl rfl ?_
      refine sx_RP.step (pc2 := 59) (ls2 := [(0, .ref 111), (1, .int (nI 2))]) (st2 := [.ref 111]) (w3 := w) rfl rfl ?_
      obtain ⟨v15, c16⟩ := p244 hI 
      refine sx_RP.cu (as := [.ref 111]) (rest2 := []) (st3 := [.int v15]) rfl rfl (sx_inv_v2 (mi := 243) (k := 355) (st := [.ref 111]) (w := w) rfl rfl hI.1.o111 rfl rfl rfl) rfl rfl (c16) rfl ?_
      refine sx_RP.ret (r := (some (.int v15))) rfl rfl ?_
      exact ⟨⟨_, rfl⟩, hI, hE⟩
    · refine sx_RP.step (pc2 := 63) (ls2 := [(0, .ref 111), (1, .int (nI 3))]) (st2 := []) (w3 := w) rfl rfl ?_
      refine sx_RP.step (pc2 := 64) (ls2 := [(0, .ref 111), (1, .int (nI 3))]) (st2 := [.ref 111]) (w3 := w) rfl rfl ?_
      refine sx_RP.gf (v := .int (fi w 111 11)) rfl rfl hI.1.o111 rfl rfl (show _ = 67 from rfl) ?_
      obtain ⟨x17, hx18, ex19⟩ : inR (fi w 111 11) 120 := hI.m.2.1
      rw [ex19]
      refine sx_RP.ret (r := (some (.int (nI x17)))) rfl rfl ?_
      exact ⟨⟨_, rfl⟩, hI, hE⟩
    · refine sx_RP.step (pc2 := 68) (ls2 := [(0, .ref 111), (1, .int (nI 4))]) (st2 := []) (w3 := w) rfl rfl ?_
      refine sx_RP.step (pc2 := 69) (ls2 := [(0, .ref 111), (1, .int (nI 4))]) (st2 := [.ref 111]) (w3 := w) rfl rfl ?_
      refine sx_RP.gf (v := .ref 112) rfl rfl hI.1.o111 rfl rfl (show _ = 72 from rfl) ?_
      refine sx_RP.step (pc2 := 73) (ls2 := [(0, .ref 111), (1, .int (nI 4))]) (st2 := [.int 4, .ref 112]) (w3 := w) rfl rfl ?_
      refine sx_RP.ild (c := 4) rfl hI.1.a112.1 hI.1.a112.2 (sx_in_nI (show 4 < 172 by omega) (by decide)) (show (nI 4).toNatClampNeg = 4 from nI_clamp (by omega)) (show _ = 74 from rfl) ?_
      refine sx_RP.ret (r := (some (.int ((ia w 112).getD 4 0)))) rfl rfl ?_
      exact ⟨⟨_, rfl⟩, hI, hE⟩
    · refine sx_RP.step (pc2 := 75) (ls2 := [(0, .ref 111), (1, .int (nI 5))]) (st2 := []) (w3 := w) rfl rfl ?_
      refine sx_RP.step (pc2 := 76) (ls2 := [(0, .ref 111), (1, .int (nI 5))]) (st2 := [.ref 111]) (w3 := w) rfl rfl ?_
      refine sx_RP.gf (v := .ref 112) rfl rfl hI.1.o111 rfl rfl (show _ = 79 from rfl) ?_
      refine sx_RP.step (pc2 := 80) (ls2 := [(0, .ref 111), (1, .int (nI 5))]) (st2 := [.int 5, .ref 112]) (w3 := w) rfl rfl ?_
      refine sx_RP.ild (c := 5) rfl hI.1.a112.1 hI.1.a112.2 (sx_in_nI (show 5 < 172 by omega) (by decide)) (show (nI 5).toNatClampNeg = 5 from nI_clamp (by omega)) (show _ = 81 from rfl) ?_
      refine sx_RP.ret (r := (some (.int ((ia w 112).getD 5 0)))) rfl rfl ?_
      exact ⟨⟨_, rfl⟩, hI, hE⟩
    · refine sx_RP.step (pc2 := 82) (ls2 := [(0, .ref 111), (1, .int (nI 6))]) (st2 := []) (w3 := w) rfl rfl ?_
      refine sx_RP.step (pc2 := 83) (ls2 := [(0, .ref 111), (1, .int (nI 6))]) (st2 := [.ref 111]) (w3 := w) rfl rfl ?_
      refine sx_RP.gf (v := .ref 112) rfl rfl hI.1.o111 rfl rfl (show _ = 86 from rfl) ?_
      refine sx_RP.step (pc2 := 88) (ls2 := [(0, .ref 111), (1, .int (nI 6))]) (st2 := [.int 6, .ref 112]) (w3 := w) rfl rfl ?_
      refine sx_RP.ild (c := 6) rfl hI.1.a112.1 hI.1.a112.2 (sx_in_nI (show 6 < 172 by omega) (by decide)) (show (nI 6).toNatClampNeg = 6 from nI_clamp (by omega)) (show _ = 89 from rfl) ?_
      refine sx_RP.ret (r := (some (.int ((ia w 112).getD 6 0)))) rfl rfl ?_
      exact ⟨⟨_, rfl⟩, hI, hE⟩
set_option maxRecDepth 20000 in
set_option maxHeartbeats 4000000 in
theorem K176B {xs : Option (List Int32)} {d : Nat} {w w0 : List sx_C} {g : Nat} (hg : g < 10) (hI : WI w) (hE : EK w0 w) {j : Nat} (hj : j ≤ 100) (kk : ∀ (w4 : List sx_C), WI w4 → EK w0 w4 → j + 1 ≤ 100 → sx_RP xs (d + 7) 176 50 [(0, .ref 111), (1, .int (nI g)), (2, .int (nI (j + 1)))] [] w4 (fun r w2 => (∃ v : Int32, r = some (.int v)) ∧ WI w2 ∧ ER w0 w2)) : sx_RP xs (d + 7) 176 50 [(0, .ref 111), (1, .int (nI g)), (2, .int (nI j))] [] w (fun r w2 => (∃ v : Int32, r = some (.int v)) ∧ WI w2 ∧ ER w0 w2) := by
  refine sx_RP.step (pc2 := 51) (ls2 := [(0, .ref 111), (1, .int (nI g)), (2, .int (nI j))]) (st2 := [.int (nI j)]) (w3 := w) rfl rfl ?_
  refine sx_RP.step (pc2 := 53) (ls2 := [(0, .ref 111), (1, .int (nI g)), (2, .int (nI j))]) (st2 := [.int 99, .int (nI j)]) (w3 := w) rfl rfl ?_
  refine sx_RP.br (p1 := 74) (l1 := [(0, .ref 111), (1, .int (nI g)), (2, .int (nI j))]) (s1 := []) (v1 := w) (p2 := 56) (l2 := [(0, .ref 111), (1, .int (nI g)), (2, .int (nI j))]) (s2 := []) (v2 := w) rfl rfl (fun q1 => ?_) (fun q1 => ?_)
  · replace q1 := of_decide_eq_true q1
    replace q1 := (nI_ltI (a := 99) (b := j) (by omega) (by omega)).mp q1
    refine sx_RP.step (pc2 := 75) (ls2 := [(0, .ref 111), (1, .int (nI g)), (2, .int (nI j))]) (st2 := [.ref 111]) (w3 := w) rfl rfl ?_
    refine sx_RP.gf (v := .ref 114) rfl rfl hI.1.o111 rfl rfl (show _ = 78 from rfl) ?_
    refine sx_RP.step (pc2 := 79) (ls2 := [(0, .ref 111), (1, .int (nI g)), (2, .int (nI j))]) (st2 := [.ref 111, .ref 114]) (w3 := w) rfl rfl ?_
    refine sx_RP.gf (v := .ref 112) rfl rfl hI.1.o111 rfl rfl (show _ = 82 from rfl) ?_
    refine sx_RP.callp (as2 := [.ref 114, .ref 112]) (rest2 := []) rfl rfl rfl rfl rfl rfl (K175 hI (a := 114) (b := 112) (by decide) (by decide) (by decide)) (show _ = 85 from rfl) ?_
    rintro r4 w2 ⟨rfl, hI3, hE5⟩
    have hE4 := ER.of hE hE5
    show sx_RP _ _ _ _ _ [] _ _
    refine sx_RP.step (pc2 := 86) (ls2 := [(0, .ref 111), (1, .int (nI g)), (2, .int (nI j))]) (st2 := [.int (nI j)]) (w3 := w2) rfl rfl ?_
    refine sx_RP.step (pc2 := 88) (ls2 := [(0, .ref 111), (1, .int (nI g)), (2, .int (nI j))]) (st2 := [.int 99, .int (nI j)]) (w3 := w2) rfl rfl ?_
    refine sx_RP.br (p1 := 95) (l1 := [(0, .ref 111), (1, .int (nI g)), (2, .int (nI j))]) (s1 := []) (v1 := w2) (p2 := 91) (l2 := [(0, .ref 111), (1, .int (nI g)), (2, .int (nI j))]) (s2 := []) (v2 := w2) rfl rfl (fun q6 => ?_) (fun q6 => ?_)
    · replace q6 := of_decide_eq_true q6
      replace q6 := (nI_ltI (a := 99) (b := j) (by omega) (by omega)).mp q6
      refine sx_RP.step (pc2 := 96) (ls2 := [(0, .ref 111), (1, .int (nI g)), (2, .int (nI j))]) (st2 := [.ref 111]) (w3 := w2) rfl rfl ?_
      refine sx_RP.step (pc2 := 97) (ls2 := [(0, .ref 111), (1, .int (nI g)), (2, .int (nI j))]) (st2 := [.int 3, .ref 111]) (w3 := w2) rfl rfl ?_
      refine sx_RP.callp (as2 := [.ref 111, .int 3]) (rest2 := []) rfl rfl (sx_inv_v2 (mi := 176) (k := 70) (st := [.int 3, .ref 111]) (w := w2) rfl rfl hI3.1.o111 rfl rfl rfl) rfl rfl rfl (K133_3 hI3) (show _ = 100 from rfl) ?_
      rintro r4 w7 ⟨rfl, hI8, hE10⟩
      have hE9 := hE4.tr (hE10)
      show sx_RP _ _ _ _ _ [.int (-1000000004)] _ _
      refine sx_RP.ret (r := (some (.int (-1000000004)))) rfl rfl ?_
      exact ⟨⟨_, rfl⟩, hI8, hE9⟩
    · replace q6 := of_decide_eq_false q6
      replace q6 := mt (nI_ltI (a := 99) (b := j) (by omega) (by omega)).mpr q6
      refine sx_RP.step (pc2 := 92) (ls2 := [(0, .ref 111), (1, .int (nI g)), (2, .int (nI j))]) (st2 := [.int (nI j)]) (w3 := w2) rfl rfl ?_
      refine sx_RP.step (pc2 := 100) (ls2 := [(0, .ref 111), (1, .int (nI g)), (2, .int (nI j))]) (st2 := [.int (nI j)]) (w3 := w2) rfl rfl ?_
      refine sx_RP.ret (r := (some (.int (nI j)))) rfl rfl ?_
      exact ⟨⟨_, rfl⟩, hI3, hE4⟩
  · replace q1 := of_decide_eq_false q1
    replace q1 := mt (nI_ltI (a := 99) (b := j) (by omega) (by omega)).mpr q1
    refine sx_RP.step (pc2 := 57) (ls2 := [(0, .ref 111), (1, .int (nI g)), (2, .int (nI j))]) (st2 := [.ref 111]) (w3 := w) rfl rfl ?_
    refine sx_RP.step (pc2 := 58) (ls2 := [(0, .ref 111), (1, .int (nI g)), (2, .int (nI j))]) (st2 := [.int (nI g), .ref 111]) (w3 := w) rfl rfl ?_
    obtain ⟨x11, hx12, c13⟩ := p137 hI (show g < 10 by omega)
    refine sx_RP.cu (as := [.ref 111, .int (nI g)]) (rest2 := []) (st3 := [.int (nI x11)]) rfl rfl (sx_inv_v2 (mi := 176) (k := 74) (st := [.int (nI g), .ref 111]) (w := w) rfl rfl hI.1.o111 rfl rfl rfl) rfl rfl (c13) rfl ?_
    refine sx_RP.br (p1 := 74) (l1 := [(0, .ref 111), (1, .int (nI g)), (2, .int (nI j))]) (s1 := []) (v1 := w) (p2 := 64) (l2 := [(0, .ref 111), (1, .int (nI g)), (2, .int (nI j))]) (s2 := []) (v2 := w) rfl rfl (fun q14 => ?_) (fun q14 => ?_)
    · replace q14 := of_decide_eq_true q14
      replace q14 := (nI_eq (a := x11) (b := 0) (by omega) (by omega)).mp q14
      refine sx_RP.step (pc2 := 75) (ls2 := [(0, .ref 111), (1, .int (nI g)), (2, .int (nI j))]) (st2 := [.ref 111]) (w3 := w) rfl rfl ?_
      refine sx_RP.gf (v := .ref 114) rfl rfl hI.1.o111 rfl rfl (show _ = 78 from rfl) ?_
      refine sx_RP.step (pc2 := 79) (ls2 := [(0, .ref 111), (1, .int (nI g)), (2, .int (nI j))]) (st2 := [.ref 111, .ref 114]) (w3 := w) rfl rfl ?_
      refine sx_RP.gf (v := .ref 112) rfl rfl hI.1.o111 rfl rfl (show _ = 82 from rfl) ?_
      refine sx_RP.callp (as2 := [.ref 114, .ref 112]) (rest2 := []) rfl rfl rfl rfl rfl rfl (K175 hI (a := 114) (b := 112) (by decide) (by decide) (by decide)) (show _ = 85 from rfl) ?_
      rintro r4 w15 ⟨rfl, hI16, hE18⟩
      have hE17 := ER.of hE hE18
      show sx_RP _ _ _ _ _ [] _ _
      refine sx_RP.step (pc2 := 86) (ls2 := [(0, .ref 111), (1, .int (nI g)), (2, .int (nI j))]) (st2 := [.int (nI j)]) (w3 := w15) rfl rfl ?_
      refine sx_RP.step (pc2 := 88) (ls2 := [(0, .ref 111), (1, .int (nI g)), (2, .int (nI j))]) (st2 := [.int 99, .int (nI j)]) (w3 := w15) rfl rfl ?_
      refine sx_RP.br (p1 := 95) (l1 := [(0, .ref 111), (1, .int (nI g)), (2, .int (nI j))]) (s1 := []) (v1 := w15) (p2 := 91) (l2 := [(0, .ref 111), (1, .int (nI g)), (2, .int (nI j))]) (s2 := []) (v2 := w15) rfl rfl (fun q19 => ?_) (fun q19 => ?_)
      · replace q19 := of_decide_eq_true q19
        replace q19 := (nI_ltI (a := 99) (b := j) (by omega) (by omega)).mp q19
        refine sx_RP.step (pc2 := 96) (ls2 := [(0, .ref 111), (1, .int (nI g)), (2, .int (nI j))]) (st2 := [.ref 111]) (w3 := w15) rfl rfl ?_
        refine sx_RP.step (pc2 := 97) (ls2 := [(0, .ref 111), (1, .int (nI g)), (2, .int (nI j))]) (st2 := [.int 3, .ref 111]) (w3 := w15) rfl rfl ?_
        refine sx_RP.callp (as2 := [.ref 111, .int 3]) (rest2 := []) rfl rfl (sx_inv_v2 (mi := 176) (k := 70) (st := [.int 3, .ref 111]) (w := w15) rfl rfl hI16.1.o111 rfl rfl rfl) rfl rfl rfl (K133_3 hI16) (show _ = 100 from rfl) ?_
        rintro r4 w20 ⟨rfl, hI21, hE23⟩
        have hE22 := hE17.tr (hE23)
        show sx_RP _ _ _ _ _ [.int (-1000000004)] _ _
        refine sx_RP.ret (r := (some (.int (-1000000004)))) rfl rfl ?_
        exact ⟨⟨_, rfl⟩, hI21, hE22⟩
      · replace q19 := of_decide_eq_false q19
        replace q19 := mt (nI_ltI (a := 99) (b := j) (by omega) (by omega)).mpr q19
        refine sx_RP.step (pc2 := 92) (ls2 := [(0, .ref 111), (1, .int (nI g)), (2, .int (nI j))]) (st2 := [.int (nI j)]) (w3 := w15) rfl rfl ?_
        refine sx_RP.step (pc2 := 100) (ls2 := [(0, .ref 111), (1, .int (nI g)), (2, .int (nI j))]) (st2 := [.int (nI j)]) (w3 := w15) rfl rfl ?_
        refine sx_RP.ret (r := (some (.int (nI j)))) rfl rfl ?_
        exact ⟨⟨_, rfl⟩, hI16, hE17⟩
    · replace q14 := of_decide_eq_false q14
      replace q14 := mt (nI_eq (a := x11) (b := 0) (by omega) (by omega)).mpr q14
      refine sx_RP.step (pc2 := 65) (ls2 := [(0, .ref 111), (1, .int (nI g)), (2, .int (nI j))]) (st2 := [.ref 111]) (w3 := w) rfl rfl ?_
      refine sx_RP.callp (as2 := [.ref 111]) (rest2 := []) rfl rfl (sx_inv_v2 (mi := 176) (k := 143) (st := [.ref 111]) (w := w) rfl rfl hI.1.o111 rfl rfl rfl) rfl rfl rfl (K169 hI ) (show _ = 68 from rfl) ?_
      rintro r4 w24 ⟨rfl, hI25, hE27⟩
      have hE26 := hE.tr (hE27)
      show sx_RP _ _ _ _ _ [] _ _
      refine sx_RP.step (pc2 := 71) (ls2 := [(2, .int ((nI j) + 1)), (0, .ref 111), (1, .int (nI g))]) (st2 := []) (w3 := w24) rfl rfl ?_
      rw [nI_1 j]
      refine sx_RP.step (pc2 := 50) (ls2 := [(2, .int (nI (j + 1))), (0, .ref 111), (1, .int (nI g))]) (st2 := []) (w3 := w24) rfl rfl ?_
      exact sx_RP.ls (sx_lr.cons rfl (sx_lr.cons rfl (sx_lr.cons rfl sx_lr.nil))) (kk w24 hI25 hE26 (by omega))
set_option maxRecDepth 20000 in
set_option maxHeartbeats 4000000 in
theorem K176L {xs : Option (List Int32)} {d : Nat} {w0 : List sx_C} {g : Nat} (hg : g < 10) : ∀ (fz j : Nat) (w : List sx_C) , 100 ≤ j + fz * 1 → j ≤ 100 → WI w → EK w0 w → sx_RP xs (d + 7) 176 50 [(0, .ref 111), (1, .int (nI g)), (2, .int (nI j))] [] w (fun r w2 => (∃ v : Int32, r = some (.int v)) ∧ WI w2 ∧ ER w0 w2)
  | 0, j, w, h, hj, hI, hE => K176B hg hI hE hj   (fun w4  hI4 hE4 hlt  => absurd hlt (by omega)) 
  | fz + 1, j, w, h, hj, hI, hE => K176B hg hI hE hj   (fun w4  hI4 hE4 hlt  => K176L hg  fz (j + 1) w4  (by omega) hlt hI4 hE4 ) 
set_option maxRecDepth 20000 in
set_option maxHeartbeats 4000000 in
theorem K176 {xs : Option (List Int32)} {d : Nat} {w : List sx_C} (hI : WI w) (a1 : Int32) : sx_RP xs (d + 7) 176 0 (lv_args 0 [.ref 111, .int a1]) [] w (fun r w2 => (∃ v : Int32, r = some (.int v)) ∧ WI w2 ∧ EL w w2) := by
  have hE : EK w w := EK.rf
  refine sx_RP.step (pc2 := 1) (ls2 := [(0, .ref 111), (1, .int a1)]) (st2 := [.ref 111]) (w3 := w) rfl rfl ?_
  refine sx_RP.step (pc2 := 2) (ls2 := [(0, .ref 111), (1, .int a1)]) (st2 := [.int a1, .ref 111]) (w3 := w) rfl rfl ?_
  rcases p156 (xs := xs) hI a1 with c2 | ⟨⟨x3, hx4, rfl⟩, c2⟩
  · refine sx_RP.cu (as := [.ref 111, .int a1]) (rest2 := []) (st3 := [.int 0]) rfl rfl (sx_inv_v2 (mi := 176) (k := 124) (st := [.int a1, .ref 111]) (w := w) rfl rfl hI.1.o111 rfl rfl rfl) rfl rfl (c2) rfl ?_
    refine sx_RP.step (pc2 := 8) (ls2 := [(0, .ref 111), (1, .int a1)]) (st2 := []) (w3 := w) rfl rfl ?_
    refine sx_RP.step (pc2 := 9) (ls2 := [(0, .ref 111), (1, .int a1)]) (st2 := [.ref 111]) (w3 := w) rfl rfl ?_
    refine sx_RP.step (pc2 := 10) (ls2 := [(0, .ref 111), (1, .int a1)]) (st2 := [.int 0, .ref 111]) (w3 := w) rfl rfl ?_
    refine sx_RP.callp (as2 := [.ref 111, .int 0]) (rest2 := []) rfl rfl (sx_inv_v2 (mi := 176) (k := 70) (st := [.int 0, .ref 111]) (w := w) rfl rfl hI.1.o111 rfl rfl rfl) rfl rfl rfl (K133_0 hI) (show _ = 13 from rfl) ?_
    rintro r4 w6 ⟨rfl, hI7, hE9⟩
    have hE8 := hE.tr (hE9)
    show sx_RP _ _ _ _ _ [.int (-1000000001)] _ _
    refine sx_RP.ret (r := (some (.int (-1000000001)))) rfl rfl ?_
    exact ⟨⟨_, rfl⟩, hI7, hE8.el⟩
  · refine sx_RP.cu (as := [.ref 111, .int (nI x3)]) (rest2 := []) (st3 := [.int 1]) rfl rfl (sx_inv_v2 (mi := 176) (k := 124) (st := [.int (nI x3), .ref 111]) (w := w) rfl rfl hI.1.o111 rfl rfl rfl) rfl rfl (c2) rfl ?_
    refine sx_RP.step (pc2 := 14) (ls2 := [(0, .ref 111), (1, .int (nI x3))]) (st2 := []) (w3 := w) rfl rfl ?_
    refine sx_RP.step (pc2 := 15) (ls2 := [(0, .ref 111), (1, .int (nI x3))]) (st2 := [.ref 111]) (w3 := w) rfl rfl ?_
    refine sx_RP.step (pc2 := 16) (ls2 := [(0, .ref 111), (1, .int (nI x3))]) (st2 := [.int (nI x3), .ref 111]) (w3 := w) rfl rfl ?_
    obtain ⟨x10, hx11, c12⟩ := p137 hI (show x3 < 10 by omega)
    refine sx_RP.cu (as := [.ref 111, .int (nI x3)]) (rest2 := []) (st3 := [.int (nI x10)]) rfl rfl (sx_inv_v2 (mi := 176) (k := 74) (st := [.int (nI x3), .ref 111]) (w := w) rfl rfl hI.1.o111 rfl rfl rfl) rfl rfl (c12) rfl ?_
    refine sx_RP.br (p1 := 31) (l1 := [(0, .ref 111), (1, .int (nI x3))]) (s1 := []) (v1 := w) (p2 := 22) (l2 := [(0, .ref 111), (1, .int (nI x3))]) (s2 := []) (v2 := w) rfl rfl (fun q13 => ?_) (fun q13 => ?_)
    · replace q13 := of_decide_eq_true q13
      replace q13 := (nI_eq (a := x10) (b := 0) (by omega) (by omega)).mp q13
      refine sx_RP.step (pc2 := 32) (ls2 := [(0, .ref 111), (1, .int (nI x3))]) (st2 := [.ref 111]) (w3 := w) rfl rfl ?_
      refine sx_RP.step (pc2 := 33) (ls2 := [(0, .ref 111), (1, .int (nI x3))]) (st2 := [.int 4, .ref 111]) (w3 := w) rfl rfl ?_
      refine sx_RP.callp (as2 := [.ref 111, .int 4]) (rest2 := []) rfl rfl (sx_inv_v2 (mi := 176) (k := 70) (st := [.int 4, .ref 111]) (w := w) rfl rfl hI.1.o111 rfl rfl rfl) rfl rfl rfl (K133_4 hI) (show _ = 36 from rfl) ?_
      rintro r4 w14 ⟨rfl, hI15, hE17⟩
      have hE16 := hE.tr (hE17)
      show sx_RP _ _ _ _ _ [.int (-1000000005)] _ _
      refine sx_RP.ret (r := (some (.int (-1000000005)))) rfl rfl ?_
      exact ⟨⟨_, rfl⟩, hI15, hE16.el⟩
    · replace q13 := of_decide_eq_false q13
      replace q13 := mt (nI_eq (a := x10) (b := 0) (by omega) (by omega)).mpr q13
      refine sx_RP.step (pc2 := 23) (ls2 := [(0, .ref 111), (1, .int (nI x3))]) (st2 := [.ref 111]) (w3 := w) rfl rfl ?_
      refine sx_RP.step (pc2 := 25) (ls2 := [(0, .ref 111), (1, .int (nI x3))]) (st2 := [.int 99, .ref 111]) (w3 := w) rfl rfl ?_
      obtain ⟨x18, hx19, c20⟩ := p165 hI 99
      refine sx_RP.cu (as := [.ref 111, .int 99]) (rest2 := []) (st3 := [.int (nI x18)]) rfl rfl (sx_inv_v2 (mi := 176) (k := 149) (st := [.int 99, .ref 111]) (w := w) rfl rfl hI.1.o111 rfl rfl rfl) rfl rfl (c20) rfl ?_
      refine sx_RP.br (p1 := 37) (l1 := [(0, .ref 111), (1, .int (nI x3))]) (s1 := []) (v1 := w) (p2 := 31) (l2 := [(0, .ref 111), (1, .int (nI x3))]) (s2 := []) (v2 := w) rfl rfl (fun q21 => ?_) (fun q21 => ?_)
      · replace q21 := of_decide_eq_true q21
        replace q21 := (nI_eq (a := x18) (b := 0) (by omega) (by omega)).mp q21
        refine sx_RP.step (pc2 := 38) (ls2 := [(0, .ref 111), (1, .int (nI x3))]) (st2 := [.ref 111]) (w3 := w) rfl rfl ?_
        refine sx_RP.gf (v := .ref 112) rfl rfl hI.1.o111 rfl rfl (show _ = 41 from rfl) ?_
        refine sx_RP.step (pc2 := 42) (ls2 := [(0, .ref 111), (1, .int (nI x3))]) (st2 := [.ref 111, .ref 112]) (w3 := w) rfl rfl ?_
        refine sx_RP.gf (v := .ref 114) rfl rfl hI.1.o111 rfl rfl (show _ = 45 from rfl) ?_
        refine sx_RP.callp (as2 := [.ref 112, .ref 114]) (rest2 := []) rfl rfl rfl rfl rfl rfl (K175 hI (a := 112) (b := 114) (by decide) (by decide) (by decide)) (show _ = 48 from rfl) ?_
        rintro r4 w22 ⟨rfl, hI23, hE25⟩
        have hE24 : EK w22 w22 := EK.rf
        show sx_RP _ _ _ _ _ [] _ _
        refine sx_RP.step (pc2 := 49) (ls2 := [(0, .ref 111), (1, .int (nI x3))]) (st2 := [.int 0]) (w3 := w22) rfl rfl ?_
        refine sx_RP.step (pc2 := 50) (ls2 := [(2, .int 0), (0, .ref 111), (1, .int (nI x3))]) (st2 := []) (w3 := w22) rfl rfl ?_
        exact (sx_RP.ls (sx_lr.cons rfl (sx_lr.cons rfl (sx_lr.cons rfl sx_lr.nil))) (K176L (show x3 < 10 by omega) 100 0 w22  (by omega) (by omega) hI23 hE24 )).mono (fun r w2 q => ⟨q.1, q.2.1, EL.of hE hE25 q.2.2⟩)
      · replace q21 := of_decide_eq_false q21
        replace q21 := mt (nI_eq (a := x18) (b := 0) (by omega) (by omega)).mpr q21
        refine sx_RP.step (pc2 := 32) (ls2 := [(0, .ref 111), (1, .int (nI x3))]) (st2 := [.ref 111]) (w3 := w) rfl rfl ?_
        refine sx_RP.step (pc2 := 33) (ls2 := [(0, .ref 111), (1, .int (nI x3))]) (st2 := [.int 4, .ref 111]) (w3 := w) rfl rfl ?_
        refine sx_RP.callp (as2 := [.ref 111, .int 4]) (rest2 := []) rfl rfl (sx_inv_v2 (mi := 176) (k := 70) (st := [.int 4, .ref 111]) (w := w) rfl rfl hI.1.o111 rfl rfl rfl) rfl rfl rfl (K133_4 hI) (show _ = 36 from rfl) ?_
        rintro r4 w26 ⟨rfl, hI27, hE29⟩
        have hE28 := hE.tr (hE29)
        show sx_RP _ _ _ _ _ [.int (-1000000005)] _ _
        refine sx_RP.ret (r := (some (.int (-1000000005)))) rfl rfl ?_
        exact ⟨⟨_, rfl⟩, hI27, hE28.el⟩
set_option maxRecDepth 20000 in
set_option maxHeartbeats 4000000 in
theorem K177B {xs : Option (List Int32)} {d : Nat} {w w0 : List sx_C} (hI : WI w) (hE : EK w0 w) {j : Nat} (hj : j ≤ 99) (n : Int32) (kk : ∀ (w4 : List sx_C) (un : Int32), WI w4 → EK w0 w4 → j + 1 ≤ 99 → sx_RP xs (d + 7) 177 33 [(0, .ref 111), (2, .int un), (1, .int (nI (j + 1)))] [] w4 (fun r w2 => (∃ v : Int32, r = some (.int v)) ∧ WI w2 ∧ ER w0 w2)) : sx_RP xs (d + 7) 177 33 [(0, .ref 111), (2, .int n), (1, .int (nI j))] [] w (fun r w2 => (∃ v : Int32, r = some (.int v)) ∧ WI w2 ∧ ER w0 w2) := by
  refine sx_RP.step (pc2 := 34) (ls2 := [(0, .ref 111), (2, .int n), (1, .int (nI j))]) (st2 := [.int (nI j)]) (w3 := w) rfl rfl ?_
  refine sx_RP.step (pc2 := 36) (ls2 := [(0, .ref 111), (2, .int n), (1, .int (nI j))]) (st2 := [.int 99, .int (nI j)]) (w3 := w) rfl rfl ?_
  refine sx_RP.br (p1 := 58) (l1 := [(0, .ref 111), (2, .int n), (1, .int (nI j))]) (s1 := []) (v1 := w) (p2 := 39) (l2 := [(0, .ref 111), (2, .int n), (1, .int (nI j))]) (s2 := []) (v2 := w) rfl rfl (fun q1 => ?_) (fun q1 => ?_)
  · replace q1 := of_decide_eq_true q1
    replace q1 := (nI_leI (a := 99) (b := j) (by omega) (by omega)).mp q1
    refine sx_RP.step (pc2 := 59) (ls2 := [(0, .ref 111), (2, .int n), (1, .int (nI j))]) (st2 := [.ref 111]) (w3 := w) rfl rfl ?_
    refine sx_RP.gf (v := .ref 114) rfl rfl hI.1.o111 rfl rfl (show _ = 62 from rfl) ?_
    refine sx_RP.step (pc2 := 63) (ls2 := [(0, .ref 111), (2, .int n), (1, .int (nI j))]) (st2 := [.ref 111, .ref 114]) (w3 := w) rfl rfl ?_
    refine sx_RP.gf (v := .ref 112) rfl rfl hI.1.o111 rfl rfl (show _ = 66 from rfl) ?_
    refine sx_RP.callp (as2 := [.ref 114, .ref 112]) (rest2 := []) rfl rfl rfl rfl rfl rfl (K175 hI (a := 114) (b := 112) (by decide) (by decide) (by decide)) (show _ = 69 from rfl) ?_
    rintro r4 w2 ⟨rfl, hI3, hE5⟩
    have hE4 := ER.of hE hE5
    show sx_RP _ _ _ _ _ [] _ _
    refine sx_RP.step (pc2 := 70) (ls2 := [(0, .ref 111), (2, .int n), (1, .int (nI j))]) (st2 := [.int n]) (w3 := w2) rfl rfl ?_
    refine sx_RP.br (p1 := 81) (l1 := [(0, .ref 111), (2, .int n), (1, .int (nI j))]) (s1 := []) (v1 := w2) (p2 := 73) (l2 := [(0, .ref 111), (2, .int n), (1, .int (nI j))]) (s2 := []) (v2 := w2) rfl rfl (fun q6 => ?_) (fun q6 => ?_)
    · replace q6 := of_decide_eq_true q6
      refine sx_RP.step (pc2 := 82) (ls2 := [(0, .ref 111), (2, .int n), (1, .int (nI j))]) (st2 := [.int n]) (w3 := w2) rfl rfl ?_
      refine sx_RP.ret (r := (some (.int n))) rfl rfl ?_
      exact ⟨⟨_, rfl⟩, hI3, hE4⟩
    · replace q6 := of_decide_eq_false q6
      refine sx_RP.step (pc2 := 74) (ls2 := [(0, .ref 111), (2, .int n), (1, .int (nI j))]) (st2 := [.ref 111]) (w3 := w2) rfl rfl ?_
      refine sx_RP.step (pc2 := 75) (ls2 := [(0, .ref 111), (2, .int n), (1, .int (nI j))]) (st2 := [.int 3, .ref 111]) (w3 := w2) rfl rfl ?_
      refine sx_RP.callp (as2 := [.ref 111, .int 3]) (rest2 := []) rfl rfl (sx_inv_v2 (mi := 177) (k := 70) (st := [.int 3, .ref 111]) (w := w2) rfl rfl hI3.1.o111 rfl rfl rfl) rfl rfl rfl (K133_3 hI3) (show _ = 78 from rfl) ?_
      rintro r4 w7 ⟨rfl, hI8, hE10⟩
      have hE9 := hE4.tr (hE10)
      show sx_RP _ _ _ _ _ [.int (-1000000004)] _ _
      refine sx_RP.step (pc2 := 82) (ls2 := [(0, .ref 111), (2, .int n), (1, .int (nI j))]) (st2 := [.int (-1000000004)]) (w3 := w7) rfl rfl ?_
      refine sx_RP.ret (r := (some (.int (-1000000004)))) rfl rfl ?_
      exact ⟨⟨_, rfl⟩, hI8, hE9⟩
  · replace q1 := of_decide_eq_false q1
    replace q1 := mt (nI_leI (a := 99) (b := j) (by omega) (by omega)).mpr q1
    refine sx_RP.step (pc2 := 40) (ls2 := [(0, .ref 111), (2, .int n), (1, .int (nI j))]) (st2 := [.int n]) (w3 := w) rfl rfl ?_
    refine sx_RP.br (p1 := 58) (l1 := [(0, .ref 111), (2, .int n), (1, .int (nI j))]) (s1 := []) (v1 := w) (p2 := 43) (l2 := [(0, .ref 111), (2, .int n), (1, .int (nI j))]) (s2 := []) (v2 := w) rfl rfl (fun q11 => ?_) (fun q11 => ?_)
    · replace q11 := of_decide_eq_true q11
      refine sx_RP.step (pc2 := 59) (ls2 := [(0, .ref 111), (2, .int n), (1, .int (nI j))]) (st2 := [.ref 111]) (w3 := w) rfl rfl ?_
      refine sx_RP.gf (v := .ref 114) rfl rfl hI.1.o111 rfl rfl (show _ = 62 from rfl) ?_
      refine sx_RP.step (pc2 := 63) (ls2 := [(0, .ref 111), (2, .int n), (1, .int (nI j))]) (st2 := [.ref 111, .ref 114]) (w3 := w) rfl rfl ?_
      refine sx_RP.gf (v := .ref 112) rfl rfl hI.1.o111 rfl rfl (show _ = 66 from rfl) ?_
      refine sx_RP.callp (as2 := [.ref 114, .ref 112]) (rest2 := []) rfl rfl rfl rfl rfl rfl (K175 hI (a := 114) (b := 112) (by decide) (by decide) (by decide)) (show _ = 69 from rfl) ?_
      rintro r4 w12 ⟨rfl, hI13, hE15⟩
      have hE14 := ER.of hE hE15
      show sx_RP _ _ _ _ _ [] _ _
      refine sx_RP.step (pc2 := 70) (ls2 := [(0, .ref 111), (2, .int n), (1, .int (nI j))]) (st2 := [.int n]) (w3 := w12) rfl rfl ?_
      refine sx_RP.br (p1 := 81) (l1 := [(0, .ref 111), (2, .int n), (1, .int (nI j))]) (s1 := []) (v1 := w12) (p2 := 73) (l2 := [(0, .ref 111), (2, .int n), (1, .int (nI j))]) (s2 := []) (v2 := w12) rfl rfl (fun q16 => ?_) (fun q16 => ?_)
      · replace q16 := of_decide_eq_true q16
        refine sx_RP.step (pc2 := 82) (ls2 := [(0, .ref 111), (2, .int n), (1, .int (nI j))]) (st2 := [.int n]) (w3 := w12) rfl rfl ?_
        refine sx_RP.ret (r := (some (.int n))) rfl rfl ?_
        exact ⟨⟨_, rfl⟩, hI13, hE14⟩
      · replace q16 := of_decide_eq_false q16
        refine sx_RP.step (pc2 := 74) (ls2 := [(0, .ref 111), (2, .int n), (1, .int (nI j))]) (st2 := [.ref 111]) (w3 := w12) rfl rfl ?_
        refine sx_RP.step (pc2 := 75) (ls2 := [(0, .ref 111), (2, .int n), (1, .int (nI j))]) (st2 := [.int 3, .ref 111]) (w3 := w12) rfl rfl ?_
        refine sx_RP.callp (as2 := [.ref 111, .int 3]) (rest2 := []) rfl rfl (sx_inv_v2 (mi := 177) (k := 70) (st := [.int 3, .ref 111]) (w := w12) rfl rfl hI13.1.o111 rfl rfl rfl) rfl rfl rfl (K133_3 hI13) (show _ = 78 from rfl) ?_
        rintro r4 w17 ⟨rfl, hI18, hE20⟩
        have hE19 := hE14.tr (hE20)
        show sx_RP _ _ _ _ _ [.int (-1000000004)] _ _
        refine sx_RP.step (pc2 := 82) (ls2 := [(0, .ref 111), (2, .int n), (1, .int (nI j))]) (st2 := [.int (-1000000004)]) (w3 := w17) rfl rfl ?_
        refine sx_RP.ret (r := (some (.int (-1000000004)))) rfl rfl ?_
        exact ⟨⟨_, rfl⟩, hI18, hE19⟩
    · replace q11 := of_decide_eq_false q11
      refine sx_RP.step (pc2 := 44) (ls2 := [(0, .ref 111), (2, .int n), (1, .int (nI j))]) (st2 := [.ref 111]) (w3 := w) rfl rfl ?_
      refine sx_RP.callp (as2 := [.ref 111]) (rest2 := []) rfl rfl (sx_inv_v2 (mi := 177) (k := 143) (st := [.ref 111]) (w := w) rfl rfl hI.1.o111 rfl rfl rfl) rfl rfl rfl (K169 hI ) (show _ = 47 from rfl) ?_
      rintro r4 w21 ⟨rfl, hI22, hE24⟩
      have hE23 := hE.tr (hE24)
      show sx_RP _ _ _ _ _ [] _ _
      refine sx_RP.step (pc2 := 50) (ls2 := [(1, .int ((nI j) + 1)), (0, .ref 111), (2, .int n)]) (st2 := []) (w3 := w21) rfl rfl ?_
      rw [nI_1 j]
      refine sx_RP.step (pc2 := 51) (ls2 := [(1, .int (nI (j + 1))), (0, .ref 111), (2, .int n)]) (st2 := [.ref 111]) (w3 := w21) rfl rfl ?_
      obtain ⟨v25, c26⟩ := p178 hI22 
      refine sx_RP.cu (as := [.ref 111]) (rest2 := []) (st3 := [.int v25]) rfl rfl (sx_inv_v2 (mi := 177) (k := 162) (st := [.ref 111]) (w := w21) rfl rfl hI22.1.o111 rfl rfl rfl) rfl rfl (c26) rfl ?_
      refine sx_RP.step (pc2 := 55) (ls2 := [(2, .int v25), (1, .int (nI (j + 1))), (0, .ref 111)]) (st2 := []) (w3 := w21) rfl rfl ?_
      refine sx_RP.step (pc2 := 33) (ls2 := [(2, .int v25), (1, .int (nI (j + 1))), (0, .ref 111)]) (st2 := []) (w3 := w21) rfl rfl ?_
      exact sx_RP.ls (sx_lr.cons rfl (sx_lr.cons rfl (sx_lr.cons rfl sx_lr.nil))) (kk w21 v25 hI22 hE23 (by omega))
set_option maxRecDepth 20000 in
set_option maxHeartbeats 4000000 in
theorem K177L {xs : Option (List Int32)} {d : Nat} {w0 : List sx_C} : ∀ (fz j : Nat) (w : List sx_C) (n : Int32) , 99 ≤ j + fz * 1 → j ≤ 99 → WI w → EK w0 w → sx_RP xs (d + 7) 177 33 [(0, .ref 111), (2, .int n), (1, .int (nI j))] [] w (fun r w2 => (∃ v : Int32, r = some (.int v)) ∧ WI w2 ∧ ER w0 w2)
  | 0, j, w, n, h, hj, hI, hE => K177B  hI hE hj n  (fun w4 un hI4 hE4 hlt  => absurd hlt (by omega)) 
  | fz + 1, j, w, n, h, hj, hI, hE => K177B  hI hE hj n  (fun w4 un hI4 hE4 hlt  => K177L   fz (j + 1) w4 un (by omega) hlt hI4 hE4 ) 
set_option maxRecDepth 20000 in
set_option maxHeartbeats 4000000 in
theorem K177 {xs : Option (List Int32)} {d : Nat} {w : List sx_C} (hI : WI w) : sx_RP xs (d + 7) 177 0 (lv_args 0 [.ref 111]) [] w (fun r w2 => (∃ v : Int32, r = some (.int v)) ∧ WI w2 ∧ EL w w2) := by
  have hE : EK w w := EK.rf
  refine sx_RP.step (pc2 := 1) (ls2 := [(0, .ref 111)]) (st2 := [.ref 111]) (w3 := w) rfl rfl ?_
  refine sx_RP.step (pc2 := 3) (ls2 := [(0, .ref 111)]) (st2 := [.int 99, .ref 111]) (w3 := w) rfl rfl ?_
  obtain ⟨x1, hx2, c3⟩ := p165 hI 99
  refine sx_RP.cu (as := [.ref 111, .int 99]) (rest2 := []) (st3 := [.int (nI x1)]) rfl rfl (sx_inv_v2 (mi := 177) (k := 149) (st := [.int 99, .ref 111]) (w := w) rfl rfl hI.1.o111 rfl rfl rfl) rfl rfl (c3) rfl ?_
  refine sx_RP.br (p1 := 15) (l1 := [(0, .ref 111)]) (s1 := []) (v1 := w) (p2 := 9) (l2 := [(0, .ref 111)]) (s2 := []) (v2 := w) rfl rfl (fun q4 => ?_) (fun q4 => ?_)
  · replace q4 := of_decide_eq_true q4
    replace q4 := (nI_eq (a := x1) (b := 0) (by omega) (by omega)).mp q4
    refine sx_RP.step (pc2 := 16) (ls2 := [(0, .ref 111)]) (st2 := [.ref 111]) (w3 := w) rfl rfl ?_
    refine sx_RP.gf (v := .ref 112) rfl rfl hI.1.o111 rfl rfl (show _ = 19 from rfl) ?_
    refine sx_RP.step (pc2 := 20) (ls2 := [(0, .ref 111)]) (st2 := [.ref 111, .ref 112]) (w3 := w) rfl rfl ?_
    refine sx_RP.gf (v := .ref 114) rfl rfl hI.1.o111 rfl rfl (show _ = 23 from rfl) ?_
    refine sx_RP.callp (as2 := [.ref 112, .ref 114]) (rest2 := []) rfl rfl rfl rfl rfl rfl (K175 hI (a := 112) (b := 114) (by decide) (by decide) (by decide)) (show _ = 26 from rfl) ?_
    rintro r4 w5 ⟨rfl, hI6, hE8⟩
    have hE7 : EK w5 w5 := EK.rf
    show sx_RP _ _ _ _ _ [] _ _
    refine sx_RP.step (pc2 := 27) (ls2 := [(0, .ref 111)]) (st2 := [.int 0]) (w3 := w5) rfl rfl ?_
    refine sx_RP.step (pc2 := 28) (ls2 := [(1, .int 0), (0, .ref 111)]) (st2 := []) (w3 := w5) rfl rfl ?_
    refine sx_RP.step (pc2 := 29) (ls2 := [(1, .int 0), (0, .ref 111)]) (st2 := [.ref 111]) (w3 := w5) rfl rfl ?_
    obtain ⟨v9, c10⟩ := p178 hI6 
    refine sx_RP.cu (as := [.ref 111]) (rest2 := []) (st3 := [.int v9]) rfl rfl (sx_inv_v2 (mi := 177) (k := 162) (st := [.ref 111]) (w := w5) rfl rfl hI6.1.o111 rfl rfl rfl) rfl rfl (c10) rfl ?_
    refine sx_RP.step (pc2 := 33) (ls2 := [(2, .int v9), (1, .int 0), (0, .ref 111)]) (st2 := []) (w3 := w5) rfl rfl ?_
    exact (sx_RP.ls (sx_lr.cons rfl (sx_lr.cons rfl (sx_lr.cons rfl sx_lr.nil))) (K177L  99 0 w5 v9 (by omega) (by omega) hI6 hE7 )).mono (fun r w2 q => ⟨q.1, q.2.1, EL.of hE hE8 q.2.2⟩)
  · replace q4 := of_decide_eq_false q4
    replace q4 := mt (nI_eq (a := x1) (b := 0) (by omega) (by omega)).mpr q4
    refine sx_RP.step (pc2 := 10) (ls2 := [(0, .ref 111)]) (st2 := [.ref 111]) (w3 := w) rfl rfl ?_
    refine sx_RP.step (pc2 := 11) (ls2 := [(0, .ref 111)]) (st2 := [.int 4, .ref 111]) (w3 := w) rfl rfl ?_
    refine sx_RP.callp (as2 := [.ref 111, .int 4]) (rest2 := []) rfl rfl (sx_inv_v2 (mi := 177) (k := 70) (st := [.int 4, .ref 111]) (w := w) rfl rfl hI.1.o111 rfl rfl rfl) rfl rfl rfl (K133_4 hI) (show _ = 14 from rfl) ?_
    rintro r4 w11 ⟨rfl, hI12, hE14⟩
    have hE13 := hE.tr (hE14)
    show sx_RP _ _ _ _ _ [.int (-1000000005)] _ _
    refine sx_RP.ret (r := (some (.int (-1000000005)))) rfl rfl ?_
    exact ⟨⟨_, rfl⟩, hI12, hE13.el⟩
set_option maxRecDepth 20000 in
set_option maxHeartbeats 4000000 in
theorem K202B {xs : Option (List Int32)} {d : Nat} {w w0 : List sx_C} {n : Nat} (hI : WI w) (hE : EK w0 w) {j : Nat} (hj : j ≤ 48) (m : Int32) (l : Int32) (kk : ∀ (w4 : List sx_C) (um : Int32) (ul : Int32), WI w4 → EK w0 w4 → j + 1 ≤ 48 → sx_RP xs (d + 7) 202 20 [(0, .ref 111), (1, .int (nI n)), (2, .int um), (3, .int ul), (4, .int (nI (j + 1)))] [] w4 (fun r w2 => (∃ v : Int32, r = some (.int v)) ∧ WI w2 ∧ EK w0 w2)) : sx_RP xs (d + 7) 202 20 [(0, .ref 111), (1, .int (nI n)), (2, .int m), (3, .int l), (4, .int (nI j))] [] w (fun r w2 => (∃ v : Int32, r = some (.int v)) ∧ WI w2 ∧ EK w0 w2) := by
  refine sx_RP.step (pc2 := 22) (ls2 := [(0, .ref 111), (1, .int (nI n)), (2, .int m), (3, .int l), (4, .int (nI j))]) (st2 := [.int (nI j)]) (w3 := w) rfl rfl ?_
  refine sx_RP.step (pc2 := 24) (ls2 := [(0, .ref 111), (1, .int (nI n)), (2, .int m), (3, .int l), (4, .int (nI j))]) (st2 := [.int 48, .int (nI j)]) (w3 := w) rfl rfl ?_
  refine sx_RP.br (p1 := 86) (l1 := [(0, .ref 111), (1, .int (nI n)), (2, .int m), (3, .int l), (4, .int (nI j))]) (s1 := []) (v1 := w) (p2 := 27) (l2 := [(0, .ref 111), (1, .int (nI n)), (2, .int m), (3, .int l), (4, .int (nI j))]) (s2 := []) (v2 := w) rfl rfl (fun q1 => ?_) (fun q1 => ?_)
  · replace q1 := of_decide_eq_true q1
    replace q1 := (nI_leI (a := 48) (b := j) (by omega) (by omega)).mp q1
    refine sx_RP.step (pc2 := 87) (ls2 := [(0, .ref 111), (1, .int (nI n)), (2, .int m), (3, .int l), (4, .int (nI j))]) (st2 := [.int m]) (w3 := w) rfl rfl ?_
    refine sx_RP.br (p1 := 98) (l1 := [(0, .ref 111), (1, .int (nI n)), (2, .int m), (3, .int l), (4, .int (nI j))]) (s1 := []) (v1 := w) (p2 := 90) (l2 := [(0, .ref 111), (1, .int (nI n)), (2, .int m), (3, .int l), (4, .int (nI j))]) (s2 := []) (v2 := w) rfl rfl (fun q2 => ?_) (fun q2 => ?_)
    · replace q2 := of_decide_eq_true q2
      refine sx_RP.step (pc2 := 99) (ls2 := [(0, .ref 111), (1, .int (nI n)), (2, .int m), (3, .int l), (4, .int (nI j))]) (st2 := [.int m]) (w3 := w) rfl rfl ?_
      refine sx_RP.ret (r := (some (.int m))) rfl rfl ?_
      exact ⟨⟨_, rfl⟩, hI, hE⟩
    · replace q2 := of_decide_eq_false q2
      refine sx_RP.step (pc2 := 91) (ls2 := [(0, .ref 111), (1, .int (nI n)), (2, .int m), (3, .int l), (4, .int (nI j))]) (st2 := [.ref 111]) (w3 := w) rfl rfl ?_
      refine sx_RP.step (pc2 := 92) (ls2 := [(0, .ref 111), (1, .int (nI n)), (2, .int m), (3, .int l), (4, .int (nI j))]) (st2 := [.int 3, .ref 111]) (w3 := w) rfl rfl ?_
      refine sx_RP.callp (as2 := [.ref 111, .int 3]) (rest2 := []) rfl rfl (sx_inv_v2 (mi := 202) (k := 70) (st := [.int 3, .ref 111]) (w := w) rfl rfl hI.1.o111 rfl rfl rfl) rfl rfl rfl (K133_3 hI) (show _ = 95 from rfl) ?_
      rintro r4 w3 ⟨rfl, hI4, hE6⟩
      have hE5 := hE.tr (hE6)
      show sx_RP _ _ _ _ _ [.int (-1000000004)] _ _
      refine sx_RP.step (pc2 := 99) (ls2 := [(0, .ref 111), (1, .int (nI n)), (2, .int m), (3, .int l), (4, .int (nI j))]) (st2 := [.int (-1000000004)]) (w3 := w3) rfl rfl ?_
      refine sx_RP.ret (r := (some (.int (-1000000004)))) rfl rfl ?_
      exact ⟨⟨_, rfl⟩, hI4, hE5⟩
  · replace q1 := of_decide_eq_false q1
    replace q1 := mt (nI_leI (a := 48) (b := j) (by omega) (by omega)).mpr q1
    refine sx_RP.step (pc2 := 28) (ls2 := [(0, .ref 111), (1, .int (nI n)), (2, .int m), (3, .int l), (4, .int (nI j))]) (st2 := [.ref 111]) (w3 := w) rfl rfl ?_
    refine sx_RP.gf (v := .ref 112) rfl rfl hI.1.o111 rfl rfl (show _ = 31 from rfl) ?_
    refine sx_RP.step (pc2 := 33) (ls2 := [(0, .ref 111), (1, .int (nI n)), (2, .int m), (3, .int l), (4, .int (nI j))]) (st2 := [.int 7, .ref 112]) (w3 := w) rfl rfl ?_
    refine sx_RP.step (pc2 := 35) (ls2 := [(0, .ref 111), (1, .int (nI n)), (2, .int m), (3, .int l), (4, .int (nI j))]) (st2 := [.int (nI j), .int 7, .ref 112]) (w3 := w) rfl rfl ?_
    refine sx_RP.step (pc2 := 36) (ls2 := [(0, .ref 111), (1, .int (nI n)), (2, .int m), (3, .int l), (4, .int (nI j))]) (st2 := [.int (7 + (nI j)), .ref 112]) (w3 := w) rfl rfl ?_
    rw [show (7 + (nI j) : Int32) = nI (7 + j) from nI_add 7 j]
    refine sx_RP.ild (c := (7 + j)) rfl hI.1.a112.1 hI.1.a112.2 (sx_in_nI (show (7 + j) < 172 by omega) (by decide)) (show (nI (7 + j)).toNatClampNeg = (7 + j) from nI_clamp (by omega)) (show _ = 37 from rfl) ?_
    obtain ⟨x7, hx8, ex9⟩ : inR ((ia w 112).getD (7 + j) 0) 3 := (hI.s ((7 + j)) (by omega)).2.2.1 (by omega)
    rw [ex9]
    refine sx_RP.step (pc2 := 38) (ls2 := [(0, .ref 111), (1, .int (nI n)), (2, .int m), (3, .int l), (4, .int (nI j))]) (st2 := [.int 3, .int (nI x7)]) (w3 := w) rfl rfl ?_
    refine sx_RP.br (p1 := 45) (l1 := [(0, .ref 111), (1, .int (nI n)), (2, .int m), (3, .int l), (4, .int (nI j))]) (s1 := []) (v1 := w) (p2 := 41) (l2 := [(0, .ref 111), (1, .int (nI n)), (2, .int m), (3, .int l), (4, .int (nI j))]) (s2 := []) (v2 := w) rfl rfl (fun q10 => ?_) (fun q10 => ?_)
    · replace q10 := of_decide_eq_true q10
      replace q10 := mt (nI_eq (a := x7) (b := 3) (by omega) (by omega)).mpr q10
      refine sx_RP.step (pc2 := 46) (ls2 := [(0, .ref 111), (1, .int (nI n)), (2, .int m), (3, .int l), (4, .int (nI j))]) (st2 := [.ref 111]) (w3 := w) rfl rfl ?_
      refine sx_RP.step (pc2 := 48) (ls2 := [(0, .ref 111), (1, .int (nI n)), (2, .int m), (3, .int l), (4, .int (nI j))]) (st2 := [.int (nI j), .ref 111]) (w3 := w) rfl rfl ?_
      refine sx_RP.step (pc2 := 49) (ls2 := [(0, .ref 111), (1, .int (nI n)), (2, .int m), (3, .int l), (4, .int (nI j))]) (st2 := [.int (nI n), .int (nI j), .ref 111]) (w3 := w) rfl rfl ?_
      obtain ⟨v11, c12⟩ := p198 hI (nI j) (nI n)
      refine sx_RP.cu (as := [.ref 111, .int (nI j), .int (nI n)]) (rest2 := []) (st3 := [.int v11]) rfl rfl (sx_inv_v2 (mi := 202) (k := 198) (st := [.int (nI n), .int (nI j), .ref 111]) (w := w) rfl rfl hI.1.o111 rfl rfl rfl) rfl rfl (c12) rfl ?_
      refine sx_RP.step (pc2 := 54) (ls2 := [(5, .int v11), (0, .ref 111), (1, .int (nI n)), (2, .int m), (3, .int l), (4, .int (nI j))]) (st2 := []) (w3 := w) rfl rfl ?_
      refine sx_RP.step (pc2 := 56) (ls2 := [(5, .int v11), (0, .ref 111), (1, .int (nI n)), (2, .int m), (3, .int l), (4, .int (nI j))]) (st2 := [.int v11]) (w3 := w) rfl rfl ?_
      refine sx_RP.step (pc2 := 57) (ls2 := [(5, .int v11), (0, .ref 111), (1, .int (nI n)), (2, .int m), (3, .int l), (4, .int (nI j))]) (st2 := [.int l, .int v11]) (w3 := w) rfl rfl ?_
      refine sx_RP.br (p1 := 65) (l1 := [(5, .int v11), (0, .ref 111), (1, .int (nI n)), (2, .int m), (3, .int l), (4, .int (nI j))]) (s1 := []) (v1 := w) (p2 := 60) (l2 := [(5, .int v11), (0, .ref 111), (1, .int (nI n)), (2, .int m), (3, .int l), (4, .int (nI j))]) (s2 := []) (v2 := w) rfl rfl (fun q13 => ?_) (fun q13 => ?_)
      · replace q13 := of_decide_eq_true q13
        refine sx_RP.step (pc2 := 66) (ls2 := [(5, .int v11), (0, .ref 111), (1, .int (nI n)), (2, .int m), (3, .int l), (4, .int (nI j))]) (st2 := [.int m]) (w3 := w) rfl rfl ?_
        refine sx_RP.step (pc2 := 67) (ls2 := [(2, .int m), (5, .int v11), (0, .ref 111), (1, .int (nI n)), (3, .int l), (4, .int (nI j))]) (st2 := []) (w3 := w) rfl rfl ?_
        refine sx_RP.step (pc2 := 69) (ls2 := [(2, .int m), (5, .int v11), (0, .ref 111), (1, .int (nI n)), (3, .int l), (4, .int (nI j))]) (st2 := [.int v11]) (w3 := w) rfl rfl ?_
        refine sx_RP.step (pc2 := 70) (ls2 := [(2, .int m), (5, .int v11), (0, .ref 111), (1, .int (nI n)), (3, .int l), (4, .int (nI j))]) (st2 := [.int l, .int v11]) (w3 := w) rfl rfl ?_
        refine sx_RP.br (p1 := 78) (l1 := [(2, .int m), (5, .int v11), (0, .ref 111), (1, .int (nI n)), (3, .int l), (4, .int (nI j))]) (s1 := []) (v1 := w) (p2 := 73) (l2 := [(2, .int m), (5, .int v11), (0, .ref 111), (1, .int (nI n)), (3, .int l), (4, .int (nI j))]) (s2 := []) (v2 := w) rfl rfl (fun q14 => ?_) (fun q14 => ?_)
        · replace q14 := of_decide_eq_true q14
          refine sx_RP.step (pc2 := 79) (ls2 := [(2, .int m), (5, .int v11), (0, .ref 111), (1, .int (nI n)), (3, .int l), (4, .int (nI j))]) (st2 := [.int l]) (w3 := w) rfl rfl ?_
          refine sx_RP.step (pc2 := 80) (ls2 := [(3, .int l), (2, .int m), (5, .int v11), (0, .ref 111), (1, .int (nI n)), (4, .int (nI j))]) (st2 := []) (w3 := w) rfl rfl ?_
          refine sx_RP.step (pc2 := 83) (ls2 := [(4, .int ((nI j) + 1)), (3, .int l), (2, .int m), (5, .int v11), (0, .ref 111), (1, .int (nI n))]) (st2 := []) (w3 := w) rfl rfl ?_
          rw [nI_1 j]
          refine sx_RP.step (pc2 := 20) (ls2 := [(4, .int (nI (j + 1))), (3, .int l), (2, .int m), (5, .int v11), (0, .ref 111), (1, .int (nI n))]) (st2 := []) (w3 := w) rfl rfl ?_
          exact sx_RP.ls (sx_lr.cons rfl (sx_lr.cons rfl (sx_lr.cons rfl (sx_lr.cons rfl (sx_lr.cons rfl sx_lr.nil))))) (kk w m l hI hE (by omega))
        · replace q14 := of_decide_eq_false q14
          refine sx_RP.step (pc2 := 75) (ls2 := [(2, .int m), (5, .int v11), (0, .ref 111), (1, .int (nI n)), (3, .int l), (4, .int (nI j))]) (st2 := [.int v11]) (w3 := w) rfl rfl ?_
          refine sx_RP.step (pc2 := 79) (ls2 := [(2, .int m), (5, .int v11), (0, .ref 111), (1, .int (nI n)), (3, .int l), (4, .int (nI j))]) (st2 := [.int v11]) (w3 := w) rfl rfl ?_
          refine sx_RP.step (pc2 := 80) (ls2 := [(3, .int v11), (2, .int m), (5, .int v11), (0, .ref 111), (1, .int (nI n)), (4, .int (nI j))]) (st2 := []) (w3 := w) rfl rfl ?_
          refine sx_RP.step (pc2 := 83) (ls2 := [(4, .int ((nI j) + 1)), (3, .int v11), (2, .int m), (5, .int v11), (0, .ref 111), (1, .int (nI n))]) (st2 := []) (w3 := w) rfl rfl ?_
          rw [nI_1 j]
          refine sx_RP.step (pc2 := 20) (ls2 := [(4, .int (nI (j + 1))), (3, .int v11), (2, .int m), (5, .int v11), (0, .ref 111), (1, .int (nI n))]) (st2 := []) (w3 := w) rfl rfl ?_
          exact sx_RP.ls (sx_lr.cons rfl (sx_lr.cons rfl (sx_lr.cons rfl (sx_lr.cons rfl (sx_lr.cons rfl sx_lr.nil))))) (kk w m v11 hI hE (by omega))
      · replace q13 := of_decide_eq_false q13
        refine sx_RP.step (pc2 := 62) (ls2 := [(5, .int v11), (0, .ref 111), (1, .int (nI n)), (2, .int m), (3, .int l), (4, .int (nI j))]) (st2 := [.int (nI j)]) (w3 := w) rfl rfl ?_
        refine sx_RP.step (pc2 := 66) (ls2 := [(5, .int v11), (0, .ref 111), (1, .int (nI n)), (2, .int m), (3, .int l), (4, .int (nI j))]) (st2 := [.int (nI j)]) (w3 := w) rfl rfl ?_
        refine sx_RP.step (pc2 := 67) (ls2 := [(2, .int (nI j)), (5, .int v11), (0, .ref 111), (1, .int (nI n)), (3, .int l), (4, .int (nI j))]) (st2 := []) (w3 := w) rfl rfl ?_
        refine sx_RP.step (pc2 := 69) (ls2 := [(2, .int (nI j)), (5, .int v11), (0, .ref 111), (1, .int (nI n)), (3, .int l), (4, .int (nI j))]) (st2 := [.int v11]) (w3 := w) rfl rfl ?_
        refine sx_RP.step (pc2 := 70) (ls2 := [(2, .int (nI j)), (5, .int v11), (0, .ref 111), (1, .int (nI n)), (3, .int l), (4, .int (nI j))]) (st2 := [.int l, .int v11]) (w3 := w) rfl rfl ?_
        refine sx_RP.br (p1 := 78) (l1 := [(2, .int (nI j)), (5, .int v11), (0, .ref 111), (1, .int (nI n)), (3, .int l), (4, .int (nI j))]) (s1 := []) (v1 := w) (p2 := 73) (l2 := [(2, .int (nI j)), (5, .int v11), (0, .ref 111), (1, .int (nI n)), (3, .int l), (4, .int (nI j))]) (s2 := []) (v2 := w) rfl rfl (fun q15 => ?_) (fun q15 => ?_)
        · replace q15 := of_decide_eq_true q15
          refine sx_RP.step (pc2 := 79) (ls2 := [(2, .int (nI j)), (5, .int v11), (0, .ref 111), (1, .int (nI n)), (3, .int l), (4, .int (nI j))]) (st2 := [.int l]) (w3 := w) rfl rfl ?_
          refine sx_RP.step (pc2 := 80) (ls2 := [(3, .int l), (2, .int (nI j)), (5, .int v11), (0, .ref 111), (1, .int (nI n)), (4, .int (nI j))]) (st2 := []) (w3 := w) rfl rfl ?_
          refine sx_RP.step (pc2 := 83) (ls2 := [(4, .int ((nI j) + 1)), (3, .int l), (2, .int (nI j)), (5, .int v11), (0, .ref 111), (1, .int (nI n))]) (st2 := []) (w3 := w) rfl rfl ?_
          rw [nI_1 j]
          refine sx_RP.step (pc2 := 20) (ls2 := [(4, .int (nI (j + 1))), (3, .int l), (2, .int (nI j)), (5, .int v11), (0, .ref 111), (1, .int (nI n))]) (st2 := []) (w3 := w) rfl rfl ?_
          exact sx_RP.ls (sx_lr.cons rfl (sx_lr.cons rfl (sx_lr.cons rfl (sx_lr.cons rfl (sx_lr.cons rfl sx_lr.nil))))) (kk w (nI j) l hI hE (by omega))
        · replace q15 := of_decide_eq_false q15
          refine sx_RP.step (pc2 := 75) (ls2 := [(2, .int (nI j)), (5, .int v11), (0, .ref 111), (1, .int (nI n)), (3, .int l), (4, .int (nI j))]) (st2 := [.int v11]) (w3 := w) rfl rfl ?_
          refine sx_RP.step (pc2 := 79) (ls2 := [(2, .int (nI j)), (5, .int v11), (0, .ref 111), (1, .int (nI n)), (3, .int l), (4, .int (nI j))]) (st2 := [.int v11]) (w3 := w) rfl rfl ?_
          refine sx_RP.step (pc2 := 80) (ls2 := [(3, .int v11), (2, .int (nI j)), (5, .int v11), (0, .ref 111), (1, .int (nI n)), (4, .int (nI j))]) (st2 := []) (w3 := w) rfl rfl ?_
          refine sx_RP.step (pc2 := 83) (ls2 := [(4, .int ((nI j) + 1)), (3, .int v11), (2, .int (nI j)), (5, .int v11), (0, .ref 111), (1, .int (nI n))]) (st2 := []) (w3 := w) rfl rfl ?_
          rw [nI_1 j]
          refine sx_RP.step (pc2 := 20) (ls2 := [(4, .int (nI (j + 1))), (3, .int v11), (2, .int (nI j)), (5, .int v11), (0, .ref 111), (1, .int (nI n))]) (st2 := []) (w3 := w) rfl rfl ?_
          exact sx_RP.ls (sx_lr.cons rfl (sx_lr.cons rfl (sx_lr.cons rfl (sx_lr.cons rfl (sx_lr.cons rfl sx_lr.nil))))) (kk w (nI j) v11 hI hE (by omega))
    · replace q10 := Decidable.not_not.mp (of_decide_eq_false q10)
      replace q10 := (nI_eq (a := x7) (b := 3) (by omega) (by omega)).mp q10
      refine sx_RP.step (pc2 := 42) (ls2 := [(0, .ref 111), (1, .int (nI n)), (2, .int m), (3, .int l), (4, .int (nI j))]) (st2 := [.int 0]) (w3 := w) rfl rfl ?_
      refine sx_RP.step (pc2 := 52) (ls2 := [(0, .ref 111), (1, .int (nI n)), (2, .int m), (3, .int l), (4, .int (nI j))]) (st2 := [.int 0]) (w3 := w) rfl rfl ?_
      refine sx_RP.step (pc2 := 54) (ls2 := [(5, .int 0), (0, .ref 111), (1, .int (nI n)), (2, .int m), (3, .int l), (4, .int (nI j))]) (st2 := []) (w3 := w) rfl rfl ?_
      refine sx_RP.step (pc2 := 56) (ls2 := [(5, .int 0), (0, .ref 111), (1, .int (nI n)), (2, .int m), (3, .int l), (4, .int (nI j))]) (st2 := [.int 0]) (w3 := w) rfl rfl ?_
      refine sx_RP.step (pc2 := 57) (ls2 := [(5, .int 0), (0, .ref 111), (1, .int (nI n)), (2, .int m), (3, .int l), (4, .int (nI j))]) (st2 := [.int l, .int 0]) (w3 := w) rfl rfl ?_
      refine sx_RP.br (p1 := 65) (l1 := [(5, .int 0), (0, .ref 111), (1, .int (nI n)), (2, .int m), (3, .int l), (4, .int (nI j))]) (s1 := []) (v1 := w) (p2 := 60) (l2 := [(5, .int 0), (0, .ref 111), (1, .int (nI n)), (2, .int m), (3, .int l), (4, .int (nI j))]) (s2 := []) (v2 := w) rfl rfl (fun q16 => ?_) (fun q16 => ?_)
      · replace q16 := of_decide_eq_true q16
        refine sx_RP.step (pc2 := 66) (ls2 := [(5, .int 0), (0, .ref 111), (1, .int (nI n)), (2, .int m), (3, .int l), (4, .int (nI j))]) (st2 := [.int m]) (w3 := w) rfl rfl ?_
        refine sx_RP.step (pc2 := 67) (ls2 := [(2, .int m), (5, .int 0), (0, .ref 111), (1, .int (nI n)), (3, .int l), (4, .int (nI j))]) (st2 := []) (w3 := w) rfl rfl ?_
        refine sx_RP.step (pc2 := 69) (ls2 := [(2, .int m), (5, .int 0), (0, .ref 111), (1, .int (nI n)), (3, .int l), (4, .int (nI j))]) (st2 := [.int 0]) (w3 := w) rfl rfl ?_
        refine sx_RP.step (pc2 := 70) (ls2 := [(2, .int m), (5, .int 0), (0, .ref 111), (1, .int (nI n)), (3, .int l), (4, .int (nI j))]) (st2 := [.int l, .int 0]) (w3 := w) rfl rfl ?_
        refine sx_RP.br (p1 := 78) (l1 := [(2, .int m), (5, .int 0), (0, .ref 111), (1, .int (nI n)), (3, .int l), (4, .int (nI j))]) (s1 := []) (v1 := w) (p2 := 73) (l2 := [(2, .int m), (5, .int 0), (0, .ref 111), (1, .int (nI n)), (3, .int l), (4, .int (nI j))]) (s2 := []) (v2 := w) rfl rfl (fun q17 => ?_) (fun q17 => ?_)
        · replace q17 := of_decide_eq_true q17
          refine sx_RP.step (pc2 := 79) (ls2 := [(2, .int m), (5, .int 0), (0, .ref 111), (1, .int (nI n)), (3, .int l), (4, .int (nI j))]) (st2 := [.int l]) (w3 := w) rfl rfl ?_
          refine sx_RP.step (pc2 := 80) (ls2 := [(3, .int l), (2, .int m), (5, .int 0), (0, .ref 111), (1, .int (nI n)), (4, .int (nI j))]) (st2 := []) (w3 := w) rfl rfl ?_
          refine sx_RP.step (pc2 := 83) (ls2 := [(4, .int ((nI j) + 1)), (3, .int l), (2, .int m), (5, .int 0), (0, .ref 111), (1, .int (nI n))]) (st2 := []) (w3 := w) rfl rfl ?_
          rw [nI_1 j]
          refine sx_RP.step (pc2 := 20) (ls2 := [(4, .int (nI (j + 1))), (3, .int l), (2, .int m), (5, .int 0), (0, .ref 111), (1, .int (nI n))]) (st2 := []) (w3 := w) rfl rfl ?_
          exact sx_RP.ls (sx_lr.cons rfl (sx_lr.cons rfl (sx_lr.cons rfl (sx_lr.cons rfl (sx_lr.cons rfl sx_lr.nil))))) (kk w m l hI hE (by omega))
        · replace q17 := of_decide_eq_false q17
          refine sx_RP.step (pc2 := 75) (ls2 := [(2, .int m), (5, .int 0), (0, .ref 111), (1, .int (nI n)), (3, .int l), (4, .int (nI j))]) (st2 := [.int 0]) (w3 := w) rfl rfl ?_
          refine sx_RP.step (pc2 := 79) (ls2 := [(2, .int m), (5, .int 0), (0, .ref 111), (1, .int (nI n)), (3, .int l), (4, .int (nI j))]) (st2 := [.int 0]) (w3 := w) rfl rfl ?_
          refine sx_RP.step (pc2 := 80) (ls2 := [(3, .int 0), (2, .int m), (5, .int 0), (0, .ref 111), (1, .int (nI n)), (4, .int (nI j))]) (st2 := []) (w3 := w) rfl rfl ?_
          refine sx_RP.step (pc2 := 83) (ls2 := [(4, .int ((nI j) + 1)), (3, .int 0), (2, .int m), (5, .int 0), (0, .ref 111), (1, .int (nI n))]) (st2 := []) (w3 := w) rfl rfl ?_
          rw [nI_1 j]
          refine sx_RP.step (pc2 := 20) (ls2 := [(4, .int (nI (j + 1))), (3, .int 0), (2, .int m), (5, .int 0), (0, .ref 111), (1, .int (nI n))]) (st2 := []) (w3 := w) rfl rfl ?_
          exact sx_RP.ls (sx_lr.cons rfl (sx_lr.cons rfl (sx_lr.cons rfl (sx_lr.cons rfl (sx_lr.cons rfl sx_lr.nil))))) (kk w m 0 hI hE (by omega))
      · replace q16 := of_decide_eq_false q16
        refine sx_RP.step (pc2 := 62) (ls2 := [(5, .int 0), (0, .ref 111), (1, .int (nI n)), (2, .int m), (3, .int l), (4, .int (nI j))]) (st2 := [.int (nI j)]) (w3 := w) rfl rfl ?_
        refine sx_RP.step (pc2 := 66) (ls2 := [(5, .int 0), (0, .ref 111), (1, .int (nI n)), (2, .int m), (3, .int l), (4, .int (nI j))]) (st2 := [.int (nI j)]) (w3 := w) rfl rfl ?_
        refine sx_RP.step (pc2 := 67) (ls2 := [(2, .int (nI j)), (5, .int 0), (0, .ref 111), (1, .int (nI n)), (3, .int l), (4, .int (nI j))]) (st2 := []) (w3 := w) rfl rfl ?_
        refine sx_RP.step (pc2 := 69) (ls2 := [(2, .int (nI j)), (5, .int 0), (0, .ref 111), (1, .int (nI n)), (3, .int l), (4, .int (nI j))]) (st2 := [.int 0]) (w3 := w) rfl rfl ?_
        refine sx_RP.step (pc2 := 70) (ls2 := [(2, .int (nI j)), (5, .int 0), (0, .ref 111), (1, .int (nI n)), (3, .int l), (4, .int (nI j))]) (st2 := [.int l, .int 0]) (w3 := w) rfl rfl ?_
        refine sx_RP.br (p1 := 78) (l1 := [(2, .int (nI j)), (5, .int 0), (0, .ref 111), (1, .int (nI n)), (3, .int l), (4, .int (nI j))]) (s1 := []) (v1 := w) (p2 := 73) (l2 := [(2, .int (nI j)), (5, .int 0), (0, .ref 111), (1, .int (nI n)), (3, .int l), (4, .int (nI j))]) (s2 := []) (v2 := w) rfl rfl (fun q18 => ?_) (fun q18 => ?_)
        · replace q18 := of_decide_eq_true q18
          refine sx_RP.step (pc2 := 79) (ls2 := [(2, .int (nI j)), (5, .int 0), (0, .ref 111), (1, .int (nI n)), (3, .int l), (4, .int (nI j))]) (st2 := [.int l]) (w3 := w) rfl rfl ?_
          refine sx_RP.step (pc2 := 80) (ls2 := [(3, .int l), (2, .int (nI j)), (5, .int 0), (0, .ref 111), (1, .int (nI n)), (4, .int (nI j))]) (st2 := []) (w3 := w) rfl rfl ?_
          refine sx_RP.step (pc2 := 83) (ls2 := [(4, .int ((nI j) + 1)), (3, .int l), (2, .int (nI j)), (5, .int 0), (0, .ref 111), (1, .int (nI n))]) (st2 := []) (w3 := w) rfl rfl ?_
          rw [nI_1 j]
          refine sx_RP.step (pc2 := 20) (ls2 := [(4, .int (nI (j + 1))), (3, .int l), (2, .int (nI j)), (5, .int 0), (0, .ref 111), (1, .int (nI n))]) (st2 := []) (w3 := w) rfl rfl ?_
          exact sx_RP.ls (sx_lr.cons rfl (sx_lr.cons rfl (sx_lr.cons rfl (sx_lr.cons rfl (sx_lr.cons rfl sx_lr.nil))))) (kk w (nI j) l hI hE (by omega))
        · replace q18 := of_decide_eq_false q18
          refine sx_RP.step (pc2 := 75) (ls2 := [(2, .int (nI j)), (5, .int 0), (0, .ref 111), (1, .int (nI n)), (3, .int l), (4, .int (nI j))]) (st2 := [.int 0]) (w3 := w) rfl rfl ?_
          refine sx_RP.step (pc2 := 79) (ls2 := [(2, .int (nI j)), (5, .int 0), (0, .ref 111), (1, .int (nI n)), (3, .int l), (4, .int (nI j))]) (st2 := [.int 0]) (w3 := w) rfl rfl ?_
          refine sx_RP.step (pc2 := 80) (ls2 := [(3, .int 0), (2, .int (nI j)), (5, .int 0), (0, .ref 111), (1, .int (nI n)), (4, .int (nI j))]) (st2 := []) (w3 := w) rfl rfl ?_
          refine sx_RP.step (pc2 := 83) (ls2 := [(4, .int ((nI j) + 1)), (3, .int 0), (2, .int (nI j)), (5, .int 0), (0, .ref 111), (1, .int (nI n))]) (st2 := []) (w3 := w) rfl rfl ?_
          rw [nI_1 j]
          refine sx_RP.step (pc2 := 20) (ls2 := [(4, .int (nI (j + 1))), (3, .int 0), (2, .int (nI j)), (5, .int 0), (0, .ref 111), (1, .int (nI n))]) (st2 := []) (w3 := w) rfl rfl ?_
          exact sx_RP.ls (sx_lr.cons rfl (sx_lr.cons rfl (sx_lr.cons rfl (sx_lr.cons rfl (sx_lr.cons rfl sx_lr.nil))))) (kk w (nI j) 0 hI hE (by omega))
set_option maxRecDepth 20000 in
set_option maxHeartbeats 4000000 in
theorem K202L {xs : Option (List Int32)} {d : Nat} {w0 : List sx_C} {n : Nat} : ∀ (fz j : Nat) (w : List sx_C) (m : Int32) (l : Int32) , 48 ≤ j + fz * 1 → j ≤ 48 → WI w → EK w0 w → sx_RP xs (d + 7) 202 20 [(0, .ref 111), (1, .int (nI n)), (2, .int m), (3, .int l), (4, .int (nI j))] [] w (fun r w2 => (∃ v : Int32, r = some (.int v)) ∧ WI w2 ∧ EK w0 w2)
  | 0, j, w, m, l, h, hj, hI, hE => K202B (n := n) hI hE hj m l  (fun w4 um ul hI4 hE4 hlt  => absurd hlt (by omega)) 
  | fz + 1, j, w, m, l, h, hj, hI, hE => K202B (n := n) hI hE hj m l  (fun w4 um ul hI4 hE4 hlt  => K202L (n := n)  fz (j + 1) w4 um ul (by omega) hlt hI4 hE4 ) 
set_option maxRecDepth 20000 in
set_option maxHeartbeats 4000000 in
theorem K202 {xs : Option (List Int32)} {d : Nat} {w : List sx_C} (hI : WI w) (a1 : Int32) : sx_RP xs (d + 7) 202 0 (lv_args 0 [.ref 111, .int a1]) [] w (fun r w2 => (∃ v : Int32, r = some (.int v)) ∧ WI w2 ∧ EK w w2) := by
  have hE : EK w w := EK.rf
  refine sx_RP.step (pc2 := 1) (ls2 := [(0, .ref 111), (1, .int a1)]) (st2 := [.int a1]) (w3 := w) rfl rfl ?_
  rcases in_cases a1 1 30 (m := 1) (n := 30) rfl rfl (by decide) (by decide) with q1 | ⟨x2, hx3, hx4, rfl⟩
  · refine sx_RP.cu (as := [.int a1]) (rest2 := []) (st3 := [.int 0]) rfl rfl rfl rfl rfl (cx_197n q1) rfl ?_
    refine sx_RP.step (pc2 := 7) (ls2 := [(0, .ref 111), (1, .int a1)]) (st2 := []) (w3 := w) rfl rfl ?_
    refine sx_RP.step (pc2 := 8) (ls2 := [(0, .ref 111), (1, .int a1)]) (st2 := [.ref 111]) (w3 := w) rfl rfl ?_
    refine sx_RP.step (pc2 := 9) (ls2 := [(0, .ref 111), (1, .int a1)]) (st2 := [.int 0, .ref 111]) (w3 := w) rfl rfl ?_
    refine sx_RP.callp (as2 := [.ref 111, .int 0]) (rest2 := []) rfl rfl (sx_inv_v2 (mi := 202) (k := 70) (st := [.int 0, .ref 111]) (w := w) rfl rfl hI.1.o111 rfl rfl rfl) rfl rfl rfl (K133_0 hI) (show _ = 12 from rfl) ?_
    rintro r4 w6 ⟨rfl, hI7, hE9⟩
    have hE8 := hE.tr (hE9)
    show sx_RP _ _ _ _ _ [.int (-1000000001)] _ _
    refine sx_RP.ret (r := (some (.int (-1000000001)))) rfl rfl ?_
    exact ⟨⟨_, rfl⟩, hI7, hE8⟩
  · refine sx_RP.cu (as := [.int (nI x2)]) (rest2 := []) (st3 := [.int 1]) rfl rfl rfl rfl rfl (cx_197p ⟨nI_le (a := 1) hx3 (by omega), nI_le (b := 30) hx4 (by decide)⟩) rfl ?_
    refine sx_RP.step (pc2 := 13) (ls2 := [(0, .ref 111), (1, .int (nI x2))]) (st2 := []) (w3 := w) rfl rfl ?_
    refine sx_RP.step (pc2 := 14) (ls2 := [(0, .ref 111), (1, .int (nI x2))]) (st2 := [.int (-1)]) (w3 := w) rfl rfl ?_
    refine sx_RP.step (pc2 := 15) (ls2 := [(2, .int (-1)), (0, .ref 111), (1, .int (nI x2))]) (st2 := []) (w3 := w) rfl rfl ?_
    refine sx_RP.step (pc2 := 16) (ls2 := [(2, .int (-1)), (0, .ref 111), (1, .int (nI x2))]) (st2 := [.int 0]) (w3 := w) rfl rfl ?_
    refine sx_RP.step (pc2 := 17) (ls2 := [(3, .int 0), (2, .int (-1)), (0, .ref 111), (1, .int (nI x2))]) (st2 := []) (w3 := w) rfl rfl ?_
    refine sx_RP.step (pc2 := 18) (ls2 := [(3, .int 0), (2, .int (-1)), (0, .ref 111), (1, .int (nI x2))]) (st2 := [.int 0]) (w3 := w) rfl rfl ?_
    refine sx_RP.step (pc2 := 20) (ls2 := [(4, .int 0), (3, .int 0), (2, .int (-1)), (0, .ref 111), (1, .int (nI x2))]) (st2 := []) (w3 := w) rfl rfl ?_
    exact sx_RP.ls (sx_lr.cons rfl (sx_lr.cons rfl (sx_lr.cons rfl (sx_lr.cons rfl (sx_lr.cons rfl sx_lr.nil))))) (K202L  48 0 w (-1) 0 (by omega) (by omega) hI hE )
set_option maxRecDepth 20000 in
set_option maxHeartbeats 4000000 in
theorem K245B {xs : Option (List Int32)} {d : Nat} {w w0 : List sx_C} (a1 : Int32) (hI : WI w) (hE : EK w0 w) {j : Nat} (hj : j ≤ 7) (m : Int32) (kk : ∀ (w4 : List sx_C) (um : Int32), WI w4 → EK w0 w4 → j + 1 ≤ 7 → sx_RP xs (d + 7) 245 20 [(0, .ref 111), (1, .int a1), (2, .int um), (3, .int (nI (j + 1)))] [] w4 (fun r w2 => (∃ v : Int32, r = some (.int v)) ∧ WI w2 ∧ EK w0 w2)) : sx_RP xs (d + 7) 245 20 [(0, .ref 111), (1, .int a1), (2, .int m), (3, .int (nI j))] [] w (fun r w2 => (∃ v : Int32, r = some (.int v)) ∧ WI w2 ∧ EK w0 w2) := by
  refine sx_RP.step (pc2 := 21) (ls2 := [(0, .ref 111), (1, .int a1), (2, .int m), (3, .int (nI j))]) (st2 := [.int (nI j)]) (w3 := w) rfl rfl ?_
  refine sx_RP.step (pc2 := 23) (ls2 := [(0, .ref 111), (1, .int a1), (2, .int m), (3, .int (nI j))]) (st2 := [.int 7, .int (nI j)]) (w3 := w) rfl rfl ?_
  refine sx_RP.br (p1 := 55) (l1 := [(0, .ref 111), (1, .int a1), (2, .int m), (3, .int (nI j))]) (s1 := []) (v1 := w) (p2 := 26) (l2 := [(0, .ref 111), (1, .int a1), (2, .int m), (3, .int (nI j))]) (s2 := []) (v2 := w) rfl rfl (fun q1 => ?_) (fun q1 => ?_)
  · replace q1 := of_decide_eq_true q1
    replace q1 := (nI_leI (a := 7) (b := j) (by omega) (by omega)).mp q1
    refine sx_RP.step (pc2 := 56) (ls2 := [(0, .ref 111), (1, .int a1), (2, .int m), (3, .int (nI j))]) (st2 := [.int m]) (w3 := w) rfl rfl ?_
    refine sx_RP.ret (r := (some (.int m))) rfl rfl ?_
    exact ⟨⟨_, rfl⟩, hI, hE⟩
  · replace q1 := of_decide_eq_false q1
    replace q1 := mt (nI_leI (a := 7) (b := j) (by omega) (by omega)).mpr q1
    refine sx_RP.step (pc2 := 27) (ls2 := [(0, .ref 111), (1, .int a1), (2, .int m), (3, .int (nI j))]) (st2 := [.int m]) (w3 := w) rfl rfl ?_
    refine sx_RP.step (pc2 := 28) (ls2 := [(0, .ref 111), (1, .int a1), (2, .int m), (3, .int (nI j))]) (st2 := [.int a1, .int m]) (w3 := w) rfl rfl ?_
    refine sx_RP.step (pc2 := 29) (ls2 := [(0, .ref 111), (1, .int a1), (2, .int m), (3, .int (nI j))]) (st2 := [.int (-1), .int a1, .int m]) (w3 := w) rfl rfl ?_
    refine sx_RP.br (p1 := 37) (l1 := [(0, .ref 111), (1, .int a1), (2, .int m), (3, .int (nI j))]) (s1 := [.int m]) (v1 := w) (p2 := 32) (l2 := [(0, .ref 111), (1, .int a1), (2, .int m), (3, .int (nI j))]) (s2 := [.int m]) (v2 := w) rfl rfl (fun q2 => ?_) (fun q2 => ?_)
    · replace q2 := of_decide_eq_true q2
      refine sx_RP.step (pc2 := 38) (ls2 := [(0, .ref 111), (1, .int a1), (2, .int m), (3, .int (nI j))]) (st2 := [.ref 111, .int m]) (w3 := w) rfl rfl ?_
      refine sx_RP.gf (v := .ref 116) rfl rfl hI.1.o111 rfl rfl (show _ = 41 from rfl) ?_
      refine sx_RP.step (pc2 := 42) (ls2 := [(0, .ref 111), (1, .int a1), (2, .int m), (3, .int (nI j))]) (st2 := [.int (nI j), .ref 116, .int m]) (w3 := w) rfl rfl ?_
      refine sx_RP.ild (c := j) rfl hI.1.a116.1 hI.1.a116.2 (sx_in_nI (show j < 7 by omega) (by decide)) (show (nI j).toNatClampNeg = j from nI_clamp (by omega)) (show _ = 43 from rfl) ?_
      refine sx_RP.step (pc2 := 47) (ls2 := [(0, .ref 111), (1, .int a1), (2, .int m), (3, .int (nI j))]) (st2 := [.int ((ia w 116).getD j 0), .int m]) (w3 := w) rfl rfl ?_
      refine sx_RP.step (pc2 := 48) (ls2 := [(0, .ref 111), (1, .int a1), (2, .int m), (3, .int (nI j))]) (st2 := [.int (m + ((ia w 116).getD j 0))]) (w3 := w) rfl rfl ?_
      refine sx_RP.step (pc2 := 49) (ls2 := [(2, .int (m + ((ia w 116).getD j 0))), (0, .ref 111), (1, .int a1), (3, .int (nI j))]) (st2 := []) (w3 := w) rfl rfl ?_
      refine sx_RP.step (pc2 := 52) (ls2 := [(3, .int ((nI j) + 1)), (2, .int (m + ((ia w 116).getD j 0))), (0, .ref 111), (1, .int a1)]) (st2 := []) (w3 := w) rfl rfl ?_
      rw [nI_1 j]
      refine sx_RP.step (pc2 := 20) (ls2 := [(3, .int (nI (j + 1))), (2, .int (m + ((ia w 116).getD j 0))), (0, .ref 111), (1, .int a1)]) (st2 := []) (w3 := w) rfl rfl ?_
      exact sx_RP.ls (sx_lr.cons rfl (sx_lr.cons rfl (sx_lr.cons rfl (sx_lr.cons rfl sx_lr.nil)))) (kk w (m + ((ia w 116).getD j 0)) hI hE (by omega))
    · replace q2 := of_decide_eq_false q2
      refine sx_RP.step (pc2 := 33) (ls2 := [(0, .ref 111), (1, .int a1), (2, .int m), (3, .int (nI j))]) (st2 := [.int a1, .int m]) (w3 := w) rfl rfl ?_
      refine sx_RP.step (pc2 := 34) (ls2 := [(0, .ref 111), (1, .int a1), (2, .int m), (3, .int (nI j))]) (st2 := [.int (nI j), .int a1, .int m]) (w3 := w) rfl rfl ?_
      refine sx_RP.br (p1 := 46) (l1 := [(0, .ref 111), (1, .int a1), (2, .int m), (3, .int (nI j))]) (s1 := [.int m]) (v1 := w) (p2 := 37) (l2 := [(0, .ref 111), (1, .int a1), (2, .int m), (3, .int (nI j))]) (s2 := [.int m]) (v2 := w) rfl rfl (fun q3 => ?_) (fun q3 => ?_)
      · replace q3 := of_decide_eq_true q3
        refine sx_RP.step (pc2 := 47) (ls2 := [(0, .ref 111), (1, .int a1), (2, .int m), (3, .int (nI j))]) (st2 := [.int 0, .int m]) (w3 := w) rfl rfl ?_
        refine sx_RP.step (pc2 := 48) (ls2 := [(0, .ref 111), (1, .int a1), (2, .int m), (3, .int (nI j))]) (st2 := [.int (m + 0)]) (w3 := w) rfl rfl ?_
        refine sx_RP.step (pc2 := 49) (ls2 := [(2, .int (m + 0)), (0, .ref 111), (1, .int a1), (3, .int (nI j))]) (st2 := []) (w3 := w) rfl rfl ?_
        refine sx_RP.step (pc2 := 52) (ls2 := [(3, .int ((nI j) + 1)), (2, .int (m + 0)), (0, .ref 111), (1, .int a1)]) (st2 := []) (w3 := w) rfl rfl ?_
        rw [nI_1 j]
        refine sx_RP.step (pc2 := 20) (ls2 := [(3, .int (nI (j + 1))), (2, .int (m + 0)), (0, .ref 111), (1, .int a1)]) (st2 := []) (w3 := w) rfl rfl ?_
        exact sx_RP.ls (sx_lr.cons rfl (sx_lr.cons rfl (sx_lr.cons rfl (sx_lr.cons rfl sx_lr.nil)))) (kk w (m + 0) hI hE (by omega))
      · replace q3 := Decidable.not_not.mp (of_decide_eq_false q3)
        refine sx_RP.step (pc2 := 38) (ls2 := [(0, .ref 111), (1, .int a1), (2, .int m), (3, .int (nI j))]) (st2 := [.ref 111, .int m]) (w3 := w) rfl rfl ?_
        refine sx_RP.gf (v := .ref 116) rfl rfl hI.1.o111 rfl rfl (show _ = 41 from rfl) ?_
        refine sx_RP.step (pc2 := 42) (ls2 := [(0, .ref 111), (1, .int a1), (2, .int m), (3, .int (nI j))]) (st2 := [.int (nI j), .ref 116, .int m]) (w3 := w) rfl rfl ?_
        refine sx_RP.ild (c := j) rfl hI.1.a116.1 hI.1.a116.2 (sx_in_nI (show j < 7 by omega) (by decide)) (show (nI j).toNatClampNeg = j from nI_clamp (by omega)) (show _ = 43 from rfl) ?_
        refine sx_RP.step (pc2 := 47) (ls2 := [(0, .ref 111), (1, .int a1), (2, .int m), (3, .int (nI j))]) (st2 := [.int ((ia w 116).getD j 0), .int m]) (w3 := w) rfl rfl ?_
        refine sx_RP.step (pc2 := 48) (ls2 := [(0, .ref 111), (1, .int a1), (2, .int m), (3, .int (nI j))]) (st2 := [.int (m + ((ia w 116).getD j 0))]) (w3 := w) rfl rfl ?_
        refine sx_RP.step (pc2 := 49) (ls2 := [(2, .int (m + ((ia w 116).getD j 0))), (0, .ref 111), (1, .int a1), (3, .int (nI j))]) (st2 := []) (w3 := w) rfl rfl ?_
        refine sx_RP.step (pc2 := 52) (ls2 := [(3, .int ((nI j) + 1)), (2, .int (m + ((ia w 116).getD j 0))), (0, .ref 111), (1, .int a1)]) (st2 := []) (w3 := w) rfl rfl ?_
        rw [nI_1 j]
        refine sx_RP.step (pc2 := 20) (ls2 := [(3, .int (nI (j + 1))), (2, .int (m + ((ia w 116).getD j 0))), (0, .ref 111), (1, .int a1)]) (st2 := []) (w3 := w) rfl rfl ?_
        exact sx_RP.ls (sx_lr.cons rfl (sx_lr.cons rfl (sx_lr.cons rfl (sx_lr.cons rfl sx_lr.nil)))) (kk w (m + ((ia w 116).getD j 0)) hI hE (by omega))
set_option maxRecDepth 20000 in
set_option maxHeartbeats 4000000 in
theorem K245L {xs : Option (List Int32)} {d : Nat} {w0 : List sx_C} (a1 : Int32) : ∀ (fz j : Nat) (w : List sx_C) (m : Int32) , 7 ≤ j + fz * 1 → j ≤ 7 → WI w → EK w0 w → sx_RP xs (d + 7) 245 20 [(0, .ref 111), (1, .int a1), (2, .int m), (3, .int (nI j))] [] w (fun r w2 => (∃ v : Int32, r = some (.int v)) ∧ WI w2 ∧ EK w0 w2)
  | 0, j, w, m, h, hj, hI, hE => K245B a1 hI hE hj m  (fun w4 um hI4 hE4 hlt  => absurd hlt (by omega)) 
  | fz + 1, j, w, m, h, hj, hI, hE => K245B a1 hI hE hj m  (fun w4 um hI4 hE4 hlt  => K245L a1  fz (j + 1) w4 um (by omega) hlt hI4 hE4 ) 
set_option maxRecDepth 20000 in
set_option maxHeartbeats 4000000 in
theorem K245 {xs : Option (List Int32)} {d : Nat} {w : List sx_C} (hI : WI w) (a1 : Int32) : sx_RP xs (d + 7) 245 0 (lv_args 0 [.ref 111, .int a1]) [] w (fun r w2 => (∃ v : Int32, r = some (.int v)) ∧ WI w2 ∧ EK w w2) := by
  have hE : EK w w := EK.rf
  refine sx_RP.step (pc2 := 1) (ls2 := [(0, .ref 111), (1, .int a1)]) (st2 := [.int a1]) (w3 := w) rfl rfl ?_
  refine sx_RP.step (pc2 := 2) (ls2 := [(0, .ref 111), (1, .int a1)]) (st2 := [.int (-1), .int a1]) (w3 := w) rfl rfl ?_
  refine sx_RP.step (pc2 := 4) (ls2 := [(0, .ref 111), (1, .int a1)]) (st2 := [.int 6, .int (-1), .int a1]) (w3 := w) rfl rfl ?_
  rcases in_casesM a1 (n := 6) (by decide) with q1 | rfl | ⟨x2, hx3, rfl⟩
  · refine sx_RP.cu (as := [.int a1, .int (-1), .int 6]) (rest2 := []) (st3 := [.int 0]) rfl rfl rfl rfl rfl (cx_132o q1) rfl ?_
    refine sx_RP.step (pc2 := 10) (ls2 := [(0, .ref 111), (1, .int a1)]) (st2 := []) (w3 := w) rfl rfl ?_
    refine sx_RP.step (pc2 := 11) (ls2 := [(0, .ref 111), (1, .int a1)]) (st2 := [.ref 111]) (w3 := w) rfl rfl ?_
    refine sx_RP.step (pc2 := 12) (ls2 := [(0, .ref 111), (1, .int a1)]) (st2 := [.int 0, .ref 111]) (w3 := w) rfl rfl ?_
    refine sx_RP.callp (as2 := [.ref 111, .int 0]) (rest2 := []) rfl rfl (sx_inv_v2 (mi := 245) (k := 70) (st := [.int 0, .ref 111]) (w := w) rfl rfl hI.1.o111 rfl rfl rfl) rfl rfl rfl (K133_0 hI) (show _ = 15 from rfl) ?_
    rintro r4 w4 ⟨rfl, hI5, hE7⟩
    have hE6 := hE.tr (hE7)
    show sx_RP _ _ _ _ _ [.int (-1000000001)] _ _
    refine sx_RP.ret (r := (some (.int (-1000000001)))) rfl rfl ?_
    exact ⟨⟨_, rfl⟩, hI5, hE6⟩
  · refine sx_RP.cu (as := [.int (-1), .int (-1), .int 6]) (rest2 := []) (st3 := [.int 1]) rfl rfl rfl rfl rfl (cx_132p (by decide)) rfl ?_
    refine sx_RP.step (pc2 := 16) (ls2 := [(0, .ref 111), (1, .int (-1))]) (st2 := []) (w3 := w) rfl rfl ?_
    refine sx_RP.step (pc2 := 17) (ls2 := [(0, .ref 111), (1, .int (-1))]) (st2 := [.int 0]) (w3 := w) rfl rfl ?_
    refine sx_RP.step (pc2 := 18) (ls2 := [(2, .int 0), (0, .ref 111), (1, .int (-1))]) (st2 := []) (w3 := w) rfl rfl ?_
    refine sx_RP.step (pc2 := 19) (ls2 := [(2, .int 0), (0, .ref 111), (1, .int (-1))]) (st2 := [.int 0]) (w3 := w) rfl rfl ?_
    refine sx_RP.step (pc2 := 20) (ls2 := [(3, .int 0), (2, .int 0), (0, .ref 111), (1, .int (-1))]) (st2 := []) (w3 := w) rfl rfl ?_
    exact sx_RP.ls (sx_lr.cons rfl (sx_lr.cons rfl (sx_lr.cons rfl (sx_lr.cons rfl sx_lr.nil)))) (K245L (-1) 7 0 w 0 (by omega) (by omega) hI hE )
  · refine sx_RP.cu (as := [.int (nI x2), .int (-1), .int 6]) (rest2 := []) (st3 := [.int 1]) rfl rfl rfl rfl rfl (cx_132p ⟨Int32.le_iff_toInt_le.mpr (by rw [nI_toInt (by omega)]; exact Int.le_trans (by decide) (Int.natCast_nonneg _)), nI_le (b := 6) hx3 (by decide)⟩) rfl ?_
    refine sx_RP.step (pc2 := 16) (ls2 := [(0, .ref 111), (1, .int (nI x2))]) (st2 := []) (w3 := w) rfl rfl ?_
    refine sx_RP.step (pc2 := 17) (ls2 := [(0, .ref 111), (1, .int (nI x2))]) (st2 := [.int 0]) (w3 := w) rfl rfl ?_
    refine sx_RP.step (pc2 := 18) (ls2 := [(2, .int 0), (0, .ref 111), (1, .int (nI x2))]) (st2 := []) (w3 := w) rfl rfl ?_
    refine sx_RP.step (pc2 := 19) (ls2 := [(2, .int 0), (0, .ref 111), (1, .int (nI x2))]) (st2 := [.int 0]) (w3 := w) rfl rfl ?_
    refine sx_RP.step (pc2 := 20) (ls2 := [(3, .int 0), (2, .int 0), (0, .ref 111), (1, .int (nI x2))]) (st2 := []) (w3 := w) rfl rfl ?_
    exact sx_RP.ls (sx_lr.cons rfl (sx_lr.cons rfl (sx_lr.cons rfl (sx_lr.cons rfl sx_lr.nil)))) (K245L (nI x2) 7 0 w 0 (by omega) (by omega) hI hE )
set_option maxRecDepth 20000 in
set_option maxHeartbeats 4000000 in
theorem K201iB {xs : Option (List Int32)} {d : Nat} {w w0 : List sx_C} {c p i : Nat} (hc : c < 48) (hp : p ≤ 30) (hi : i < 48) (hI : WI w) (hE : EK w0 w) {j : Nat} (hj : j ≤ 10) (n : Int32) (kk : ∀ (w4 : List sx_C) (un : Int32), WI w4 → EK w0 w4 → j + 1 ≤ 10 → sx_RP xs (d + 7) 201 95 [(0, .ref 111), (1, .int (nI c)), (2, .int (nI p)), (3, .int un), (4, .int (nI i)), (5, .int (nI (j + 1)))] [] w4 (fun r w2 => (∃ v : Int32, r = some (.int v)) ∧ WI w2 ∧ EK w0 w2)) (kx143 : ∀ (w4 : List sx_C) (un : Int32), WI w4 → EK w0 w4 → sx_RP xs (d + 7) 201 143 [(0, .ref 111), (1, .int (nI c)), (2, .int (nI p)), (3, .int un), (4, .int (nI i))] [] w4 (fun r w2 => (∃ v : Int32, r = some (.int v)) ∧ WI w2 ∧ EK w0 w2)) : sx_RP xs (d + 7) 201 95 [(0, .ref 111), (1, .int (nI c)), (2, .int (nI p)), (3, .int n), (4, .int (nI i)), (5, .int (nI j))] [] w (fun r w2 => (∃ v : Int32, r = some (.int v)) ∧ WI w2 ∧ EK w0 w2) := by
  refine sx_RP.step (pc2 := 97) (ls2 := [(0, .ref 111), (1, .int (nI c)), (2, .int (nI p)), (3, .int n), (4, .int (nI i)), (5, .int (nI j))]) (st2 := [.int (nI j)]) (w3 := w) rfl rfl ?_
  refine sx_RP.step (pc2 := 98) (ls2 := [(0, .ref 111), (1, .int (nI c)), (2, .int (nI p)), (3, .int n), (4, .int (nI i)), (5, .int (nI j))]) (st2 := [.ref 111, .int (nI j)]) (w3 := w) rfl rfl ?_
  refine sx_RP.gf (v := .ref 112) rfl rfl hI.1.o111 rfl rfl (show _ = 101 from rfl) ?_
  refine sx_RP.step (pc2 := 102) (ls2 := [(0, .ref 111), (1, .int (nI c)), (2, .int (nI p)), (3, .int n), (4, .int (nI i)), (5, .int (nI j))]) (st2 := [.int 1, .ref 112, .int (nI j)]) (w3 := w) rfl rfl ?_
  refine sx_RP.ild (c := 1) rfl hI.1.a112.1 hI.1.a112.2 (sx_in_nI (show 1 < 172 by omega) (by decide)) (show (nI 1).toNatClampNeg = 1 from nI_clamp (by omega)) (show _ = 103 from rfl) ?_
  obtain ⟨x1, hx2, ex3⟩ : inR ((ia w 112).getD 1 0) 10 := (hI.s (1) (by omega)).1 rfl
  rw [ex3]
  refine sx_RP.br (p1 := 143) (l1 := [(0, .ref 111), (1, .int (nI c)), (2, .int (nI p)), (3, .int n), (4, .int (nI i)), (5, .int (nI j))]) (s1 := []) (v1 := w) (p2 := 106) (l2 := [(0, .ref 111), (1, .int (nI c)), (2, .int (nI p)), (3, .int n), (4, .int (nI i)), (5, .int (nI j))]) (s2 := []) (v2 := w) rfl rfl (fun q4 => ?_) (fun q4 => ?_)
  · replace q4 := of_decide_eq_true q4
    replace q4 := (nI_leI (a := x1) (b := j) (by omega) (by omega)).mp q4
    exact sx_RP.ls (sx_lr.cons rfl (sx_lr.cons rfl (sx_lr.cons rfl (sx_lr.cons rfl (sx_lr.cons rfl sx_lr.nil))))) (kx143 w n hI hE)
  · replace q4 := of_decide_eq_false q4
    replace q4 := mt (nI_leI (a := x1) (b := j) (by omega) (by omega)).mpr q4
    refine sx_RP.step (pc2 := 107) (ls2 := [(0, .ref 111), (1, .int (nI c)), (2, .int (nI p)), (3, .int n), (4, .int (nI i)), (5, .int (nI j))]) (st2 := [.int n]) (w3 := w) rfl rfl ?_
    refine sx_RP.step (pc2 := 108) (ls2 := [(0, .ref 111), (1, .int (nI c)), (2, .int (nI p)), (3, .int n), (4, .int (nI i)), (5, .int (nI j))]) (st2 := [.ref 111, .int n]) (w3 := w) rfl rfl ?_
    refine sx_RP.step (pc2 := 110) (ls2 := [(0, .ref 111), (1, .int (nI c)), (2, .int (nI p)), (3, .int n), (4, .int (nI i)), (5, .int (nI j))]) (st2 := [.int (nI j), .ref 111, .int n]) (w3 := w) rfl rfl ?_
    refine sx_RP.step (pc2 := 111) (ls2 := [(0, .ref 111), (1, .int (nI c)), (2, .int (nI p)), (3, .int n), (4, .int (nI i)), (5, .int (nI j))]) (st2 := [.int 2, .int (nI j), .ref 111, .int n]) (w3 := w) rfl rfl ?_
    obtain ⟨x5, hx6, c7⟩ := p138_2 hI (show j < 10 by omega)
    refine sx_RP.cu (as := [.ref 111, .int (nI j), .int 2]) (rest2 := [.int n]) (st3 := [.int (nI x5), .int n]) rfl rfl (sx_inv_v2 (mi := 201) (k := 59) (st := [.int 2, .int (nI j), .ref 111, .int n]) (w := w) rfl rfl hI.1.o111 rfl rfl rfl) rfl rfl (c7) rfl ?_
    refine sx_RP.step (pc2 := 116) (ls2 := [(0, .ref 111), (1, .int (nI c)), (2, .int (nI p)), (3, .int n), (4, .int (nI i)), (5, .int (nI j))]) (st2 := [.int (nI i), .int (nI x5), .int n]) (w3 := w) rfl rfl ?_
    refine sx_RP.br (p1 := 134) (l1 := [(0, .ref 111), (1, .int (nI c)), (2, .int (nI p)), (3, .int n), (4, .int (nI i)), (5, .int (nI j))]) (s1 := [.int n]) (v1 := w) (p2 := 119) (l2 := [(0, .ref 111), (1, .int (nI c)), (2, .int (nI p)), (3, .int n), (4, .int (nI i)), (5, .int (nI j))]) (s2 := [.int n]) (v2 := w) rfl rfl (fun q8 => ?_) (fun q8 => ?_)
    · replace q8 := of_decide_eq_true q8
      replace q8 := mt (nI_eq (a := x5) (b := i) (by omega) (by omega)).mpr q8
      refine sx_RP.step (pc2 := 135) (ls2 := [(0, .ref 111), (1, .int (nI c)), (2, .int (nI p)), (3, .int n), (4, .int (nI i)), (5, .int (nI j))]) (st2 := [.int 0, .int n]) (w3 := w) rfl rfl ?_
      refine sx_RP.step (pc2 := 136) (ls2 := [(0, .ref 111), (1, .int (nI c)), (2, .int (nI p)), (3, .int n), (4, .int (nI i)), (5, .int (nI j))]) (st2 := [.int (n + 0)]) (w3 := w) rfl rfl ?_
      refine sx_RP.step (pc2 := 137) (ls2 := [(3, .int (n + 0)), (0, .ref 111), (1, .int (nI c)), (2, .int (nI p)), (4, .int (nI i)), (5, .int (nI j))]) (st2 := []) (w3 := w) rfl rfl ?_
      refine sx_RP.step (pc2 := 140) (ls2 := [(5, .int ((nI j) + 1)), (3, .int (n + 0)), (0, .ref 111), (1, .int (nI c)), (2, .int (nI p)), (4, .int (nI i))]) (st2 := []) (w3 := w) rfl rfl ?_
      rw [nI_1 j]
      refine sx_RP.step (pc2 := 95) (ls2 := [(5, .int (nI (j + 1))), (3, .int (n + 0)), (0, .ref 111), (1, .int (nI c)), (2, .int (nI p)), (4, .int (nI i))]) (st2 := []) (w3 := w) rfl rfl ?_
      exact sx_RP.ls (sx_lr.cons rfl (sx_lr.cons rfl (sx_lr.cons rfl (sx_lr.cons rfl (sx_lr.cons rfl (sx_lr.cons rfl sx_lr.nil)))))) (kk w (n + 0) hI hE (by omega))
    · replace q8 := Decidable.not_not.mp (of_decide_eq_false q8)
      replace q8 := (nI_eq (a := x5) (b := i) (by omega) (by omega)).mp q8
      refine sx_RP.step (pc2 := 120) (ls2 := [(0, .ref 111), (1, .int (nI c)), (2, .int (nI p)), (3, .int n), (4, .int (nI i)), (5, .int (nI j))]) (st2 := [.ref 111, .int n]) (w3 := w) rfl rfl ?_
      refine sx_RP.step (pc2 := 122) (ls2 := [(0, .ref 111), (1, .int (nI c)), (2, .int (nI p)), (3, .int n), (4, .int (nI i)), (5, .int (nI j))]) (st2 := [.int (nI j), .ref 111, .int n]) (w3 := w) rfl rfl ?_
      refine sx_RP.step (pc2 := 123) (ls2 := [(0, .ref 111), (1, .int (nI c)), (2, .int (nI p)), (3, .int n), (4, .int (nI i)), (5, .int (nI j))]) (st2 := [.int 5, .int (nI j), .ref 111, .int n]) (w3 := w) rfl rfl ?_
      refine sx_RP.step (pc2 := 124) (ls2 := [(0, .ref 111), (1, .int (nI c)), (2, .int (nI p)), (3, .int n), (4, .int (nI i)), (5, .int (nI j))]) (st2 := [.int 1, .int 5, .int (nI j), .ref 111, .int n]) (w3 := w) rfl rfl ?_
      refine sx_RP.callp (as2 := [.ref 111, .int (nI j), .int 5, .int 1]) (rest2 := [.int n]) rfl rfl (sx_inv_v2 (mi := 201) (k := 110) (st := [.int 1, .int 5, .int (nI j), .ref 111, .int n]) (w := w) rfl rfl hI.1.o111 rfl rfl rfl) rfl rfl rfl (K154_5 hI (show j < 10 by omega) (show 1 ≤ 1 by omega)) (show _ = 127 from rfl) ?_
      rintro r4 w10 ⟨⟨v9, rfl⟩, hI11, hE13⟩
      have hE12 := hE.tr (hE13)
      show sx_RP _ _ _ _ _ [.int v9, .int n] _ _
      refine sx_RP.br (p1 := 134) (l1 := [(0, .ref 111), (1, .int (nI c)), (2, .int (nI p)), (3, .int n), (4, .int (nI i)), (5, .int (nI j))]) (s1 := [.int n]) (v1 := w10) (p2 := 130) (l2 := [(0, .ref 111), (1, .int (nI c)), (2, .int (nI p)), (3, .int n), (4, .int (nI i)), (5, .int (nI j))]) (s2 := [.int n]) (v2 := w10) rfl rfl (fun q14 => ?_) (fun q14 => ?_)
      · replace q14 := of_decide_eq_true q14
        refine sx_RP.step (pc2 := 135) (ls2 := [(0, .ref 111), (1, .int (nI c)), (2, .int (nI p)), (3, .int n), (4, .int (nI i)), (5, .int (nI j))]) (st2 := [.int 0, .int n]) (w3 := w10) rfl rfl ?_
        refine sx_RP.step (pc2 := 136) (ls2 := [(0, .ref 111), (1, .int (nI c)), (2, .int (nI p)), (3, .int n), (4, .int (nI i)), (5, .int (nI j))]) (st2 := [.int (n + 0)]) (w3 := w10) rfl rfl ?_
        refine sx_RP.step (pc2 := 137) (ls2 := [(3, .int (n + 0)), (0, .ref 111), (1, .int (nI c)), (2, .int (nI p)), (4, .int (nI i)), (5, .int (nI j))]) (st2 := []) (w3 := w10) rfl rfl ?_
        refine sx_RP.step (pc2 := 140) (ls2 := [(5, .int ((nI j) + 1)), (3, .int (n + 0)), (0, .ref 111), (1, .int (nI c)), (2, .int (nI p)), (4, .int (nI i))]) (st2 := []) (w3 := w10) rfl rfl ?_
        rw [nI_1 j]
        refine sx_RP.step (pc2 := 95) (ls2 := [(5, .int (nI (j + 1))), (3, .int (n + 0)), (0, .ref 111), (1, .int (nI c)), (2, .int (nI p)), (4, .int (nI i))]) (st2 := []) (w3 := w10) rfl rfl ?_
        exact sx_RP.ls (sx_lr.cons rfl (sx_lr.cons rfl (sx_lr.cons rfl (sx_lr.cons rfl (sx_lr.cons rfl (sx_lr.cons rfl sx_lr.nil)))))) (kk w10 (n + 0) hI11 hE12 (by omega))
      · replace q14 := Decidable.not_not.mp (of_decide_eq_false q14)
        refine sx_RP.step (pc2 := 131) (ls2 := [(0, .ref 111), (1, .int (nI c)), (2, .int (nI p)), (3, .int n), (4, .int (nI i)), (5, .int (nI j))]) (st2 := [.int 1, .int n]) (w3 := w10) rfl rfl ?_
        refine sx_RP.step (pc2 := 135) (ls2 := [(0, .ref 111), (1, .int (nI c)), (2, .int (nI p)), (3, .int n), (4, .int (nI i)), (5, .int (nI j))]) (st2 := [.int 1, .int n]) (w3 := w10) rfl rfl ?_
        refine sx_RP.step (pc2 := 136) (ls2 := [(0, .ref 111), (1, .int (nI c)), (2, .int (nI p)), (3, .int n), (4, .int (nI i)), (5, .int (nI j))]) (st2 := [.int (n + 1)]) (w3 := w10) rfl rfl ?_
        refine sx_RP.step (pc2 := 137) (ls2 := [(3, .int (n + 1)), (0, .ref 111), (1, .int (nI c)), (2, .int (nI p)), (4, .int (nI i)), (5, .int (nI j))]) (st2 := []) (w3 := w10) rfl rfl ?_
        refine sx_RP.step (pc2 := 140) (ls2 := [(5, .int ((nI j) + 1)), (3, .int (n + 1)), (0, .ref 111), (1, .int (nI c)), (2, .int (nI p)), (4, .int (nI i))]) (st2 := []) (w3 := w10) rfl rfl ?_
        rw [nI_1 j]
        refine sx_RP.step (pc2 := 95) (ls2 := [(5, .int (nI (j + 1))), (3, .int (n + 1)), (0, .ref 111), (1, .int (nI c)), (2, .int (nI p)), (4, .int (nI i))]) (st2 := []) (w3 := w10) rfl rfl ?_
        exact sx_RP.ls (sx_lr.cons rfl (sx_lr.cons rfl (sx_lr.cons rfl (sx_lr.cons rfl (sx_lr.cons rfl (sx_lr.cons rfl sx_lr.nil)))))) (kk w10 (n + 1) hI11 hE12 (by omega))
set_option maxRecDepth 20000 in
set_option maxHeartbeats 4000000 in
theorem K201iL {xs : Option (List Int32)} {d : Nat} {w0 : List sx_C} {c p i : Nat} (hc : c < 48) (hp : p ≤ 30) (hi : i < 48) (kx143 : ∀ (w4 : List sx_C) (un : Int32), WI w4 → EK w0 w4 → sx_RP xs (d + 7) 201 143 [(0, .ref 111), (1, .int (nI c)), (2, .int (nI p)), (3, .int un), (4, .int (nI i))] [] w4 (fun r w2 => (∃ v : Int32, r = some (.int v)) ∧ WI w2 ∧ EK w0 w2)) : ∀ (fz j : Nat) (w : List sx_C) (n : Int32) , 10 ≤ j + fz * 1 → j ≤ 10 → WI w → EK w0 w → sx_RP xs (d + 7) 201 95 [(0, .ref 111), (1, .int (nI c)), (2, .int (nI p)), (3, .int n), (4, .int (nI i)), (5, .int (nI j))] [] w (fun r w2 => (∃ v : Int32, r = some (.int v)) ∧ WI w2 ∧ EK w0 w2)
  | 0, j, w, n, h, hj, hI, hE => K201iB hc hp hi hI hE hj n  (fun w4 un hI4 hE4 hlt  => absurd hlt (by omega)) kx143
  | fz + 1, j, w, n, h, hj, hI, hE => K201iB hc hp hi hI hE hj n  (fun w4 un hI4 hE4 hlt  => K201iL hc hp hi kx143 fz (j + 1) w4 un (by omega) hlt hI4 hE4 ) kx143
set_option maxRecDepth 20000 in
set_option maxHeartbeats 4000000 in
theorem K201B {xs : Option (List Int32)} {d : Nat} {w w0 : List sx_C} {c p : Nat} (hc : c < 48) (hp : p ≤ 30) (hI : WI w) (hE : EK w0 w) {j : Nat} (hj : j ≤ 48) (n : Int32) (kk : ∀ (w4 : List sx_C) (un : Int32), WI w4 → EK w0 w4 → j + 1 ≤ 48 → sx_RP xs (d + 7) 201 25 [(0, .ref 111), (1, .int (nI c)), (2, .int (nI p)), (3, .int un), (4, .int (nI (j + 1)))] [] w4 (fun r w2 => (∃ v : Int32, r = some (.int v)) ∧ WI w2 ∧ EK w0 w2)) : sx_RP xs (d + 7) 201 25 [(0, .ref 111), (1, .int (nI c)), (2, .int (nI p)), (3, .int n), (4, .int (nI j))] [] w (fun r w2 => (∃ v : Int32, r = some (.int v)) ∧ WI w2 ∧ EK w0 w2) := by
  refine sx_RP.step (pc2 := 27) (ls2 := [(0, .ref 111), (1, .int (nI c)), (2, .int (nI p)), (3, .int n), (4, .int (nI j))]) (st2 := [.int (nI j)]) (w3 := w) rfl rfl ?_
  refine sx_RP.step (pc2 := 29) (ls2 := [(0, .ref 111), (1, .int (nI c)), (2, .int (nI p)), (3, .int n), (4, .int (nI j))]) (st2 := [.int 48, .int (nI j)]) (w3 := w) rfl rfl ?_
  refine sx_RP.br (p1 := 149) (l1 := [(0, .ref 111), (1, .int (nI c)), (2, .int (nI p)), (3, .int n), (4, .int (nI j))]) (s1 := []) (v1 := w) (p2 := 32) (l2 := [(0, .ref 111), (1, .int (nI c)), (2, .int (nI p)), (3, .int n), (4, .int (nI j))]) (s2 := []) (v2 := w) rfl rfl (fun q1 => ?_) (fun q1 => ?_)
  · replace q1 := of_decide_eq_true q1
    replace q1 := (nI_leI (a := 48) (b := j) (by omega) (by omega)).mp q1
    refine sx_RP.step (pc2 := 150) (ls2 := [(0, .ref 111), (1, .int (nI c)), (2, .int (nI p)), (3, .int n), (4, .int (nI j))]) (st2 := [.int n]) (w3 := w) rfl rfl ?_
    refine sx_RP.ret (r := (some (.int n))) rfl rfl ?_
    exact ⟨⟨_, rfl⟩, hI, hE⟩
  · replace q1 := of_decide_eq_false q1
    replace q1 := mt (nI_leI (a := 48) (b := j) (by omega) (by omega)).mpr q1
    refine sx_RP.step (pc2 := 33) (ls2 := [(0, .ref 111), (1, .int (nI c)), (2, .int (nI p)), (3, .int n), (4, .int (nI j))]) (st2 := [.ref 111]) (w3 := w) rfl rfl ?_
    refine sx_RP.step (pc2 := 34) (ls2 := [(0, .ref 111), (1, .int (nI c)), (2, .int (nI p)), (3, .int n), (4, .int (nI j))]) (st2 := [.int (nI c), .ref 111]) (w3 := w) rfl rfl ?_
    refine sx_RP.step (pc2 := 35) (ls2 := [(0, .ref 111), (1, .int (nI c)), (2, .int (nI p)), (3, .int n), (4, .int (nI j))]) (st2 := [.int (nI p), .int (nI c), .ref 111]) (w3 := w) rfl rfl ?_
    refine sx_RP.step (pc2 := 37) (ls2 := [(0, .ref 111), (1, .int (nI c)), (2, .int (nI p)), (3, .int n), (4, .int (nI j))]) (st2 := [.int (nI j), .int (nI p), .int (nI c), .ref 111]) (w3 := w) rfl rfl ?_
    obtain ⟨x2, hx3, c4⟩ := p199 hI (nI c) (nI p) (show j < 48 by omega)
    refine sx_RP.cu (as := [.ref 111, .int (nI c), .int (nI p), .int (nI j)]) (rest2 := []) (st3 := [.int (nI x2)]) rfl rfl (sx_inv_v2 (mi := 201) (k := 192) (st := [.int (nI j), .int (nI p), .int (nI c), .ref 111]) (w := w) rfl rfl hI.1.o111 rfl rfl rfl) rfl rfl (c4) rfl ?_
    refine sx_RP.br (p1 := 143) (l1 := [(0, .ref 111), (1, .int (nI c)), (2, .int (nI p)), (3, .int n), (4, .int (nI j))]) (s1 := []) (v1 := w) (p2 := 43) (l2 := [(0, .ref 111), (1, .int (nI c)), (2, .int (nI p)), (3, .int n), (4, .int (nI j))]) (s2 := []) (v2 := w) rfl rfl (fun q5 => ?_) (fun q5 => ?_)
    · replace q5 := of_decide_eq_true q5
      replace q5 := (nI_eq (a := x2) (b := 0) (by omega) (by omega)).mp q5
      refine sx_RP.step (pc2 := 146) (ls2 := [(4, .int ((nI j) + 1)), (0, .ref 111), (1, .int (nI c)), (2, .int (nI p)), (3, .int n)]) (st2 := []) (w3 := w) rfl rfl ?_
      rw [nI_1 j]
      refine sx_RP.step (pc2 := 25) (ls2 := [(4, .int (nI (j + 1))), (0, .ref 111), (1, .int (nI c)), (2, .int (nI p)), (3, .int n)]) (st2 := []) (w3 := w) rfl rfl ?_
      exact sx_RP.ls (sx_lr.cons rfl (sx_lr.cons rfl (sx_lr.cons rfl (sx_lr.cons rfl (sx_lr.cons rfl sx_lr.nil))))) (kk w n hI hE (by omega))
    · replace q5 := of_decide_eq_false q5
      replace q5 := mt (nI_eq (a := x2) (b := 0) (by omega) (by omega)).mpr q5
      refine sx_RP.step (pc2 := 44) (ls2 := [(0, .ref 111), (1, .int (nI c)), (2, .int (nI p)), (3, .int n), (4, .int (nI j))]) (st2 := [.ref 111]) (w3 := w) rfl rfl ?_
      refine sx_RP.gf (v := .ref 112) rfl rfl hI.1.o111 rfl rfl (show _ = 47 from rfl) ?_
      refine sx_RP.step (pc2 := 49) (ls2 := [(0, .ref 111), (1, .int (nI c)), (2, .int (nI p)), (3, .int n), (4, .int (nI j))]) (st2 := [.int 55, .ref 112]) (w3 := w) rfl rfl ?_
      refine sx_RP.step (pc2 := 51) (ls2 := [(0, .ref 111), (1, .int (nI c)), (2, .int (nI p)), (3, .int n), (4, .int (nI j))]) (st2 := [.int (nI j), .int 55, .ref 112]) (w3 := w) rfl rfl ?_
      refine sx_RP.step (pc2 := 52) (ls2 := [(0, .ref 111), (1, .int (nI c)), (2, .int (nI p)), (3, .int n), (4, .int (nI j))]) (st2 := [.int (55 + (nI j)), .ref 112]) (w3 := w) rfl rfl ?_
      rw [show (55 + (nI j) : Int32) = nI (55 + j) from nI_add 55 j]
      refine sx_RP.step (pc2 := 53) (ls2 := [(0, .ref 111), (1, .int (nI c)), (2, .int (nI p)), (3, .int n), (4, .int (nI j))]) (st2 := [.int 0, .int (nI (55 + j)), .ref 112]) (w3 := w) rfl rfl ?_
      refine sx_RP.mSK (k := (55 + j)) hI hE (by omega) (by decide) rfl rfl (by omega) (eOK_n (by omega)) (show _ = 54 from rfl) (fun w6 hI7 hE8 hk9 => ?_)
      refine sx_RP.step (pc2 := 55) (ls2 := [(0, .ref 111), (1, .int (nI c)), (2, .int (nI p)), (3, .int n), (4, .int (nI j))]) (st2 := [.ref 111]) (w3 := w6) rfl rfl ?_
      refine sx_RP.gf (v := .ref 112) rfl rfl hI7.1.o111 rfl rfl (show _ = 58 from rfl) ?_
      refine sx_RP.step (pc2 := 60) (ls2 := [(0, .ref 111), (1, .int (nI c)), (2, .int (nI p)), (3, .int n), (4, .int (nI j))]) (st2 := [.int 7, .ref 112]) (w3 := w6) rfl rfl ?_
      refine sx_RP.step (pc2 := 62) (ls2 := [(0, .ref 111), (1, .int (nI c)), (2, .int (nI p)), (3, .int n), (4, .int (nI j))]) (st2 := [.int (nI j), .int 7, .ref 112]) (w3 := w6) rfl rfl ?_
      refine sx_RP.step (pc2 := 63) (ls2 := [(0, .ref 111), (1, .int (nI c)), (2, .int (nI p)), (3, .int n), (4, .int (nI j))]) (st2 := [.int (7 + (nI j)), .ref 112]) (w3 := w6) rfl rfl ?_
      rw [show (7 + (nI j) : Int32) = nI (7 + j) from nI_add 7 j]
      refine sx_RP.step (pc2 := 64) (ls2 := [(0, .ref 111), (1, .int (nI c)), (2, .int (nI p)), (3, .int n), (4, .int (nI j))]) (st2 := [.ref 111, .int (nI (7 + j)), .ref 112]) (w3 := w6) rfl rfl ?_
      refine sx_RP.gf (v := .ref 112) rfl rfl hI7.1.o111 rfl rfl (show _ = 67 from rfl) ?_
      refine sx_RP.step (pc2 := 69) (ls2 := [(0, .ref 111), (1, .int (nI c)), (2, .int (nI p)), (3, .int n), (4, .int (nI j))]) (st2 := [.int 7, .ref 112, .int (nI (7 + j)), .ref 112]) (w3 := w6) rfl rfl ?_
      refine sx_RP.step (pc2 := 71) (ls2 := [(0, .ref 111), (1, .int (nI c)), (2, .int (nI p)), (3, .int n), (4, .int (nI j))]) (st2 := [.int (nI j), .int 7, .ref 112, .int (nI (7 + j)), .ref 112]) (w3 := w6) rfl rfl ?_
      refine sx_RP.step (pc2 := 72) (ls2 := [(0, .ref 111), (1, .int (nI c)), (2, .int (nI p)), (3, .int n), (4, .int (nI j))]) (st2 := [.int (7 + (nI j)), .ref 112, .int (nI (7 + j)), .ref 112]) (w3 := w6) rfl rfl ?_
      rw [show (7 + (nI j) : Int32) = nI (7 + j) from nI_add 7 j]
      refine sx_RP.ild (c := (7 + j)) rfl hI7.1.a112.1 hI7.1.a112.2 (sx_in_nI (show (7 + j) < 172 by omega) (by decide)) (show (nI (7 + j)).toNatClampNeg = (7 + j) from nI_clamp (by omega)) (show _ = 73 from rfl) ?_
      obtain ⟨x10, hx11, ex12⟩ : inR ((ia w6 112).getD (7 + j) 0) 3 := (hI7.s ((7 + j)) (by omega)).2.2.1 (by omega)
      rw [ex12]
      refine sx_RP.step (pc2 := 74) (ls2 := [(0, .ref 111), (1, .int (nI c)), (2, .int (nI p)), (3, .int n), (4, .int (nI j))]) (st2 := [.int 2, .int (nI x10), .int (nI (7 + j)), .ref 112]) (w3 := w6) rfl rfl ?_
      refine sx_RP.br (p1 := 81) (l1 := [(0, .ref 111), (1, .int (nI c)), (2, .int (nI p)), (3, .int n), (4, .int (nI j))]) (s1 := [.int (nI (7 + j)), .ref 112]) (v1 := w6) (p2 := 77) (l2 := [(0, .ref 111), (1, .int (nI c)), (2, .int (nI p)), (3, .int n), (4, .int (nI j))]) (s2 := [.int (nI (7 + j)), .ref 112]) (v2 := w6) rfl rfl (fun q13 => ?_) (fun q13 => ?_)
      · replace q13 := of_decide_eq_true q13
        replace q13 := mt (nI_eq (a := x10) (b := 2) (by omega) (by omega)).mpr q13
        refine sx_RP.step (pc2 := 82) (ls2 := [(0, .ref 111), (1, .int (nI c)), (2, .int (nI p)), (3, .int n), (4, .int (nI j))]) (st2 := [.ref 111, .int (nI (7 + j)), .ref 112]) (w3 := w6) rfl rfl ?_
        refine sx_RP.gf (v := .ref 112) rfl rfl hI7.1.o111 rfl rfl (show _ = 85 from rfl) ?_
        refine sx_RP.step (pc2 := 87) (ls2 := [(0, .ref 111), (1, .int (nI c)), (2, .int (nI p)), (3, .int n), (4, .int (nI j))]) (st2 := [.int 7, .ref 112, .int (nI (7 + j)), .ref 112]) (w3 := w6) rfl rfl ?_
        refine sx_RP.step (pc2 := 89) (ls2 := [(0, .ref 111), (1, .int (nI c)), (2, .int (nI p)), (3, .int n), (4, .int (nI j))]) (st2 := [.int (nI j), .int 7, .ref 112, .int (nI (7 + j)), .ref 112]) (w3 := w6) rfl rfl ?_
        refine sx_RP.step (pc2 := 90) (ls2 := [(0, .ref 111), (1, .int (nI c)), (2, .int (nI p)), (3, .int n), (4, .int (nI j))]) (st2 := [.int (7 + (nI j)), .ref 112, .int (nI (7 + j)), .ref 112]) (w3 := w6) rfl rfl ?_
        rw [show (7 + (nI j) : Int32) = nI (7 + j) from nI_add 7 j]
        refine sx_RP.ild (c := (7 + j)) rfl hI7.1.a112.1 hI7.1.a112.2 (sx_in_nI (show (7 + j) < 172 by omega) (by decide)) (show (nI (7 + j)).toNatClampNeg = (7 + j) from nI_clamp (by omega)) (show _ = 91 from rfl) ?_
        rw [ex12]
        refine sx_RP.mSK (k := (7 + j)) hI7 hE8 (by omega) (by decide) rfl rfl (by omega) (eOK_st (by omega) (inR.n (show x10 ≤ 3 by omega))) (show _ = 92 from rfl) (fun w14 hI15 hE16 hk17 => ?_)
        refine sx_RP.step (pc2 := 93) (ls2 := [(0, .ref 111), (1, .int (nI c)), (2, .int (nI p)), (3, .int n), (4, .int (nI j))]) (st2 := [.int 0]) (w3 := w14) rfl rfl ?_
        refine sx_RP.step (pc2 := 95) (ls2 := [(5, .int 0), (0, .ref 111), (1, .int (nI c)), (2, .int (nI p)), (3, .int n), (4, .int (nI j))]) (st2 := []) (w3 := w14) rfl rfl ?_
        refine sx_RP.ls (sx_lr.cons rfl (sx_lr.cons rfl (sx_lr.cons rfl (sx_lr.cons rfl (sx_lr.cons rfl (sx_lr.cons rfl sx_lr.nil)))))) (K201iL hc hp (show j < 48 by omega) (fun w18 u21 hI19 hE20 => ?_) 10 0 w14 n (by omega) (by omega) hI15 hE16 )
        refine sx_RP.step (pc2 := 146) (ls2 := [(4, .int ((nI j) + 1)), (0, .ref 111), (1, .int (nI c)), (2, .int (nI p)), (3, .int u21)]) (st2 := []) (w3 := w18) rfl rfl ?_
        rw [nI_1 j]
        refine sx_RP.step (pc2 := 25) (ls2 := [(4, .int (nI (j + 1))), (0, .ref 111), (1, .int (nI c)), (2, .int (nI p)), (3, .int u21)]) (st2 := []) (w3 := w18) rfl rfl ?_
        exact sx_RP.ls (sx_lr.cons rfl (sx_lr.cons rfl (sx_lr.cons rfl (sx_lr.cons rfl (sx_lr.cons rfl sx_lr.nil))))) (kk w18 u21 hI19 hE20 (by omega))
      · replace q13 := Decidable.not_not.mp (of_decide_eq_false q13)
        replace q13 := (nI_eq (a := x10) (b := 2) (by omega) (by omega)).mp q13
        refine sx_RP.step (pc2 := 78) (ls2 := [(0, .ref 111), (1, .int (nI c)), (2, .int (nI p)), (3, .int n), (4, .int (nI j))]) (st2 := [.int 0, .int (nI (7 + j)), .ref 112]) (w3 := w6) rfl rfl ?_
        refine sx_RP.step (pc2 := 91) (ls2 := [(0, .ref 111), (1, .int (nI c)), (2, .int (nI p)), (3, .int n), (4, .int (nI j))]) (st2 := [.int 0, .int (nI (7 + j)), .ref 112]) (w3 := w6) rfl rfl ?_
        refine sx_RP.mSK (k := (7 + j)) hI7 hE8 (by omega) (by decide) rfl rfl (by omega) (eOK_st (by omega) (show inR 0 3 from ⟨0, by decide, rfl⟩)) (show _ = 92 from rfl) (fun w22 hI23 hE24 hk25 => ?_)
        refine sx_RP.step (pc2 := 93) (ls2 := [(0, .ref 111), (1, .int (nI c)), (2, .int (nI p)), (3, .int n), (4, .int (nI j))]) (st2 := [.int 0]) (w3 := w22) rfl rfl ?_
        refine sx_RP.step (pc2 := 95) (ls2 := [(5, .int 0), (0, .ref 111), (1, .int (nI c)), (2, .int (nI p)), (3, .int n), (4, .int (nI j))]) (st2 := []) (w3 := w22) rfl rfl ?_
        refine sx_RP.ls (sx_lr.cons rfl (sx_lr.cons rfl (sx_lr.cons rfl (sx_lr.cons rfl (sx_lr.cons rfl (sx_lr.cons rfl sx_lr.nil)))))) (K201iL hc hp (show j < 48 by omega) (fun w26 u29 hI27 hE28 => ?_) 10 0 w22 n (by omega) (by omega) hI23 hE24 )
        refine sx_RP.step (pc2 := 146) (ls2 := [(4, .int ((nI j) + 1)), (0, .ref 111), (1, .int (nI c)), (2, .int (nI p)), (3, .int u29)]) (st2 := []) (w3 := w26) rfl rfl ?_
        rw [nI_1 j]
        refine sx_RP.step (pc2 := 25) (ls2 := [(4, .int (nI (j + 1))), (0, .ref 111), (1, .int (nI c)), (2, .int (nI p)), (3, .int u29)]) (st2 := []) (w3 := w26) rfl rfl ?_
        exact sx_RP.ls (sx_lr.cons rfl (sx_lr.cons rfl (sx_lr.cons rfl (sx_lr.cons rfl (sx_lr.cons rfl sx_lr.nil))))) (kk w26 u29 hI27 hE28 (by omega))
set_option maxRecDepth 20000 in
set_option maxHeartbeats 4000000 in
theorem K201L {xs : Option (List Int32)} {d : Nat} {w0 : List sx_C} {c p : Nat} (hc : c < 48) (hp : p ≤ 30) : ∀ (fz j : Nat) (w : List sx_C) (n : Int32) , 48 ≤ j + fz * 1 → j ≤ 48 → WI w → EK w0 w → sx_RP xs (d + 7) 201 25 [(0, .ref 111), (1, .int (nI c)), (2, .int (nI p)), (3, .int n), (4, .int (nI j))] [] w (fun r w2 => (∃ v : Int32, r = some (.int v)) ∧ WI w2 ∧ EK w0 w2)
  | 0, j, w, n, h, hj, hI, hE => K201B hc hp hI hE hj n  (fun w4 un hI4 hE4 hlt  => absurd hlt (by omega)) 
  | fz + 1, j, w, n, h, hj, hI, hE => K201B hc hp hI hE hj n  (fun w4 un hI4 hE4 hlt  => K201L hc hp  fz (j + 1) w4 un (by omega) hlt hI4 hE4 ) 
set_option maxRecDepth 20000 in
set_option maxHeartbeats 4000000 in
theorem K201 {xs : Option (List Int32)} {d : Nat} {w : List sx_C} (hI : WI w) (a1 a2 : Int32) : sx_RP xs (d + 7) 201 0 (lv_args 0 [.ref 111, .int a1, .int a2]) [] w (fun r w2 => (∃ v : Int32, r = some (.int v)) ∧ WI w2 ∧ EK w w2) := by
  have hE : EK w w := EK.rf
  refine sx_RP.step (pc2 := 1) (ls2 := [(0, .ref 111), (1, .int a1), (2, .int a2)]) (st2 := [.int a1]) (w3 := w) rfl rfl ?_
  rcases in_cases a1 0 47 (m := 0) (n := 47) rfl rfl (by decide) (by decide) with q1 | ⟨x2, hx3, hx4, rfl⟩
  · refine sx_RP.cu (as := [.int a1]) (rest2 := []) (st3 := [.int 0]) rfl rfl rfl rfl rfl (cx_131n q1) rfl ?_
    refine sx_RP.step (pc2 := 14) (ls2 := [(0, .ref 111), (1, .int a1), (2, .int a2)]) (st2 := []) (w3 := w) rfl rfl ?_
    refine sx_RP.step (pc2 := 15) (ls2 := [(0, .ref 111), (1, .int a1), (2, .int a2)]) (st2 := [.ref 111]) (w3 := w) rfl rfl ?_
    refine sx_RP.step (pc2 := 16) (ls2 := [(0, .ref 111), (1, .int a1), (2, .int a2)]) (st2 := [.int 0, .ref 111]) (w3 := w) rfl rfl ?_
    refine sx_RP.callp (as2 := [.ref 111, .int 0]) (rest2 := []) rfl rfl (sx_inv_v2 (mi := 201) (k := 70) (st := [.int 0, .ref 111]) (w := w) rfl rfl hI.1.o111 rfl rfl rfl) rfl rfl rfl (K133_0 hI) (show _ = 19 from rfl) ?_
    rintro r4 w6 ⟨rfl, hI7, hE9⟩
    have hE8 := hE.tr (hE9)
    show sx_RP _ _ _ _ _ [.int (-1000000001)] _ _
    refine sx_RP.ret (r := (some (.int (-1000000001)))) rfl rfl ?_
    exact ⟨⟨_, rfl⟩, hI7, hE8⟩
  · refine sx_RP.cu (as := [.int (nI x2)]) (rest2 := []) (st3 := [.int 1]) rfl rfl rfl rfl rfl (cx_131p ⟨nI_le (a := 0) hx3 (by omega), nI_le (b := 47) hx4 (by decide)⟩) rfl ?_
    refine sx_RP.step (pc2 := 7) (ls2 := [(0, .ref 111), (1, .int (nI x2)), (2, .int a2)]) (st2 := []) (w3 := w) rfl rfl ?_
    refine sx_RP.step (pc2 := 8) (ls2 := [(0, .ref 111), (1, .int (nI x2)), (2, .int a2)]) (st2 := [.int a2]) (w3 := w) rfl rfl ?_
    rcases in_cases a2 1 30 (m := 1) (n := 30) rfl rfl (by decide) (by decide) with q10 | ⟨x11, hx12, hx13, rfl⟩
    · refine sx_RP.cu (as := [.int a2]) (rest2 := []) (st3 := [.int 0]) rfl rfl rfl rfl rfl (cx_197n q10) rfl ?_
      refine sx_RP.step (pc2 := 14) (ls2 := [(0, .ref 111), (1, .int (nI x2)), (2, .int a2)]) (st2 := []) (w3 := w) rfl rfl ?_
      refine sx_RP.step (pc2 := 15) (ls2 := [(0, .ref 111), (1, .int (nI x2)), (2, .int a2)]) (st2 := [.ref 111]) (w3 := w) rfl rfl ?_
      refine sx_RP.step (pc2 := 16) (ls2 := [(0, .ref 111), (1, .int (nI x2)), (2, .int a2)]) (st2 := [.int 0, .ref 111]) (w3 := w) rfl rfl ?_
      refine sx_RP.callp (as2 := [.ref 111, .int 0]) (rest2 := []) rfl rfl (sx_inv_v2 (mi := 201) (k := 70) (st := [.int 0, .ref 111]) (w := w) rfl rfl hI.1.o111 rfl rfl rfl) rfl rfl rfl (K133_0 hI) (show _ = 19 from rfl) ?_
      rintro r4 w15 ⟨rfl, hI16, hE18⟩
      have hE17 := hE.tr (hE18)
      show sx_RP _ _ _ _ _ [.int (-1000000001)] _ _
      refine sx_RP.ret (r := (some (.int (-1000000001)))) rfl rfl ?_
      exact ⟨⟨_, rfl⟩, hI16, hE17⟩
    · refine sx_RP.cu (as := [.int (nI x11)]) (rest2 := []) (st3 := [.int 1]) rfl rfl rfl rfl rfl (cx_197p ⟨nI_le (a := 1) hx12 (by omega), nI_le (b := 30) hx13 (by decide)⟩) rfl ?_
      refine sx_RP.step (pc2 := 20) (ls2 := [(0, .ref 111), (1, .int (nI x2)), (2, .int (nI x11))]) (st2 := []) (w3 := w) rfl rfl ?_
      refine sx_RP.step (pc2 := 21) (ls2 := [(0, .ref 111), (1, .int (nI x2)), (2, .int (nI x11))]) (st2 := [.int 0]) (w3 := w) rfl rfl ?_
      refine sx_RP.step (pc2 := 22) (ls2 := [(3, .int 0), (0, .ref 111), (1, .int (nI x2)), (2, .int (nI x11))]) (st2 := []) (w3 := w) rfl rfl ?_
      refine sx_RP.step (pc2 := 23) (ls2 := [(3, .int 0), (0, .ref 111), (1, .int (nI x2)), (2, .int (nI x11))]) (st2 := [.int 0]) (w3 := w) rfl rfl ?_
      refine sx_RP.step (pc2 := 25) (ls2 := [(4, .int 0), (3, .int 0), (0, .ref 111), (1, .int (nI x2)), (2, .int (nI x11))]) (st2 := []) (w3 := w) rfl rfl ?_
      exact sx_RP.ls (sx_lr.cons rfl (sx_lr.cons rfl (sx_lr.cons rfl (sx_lr.cons rfl (sx_lr.cons rfl sx_lr.nil))))) (K201L (show x2 < 48 by omega) (show x11 ≤ 30 by omega) 48 0 w 0 (by omega) (by omega) hI hE )
set_option maxRecDepth 20000 in
set_option maxHeartbeats 4000000 in
theorem K233 {xs : Option (List Int32)} {d : Nat} {w : List sx_C} (hI : WI w) {k i : Nat} (hk : k < 4) (hi : i < 40) (v : Int64) : sx_RP xs d 233 0 (lv_args 0 [.ref 111, .int (nI k), .int (nI i), .long v]) [] w (fun r w2 => (r = none) ∧ WI w2 ∧ EK w w2) := by
  have hE : EK w w := EK.rf
  refine sx_RP.step (pc2 := 1) (ls2 := [(0, .ref 111), (1, .int (nI k)), (2, .int (nI i)), (3, .long v)]) (st2 := [.ref 111]) (w3 := w) rfl rfl ?_
  refine sx_RP.gf (v := .ref 124) rfl rfl hI.1.o111 rfl rfl (show _ = 4 from rfl) ?_
  refine sx_RP.step (pc2 := 6) (ls2 := [(0, .ref 111), (1, .int (nI k)), (2, .int (nI i)), (3, .long v)]) (st2 := [.int 40, .ref 124]) (w3 := w) rfl rfl ?_
  refine sx_RP.step (pc2 := 7) (ls2 := [(0, .ref 111), (1, .int (nI k)), (2, .int (nI i)), (3, .long v)]) (st2 := [.int (nI k), .int 40, .ref 124]) (w3 := w) rfl rfl ?_
  refine sx_RP.step (pc2 := 8) (ls2 := [(0, .ref 111), (1, .int (nI k)), (2, .int (nI i)), (3, .long v)]) (st2 := [.int (40 * (nI k)), .ref 124]) (w3 := w) rfl rfl ?_
  rw [show (40 * (nI k) : Int32) = nI (40 * k) from nI_mul 40 k]
  refine sx_RP.step (pc2 := 9) (ls2 := [(0, .ref 111), (1, .int (nI k)), (2, .int (nI i)), (3, .long v)]) (st2 := [.int (nI i), .int (nI (40 * k)), .ref 124]) (w3 := w) rfl rfl ?_
  refine sx_RP.step (pc2 := 10) (ls2 := [(0, .ref 111), (1, .int (nI k)), (2, .int (nI i)), (3, .long v)]) (st2 := [.int ((nI (40 * k)) + (nI i)), .ref 124]) (w3 := w) rfl rfl ?_
  rw [show ((nI (40 * k)) + (nI i) : Int32) = nI ((40 * k) + i) from nI_add (40 * k) i]
  refine sx_RP.step (pc2 := 11) (ls2 := [(0, .ref 111), (1, .int (nI k)), (2, .int (nI i)), (3, .long v)]) (st2 := [.ref 111, .int (nI ((40 * k) + i)), .ref 124]) (w3 := w) rfl rfl ?_
  refine sx_RP.gf (v := .ref 122) rfl rfl hI.1.o111 rfl rfl (show _ = 14 from rfl) ?_
  refine sx_RP.step (pc2 := 15) (ls2 := [(0, .ref 111), (1, .int (nI k)), (2, .int (nI i)), (3, .long v)]) (st2 := [.int (nI k), .ref 122, .int (nI ((40 * k) + i)), .ref 124]) (w3 := w) rfl rfl ?_
  refine sx_RP.ild (c := k) rfl hI.1.a122.1 hI.1.a122.2 (sx_in_nI (show k < 4 by omega) (by decide)) (show (nI k).toNatClampNeg = k from nI_clamp (by omega)) (show _ = 16 from rfl) ?_
  refine sx_RP.step (pc2 := 18) (ls2 := [(0, .ref 111), (1, .int (nI k)), (2, .int (nI i)), (3, .long v)]) (st2 := [.int 8, .int ((ia w 122).getD k 0), .int (nI ((40 * k) + i)), .ref 124]) (w3 := w) rfl rfl ?_
  refine sx_RP.br (p1 := 28) (l1 := [(0, .ref 111), (1, .int (nI k)), (2, .int (nI i)), (3, .long v)]) (s1 := [.int (nI ((40 * k) + i)), .ref 124]) (v1 := w) (p2 := 21) (l2 := [(0, .ref 111), (1, .int (nI k)), (2, .int (nI i)), (3, .long v)]) (s2 := [.int (nI ((40 * k) + i)), .ref 124]) (v2 := w) rfl rfl (fun q1 => ?_) (fun q1 => ?_)
  · replace q1 := of_decide_eq_true q1
    refine sx_RP.step (pc2 := 29) (ls2 := [(0, .ref 111), (1, .int (nI k)), (2, .int (nI i)), (3, .long v)]) (st2 := [.ref 111, .int (nI ((40 * k) + i)), .ref 124]) (w3 := w) rfl rfl ?_
    refine sx_RP.gf (v := .ref 122) rfl rfl hI.1.o111 rfl rfl (show _ = 32 from rfl) ?_
    refine sx_RP.step (pc2 := 33) (ls2 := [(0, .ref 111), (1, .int (nI k)), (2, .int (nI i)), (3, .long v)]) (st2 := [.int (nI k), .ref 122, .int (nI ((40 * k) + i)), .ref 124]) (w3 := w) rfl rfl ?_
    refine sx_RP.ild (c := k) rfl hI.1.a122.1 hI.1.a122.2 (sx_in_nI (show k < 4 by omega) (by decide)) (show (nI k).toNatClampNeg = k from nI_clamp (by omega)) (show _ = 34 from rfl) ?_
    refine sx_RP.step (pc2 := 36) (ls2 := [(0, .ref 111), (1, .int (nI k)), (2, .int (nI i)), (3, .long v)]) (st2 := [.int 16, .int ((ia w 122).getD k 0), .int (nI ((40 * k) + i)), .ref 124]) (w3 := w) rfl rfl ?_
    refine sx_RP.br (p1 := 46) (l1 := [(0, .ref 111), (1, .int (nI k)), (2, .int (nI i)), (3, .long v)]) (s1 := [.int (nI ((40 * k) + i)), .ref 124]) (v1 := w) (p2 := 39) (l2 := [(0, .ref 111), (1, .int (nI k)), (2, .int (nI i)), (3, .long v)]) (s2 := [.int (nI ((40 * k) + i)), .ref 124]) (v2 := w) rfl rfl (fun q2 => ?_) (fun q2 => ?_)
    · replace q2 := of_decide_eq_true q2
      refine sx_RP.step (pc2 := 47) (ls2 := [(0, .ref 111), (1, .int (nI k)), (2, .int (nI i)), (3, .long v)]) (st2 := [.long v, .int (nI ((40 * k) + i)), .ref 124]) (w3 := w) rfl rfl ?_
      refine sx_RP.mNK hI hE rfl hI.1.a124 (sx_in_nI (show ((40 * k) + i) < 160 by omega) (by decide)) (by decide) (show _ = 48 from rfl) (fun w3 hI4 hE5 hk6 => ?_)
      refine sx_RP.ret (r := none) rfl rfl ?_
      exact ⟨rfl, hI4, hE5⟩
    · replace q2 := Decidable.not_not.mp (of_decide_eq_false q2)
      refine sx_RP.step (pc2 := 40) (ls2 := [(0, .ref 111), (1, .int (nI k)), (2, .int (nI i)), (3, .long v)]) (st2 := [.long v, .int (nI ((40 * k) + i)), .ref 124]) (w3 := w) rfl rfl ?_
      refine sx_RP.step (pc2 := 41) (ls2 := [(0, .ref 111), (1, .int (nI k)), (2, .int (nI i)), (3, .long v)]) (st2 := [.int v.toInt32, .int (nI ((40 * k) + i)), .ref 124]) (w3 := w) rfl rfl ?_
      refine sx_RP.step (pc2 := 42) (ls2 := [(0, .ref 111), (1, .int (nI k)), (2, .int (nI i)), (3, .long v)]) (st2 := [.int v.toInt32.toInt16.toInt32, .int (nI ((40 * k) + i)), .ref 124]) (w3 := w) rfl rfl ?_
      refine sx_RP.step (pc2 := 43) (ls2 := [(0, .ref 111), (1, .int (nI k)), (2, .int (nI i)), (3, .long v)]) (st2 := [.long v.toInt32.toInt16.toInt32.toInt64, .int (nI ((40 * k) + i)), .ref 124]) (w3 := w) rfl rfl ?_
      refine sx_RP.step (pc2 := 47) (ls2 := [(0, .ref 111), (1, .int (nI k)), (2, .int (nI i)), (3, .long v)]) (st2 := [.long v.toInt32.toInt16.toInt32.toInt64, .int (nI ((40 * k) + i)), .ref 124]) (w3 := w) rfl rfl ?_
      refine sx_RP.mNK hI hE rfl hI.1.a124 (sx_in_nI (show ((40 * k) + i) < 160 by omega) (by decide)) (by decide) (show _ = 48 from rfl) (fun w7 hI8 hE9 hk10 => ?_)
      refine sx_RP.ret (r := none) rfl rfl ?_
      exact ⟨rfl, hI8, hE9⟩
  · replace q1 := Decidable.not_not.mp (of_decide_eq_false q1)
    refine sx_RP.step (pc2 := 22) (ls2 := [(0, .ref 111), (1, .int (nI k)), (2, .int (nI i)), (3, .long v)]) (st2 := [.long v, .int (nI ((40 * k) + i)), .ref 124]) (w3 := w) rfl rfl ?_
    refine sx_RP.step (pc2 := 23) (ls2 := [(0, .ref 111), (1, .int (nI k)), (2, .int (nI i)), (3, .long v)]) (st2 := [.int v.toInt32, .int (nI ((40 * k) + i)), .ref 124]) (w3 := w) rfl rfl ?_
    refine sx_RP.step (pc2 := 24) (ls2 := [(0, .ref 111), (1, .int (nI k)), (2, .int (nI i)), (3, .long v)]) (st2 := [.int v.toInt32.toInt8.toInt32, .int (nI ((40 * k) + i)), .ref 124]) (w3 := w) rfl rfl ?_
    refine sx_RP.step (pc2 := 25) (ls2 := [(0, .ref 111), (1, .int (nI k)), (2, .int (nI i)), (3, .long v)]) (st2 := [.long v.toInt32.toInt8.toInt32.toInt64, .int (nI ((40 * k) + i)), .ref 124]) (w3 := w) rfl rfl ?_
    refine sx_RP.step (pc2 := 47) (ls2 := [(0, .ref 111), (1, .int (nI k)), (2, .int (nI i)), (3, .long v)]) (st2 := [.long v.toInt32.toInt8.toInt32.toInt64, .int (nI ((40 * k) + i)), .ref 124]) (w3 := w) rfl rfl ?_
    refine sx_RP.mNK hI hE rfl hI.1.a124 (sx_in_nI (show ((40 * k) + i) < 160 by omega) (by decide)) (by decide) (show _ = 48 from rfl) (fun w11 hI12 hE13 hk14 => ?_)
    refine sx_RP.ret (r := none) rfl rfl ?_
    exact ⟨rfl, hI12, hE13⟩
set_option maxRecDepth 20000 in
set_option maxHeartbeats 4000000 in
theorem K232 {xs : Option (List Int32)} {d : Nat} {w : List sx_C} (hI : WI w) (a1 a2 : Int32) (v : Int64) : sx_RP xs (d + 7) 232 0 (lv_args 0 [.ref 111, .int a1, .int a2, .long v]) [] w (fun r w2 => (∃ v : Int64, r = some (.long v)) ∧ WI w2 ∧ EK w w2) := by
  have hE : EK w w := EK.rf
  refine sx_RP.step (pc2 := 1) (ls2 := [(0, .ref 111), (1, .int a1), (2, .int a2), (3, .long v)]) (st2 := [.int a1]) (w3 := w) rfl rfl ?_
  rcases in_cases a1 0 3 (m := 0) (n := 3) rfl rfl (by decide) (by decide) with q1 | ⟨x2, hx3, hx4, rfl⟩
  · refine sx_RP.cu (as := [.int a1]) (rest2 := []) (st3 := [.int 0]) rfl rfl rfl rfl rfl (cx_231n q1) rfl ?_
    refine sx_RP.step (pc2 := 7) (ls2 := [(0, .ref 111), (1, .int a1), (2, .int a2), (3, .long v)]) (st2 := []) (w3 := w) rfl rfl ?_
    refine sx_RP.step (pc2 := 8) (ls2 := [(0, .ref 111), (1, .int a1), (2, .int a2), (3, .long v)]) (st2 := [.ref 111]) (w3 := w) rfl rfl ?_
    refine sx_RP.step (pc2 := 9) (ls2 := [(0, .ref 111), (1, .int a1), (2, .int a2), (3, .long v)]) (st2 := [.int 0, .ref 111]) (w3 := w) rfl rfl ?_
    refine sx_RP.callp (as2 := [.ref 111, .int 0]) (rest2 := []) rfl rfl (sx_inv_v2 (mi := 232) (k := 70) (st := [.int 0, .ref 111]) (w := w) rfl rfl hI.1.o111 rfl rfl rfl) rfl rfl rfl (K133_0 hI) (show _ = 12 from rfl) ?_
    rintro r4 w6 ⟨rfl, hI7, hE9⟩
    have hE8 := hE.tr (hE9)
    show sx_RP _ _ _ _ _ [.int (-1000000001)] _ _
    refine sx_RP.step (pc2 := 13) (ls2 := [(0, .ref 111), (1, .int a1), (2, .int a2), (3, .long v)]) (st2 := [.long (-1000000001)]) (w3 := w6) rfl rfl ?_
    refine sx_RP.ret (r := (some (.long (-1000000001)))) rfl rfl ?_
    exact ⟨⟨_, rfl⟩, hI7, hE8⟩
  · refine sx_RP.cu (as := [.int (nI x2)]) (rest2 := []) (st3 := [.int 1]) rfl rfl rfl rfl rfl (cx_231p ⟨nI_le (a := 0) hx3 (by omega), nI_le (b := 3) hx4 (by decide)⟩) rfl ?_
    refine sx_RP.step (pc2 := 14) (ls2 := [(0, .ref 111), (1, .int (nI x2)), (2, .int a2), (3, .long v)]) (st2 := []) (w3 := w) rfl rfl ?_
    refine sx_RP.step (pc2 := 15) (ls2 := [(0, .ref 111), (1, .int (nI x2)), (2, .int a2), (3, .long v)]) (st2 := [.ref 111]) (w3 := w) rfl rfl ?_
    refine sx_RP.gf (v := .ref 122) rfl rfl hI.1.o111 rfl rfl (show _ = 18 from rfl) ?_
    refine sx_RP.step (pc2 := 19) (ls2 := [(0, .ref 111), (1, .int (nI x2)), (2, .int a2), (3, .long v)]) (st2 := [.int (nI x2), .ref 122]) (w3 := w) rfl rfl ?_
    refine sx_RP.ild (c := x2) rfl hI.1.a122.1 hI.1.a122.2 (sx_in_nI (show x2 < 4 by omega) (by decide)) (show (nI x2).toNatClampNeg = x2 from nI_clamp (by omega)) (show _ = 20 from rfl) ?_
    refine sx_RP.br (p1 := 30) (l1 := [(0, .ref 111), (1, .int (nI x2)), (2, .int a2), (3, .long v)]) (s1 := []) (v1 := w) (p2 := 23) (l2 := [(0, .ref 111), (1, .int (nI x2)), (2, .int a2), (3, .long v)]) (s2 := []) (v2 := w) rfl rfl (fun q10 => ?_) (fun q10 => ?_)
    · replace q10 := of_decide_eq_true q10
      refine sx_RP.step (pc2 := 31) (ls2 := [(0, .ref 111), (1, .int (nI x2)), (2, .int a2), (3, .long v)]) (st2 := [.int a2]) (w3 := w) rfl rfl ?_
      refine sx_RP.step (pc2 := 32) (ls2 := [(0, .ref 111), (1, .int (nI x2)), (2, .int a2), (3, .long v)]) (st2 := [.int 0, .int a2]) (w3 := w) rfl rfl ?_
      refine sx_RP.step (pc2 := 33) (ls2 := [(0, .ref 111), (1, .int (nI x2)), (2, .int a2), (3, .long v)]) (st2 := [.ref 111, .int 0, .int a2]) (w3 := w) rfl rfl ?_
      refine sx_RP.gf (v := .ref 123) rfl rfl hI.1.o111 rfl rfl (show _ = 36 from rfl) ?_
      refine sx_RP.step (pc2 := 37) (ls2 := [(0, .ref 111), (1, .int (nI x2)), (2, .int a2), (3, .long v)]) (st2 := [.int (nI x2), .ref 123, .int 0, .int a2]) (w3 := w) rfl rfl ?_
      refine sx_RP.ild (c := x2) rfl hI.1.a123.1 hI.1.a123.2 (sx_in_nI (show x2 < 4 by omega) (by decide)) (show (nI x2).toNatClampNeg = x2 from nI_clamp (by omega)) (show _ = 38 from rfl) ?_
      obtain ⟨x11, hx12, ex13⟩ : inR ((ia w 123).getD x2 0) 40 := hI.l (show x2 < 4 by omega)
      rw [ex13]
      refine sx_RP.step (pc2 := 39) (ls2 := [(0, .ref 111), (1, .int (nI x2)), (2, .int a2), (3, .long v)]) (st2 := [.int 1, .int (nI x11), .int 0, .int a2]) (w3 := w) rfl rfl ?_
      refine sx_RP.step (pc2 := 40) (ls2 := [(0, .ref 111), (1, .int (nI x2)), (2, .int a2), (3, .long v)]) (st2 := [.int ((nI x11) - 1), .int 0, .int a2]) (w3 := w) rfl rfl ?_
      rcases in_casesS a2 (n := x11) (by omega) with q14 | ⟨q14, x15, hx16, rfl⟩
      · refine sx_RP.cu (as := [.int a2, .int 0, .int ((nI x11) - 1)]) (rest2 := []) (st3 := [.int 0]) rfl rfl rfl rfl rfl (cx_132o q14) rfl ?_
        refine sx_RP.step (pc2 := 46) (ls2 := [(0, .ref 111), (1, .int (nI x2)), (2, .int a2), (3, .long v)]) (st2 := []) (w3 := w) rfl rfl ?_
        refine sx_RP.step (pc2 := 47) (ls2 := [(0, .ref 111), (1, .int (nI x2)), (2, .int a2), (3, .long v)]) (st2 := [.ref 111]) (w3 := w) rfl rfl ?_
        refine sx_RP.step (pc2 := 48) (ls2 := [(0, .ref 111), (1, .int (nI x2)), (2, .int a2), (3, .long v)]) (st2 := [.int 0, .ref 111]) (w3 := w) rfl rfl ?_
        refine sx_RP.callp (as2 := [.ref 111, .int 0]) (rest2 := []) rfl rfl (sx_inv_v2 (mi := 232) (k := 70) (st := [.int 0, .ref 111]) (w := w) rfl rfl hI.1.o111 rfl rfl rfl) rfl rfl rfl (K133_0 hI) (show _ = 51 from rfl) ?_
        rintro r4 w18 ⟨rfl, hI19, hE21⟩
        have hE20 := hE.tr (hE21)
        show sx_RP _ _ _ _ _ [.int (-1000000001)] _ _
        refine sx_RP.step (pc2 := 52) (ls2 := [(0, .ref 111), (1, .int (nI x2)), (2, .int a2), (3, .long v)]) (st2 := [.long (-1000000001)]) (w3 := w18) rfl rfl ?_
        refine sx_RP.ret (r := (some (.long (-1000000001)))) rfl rfl ?_
        exact ⟨⟨_, rfl⟩, hI19, hE20⟩
      · refine sx_RP.cu (as := [.int (nI x15), .int 0, .int ((nI x11) - 1)]) (rest2 := []) (st3 := [.int 1]) rfl rfl rfl rfl rfl (cx_132p q14) rfl ?_
        refine sx_RP.step (pc2 := 53) (ls2 := [(0, .ref 111), (1, .int (nI x2)), (2, .int (nI x15)), (3, .long v)]) (st2 := []) (w3 := w) rfl rfl ?_
        refine sx_RP.step (pc2 := 54) (ls2 := [(0, .ref 111), (1, .int (nI x2)), (2, .int (nI x15)), (3, .long v)]) (st2 := [.ref 111]) (w3 := w) rfl rfl ?_
        refine sx_RP.gf (v := .ref 124) rfl rfl hI.1.o111 rfl rfl (show _ = 57 from rfl) ?_
        refine sx_RP.step (pc2 := 59) (ls2 := [(0, .ref 111), (1, .int (nI x2)), (2, .int (nI x15)), (3, .long v)]) (st2 := [.int 40, .ref 124]) (w3 := w) rfl rfl ?_
        refine sx_RP.step (pc2 := 60) (ls2 := [(0, .ref 111), (1, .int (nI x2)), (2, .int (nI x15)), (3, .long v)]) (st2 := [.int (nI x2), .int 40, .ref 124]) (w3 := w) rfl rfl ?_
        refine sx_RP.step (pc2 := 61) (ls2 := [(0, .ref 111), (1, .int (nI x2)), (2, .int (nI x15)), (3, .long v)]) (st2 := [.int (40 * (nI x2)), .ref 124]) (w3 := w) rfl rfl ?_
        rw [show (40 * (nI x2) : Int32) = nI (40 * x2) from nI_mul 40 x2]
        refine sx_RP.step (pc2 := 62) (ls2 := [(0, .ref 111), (1, .int (nI x2)), (2, .int (nI x15)), (3, .long v)]) (st2 := [.int (nI x15), .int (nI (40 * x2)), .ref 124]) (w3 := w) rfl rfl ?_
        refine sx_RP.step (pc2 := 63) (ls2 := [(0, .ref 111), (1, .int (nI x2)), (2, .int (nI x15)), (3, .long v)]) (st2 := [.int ((nI (40 * x2)) + (nI x15)), .ref 124]) (w3 := w) rfl rfl ?_
        rw [show ((nI (40 * x2)) + (nI x15) : Int32) = nI ((40 * x2) + x15) from nI_add (40 * x2) x15]
        refine sx_RP.lld (c := ((40 * x2) + x15)) rfl hI.1.a124.1 hI.1.a124.2 (sx_in_nI (show ((40 * x2) + x15) < 160 by omega) (by decide)) (show (nI ((40 * x2) + x15)).toNatClampNeg = ((40 * x2) + x15) from nI_clamp (by omega)) (show _ = 64 from rfl) ?_
        refine sx_RP.step (pc2 := 66) (ls2 := [(5, .long ((ja w 124).getD ((40 * x2) + x15) 0)), (0, .ref 111), (1, .int (nI x2)), (2, .int (nI x15)), (3, .long v)]) (st2 := []) (w3 := w) rfl rfl ?_
        refine sx_RP.step (pc2 := 67) (ls2 := [(5, .long ((ja w 124).getD ((40 * x2) + x15) 0)), (0, .ref 111), (1, .int (nI x2)), (2, .int (nI x15)), (3, .long v)]) (st2 := [.ref 111]) (w3 := w) rfl rfl ?_
        refine sx_RP.step (pc2 := 68) (ls2 := [(5, .long ((ja w 124).getD ((40 * x2) + x15) 0)), (0, .ref 111), (1, .int (nI x2)), (2, .int (nI x15)), (3, .long v)]) (st2 := [.int (nI x2), .ref 111]) (w3 := w) rfl rfl ?_
        refine sx_RP.step (pc2 := 69) (ls2 := [(5, .long ((ja w 124).getD ((40 * x2) + x15) 0)), (0, .ref 111), (1, .int (nI x2)), (2, .int (nI x15)), (3, .long v)]) (st2 := [.int (nI x15), .int (nI x2), .ref 111]) (w3 := w) rfl rfl ?_
        refine sx_RP.step (pc2 := 70) (ls2 := [(5, .long ((ja w 124).getD ((40 * x2) + x15) 0)), (0, .ref 111), (1, .int (nI x2)), (2, .int (nI x15)), (3, .long v)]) (st2 := [.long v, .int (nI x15), .int (nI x2), .ref 111]) (w3 := w) rfl rfl ?_
        refine sx_RP.callp (as2 := [.ref 111, .int (nI x2), .int (nI x15), .long v]) (rest2 := []) rfl rfl (sx_inv_v2 (mi := 232) (k := 339) (st := [.long v, .int (nI x15), .int (nI x2), .ref 111]) (w := w) rfl rfl hI.1.o111 rfl rfl rfl) rfl rfl rfl (K233 hI (show x2 < 4 by omega) (show x15 < 40 by omega) v) (show _ = 73 from rfl) ?_
        rintro r4 w22 ⟨rfl, hI23, hE25⟩
        have hE24 := hE.tr (hE25)
        show sx_RP _ _ _ _ _ [] _ _
        refine sx_RP.step (pc2 := 75) (ls2 := [(5, .long ((ja w 124).getD ((40 * x2) + x15) 0)), (0, .ref 111), (1, .int (nI x2)), (2, .int (nI x15)), (3, .long v)]) (st2 := [.long ((ja w 124).getD ((40 * x2) + x15) 0)]) (w3 := w22) rfl rfl ?_
        refine sx_RP.ret (r := (some (.long ((ja w 124).getD ((40 * x2) + x15) 0)))) rfl rfl ?_
        exact ⟨⟨_, rfl⟩, hI23, hE24⟩
    · replace q10 := Decidable.not_not.mp (of_decide_eq_false q10)
      refine sx_RP.step (pc2 := 24) (ls2 := [(0, .ref 111), (1, .int (nI x2)), (2, .int a2), (3, .long v)]) (st2 := [.ref 111]) (w3 := w) rfl rfl ?_
      refine sx_RP.step (pc2 := 25) (ls2 := [(0, .ref 111), (1, .int (nI x2)), (2, .int a2), (3, .long v)]) (st2 := [.int 5, .ref 111]) (w3 := w) rfl rfl ?_
      refine sx_RP.callp (as2 := [.ref 111, .int 5]) (rest2 := []) rfl rfl (sx_inv_v2 (mi := 232) (k := 70) (st := [.int 5, .ref 111]) (w := w) rfl rfl hI.1.o111 rfl rfl rfl) rfl rfl rfl (K133_5 hI) (show _ = 28 from rfl) ?_
      rintro r4 w26 ⟨rfl, hI27, hE29⟩
      have hE28 := hE.tr (hE29)
      show sx_RP _ _ _ _ _ [.int (-1000000006)] _ _
      refine sx_RP.step (pc2 := 29) (ls2 := [(0, .ref 111), (1, .int (nI x2)), (2, .int a2), (3, .long v)]) (st2 := [.long (-1000000006)]) (w3 := w26) rfl rfl ?_
      refine sx_RP.ret (r := (some (.long (-1000000006)))) rfl rfl ?_
      exact ⟨⟨_, rfl⟩, hI27, hE28⟩
set_option maxRecDepth 20000 in
set_option maxHeartbeats 4000000 in
theorem K235B {xs : Option (List Int32)} {d : Nat} {w w0 : List sx_C} {k c : Nat} (hk : k < 4) (hc : c < 48) (hI : WI w) (hE : EK w0 w) {j : Nat} (hj : j ≤ 40) (m : Int32) (kk : ∀ (w4 : List sx_C) (um : Int32), WI w4 → EK w0 w4 → j + 1 ≤ 40 → sx_RP xs (d + 7) 235 46 [(0, .ref 111), (1, .int (nI k)), (2, .int (nI c)), (3, .int um), (4, .int (nI (j + 1)))] [] w4 (fun r w2 => (∃ v : Int32, r = some (.int v)) ∧ WI w2 ∧ EK w0 w2)) : sx_RP xs (d + 7) 235 46 [(0, .ref 111), (1, .int (nI k)), (2, .int (nI c)), (3, .int m), (4, .int (nI j))] [] w (fun r w2 => (∃ v : Int32, r = some (.int v)) ∧ WI w2 ∧ EK w0 w2) := by
  refine sx_RP.step (pc2 := 48) (ls2 := [(0, .ref 111), (1, .int (nI k)), (2, .int (nI c)), (3, .int m), (4, .int (nI j))]) (st2 := [.int (nI j)]) (w3 := w) rfl rfl ?_
  refine sx_RP.step (pc2 := 49) (ls2 := [(0, .ref 111), (1, .int (nI k)), (2, .int (nI c)), (3, .int m), (4, .int (nI j))]) (st2 := [.ref 111, .int (nI j)]) (w3 := w) rfl rfl ?_
  refine sx_RP.gf (v := .ref 123) rfl rfl hI.1.o111 rfl rfl (show _ = 52 from rfl) ?_
  refine sx_RP.step (pc2 := 53) (ls2 := [(0, .ref 111), (1, .int (nI k)), (2, .int (nI c)), (3, .int m), (4, .int (nI j))]) (st2 := [.int (nI k), .ref 123, .int (nI j)]) (w3 := w) rfl rfl ?_
  refine sx_RP.ild (c := k) rfl hI.1.a123.1 hI.1.a123.2 (sx_in_nI (show k < 4 by omega) (by decide)) (show (nI k).toNatClampNeg = k from nI_clamp (by omega)) (show _ = 54 from rfl) ?_
  obtain ⟨x1, hx2, ex3⟩ : inR ((ia w 123).getD k 0) 40 := hI.l (show k < 4 by omega)
  rw [ex3]
  refine sx_RP.br (p1 := 120) (l1 := [(0, .ref 111), (1, .int (nI k)), (2, .int (nI c)), (3, .int m), (4, .int (nI j))]) (s1 := []) (v1 := w) (p2 := 57) (l2 := [(0, .ref 111), (1, .int (nI k)), (2, .int (nI c)), (3, .int m), (4, .int (nI j))]) (s2 := []) (v2 := w) rfl rfl (fun q4 => ?_) (fun q4 => ?_)
  · replace q4 := of_decide_eq_true q4
    replace q4 := (nI_leI (a := x1) (b := j) (by omega) (by omega)).mp q4
    refine sx_RP.step (pc2 := 121) (ls2 := [(0, .ref 111), (1, .int (nI k)), (2, .int (nI c)), (3, .int m), (4, .int (nI j))]) (st2 := [.int m]) (w3 := w) rfl rfl ?_
    refine sx_RP.ret (r := (some (.int m))) rfl rfl ?_
    exact ⟨⟨_, rfl⟩, hI, hE⟩
  · replace q4 := of_decide_eq_false q4
    replace q4 := mt (nI_leI (a := x1) (b := j) (by omega) (by omega)).mpr q4
    refine sx_RP.step (pc2 := 58) (ls2 := [(0, .ref 111), (1, .int (nI k)), (2, .int (nI c)), (3, .int m), (4, .int (nI j))]) (st2 := [.int (nI c)]) (w3 := w) rfl rfl ?_
    refine sx_RP.step (pc2 := 60) (ls2 := [(0, .ref 111), (1, .int (nI k)), (2, .int (nI c)), (3, .int m), (4, .int (nI j))]) (st2 := [.int (nI j), .int (nI c)]) (w3 := w) rfl rfl ?_
    refine sx_RP.step (pc2 := 61) (ls2 := [(0, .ref 111), (1, .int (nI k)), (2, .int (nI c)), (3, .int m), (4, .int (nI j))]) (st2 := [.int ((nI c) + (nI j))]) (w3 := w) rfl rfl ?_
    rw [show ((nI c) + (nI j) : Int32) = nI (c + j) from nI_add c j]
    refine sx_RP.step (pc2 := 63) (ls2 := [(0, .ref 111), (1, .int (nI k)), (2, .int (nI c)), (3, .int m), (4, .int (nI j))]) (st2 := [.int 48, .int (nI (c + j))]) (w3 := w) rfl rfl ?_
    refine sx_RP.br (p1 := 120) (l1 := [(0, .ref 111), (1, .int (nI k)), (2, .int (nI c)), (3, .int m), (4, .int (nI j))]) (s1 := []) (v1 := w) (p2 := 66) (l2 := [(0, .ref 111), (1, .int (nI k)), (2, .int (nI c)), (3, .int m), (4, .int (nI j))]) (s2 := []) (v2 := w) rfl rfl (fun q5 => ?_) (fun q5 => ?_)
    · replace q5 := of_decide_eq_true q5
      replace q5 := (nI_leI (a := 48) (b := (c + j)) (by omega) (by omega)).mp q5
      refine sx_RP.step (pc2 := 121) (ls2 := [(0, .ref 111), (1, .int (nI k)), (2, .int (nI c)), (3, .int m), (4, .int (nI j))]) (st2 := [.int m]) (w3 := w) rfl rfl ?_
      refine sx_RP.ret (r := (some (.int m))) rfl rfl ?_
      exact ⟨⟨_, rfl⟩, hI, hE⟩
    · replace q5 := of_decide_eq_false q5
      replace q5 := mt (nI_leI (a := 48) (b := (c + j)) (by omega) (by omega)).mpr q5
      refine sx_RP.step (pc2 := 67) (ls2 := [(0, .ref 111), (1, .int (nI k)), (2, .int (nI c)), (3, .int m), (4, .int (nI j))]) (st2 := [.ref 111]) (w3 := w) rfl rfl ?_
      refine sx_RP.gf (v := .ref 124) rfl rfl hI.1.o111 rfl rfl (show _ = 70 from rfl) ?_
      refine sx_RP.step (pc2 := 72) (ls2 := [(0, .ref 111), (1, .int (nI k)), (2, .int (nI c)), (3, .int m), (4, .int (nI j))]) (st2 := [.int 40, .ref 124]) (w3 := w) rfl rfl ?_
      refine sx_RP.step (pc2 := 73) (ls2 := [(0, .ref 111), (1, .int (nI k)), (2, .int (nI c)), (3, .int m), (4, .int (nI j))]) (st2 := [.int (nI k), .int 40, .ref 124]) (w3 := w) rfl rfl ?_
      refine sx_RP.step (pc2 := 74) (ls2 := [(0, .ref 111), (1, .int (nI k)), (2, .int (nI c)), (3, .int m), (4, .int (nI j))]) (st2 := [.int (40 * (nI k)), .ref 124]) (w3 := w) rfl rfl ?_
      rw [show (40 * (nI k) : Int32) = nI (40 * k) from nI_mul 40 k]
      refine sx_RP.step (pc2 := 76) (ls2 := [(0, .ref 111), (1, .int (nI k)), (2, .int (nI c)), (3, .int m), (4, .int (nI j))]) (st2 := [.int (nI j), .int (nI (40 * k)), .ref 124]) (w3 := w) rfl rfl ?_
      refine sx_RP.step (pc2 := 77) (ls2 := [(0, .ref 111), (1, .int (nI k)), (2, .int (nI c)), (3, .int m), (4, .int (nI j))]) (st2 := [.int ((nI (40 * k)) + (nI j)), .ref 124]) (w3 := w) rfl rfl ?_
      rw [show ((nI (40 * k)) + (nI j) : Int32) = nI ((40 * k) + j) from nI_add (40 * k) j]
      refine sx_RP.lld (c := ((40 * k) + j)) rfl hI.1.a124.1 hI.1.a124.2 (sx_in_nI (show ((40 * k) + j) < 160 by omega) (by decide)) (show (nI ((40 * k) + j)).toNatClampNeg = ((40 * k) + j) from nI_clamp (by omega)) (show _ = 78 from rfl) ?_
      refine sx_RP.step (pc2 := 80) (ls2 := [(5, .long ((ja w 124).getD ((40 * k) + j) 0)), (0, .ref 111), (1, .int (nI k)), (2, .int (nI c)), (3, .int m), (4, .int (nI j))]) (st2 := []) (w3 := w) rfl rfl ?_
      refine sx_RP.step (pc2 := 82) (ls2 := [(5, .long ((ja w 124).getD ((40 * k) + j) 0)), (0, .ref 111), (1, .int (nI k)), (2, .int (nI c)), (3, .int m), (4, .int (nI j))]) (st2 := [.long ((ja w 124).getD ((40 * k) + j) 0)]) (w3 := w) rfl rfl ?_
      refine sx_RP.step (pc2 := 83) (ls2 := [(5, .long ((ja w 124).getD ((40 * k) + j) 0)), (0, .ref 111), (1, .int (nI k)), (2, .int (nI c)), (3, .int m), (4, .int (nI j))]) (st2 := [.long 0, .long ((ja w 124).getD ((40 * k) + j) 0)]) (w3 := w) rfl rfl ?_
      refine sx_RP.step (pc2 := 84) (ls2 := [(5, .long ((ja w 124).getD ((40 * k) + j) 0)), (0, .ref 111), (1, .int (nI k)), (2, .int (nI c)), (3, .int m), (4, .int (nI j))]) (st2 := [.int (lg_cmp ((ja w 124).getD ((40 * k) + j) 0) 0)]) (w3 := w) rfl rfl ?_
      refine sx_RP.br (p1 := 114) (l1 := [(5, .long ((ja w 124).getD ((40 * k) + j) 0)), (0, .ref 111), (1, .int (nI k)), (2, .int (nI c)), (3, .int m), (4, .int (nI j))]) (s1 := []) (v1 := w) (p2 := 87) (l2 := [(5, .long ((ja w 124).getD ((40 * k) + j) 0)), (0, .ref 111), (1, .int (nI k)), (2, .int (nI c)), (3, .int m), (4, .int (nI j))]) (s2 := []) (v2 := w) rfl rfl (fun q6 => ?_) (fun q6 => ?_)
      · replace q6 := of_decide_eq_true q6
        refine sx_RP.step (pc2 := 117) (ls2 := [(4, .int ((nI j) + 1)), (5, .long ((ja w 124).getD ((40 * k) + j) 0)), (0, .ref 111), (1, .int (nI k)), (2, .int (nI c)), (3, .int m)]) (st2 := []) (w3 := w) rfl rfl ?_
        rw [nI_1 j]
        refine sx_RP.step (pc2 := 46) (ls2 := [(4, .int (nI (j + 1))), (5, .long ((ja w 124).getD ((40 * k) + j) 0)), (0, .ref 111), (1, .int (nI k)), (2, .int (nI c)), (3, .int m)]) (st2 := []) (w3 := w) rfl rfl ?_
        exact sx_RP.ls (sx_lr.cons rfl (sx_lr.cons rfl (sx_lr.cons rfl (sx_lr.cons rfl (sx_lr.cons rfl sx_lr.nil))))) (kk w m hI hE (by omega))
      · replace q6 := of_decide_eq_false q6
        refine sx_RP.step (pc2 := 89) (ls2 := [(5, .long ((ja w 124).getD ((40 * k) + j) 0)), (0, .ref 111), (1, .int (nI k)), (2, .int (nI c)), (3, .int m), (4, .int (nI j))]) (st2 := [.long ((ja w 124).getD ((40 * k) + j) 0)]) (w3 := w) rfl rfl ?_
        refine sx_RP.step (pc2 := 92) (ls2 := [(5, .long ((ja w 124).getD ((40 * k) + j) 0)), (0, .ref 111), (1, .int (nI k)), (2, .int (nI c)), (3, .int m), (4, .int (nI j))]) (st2 := [.long 3, .long ((ja w 124).getD ((40 * k) + j) 0)]) (w3 := w) rfl rfl ?_
        refine sx_RP.step (pc2 := 93) (ls2 := [(5, .long ((ja w 124).getD ((40 * k) + j) 0)), (0, .ref 111), (1, .int (nI k)), (2, .int (nI c)), (3, .int m), (4, .int (nI j))]) (st2 := [.int (lg_cmp ((ja w 124).getD ((40 * k) + j) 0) 3)]) (w3 := w) rfl rfl ?_
        refine sx_RP.br (p1 := 114) (l1 := [(5, .long ((ja w 124).getD ((40 * k) + j) 0)), (0, .ref 111), (1, .int (nI k)), (2, .int (nI c)), (3, .int m), (4, .int (nI j))]) (s1 := []) (v1 := w) (p2 := 96) (l2 := [(5, .long ((ja w 124).getD ((40 * k) + j) 0)), (0, .ref 111), (1, .int (nI k)), (2, .int (nI c)), (3, .int m), (4, .int (nI j))]) (s2 := []) (v2 := w) rfl rfl (fun q7 => ?_) (fun q7 => ?_)
        · replace q7 := of_decide_eq_true q7
          refine sx_RP.step (pc2 := 117) (ls2 := [(4, .int ((nI j) + 1)), (5, .long ((ja w 124).getD ((40 * k) + j) 0)), (0, .ref 111), (1, .int (nI k)), (2, .int (nI c)), (3, .int m)]) (st2 := []) (w3 := w) rfl rfl ?_
          rw [nI_1 j]
          refine sx_RP.step (pc2 := 46) (ls2 := [(4, .int (nI (j + 1))), (5, .long ((ja w 124).getD ((40 * k) + j) 0)), (0, .ref 111), (1, .int (nI k)), (2, .int (nI c)), (3, .int m)]) (st2 := []) (w3 := w) rfl rfl ?_
          exact sx_RP.ls (sx_lr.cons rfl (sx_lr.cons rfl (sx_lr.cons rfl (sx_lr.cons rfl (sx_lr.cons rfl sx_lr.nil))))) (kk w m hI hE (by omega))
        · replace q7 := of_decide_eq_false q7
          refine sx_RP.step (pc2 := 97) (ls2 := [(5, .long ((ja w 124).getD ((40 * k) + j) 0)), (0, .ref 111), (1, .int (nI k)), (2, .int (nI c)), (3, .int m), (4, .int (nI j))]) (st2 := [.ref 111]) (w3 := w) rfl rfl ?_
          refine sx_RP.gf (v := .ref 112) rfl rfl hI.1.o111 rfl rfl (show _ = 100 from rfl) ?_
          refine sx_RP.step (pc2 := 102) (ls2 := [(5, .long ((ja w 124).getD ((40 * k) + j) 0)), (0, .ref 111), (1, .int (nI k)), (2, .int (nI c)), (3, .int m), (4, .int (nI j))]) (st2 := [.int 7, .ref 112]) (w3 := w) rfl rfl ?_
          refine sx_RP.step (pc2 := 103) (ls2 := [(5, .long ((ja w 124).getD ((40 * k) + j) 0)), (0, .ref 111), (1, .int (nI k)), (2, .int (nI c)), (3, .int m), (4, .int (nI j))]) (st2 := [.int (nI c), .int 7, .ref 112]) (w3 := w) rfl rfl ?_
          refine sx_RP.step (pc2 := 104) (ls2 := [(5, .long ((ja w 124).getD ((40 * k) + j) 0)), (0, .ref 111), (1, .int (nI k)), (2, .int (nI c)), (3, .int m), (4, .int (nI j))]) (st2 := [.int (7 + (nI c)), .ref 112]) (w3 := w) rfl rfl ?_
          rw [show (7 + (nI c) : Int32) = nI (7 + c) from nI_add 7 c]
          refine sx_RP.step (pc2 := 106) (ls2 := [(5, .long ((ja w 124).getD ((40 * k) + j) 0)), (0, .ref 111), (1, .int (nI k)), (2, .int (nI c)), (3, .int m), (4, .int (nI j))]) (st2 := [.int (nI j), .int (nI (7 + c)), .ref 112]) (w3 := w) rfl rfl ?_
          refine sx_RP.step (pc2 := 107) (ls2 := [(5, .long ((ja w 124).getD ((40 * k) + j) 0)), (0, .ref 111), (1, .int (nI k)), (2, .int (nI c)), (3, .int m), (4, .int (nI j))]) (st2 := [.int ((nI (7 + c)) + (nI j)), .ref 112]) (w3 := w) rfl rfl ?_
          rw [show ((nI (7 + c)) + (nI j) : Int32) = nI ((7 + c) + j) from nI_add (7 + c) j]
          refine sx_RP.step (pc2 := 109) (ls2 := [(5, .long ((ja w 124).getD ((40 * k) + j) 0)), (0, .ref 111), (1, .int (nI k)), (2, .int (nI c)), (3, .int m), (4, .int (nI j))]) (st2 := [.long ((ja w 124).getD ((40 * k) + j) 0), .int (nI ((7 + c) + j)), .ref 112]) (w3 := w) rfl rfl ?_
          refine sx_RP.step (pc2 := 110) (ls2 := [(5, .long ((ja w 124).getD ((40 * k) + j) 0)), (0, .ref 111), (1, .int (nI k)), (2, .int (nI c)), (3, .int m), (4, .int (nI j))]) (st2 := [.int (((ja w 124).getD ((40 * k) + j) 0).toInt32), .int (nI ((7 + c) + j)), .ref 112]) (w3 := w) rfl rfl ?_
          obtain ⟨x8, hx9, ex10⟩ := lay_rng q6 q7
          rw [ex10]
          refine sx_RP.mSK (k := ((7 + c) + j)) hI hE (by omega) (by decide) rfl rfl (by omega) (eOK_st (by omega) (inR.n (show x8 ≤ 3 by omega))) (show _ = 111 from rfl) (fun w11 hI12 hE13 hk14 => ?_)
          refine sx_RP.step (pc2 := 114) (ls2 := [(3, .int (m + 1)), (5, .long ((ja w 124).getD ((40 * k) + j) 0)), (0, .ref 111), (1, .int (nI k)), (2, .int (nI c)), (4, .int (nI j))]) (st2 := []) (w3 := w11) rfl rfl ?_
          refine sx_RP.step (pc2 := 117) (ls2 := [(4, .int ((nI j) + 1)), (3, .int (m + 1)), (5, .long ((ja w 124).getD ((40 * k) + j) 0)), (0, .ref 111), (1, .int (nI k)), (2, .int (nI c))]) (st2 := []) (w3 := w11) rfl rfl ?_
          rw [nI_1 j]
          refine sx_RP.step (pc2 := 46) (ls2 := [(4, .int (nI (j + 1))), (3, .int (m + 1)), (5, .long ((ja w 124).getD ((40 * k) + j) 0)), (0, .ref 111), (1, .int (nI k)), (2, .int (nI c))]) (st2 := []) (w3 := w11) rfl rfl ?_
          exact sx_RP.ls (sx_lr.cons rfl (sx_lr.cons rfl (sx_lr.cons rfl (sx_lr.cons rfl (sx_lr.cons rfl sx_lr.nil))))) (kk w11 (m + 1) hI12 hE13 (by omega))
set_option maxRecDepth 20000 in
set_option maxHeartbeats 4000000 in
theorem K235L {xs : Option (List Int32)} {d : Nat} {w0 : List sx_C} {k c : Nat} (hk : k < 4) (hc : c < 48) : ∀ (fz j : Nat) (w : List sx_C) (m : Int32) , 40 ≤ j + fz * 1 → j ≤ 40 → WI w → EK w0 w → sx_RP xs (d + 7) 235 46 [(0, .ref 111), (1, .int (nI k)), (2, .int (nI c)), (3, .int m), (4, .int (nI j))] [] w (fun r w2 => (∃ v : Int32, r = some (.int v)) ∧ WI w2 ∧ EK w0 w2)
  | 0, j, w, m, h, hj, hI, hE => K235B hk hc hI hE hj m  (fun w4 um hI4 hE4 hlt  => absurd hlt (by omega)) 
  | fz + 1, j, w, m, h, hj, hI, hE => K235B hk hc hI hE hj m  (fun w4 um hI4 hE4 hlt  => K235L hk hc  fz (j + 1) w4 um (by omega) hlt hI4 hE4 ) 
set_option maxRecDepth 20000 in
set_option maxHeartbeats 4000000 in
theorem K235 {xs : Option (List Int32)} {d : Nat} {w : List sx_C} (hI : WI w) (a1 a2 : Int32) : sx_RP xs (d + 7) 235 0 (lv_args 0 [.ref 111, .int a1, .int a2]) [] w (fun r w2 => (∃ v : Int32, r = some (.int v)) ∧ WI w2 ∧ EK w w2) := by
  have hE : EK w w := EK.rf
  refine sx_RP.step (pc2 := 1) (ls2 := [(0, .ref 111), (1, .int a1), (2, .int a2)]) (st2 := [.int a1]) (w3 := w) rfl rfl ?_
  rcases in_cases a1 0 3 (m := 0) (n := 3) rfl rfl (by decide) (by decide) with q1 | ⟨x2, hx3, hx4, rfl⟩
  · refine sx_RP.cu (as := [.int a1]) (rest2 := []) (st3 := [.int 0]) rfl rfl rfl rfl rfl (cx_231n q1) rfl ?_
    refine sx_RP.step (pc2 := 7) (ls2 := [(0, .ref 111), (1, .int a1), (2, .int a2)]) (st2 := []) (w3 := w) rfl rfl ?_
    refine sx_RP.step (pc2 := 8) (ls2 := [(0, .ref 111), (1, .int a1), (2, .int a2)]) (st2 := [.ref 111]) (w3 := w) rfl rfl ?_
    refine sx_RP.step (pc2 := 9) (ls2 := [(0, .ref 111), (1, .int a1), (2, .int a2)]) (st2 := [.int 0, .ref 111]) (w3 := w) rfl rfl ?_
    refine sx_RP.callp (as2 := [.ref 111, .int 0]) (rest2 := []) rfl rfl (sx_inv_v2 (mi := 235) (k := 70) (st := [.int 0, .ref 111]) (w := w) rfl rfl hI.1.o111 rfl rfl rfl) rfl rfl rfl (K133_0 hI) (show _ = 12 from rfl) ?_
    rintro r4 w6 ⟨rfl, hI7, hE9⟩
    have hE8 := hE.tr (hE9)
    show sx_RP _ _ _ _ _ [.int (-1000000001)] _ _
    refine sx_RP.ret (r := (some (.int (-1000000001)))) rfl rfl ?_
    exact ⟨⟨_, rfl⟩, hI7, hE8⟩
  · refine sx_RP.cu (as := [.int (nI x2)]) (rest2 := []) (st3 := [.int 1]) rfl rfl rfl rfl rfl (cx_231p ⟨nI_le (a := 0) hx3 (by omega), nI_le (b := 3) hx4 (by decide)⟩) rfl ?_
    refine sx_RP.step (pc2 := 13) (ls2 := [(0, .ref 111), (1, .int (nI x2)), (2, .int a2)]) (st2 := []) (w3 := w) rfl rfl ?_
    refine sx_RP.step (pc2 := 14) (ls2 := [(0, .ref 111), (1, .int (nI x2)), (2, .int a2)]) (st2 := [.ref 111]) (w3 := w) rfl rfl ?_
    refine sx_RP.gf (v := .ref 122) rfl rfl hI.1.o111 rfl rfl (show _ = 17 from rfl) ?_
    refine sx_RP.step (pc2 := 18) (ls2 := [(0, .ref 111), (1, .int (nI x2)), (2, .int a2)]) (st2 := [.int (nI x2), .ref 122]) (w3 := w) rfl rfl ?_
    refine sx_RP.ild (c := x2) rfl hI.1.a122.1 hI.1.a122.2 (sx_in_nI (show x2 < 4 by omega) (by decide)) (show (nI x2).toNatClampNeg = x2 from nI_clamp (by omega)) (show _ = 19 from rfl) ?_
    refine sx_RP.br (p1 := 28) (l1 := [(0, .ref 111), (1, .int (nI x2)), (2, .int a2)]) (s1 := []) (v1 := w) (p2 := 22) (l2 := [(0, .ref 111), (1, .int (nI x2)), (2, .int a2)]) (s2 := []) (v2 := w) rfl rfl (fun q10 => ?_) (fun q10 => ?_)
    · replace q10 := of_decide_eq_true q10
      refine sx_RP.step (pc2 := 29) (ls2 := [(0, .ref 111), (1, .int (nI x2)), (2, .int a2)]) (st2 := [.int a2]) (w3 := w) rfl rfl ?_
      rcases in_cases a2 0 47 (m := 0) (n := 47) rfl rfl (by decide) (by decide) with q11 | ⟨x12, hx13, hx14, rfl⟩
      · refine sx_RP.cu (as := [.int a2]) (rest2 := []) (st3 := [.int 0]) rfl rfl rfl rfl rfl (cx_131n q11) rfl ?_
        refine sx_RP.step (pc2 := 35) (ls2 := [(0, .ref 111), (1, .int (nI x2)), (2, .int a2)]) (st2 := []) (w3 := w) rfl rfl ?_
        refine sx_RP.step (pc2 := 36) (ls2 := [(0, .ref 111), (1, .int (nI x2)), (2, .int a2)]) (st2 := [.ref 111]) (w3 := w) rfl rfl ?_
        refine sx_RP.step (pc2 := 37) (ls2 := [(0, .ref 111), (1, .int (nI x2)), (2, .int a2)]) (st2 := [.int 0, .ref 111]) (w3 := w) rfl rfl ?_
        refine sx_RP.callp (as2 := [.ref 111, .int 0]) (rest2 := []) rfl rfl (sx_inv_v2 (mi := 235) (k := 70) (st := [.int 0, .ref 111]) (w := w) rfl rfl hI.1.o111 rfl rfl rfl) rfl rfl rfl (K133_0 hI) (show _ = 40 from rfl) ?_
        rintro r4 w16 ⟨rfl, hI17, hE19⟩
        have hE18 := hE.tr (hE19)
        show sx_RP _ _ _ _ _ [.int (-1000000001)] _ _
        refine sx_RP.ret (r := (some (.int (-1000000001)))) rfl rfl ?_
        exact ⟨⟨_, rfl⟩, hI17, hE18⟩
      · refine sx_RP.cu (as := [.int (nI x12)]) (rest2 := []) (st3 := [.int 1]) rfl rfl rfl rfl rfl (cx_131p ⟨nI_le (a := 0) hx13 (by omega), nI_le (b := 47) hx14 (by decide)⟩) rfl ?_
        refine sx_RP.step (pc2 := 41) (ls2 := [(0, .ref 111), (1, .int (nI x2)), (2, .int (nI x12))]) (st2 := []) (w3 := w) rfl rfl ?_
        refine sx_RP.step (pc2 := 42) (ls2 := [(0, .ref 111), (1, .int (nI x2)), (2, .int (nI x12))]) (st2 := [.int 0]) (w3 := w) rfl rfl ?_
        refine sx_RP.step (pc2 := 43) (ls2 := [(3, .int 0), (0, .ref 111), (1, .int (nI x2)), (2, .int (nI x12))]) (st2 := []) (w3 := w) rfl rfl ?_
        refine sx_RP.step (pc2 := 44) (ls2 := [(3, .int 0), (0, .ref 111), (1, .int (nI x2)), (2, .int (nI x12))]) (st2 := [.int 0]) (w3 := w) rfl rfl ?_
        refine sx_RP.step (pc2 := 46) (ls2 := [(4, .int 0), (3, .int 0), (0, .ref 111), (1, .int (nI x2)), (2, .int (nI x12))]) (st2 := []) (w3 := w) rfl rfl ?_
        exact sx_RP.ls (sx_lr.cons rfl (sx_lr.cons rfl (sx_lr.cons rfl (sx_lr.cons rfl (sx_lr.cons rfl sx_lr.nil))))) (K235L (show x2 < 4 by omega) (show x12 < 48 by omega) 40 0 w 0 (by omega) (by omega) hI hE )
    · replace q10 := Decidable.not_not.mp (of_decide_eq_false q10)
      refine sx_RP.step (pc2 := 23) (ls2 := [(0, .ref 111), (1, .int (nI x2)), (2, .int a2)]) (st2 := [.ref 111]) (w3 := w) rfl rfl ?_
      refine sx_RP.step (pc2 := 24) (ls2 := [(0, .ref 111), (1, .int (nI x2)), (2, .int a2)]) (st2 := [.int 5, .ref 111]) (w3 := w) rfl rfl ?_
      refine sx_RP.callp (as2 := [.ref 111, .int 5]) (rest2 := []) rfl rfl (sx_inv_v2 (mi := 235) (k := 70) (st := [.int 5, .ref 111]) (w := w) rfl rfl hI.1.o111 rfl rfl rfl) rfl rfl rfl (K133_5 hI) (show _ = 27 from rfl) ?_
      rintro r4 w20 ⟨rfl, hI21, hE23⟩
      have hE22 := hE.tr (hE23)
      show sx_RP _ _ _ _ _ [.int (-1000000006)] _ _
      refine sx_RP.ret (r := (some (.int (-1000000006)))) rfl rfl ?_
      exact ⟨⟨_, rfl⟩, hI21, hE22⟩
set_option maxRecDepth 20000 in
set_option maxHeartbeats 4000000 in
theorem K234bB {xs : Option (List Int32)} {d : Nat} {w w0 : List sx_C} {s f t g n : Nat} (hs : s < 4) (ht : t < 4) (hf : f + n ≤ 40) (hg : g + n ≤ 40) (hI : WI w) (hE : EK w0 w) {j : Nat} (hj : j ≤ 40) (kk : ∀ (w4 : List sx_C), WI w4 → EK w0 w4 → j + 1 ≤ 40 → sx_RP xs (d + 7) 234 152 [(0, .ref 111), (1, .int (nI s)), (2, .int (nI f)), (3, .int (nI t)), (4, .int (nI g)), (5, .int (nI n)), (6, .int (nI (j + 1)))] [] w4 (fun r w2 => (∃ v : Int32, r = some (.int v)) ∧ WI w2 ∧ EK w0 w2)) : sx_RP xs (d + 7) 234 152 [(0, .ref 111), (1, .int (nI s)), (2, .int (nI f)), (3, .int (nI t)), (4, .int (nI g)), (5, .int (nI n)), (6, .int (nI j))] [] w (fun r w2 => (∃ v : Int32, r = some (.int v)) ∧ WI w2 ∧ EK w0 w2) := by
  refine sx_RP.step (pc2 := 154) (ls2 := [(0, .ref 111), (1, .int (nI s)), (2, .int (nI f)), (3, .int (nI t)), (4, .int (nI g)), (5, .int (nI n)), (6, .int (nI j))]) (st2 := [.int (nI j)]) (w3 := w) rfl rfl ?_
  refine sx_RP.step (pc2 := 156) (ls2 := [(0, .ref 111), (1, .int (nI s)), (2, .int (nI f)), (3, .int (nI t)), (4, .int (nI g)), (5, .int (nI n)), (6, .int (nI j))]) (st2 := [.int (nI n), .int (nI j)]) (w3 := w) rfl rfl ?_
  refine sx_RP.br (p1 := 187) (l1 := [(0, .ref 111), (1, .int (nI s)), (2, .int (nI f)), (3, .int (nI t)), (4, .int (nI g)), (5, .int (nI n)), (6, .int (nI j))]) (s1 := []) (v1 := w) (p2 := 159) (l2 := [(0, .ref 111), (1, .int (nI s)), (2, .int (nI f)), (3, .int (nI t)), (4, .int (nI g)), (5, .int (nI n)), (6, .int (nI j))]) (s2 := []) (v2 := w) rfl rfl (fun q1 => ?_) (fun q1 => ?_)
  · replace q1 := of_decide_eq_true q1
    replace q1 := (nI_leI (a := n) (b := j) (by omega) (by omega)).mp q1
    refine sx_RP.step (pc2 := 189) (ls2 := [(0, .ref 111), (1, .int (nI s)), (2, .int (nI f)), (3, .int (nI t)), (4, .int (nI g)), (5, .int (nI n)), (6, .int (nI j))]) (st2 := [.int (nI n)]) (w3 := w) rfl rfl ?_
    refine sx_RP.ret (r := (some (.int (nI n)))) rfl rfl ?_
    exact ⟨⟨_, rfl⟩, hI, hE⟩
  · replace q1 := of_decide_eq_false q1
    replace q1 := mt (nI_leI (a := n) (b := j) (by omega) (by omega)).mpr q1
    refine sx_RP.step (pc2 := 160) (ls2 := [(0, .ref 111), (1, .int (nI s)), (2, .int (nI f)), (3, .int (nI t)), (4, .int (nI g)), (5, .int (nI n)), (6, .int (nI j))]) (st2 := [.ref 111]) (w3 := w) rfl rfl ?_
    refine sx_RP.gf (v := .ref 124) rfl rfl hI.1.o111 rfl rfl (show _ = 163 from rfl) ?_
    refine sx_RP.step (pc2 := 165) (ls2 := [(0, .ref 111), (1, .int (nI s)), (2, .int (nI f)), (3, .int (nI t)), (4, .int (nI g)), (5, .int (nI n)), (6, .int (nI j))]) (st2 := [.int 40, .ref 124]) (w3 := w) rfl rfl ?_
    refine sx_RP.step (pc2 := 166) (ls2 := [(0, .ref 111), (1, .int (nI s)), (2, .int (nI f)), (3, .int (nI t)), (4, .int (nI g)), (5, .int (nI n)), (6, .int (nI j))]) (st2 := [.int (nI t), .int 40, .ref 124]) (w3 := w) rfl rfl ?_
    refine sx_RP.step (pc2 := 167) (ls2 := [(0, .ref 111), (1, .int (nI s)), (2, .int (nI f)), (3, .int (nI t)), (4, .int (nI g)), (5, .int (nI n)), (6, .int (nI j))]) (st2 := [.int (40 * (nI t)), .ref 124]) (w3 := w) rfl rfl ?_
    rw [show (40 * (nI t) : Int32) = nI (40 * t) from nI_mul 40 t]
    refine sx_RP.step (pc2 := 169) (ls2 := [(0, .ref 111), (1, .int (nI s)), (2, .int (nI f)), (3, .int (nI t)), (4, .int (nI g)), (5, .int (nI n)), (6, .int (nI j))]) (st2 := [.int (nI g), .int (nI (40 * t)), .ref 124]) (w3 := w) rfl rfl ?_
    refine sx_RP.step (pc2 := 170) (ls2 := [(0, .ref 111), (1, .int (nI s)), (2, .int (nI f)), (3, .int (nI t)), (4, .int (nI g)), (5, .int (nI n)), (6, .int (nI j))]) (st2 := [.int ((nI (40 * t)) + (nI g)), .ref 124]) (w3 := w) rfl rfl ?_
    rw [show ((nI (40 * t)) + (nI g) : Int32) = nI ((40 * t) + g) from nI_add (40 * t) g]
    refine sx_RP.step (pc2 := 172) (ls2 := [(0, .ref 111), (1, .int (nI s)), (2, .int (nI f)), (3, .int (nI t)), (4, .int (nI g)), (5, .int (nI n)), (6, .int (nI j))]) (st2 := [.int (nI j), .int (nI ((40 * t) + g)), .ref 124]) (w3 := w) rfl rfl ?_
    refine sx_RP.step (pc2 := 173) (ls2 := [(0, .ref 111), (1, .int (nI s)), (2, .int (nI f)), (3, .int (nI t)), (4, .int (nI g)), (5, .int (nI n)), (6, .int (nI j))]) (st2 := [.int ((nI ((40 * t) + g)) + (nI j)), .ref 124]) (w3 := w) rfl rfl ?_
    rw [show ((nI ((40 * t) + g)) + (nI j) : Int32) = nI (((40 * t) + g) + j) from nI_add ((40 * t) + g) j]
    refine sx_RP.step (pc2 := 174) (ls2 := [(0, .ref 111), (1, .int (nI s)), (2, .int (nI f)), (3, .int (nI t)), (4, .int (nI g)), (5, .int (nI n)), (6, .int (nI j))]) (st2 := [.ref 111, .int (nI (((40 * t) + g) + j)), .ref 124]) (w3 := w) rfl rfl ?_
    refine sx_RP.gf (v := .ref 125) rfl rfl hI.1.o111 rfl rfl (show _ = 177 from rfl) ?_
    refine sx_RP.step (pc2 := 179) (ls2 := [(0, .ref 111), (1, .int (nI s)), (2, .int (nI f)), (3, .int (nI t)), (4, .int (nI g)), (5, .int (nI n)), (6, .int (nI j))]) (st2 := [.int (nI j), .ref 125, .int (nI (((40 * t) + g) + j)), .ref 124]) (w3 := w) rfl rfl ?_
    refine sx_RP.lld (c := j) rfl hI.1.a125.1 hI.1.a125.2 (sx_in_nI (show j < 40 by omega) (by decide)) (show (nI j).toNatClampNeg = j from nI_clamp (by omega)) (show _ = 180 from rfl) ?_
    refine sx_RP.mNK hI hE rfl hI.1.a124 (sx_in_nI (show (((40 * t) + g) + j) < 160 by omega) (by decide)) (by decide) (show _ = 181 from rfl) (fun w2 hI3 hE4 hk5 => ?_)
    refine sx_RP.step (pc2 := 184) (ls2 := [(6, .int ((nI j) + 1)), (0, .ref 111), (1, .int (nI s)), (2, .int (nI f)), (3, .int (nI t)), (4, .int (nI g)), (5, .int (nI n))]) (st2 := []) (w3 := w2) rfl rfl ?_
    rw [nI_1 j]
    refine sx_RP.step (pc2 := 152) (ls2 := [(6, .int (nI (j + 1))), (0, .ref 111), (1, .int (nI s)), (2, .int (nI f)), (3, .int (nI t)), (4, .int (nI g)), (5, .int (nI n))]) (st2 := []) (w3 := w2) rfl rfl ?_
    exact sx_RP.ls (sx_lr.cons rfl (sx_lr.cons rfl (sx_lr.cons rfl (sx_lr.cons rfl (sx_lr.cons rfl (sx_lr.cons rfl (sx_lr.cons rfl sx_lr.nil))))))) (kk w2 hI3 hE4 (by omega))
set_option maxRecDepth 20000 in
set_option maxHeartbeats 4000000 in
theorem K234bL {xs : Option (List Int32)} {d : Nat} {w0 : List sx_C} {s f t g n : Nat} (hs : s < 4) (ht : t < 4) (hf : f + n ≤ 40) (hg : g + n ≤ 40) : ∀ (fz j : Nat) (w : List sx_C) , 40 ≤ j + fz * 1 → j ≤ 40 → WI w → EK w0 w → sx_RP xs (d + 7) 234 152 [(0, .ref 111), (1, .int (nI s)), (2, .int (nI f)), (3, .int (nI t)), (4, .int (nI g)), (5, .int (nI n)), (6, .int (nI j))] [] w (fun r w2 => (∃ v : Int32, r = some (.int v)) ∧ WI w2 ∧ EK w0 w2)
  | 0, j, w, h, hj, hI, hE => K234bB hs ht hf hg hI hE hj   (fun w4  hI4 hE4 hlt  => absurd hlt (by omega)) 
  | fz + 1, j, w, h, hj, hI, hE => K234bB hs ht hf hg hI hE hj   (fun w4  hI4 hE4 hlt  => K234bL hs ht hf hg  fz (j + 1) w4  (by omega) hlt hI4 hE4 ) 
set_option maxRecDepth 20000 in
set_option maxHeartbeats 4000000 in
theorem K234aB {xs : Option (List Int32)} {d : Nat} {w w0 : List sx_C} {s f t g n : Nat} (hs : s < 4) (ht : t < 4) (hf : f + n ≤ 40) (hg : g + n ≤ 40) (hI : WI w) (hE : EK w0 w) {j : Nat} (hj : j ≤ 40) (kk : ∀ (w4 : List sx_C), WI w4 → EK w0 w4 → j + 1 ≤ 40 → sx_RP xs (d + 7) 234 115 [(0, .ref 111), (1, .int (nI s)), (2, .int (nI f)), (3, .int (nI t)), (4, .int (nI g)), (5, .int (nI n)), (6, .int (nI (j + 1)))] [] w4 (fun r w2 => (∃ v : Int32, r = some (.int v)) ∧ WI w2 ∧ EK w0 w2)) (kx149 : ∀ (w4 : List sx_C), WI w4 → EK w0 w4 → sx_RP xs (d + 7) 234 149 [(0, .ref 111), (1, .int (nI s)), (2, .int (nI f)), (3, .int (nI t)), (4, .int (nI g)), (5, .int (nI n))] [] w4 (fun r w2 => (∃ v : Int32, r = some (.int v)) ∧ WI w2 ∧ EK w0 w2)) : sx_RP xs (d + 7) 234 115 [(0, .ref 111), (1, .int (nI s)), (2, .int (nI f)), (3, .int (nI t)), (4, .int (nI g)), (5, .int (nI n)), (6, .int (nI j))] [] w (fun r w2 => (∃ v : Int32, r = some (.int v)) ∧ WI w2 ∧ EK w0 w2) := by
  refine sx_RP.step (pc2 := 117) (ls2 := [(0, .ref 111), (1, .int (nI s)), (2, .int (nI f)), (3, .int (nI t)), (4, .int (nI g)), (5, .int (nI n)), (6, .int (nI j))]) (st2 := [.int (nI j)]) (w3 := w) rfl rfl ?_
  refine sx_RP.step (pc2 := 119) (ls2 := [(0, .ref 111), (1, .int (nI s)), (2, .int (nI f)), (3, .int (nI t)), (4, .int (nI g)), (5, .int (nI n)), (6, .int (nI j))]) (st2 := [.int (nI n), .int (nI j)]) (w3 := w) rfl rfl ?_
  refine sx_RP.br (p1 := 149) (l1 := [(0, .ref 111), (1, .int (nI s)), (2, .int (nI f)), (3, .int (nI t)), (4, .int (nI g)), (5, .int (nI n)), (6, .int (nI j))]) (s1 := []) (v1 := w) (p2 := 122) (l2 := [(0, .ref 111), (1, .int (nI s)), (2, .int (nI f)), (3, .int (nI t)), (4, .int (nI g)), (5, .int (nI n)), (6, .int (nI j))]) (s2 := []) (v2 := w) rfl rfl (fun q1 => ?_) (fun q1 => ?_)
  · replace q1 := of_decide_eq_true q1
    replace q1 := (nI_leI (a := n) (b := j) (by omega) (by omega)).mp q1
    exact sx_RP.ls (sx_lr.cons rfl (sx_lr.cons rfl (sx_lr.cons rfl (sx_lr.cons rfl (sx_lr.cons rfl (sx_lr.cons rfl sx_lr.nil)))))) (kx149 w hI hE)
  · replace q1 := of_decide_eq_false q1
    replace q1 := mt (nI_leI (a := n) (b := j) (by omega) (by omega)).mpr q1
    refine sx_RP.step (pc2 := 123) (ls2 := [(0, .ref 111), (1, .int (nI s)), (2, .int (nI f)), (3, .int (nI t)), (4, .int (nI g)), (5, .int (nI n)), (6, .int (nI j))]) (st2 := [.ref 111]) (w3 := w) rfl rfl ?_
    refine sx_RP.gf (v := .ref 125) rfl rfl hI.1.o111 rfl rfl (show _ = 126 from rfl) ?_
    refine sx_RP.step (pc2 := 128) (ls2 := [(0, .ref 111), (1, .int (nI s)), (2, .int (nI f)), (3, .int (nI t)), (4, .int (nI g)), (5, .int (nI n)), (6, .int (nI j))]) (st2 := [.int (nI j), .ref 125]) (w3 := w) rfl rfl ?_
    refine sx_RP.step (pc2 := 129) (ls2 := [(0, .ref 111), (1, .int (nI s)), (2, .int (nI f)), (3, .int (nI t)), (4, .int (nI g)), (5, .int (nI n)), (6, .int (nI j))]) (st2 := [.ref 111, .int (nI j), .ref 125]) (w3 := w) rfl rfl ?_
    refine sx_RP.gf (v := .ref 124) rfl rfl hI.1.o111 rfl rfl (show _ = 132 from rfl) ?_
    refine sx_RP.step (pc2 := 134) (ls2 := [(0, .ref 111), (1, .int (nI s)), (2, .int (nI f)), (3, .int (nI t)), (4, .int (nI g)), (5, .int (nI n)), (6, .int (nI j))]) (st2 := [.int 40, .ref 124, .int (nI j), .ref 125]) (w3 := w) rfl rfl ?_
    refine sx_RP.step (pc2 := 135) (ls2 := [(0, .ref 111), (1, .int (nI s)), (2, .int (nI f)), (3, .int (nI t)), (4, .int (nI g)), (5, .int (nI n)), (6, .int (nI j))]) (st2 := [.int (nI s), .int 40, .ref 124, .int (nI j), .ref 125]) (w3 := w) rfl rfl ?_
    refine sx_RP.step (pc2 := 136) (ls2 := [(0, .ref 111), (1, .int (nI s)), (2, .int (nI f)), (3, .int (nI t)), (4, .int (nI g)), (5, .int (nI n)), (6, .int (nI j))]) (st2 := [.int (40 * (nI s)), .ref 124, .int (nI j), .ref 125]) (w3 := w) rfl rfl ?_
    rw [show (40 * (nI s) : Int32) = nI (40 * s) from nI_mul 40 s]
    refine sx_RP.step (pc2 := 137) (ls2 := [(0, .ref 111), (1, .int (nI s)), (2, .int (nI f)), (3, .int (nI t)), (4, .int (nI g)), (5, .int (nI n)), (6, .int (nI j))]) (st2 := [.int (nI f), .int (nI (40 * s)), .ref 124, .int (nI j), .ref 125]) (w3 := w) rfl rfl ?_
    refine sx_RP.step (pc2 := 138) (ls2 := [(0, .ref 111), (1, .int (nI s)), (2, .int (nI f)), (3, .int (nI t)), (4, .int (nI g)), (5, .int (nI n)), (6, .int (nI j))]) (st2 := [.int ((nI (40 * s)) + (nI f)), .ref 124, .int (nI j), .ref 125]) (w3 := w) rfl rfl ?_
    rw [show ((nI (40 * s)) + (nI f) : Int32) = nI ((40 * s) + f) from nI_add (40 * s) f]
    refine sx_RP.step (pc2 := 140) (ls2 := [(0, .ref 111), (1, .int (nI s)), (2, .int (nI f)), (3, .int (nI t)), (4, .int (nI g)), (5, .int (nI n)), (6, .int (nI j))]) (st2 := [.int (nI j), .int (nI ((40 * s) + f)), .ref 124, .int (nI j), .ref 125]) (w3 := w) rfl rfl ?_
    refine sx_RP.step (pc2 := 141) (ls2 := [(0, .ref 111), (1, .int (nI s)), (2, .int (nI f)), (3, .int (nI t)), (4, .int (nI g)), (5, .int (nI n)), (6, .int (nI j))]) (st2 := [.int ((nI ((40 * s) + f)) + (nI j)), .ref 124, .int (nI j), .ref 125]) (w3 := w) rfl rfl ?_
    rw [show ((nI ((40 * s) + f)) + (nI j) : Int32) = nI (((40 * s) + f) + j) from nI_add ((40 * s) + f) j]
    refine sx_RP.lld (c := (((40 * s) + f) + j)) rfl hI.1.a124.1 hI.1.a124.2 (sx_in_nI (show (((40 * s) + f) + j) < 160 by omega) (by decide)) (show (nI (((40 * s) + f) + j)).toNatClampNeg = (((40 * s) + f) + j) from nI_clamp (by omega)) (show _ = 142 from rfl) ?_
    refine sx_RP.mNK hI hE rfl hI.1.a125 (sx_in_nI (show j < 40 by omega) (by decide)) (by decide) (show _ = 143 from rfl) (fun w2 hI3 hE4 hk5 => ?_)
    refine sx_RP.step (pc2 := 146) (ls2 := [(6, .int ((nI j) + 1)), (0, .ref 111), (1, .int (nI s)), (2, .int (nI f)), (3, .int (nI t)), (4, .int (nI g)), (5, .int (nI n))]) (st2 := []) (w3 := w2) rfl rfl ?_
    rw [nI_1 j]
    refine sx_RP.step (pc2 := 115) (ls2 := [(6, .int (nI (j + 1))), (0, .ref 111), (1, .int (nI s)), (2, .int (nI f)), (3, .int (nI t)), (4, .int (nI g)), (5, .int (nI n))]) (st2 := []) (w3 := w2) rfl rfl ?_
    exact sx_RP.ls (sx_lr.cons rfl (sx_lr.cons rfl (sx_lr.cons rfl (sx_lr.cons rfl (sx_lr.cons rfl (sx_lr.cons rfl (sx_lr.cons rfl sx_lr.nil))))))) (kk w2 hI3 hE4 (by omega))
set_option maxRecDepth 20000 in
set_option maxHeartbeats 4000000 in
theorem K234aL {xs : Option (List Int32)} {d : Nat} {w0 : List sx_C} {s f t g n : Nat} (hs : s < 4) (ht : t < 4) (hf : f + n ≤ 40) (hg : g + n ≤ 40) (kx149 : ∀ (w4 : List sx_C), WI w4 → EK w0 w4 → sx_RP xs (d + 7) 234 149 [(0, .ref 111), (1, .int (nI s)), (2, .int (nI f)), (3, .int (nI t)), (4, .int (nI g)), (5, .int (nI n))] [] w4 (fun r w2 => (∃ v : Int32, r = some (.int v)) ∧ WI w2 ∧ EK w0 w2)) : ∀ (fz j : Nat) (w : List sx_C) , 40 ≤ j + fz * 1 → j ≤ 40 → WI w → EK w0 w → sx_RP xs (d + 7) 234 115 [(0, .ref 111), (1, .int (nI s)), (2, .int (nI f)), (3, .int (nI t)), (4, .int (nI g)), (5, .int (nI n)), (6, .int (nI j))] [] w (fun r w2 => (∃ v : Int32, r = some (.int v)) ∧ WI w2 ∧ EK w0 w2)
  | 0, j, w, h, hj, hI, hE => K234aB hs ht hf hg hI hE hj   (fun w4  hI4 hE4 hlt  => absurd hlt (by omega)) kx149
  | fz + 1, j, w, h, hj, hI, hE => K234aB hs ht hf hg hI hE hj   (fun w4  hI4 hE4 hlt  => K234aL hs ht hf hg kx149 fz (j + 1) w4  (by omega) hlt hI4 hE4 ) kx149
set_option maxRecDepth 20000 in
set_option maxHeartbeats 4000000 in
theorem K234 {xs : Option (List Int32)} {d : Nat} {w : List sx_C} (hI : WI w) (a1 a2 a3 a4 a5 : Int32) : sx_RP xs (d + 7) 234 0 (lv_args 0 [.ref 111, .int a1, .int a2, .int a3, .int a4, .int a5]) [] w (fun r w2 => (∃ v : Int32, r = some (.int v)) ∧ WI w2 ∧ EK w w2) := by
  have hE : EK w w := EK.rf
  refine sx_RP.step (pc2 := 1) (ls2 := [(0, .ref 111), (1, .int a1), (2, .int a2), (3, .int a3), (4, .int a4), (5, .int a5)]) (st2 := [.int a1]) (w3 := w) rfl rfl ?_
  rcases in_cases a1 0 3 (m := 0) (n := 3) rfl rfl (by decide) (by decide) with q1 | ⟨x2, hx3, hx4, rfl⟩
  · refine sx_RP.cu (as := [.int a1]) (rest2 := []) (st3 := [.int 0]) rfl rfl rfl rfl rfl (cx_231n q1) rfl ?_
    refine sx_RP.step (pc2 := 14) (ls2 := [(0, .ref 111), (1, .int a1), (2, .int a2), (3, .int a3), (4, .int a4), (5, .int a5)]) (st2 := []) (w3 := w) rfl rfl ?_
    refine sx_RP.step (pc2 := 15) (ls2 := [(0, .ref 111), (1, .int a1), (2, .int a2), (3, .int a3), (4, .int a4), (5, .int a5)]) (st2 := [.ref 111]) (w3 := w) rfl rfl ?_
    refine sx_RP.step (pc2 := 16) (ls2 := [(0, .ref 111), (1, .int a1), (2, .int a2), (3, .int a3), (4, .int a4), (5, .int a5)]) (st2 := [.int 0, .ref 111]) (w3 := w) rfl rfl ?_
    refine sx_RP.callp (as2 := [.ref 111, .int 0]) (rest2 := []) rfl rfl (sx_inv_v2 (mi := 234) (k := 70) (st := [.int 0, .ref 111]) (w := w) rfl rfl hI.1.o111 rfl rfl rfl) rfl rfl rfl (K133_0 hI) (show _ = 19 from rfl) ?_
    rintro r4 w6 ⟨rfl, hI7, hE9⟩
    have hE8 := hE.tr (hE9)
    show sx_RP _ _ _ _ _ [.int (-1000000001)] _ _
    refine sx_RP.ret (r := (some (.int (-1000000001)))) rfl rfl ?_
    exact ⟨⟨_, rfl⟩, hI7, hE8⟩
  · refine sx_RP.cu (as := [.int (nI x2)]) (rest2 := []) (st3 := [.int 1]) rfl rfl rfl rfl rfl (cx_231p ⟨nI_le (a := 0) hx3 (by omega), nI_le (b := 3) hx4 (by decide)⟩) rfl ?_
    refine sx_RP.step (pc2 := 7) (ls2 := [(0, .ref 111), (1, .int (nI x2)), (2, .int a2), (3, .int a3), (4, .int a4), (5, .int a5)]) (st2 := []) (w3 := w) rfl rfl ?_
    refine sx_RP.step (pc2 := 8) (ls2 := [(0, .ref 111), (1, .int (nI x2)), (2, .int a2), (3, .int a3), (4, .int a4), (5, .int a5)]) (st2 := [.int a3]) (w3 := w) rfl rfl ?_
    rcases in_cases a3 0 3 (m := 0) (n := 3) rfl rfl (by decide) (by decide) with q10 | ⟨x11, hx12, hx13, rfl⟩
    · refine sx_RP.cu (as := [.int a3]) (rest2 := []) (st3 := [.int 0]) rfl rfl rfl rfl rfl (cx_231n q10) rfl ?_
      refine sx_RP.step (pc2 := 14) (ls2 := [(0, .ref 111), (1, .int (nI x2)), (2, .int a2), (3, .int a3), (4, .int a4), (5, .int a5)]) (st2 := []) (w3 := w) rfl rfl ?_
      refine sx_RP.step (pc2 := 15) (ls2 := [(0, .ref 111), (1, .int (nI x2)), (2, .int a2), (3, .int a3), (4, .int a4), (5, .int a5)]) (st2 := [.ref 111]) (w3 := w) rfl rfl ?_
      refine sx_RP.step (pc2 := 16) (ls2 := [(0, .ref 111), (1, .int (nI x2)), (2, .int a2), (3, .int a3), (4, .int a4), (5, .int a5)]) (st2 := [.int 0, .ref 111]) (w3 := w) rfl rfl ?_
      refine sx_RP.callp (as2 := [.ref 111, .int 0]) (rest2 := []) rfl rfl (sx_inv_v2 (mi := 234) (k := 70) (st := [.int 0, .ref 111]) (w := w) rfl rfl hI.1.o111 rfl rfl rfl) rfl rfl rfl (K133_0 hI) (show _ = 19 from rfl) ?_
      rintro r4 w15 ⟨rfl, hI16, hE18⟩
      have hE17 := hE.tr (hE18)
      show sx_RP _ _ _ _ _ [.int (-1000000001)] _ _
      refine sx_RP.ret (r := (some (.int (-1000000001)))) rfl rfl ?_
      exact ⟨⟨_, rfl⟩, hI16, hE17⟩
    · refine sx_RP.cu (as := [.int (nI x11)]) (rest2 := []) (st3 := [.int 1]) rfl rfl rfl rfl rfl (cx_231p ⟨nI_le (a := 0) hx12 (by omega), nI_le (b := 3) hx13 (by decide)⟩) rfl ?_
      refine sx_RP.step (pc2 := 20) (ls2 := [(0, .ref 111), (1, .int (nI x2)), (2, .int a2), (3, .int (nI x11)), (4, .int a4), (5, .int a5)]) (st2 := []) (w3 := w) rfl rfl ?_
      refine sx_RP.step (pc2 := 21) (ls2 := [(0, .ref 111), (1, .int (nI x2)), (2, .int a2), (3, .int (nI x11)), (4, .int a4), (5, .int a5)]) (st2 := [.ref 111]) (w3 := w) rfl rfl ?_
      refine sx_RP.gf (v := .ref 122) rfl rfl hI.1.o111 rfl rfl (show _ = 24 from rfl) ?_
      refine sx_RP.step (pc2 := 25) (ls2 := [(0, .ref 111), (1, .int (nI x2)), (2, .int a2), (3, .int (nI x11)), (4, .int a4), (5, .int a5)]) (st2 := [.int (nI x2), .ref 122]) (w3 := w) rfl rfl ?_
      refine sx_RP.ild (c := x2) rfl hI.1.a122.1 hI.1.a122.2 (sx_in_nI (show x2 < 4 by omega) (by decide)) (show (nI x2).toNatClampNeg = x2 from nI_clamp (by omega)) (show _ = 26 from rfl) ?_
      refine sx_RP.br (p1 := 38) (l1 := [(0, .ref 111), (1, .int (nI x2)), (2, .int a2), (3, .int (nI x11)), (4, .int a4), (5, .int a5)]) (s1 := []) (v1 := w) (p2 := 29) (l2 := [(0, .ref 111), (1, .int (nI x2)), (2, .int a2), (3, .int (nI x11)), (4, .int a4), (5, .int a5)]) (s2 := []) (v2 := w) rfl rfl (fun q19 => ?_) (fun q19 => ?_)
      · replace q19 := of_decide_eq_true q19
        refine sx_RP.step (pc2 := 39) (ls2 := [(0, .ref 111), (1, .int (nI x2)), (2, .int a2), (3, .int (nI x11)), (4, .int a4), (5, .int a5)]) (st2 := [.ref 111]) (w3 := w) rfl rfl ?_
        refine sx_RP.step (pc2 := 40) (ls2 := [(0, .ref 111), (1, .int (nI x2)), (2, .int a2), (3, .int (nI x11)), (4, .int a4), (5, .int a5)]) (st2 := [.int 5, .ref 111]) (w3 := w) rfl rfl ?_
        refine sx_RP.callp (as2 := [.ref 111, .int 5]) (rest2 := []) rfl rfl (sx_inv_v2 (mi := 234) (k := 70) (st := [.int 5, .ref 111]) (w := w) rfl rfl hI.1.o111 rfl rfl rfl) rfl rfl rfl (K133_5 hI) (show _ = 43 from rfl) ?_
        rintro r4 w20 ⟨rfl, hI21, hE23⟩
        have hE22 := hE.tr (hE23)
        show sx_RP _ _ _ _ _ [.int (-1000000006)] _ _
        refine sx_RP.ret (r := (some (.int (-1000000006)))) rfl rfl ?_
        exact ⟨⟨_, rfl⟩, hI21, hE22⟩
      · replace q19 := of_decide_eq_false q19
        refine sx_RP.step (pc2 := 30) (ls2 := [(0, .ref 111), (1, .int (nI x2)), (2, .int a2), (3, .int (nI x11)), (4, .int a4), (5, .int a5)]) (st2 := [.ref 111]) (w3 := w) rfl rfl ?_
        refine sx_RP.gf (v := .ref 122) rfl rfl hI.1.o111 rfl rfl (show _ = 33 from rfl) ?_
        refine sx_RP.step (pc2 := 34) (ls2 := [(0, .ref 111), (1, .int (nI x2)), (2, .int a2), (3, .int (nI x11)), (4, .int a4), (5, .int a5)]) (st2 := [.int (nI x11), .ref 122]) (w3 := w) rfl rfl ?_
        refine sx_RP.ild (c := x11) rfl hI.1.a122.1 hI.1.a122.2 (sx_in_nI (show x11 < 4 by omega) (by decide)) (show (nI x11).toNatClampNeg = x11 from nI_clamp (by omega)) (show _ = 35 from rfl) ?_
        refine sx_RP.br (p1 := 44) (l1 := [(0, .ref 111), (1, .int (nI x2)), (2, .int a2), (3, .int (nI x11)), (4, .int a4), (5, .int a5)]) (s1 := []) (v1 := w) (p2 := 38) (l2 := [(0, .ref 111), (1, .int (nI x2)), (2, .int a2), (3, .int (nI x11)), (4, .int a4), (5, .int a5)]) (s2 := []) (v2 := w) rfl rfl (fun q24 => ?_) (fun q24 => ?_)
        · replace q24 := of_decide_eq_true q24
          refine sx_RP.step (pc2 := 45) (ls2 := [(0, .ref 111), (1, .int (nI x2)), (2, .int a2), (3, .int (nI x11)), (4, .int a4), (5, .int a5)]) (st2 := [.ref 111]) (w3 := w) rfl rfl ?_
          refine sx_RP.gf (v := .ref 122) rfl rfl hI.1.o111 rfl rfl (show _ = 48 from rfl) ?_
          refine sx_RP.step (pc2 := 49) (ls2 := [(0, .ref 111), (1, .int (nI x2)), (2, .int a2), (3, .int (nI x11)), (4, .int a4), (5, .int a5)]) (st2 := [.int (nI x2), .ref 122]) (w3 := w) rfl rfl ?_
          refine sx_RP.ild (c := x2) rfl hI.1.a122.1 hI.1.a122.2 (sx_in_nI (show x2 < 4 by omega) (by decide)) (show (nI x2).toNatClampNeg = x2 from nI_clamp (by omega)) (show _ = 50 from rfl) ?_
          refine sx_RP.step (pc2 := 51) (ls2 := [(0, .ref 111), (1, .int (nI x2)), (2, .int a2), (3, .int (nI x11)), (4, .int a4), (5, .int a5)]) (st2 := [.ref 111, .int ((ia w 122).getD x2 0)]) (w3 := w) rfl rfl ?_
          refine sx_RP.gf (v := .ref 122) rfl rfl hI.1.o111 rfl rfl (show _ = 54 from rfl) ?_
          refine sx_RP.step (pc2 := 55) (ls2 := [(0, .ref 111), (1, .int (nI x2)), (2, .int a2), (3, .int (nI x11)), (4, .int a4), (5, .int a5)]) (st2 := [.int (nI x11), .ref 122, .int ((ia w 122).getD x2 0)]) (w3 := w) rfl rfl ?_
          refine sx_RP.ild (c := x11) rfl hI.1.a122.1 hI.1.a122.2 (sx_in_nI (show x11 < 4 by omega) (by decide)) (show (nI x11).toNatClampNeg = x11 from nI_clamp (by omega)) (show _ = 56 from rfl) ?_
          refine sx_RP.br (p1 := 65) (l1 := [(0, .ref 111), (1, .int (nI x2)), (2, .int a2), (3, .int (nI x11)), (4, .int a4), (5, .int a5)]) (s1 := []) (v1 := w) (p2 := 59) (l2 := [(0, .ref 111), (1, .int (nI x2)), (2, .int a2), (3, .int (nI x11)), (4, .int a4), (5, .int a5)]) (s2 := []) (v2 := w) rfl rfl (fun q25 => ?_) (fun q25 => ?_)
          · replace q25 := of_decide_eq_true q25
            refine sx_RP.step (pc2 := 67) (ls2 := [(0, .ref 111), (1, .int (nI x2)), (2, .int a2), (3, .int (nI x11)), (4, .int a4), (5, .int a5)]) (st2 := [.int a5]) (w3 := w) rfl rfl ?_
            refine sx_RP.br (p1 := 106) (l1 := [(0, .ref 111), (1, .int (nI x2)), (2, .int a2), (3, .int (nI x11)), (4, .int a4), (5, .int a5)]) (s1 := []) (v1 := w) (p2 := 70) (l2 := [(0, .ref 111), (1, .int (nI x2)), (2, .int a2), (3, .int (nI x11)), (4, .int a4), (5, .int a5)]) (s2 := []) (v2 := w) rfl rfl (fun q26 => ?_) (fun q26 => ?_)
            · replace q26 := of_decide_eq_true q26
              refine sx_RP.step (pc2 := 107) (ls2 := [(0, .ref 111), (1, .int (nI x2)), (2, .int a2), (3, .int (nI x11)), (4, .int a4), (5, .int a5)]) (st2 := [.ref 111]) (w3 := w) rfl rfl ?_
              refine sx_RP.step (pc2 := 108) (ls2 := [(0, .ref 111), (1, .int (nI x2)), (2, .int a2), (3, .int (nI x11)), (4, .int a4), (5, .int a5)]) (st2 := [.int 0, .ref 111]) (w3 := w) rfl rfl ?_
              refine sx_RP.callp (as2 := [.ref 111, .int 0]) (rest2 := []) rfl rfl (sx_inv_v2 (mi := 234) (k := 70) (st := [.int 0, .ref 111]) (w := w) rfl rfl hI.1.o111 rfl rfl rfl) rfl rfl rfl (K133_0 hI) (show _ = 111 from rfl) ?_
              rintro r4 w27 ⟨rfl, hI28, hE30⟩
              have hE29 := hE.tr (hE30)
              show sx_RP _ _ _ _ _ [.int (-1000000001)] _ _
              refine sx_RP.ret (r := (some (.int (-1000000001)))) rfl rfl ?_
              exact ⟨⟨_, rfl⟩, hI28, hE29⟩
            · replace q26 := of_decide_eq_false q26
              refine sx_RP.step (pc2 := 71) (ls2 := [(0, .ref 111), (1, .int (nI x2)), (2, .int a2), (3, .int (nI x11)), (4, .int a4), (5, .int a5)]) (st2 := [.int a2]) (w3 := w) rfl rfl ?_
              refine sx_RP.br (p1 := 106) (l1 := [(0, .ref 111), (1, .int (nI x2)), (2, .int a2), (3, .int (nI x11)), (4, .int a4), (5, .int a5)]) (s1 := []) (v1 := w) (p2 := 74) (l2 := [(0, .ref 111), (1, .int (nI x2)), (2, .int a2), (3, .int (nI x11)), (4, .int a4), (5, .int a5)]) (s2 := []) (v2 := w) rfl rfl (fun q31 => ?_) (fun q31 => ?_)
              · replace q31 := of_decide_eq_true q31
                refine sx_RP.step (pc2 := 107) (ls2 := [(0, .ref 111), (1, .int (nI x2)), (2, .int a2), (3, .int (nI x11)), (4, .int a4), (5, .int a5)]) (st2 := [.ref 111]) (w3 := w) rfl rfl ?_
                refine sx_RP.step (pc2 := 108) (ls2 := [(0, .ref 111), (1, .int (nI x2)), (2, .int a2), (3, .int (nI x11)), (4, .int a4), (5, .int a5)]) (st2 := [.int 0, .ref 111]) (w3 := w) rfl rfl ?_
                refine sx_RP.callp (as2 := [.ref 111, .int 0]) (rest2 := []) rfl rfl (sx_inv_v2 (mi := 234) (k := 70) (st := [.int 0, .ref 111]) (w := w) rfl rfl hI.1.o111 rfl rfl rfl) rfl rfl rfl (K133_0 hI) (show _ = 111 from rfl) ?_
                rintro r4 w32 ⟨rfl, hI33, hE35⟩
                have hE34 := hE.tr (hE35)
                show sx_RP _ _ _ _ _ [.int (-1000000001)] _ _
                refine sx_RP.ret (r := (some (.int (-1000000001)))) rfl rfl ?_
                exact ⟨⟨_, rfl⟩, hI33, hE34⟩
              · replace q31 := of_decide_eq_false q31
                refine sx_RP.step (pc2 := 76) (ls2 := [(0, .ref 111), (1, .int (nI x2)), (2, .int a2), (3, .int (nI x11)), (4, .int a4), (5, .int a5)]) (st2 := [.int a4]) (w3 := w) rfl rfl ?_
                refine sx_RP.br (p1 := 106) (l1 := [(0, .ref 111), (1, .int (nI x2)), (2, .int a2), (3, .int (nI x11)), (4, .int a4), (5, .int a5)]) (s1 := []) (v1 := w) (p2 := 79) (l2 := [(0, .ref 111), (1, .int (nI x2)), (2, .int a2), (3, .int (nI x11)), (4, .int a4), (5, .int a5)]) (s2 := []) (v2 := w) rfl rfl (fun q36 => ?_) (fun q36 => ?_)
                · replace q36 := of_decide_eq_true q36
                  refine sx_RP.step (pc2 := 107) (ls2 := [(0, .ref 111), (1, .int (nI x2)), (2, .int a2), (3, .int (nI x11)), (4, .int a4), (5, .int a5)]) (st2 := [.ref 111]) (w3 := w) rfl rfl ?_
                  refine sx_RP.step (pc2 := 108) (ls2 := [(0, .ref 111), (1, .int (nI x2)), (2, .int a2), (3, .int (nI x11)), (4, .int a4), (5, .int a5)]) (st2 := [.int 0, .ref 111]) (w3 := w) rfl rfl ?_
                  refine sx_RP.callp (as2 := [.ref 111, .int 0]) (rest2 := []) rfl rfl (sx_inv_v2 (mi := 234) (k := 70) (st := [.int 0, .ref 111]) (w := w) rfl rfl hI.1.o111 rfl rfl rfl) rfl rfl rfl (K133_0 hI) (show _ = 111 from rfl) ?_
                  rintro r4 w37 ⟨rfl, hI38, hE40⟩
                  have hE39 := hE.tr (hE40)
                  show sx_RP _ _ _ _ _ [.int (-1000000001)] _ _
                  refine sx_RP.ret (r := (some (.int (-1000000001)))) rfl rfl ?_
                  exact ⟨⟨_, rfl⟩, hI38, hE39⟩
                · replace q36 := of_decide_eq_false q36
                  refine sx_RP.step (pc2 := 80) (ls2 := [(0, .ref 111), (1, .int (nI x2)), (2, .int a2), (3, .int (nI x11)), (4, .int a4), (5, .int a5)]) (st2 := [.int a2]) (w3 := w) rfl rfl ?_
                  refine sx_RP.step (pc2 := 81) (ls2 := [(0, .ref 111), (1, .int (nI x2)), (2, .int a2), (3, .int (nI x11)), (4, .int a4), (5, .int a5)]) (st2 := [.ref 111, .int a2]) (w3 := w) rfl rfl ?_
                  refine sx_RP.gf (v := .ref 123) rfl rfl hI.1.o111 rfl rfl (show _ = 84 from rfl) ?_
                  refine sx_RP.step (pc2 := 85) (ls2 := [(0, .ref 111), (1, .int (nI x2)), (2, .int a2), (3, .int (nI x11)), (4, .int a4), (5, .int a5)]) (st2 := [.int (nI x2), .ref 123, .int a2]) (w3 := w) rfl rfl ?_
                  refine sx_RP.ild (c := x2) rfl hI.1.a123.1 hI.1.a123.2 (sx_in_nI (show x2 < 4 by omega) (by decide)) (show (nI x2).toNatClampNeg = x2 from nI_clamp (by omega)) (show _ = 86 from rfl) ?_
                  obtain ⟨x41, hx42, ex43⟩ : inR ((ia w 123).getD x2 0) 40 := hI.l (show x2 < 4 by omega)
                  rw [ex43]
                  refine sx_RP.step (pc2 := 88) (ls2 := [(0, .ref 111), (1, .int (nI x2)), (2, .int a2), (3, .int (nI x11)), (4, .int a4), (5, .int a5)]) (st2 := [.int a5, .int (nI x41), .int a2]) (w3 := w) rfl rfl ?_
                  refine sx_RP.step (pc2 := 89) (ls2 := [(0, .ref 111), (1, .int (nI x2)), (2, .int a2), (3, .int (nI x11)), (4, .int a4), (5, .int a5)]) (st2 := [.int ((nI x41) - a5), .int a2]) (w3 := w) rfl rfl ?_
                  refine sx_RP.br (p1 := 106) (l1 := [(0, .ref 111), (1, .int (nI x2)), (2, .int a2), (3, .int (nI x11)), (4, .int a4), (5, .int a5)]) (s1 := []) (v1 := w) (p2 := 92) (l2 := [(0, .ref 111), (1, .int (nI x2)), (2, .int a2), (3, .int (nI x11)), (4, .int a4), (5, .int a5)]) (s2 := []) (v2 := w) rfl rfl (fun q44 => ?_) (fun q44 => ?_)
                  · replace q44 := of_decide_eq_true q44
                    refine sx_RP.step (pc2 := 107) (ls2 := [(0, .ref 111), (1, .int (nI x2)), (2, .int a2), (3, .int (nI x11)), (4, .int a4), (5, .int a5)]) (st2 := [.ref 111]) (w3 := w) rfl rfl ?_
                    refine sx_RP.step (pc2 := 108) (ls2 := [(0, .ref 111), (1, .int (nI x2)), (2, .int a2), (3, .int (nI x11)), (4, .int a4), (5, .int a5)]) (st2 := [.int 0, .ref 111]) (w3 := w) rfl rfl ?_
                    refine sx_RP.callp (as2 := [.ref 111, .int 0]) (rest2 := []) rfl rfl (sx_inv_v2 (mi := 234) (k := 70) (st := [.int 0, .ref 111]) (w := w) rfl rfl hI.1.o111 rfl rfl rfl) rfl rfl rfl (K133_0 hI) (show _ = 111 from rfl) ?_
                    rintro r4 w45 ⟨rfl, hI46, hE48⟩
                    have hE47 := hE.tr (hE48)
                    show sx_RP _ _ _ _ _ [.int (-1000000001)] _ _
                    refine sx_RP.ret (r := (some (.int (-1000000001)))) rfl rfl ?_
                    exact ⟨⟨_, rfl⟩, hI46, hE47⟩
                  · replace q44 := of_decide_eq_false q44
                    refine sx_RP.step (pc2 := 94) (ls2 := [(0, .ref 111), (1, .int (nI x2)), (2, .int a2), (3, .int (nI x11)), (4, .int a4), (5, .int a5)]) (st2 := [.int a4]) (w3 := w) rfl rfl ?_
                    refine sx_RP.step (pc2 := 95) (ls2 := [(0, .ref 111), (1, .int (nI x2)), (2, .int a2), (3, .int (nI x11)), (4, .int a4), (5, .int a5)]) (st2 := [.ref 111, .int a4]) (w3 := w) rfl rfl ?_
                    refine sx_RP.gf (v := .ref 123) rfl rfl hI.1.o111 rfl rfl (show _ = 98 from rfl) ?_
                    refine sx_RP.step (pc2 := 99) (ls2 := [(0, .ref 111), (1, .int (nI x2)), (2, .int a2), (3, .int (nI x11)), (4, .int a4), (5, .int a5)]) (st2 := [.int (nI x11), .ref 123, .int a4]) (w3 := w) rfl rfl ?_
                    refine sx_RP.ild (c := x11) rfl hI.1.a123.1 hI.1.a123.2 (sx_in_nI (show x11 < 4 by omega) (by decide)) (show (nI x11).toNatClampNeg = x11 from nI_clamp (by omega)) (show _ = 100 from rfl) ?_
                    obtain ⟨x49, hx50, ex51⟩ : inR ((ia w 123).getD x11 0) 40 := hI.l (show x11 < 4 by omega)
                    rw [ex51]
                    refine sx_RP.step (pc2 := 102) (ls2 := [(0, .ref 111), (1, .int (nI x2)), (2, .int a2), (3, .int (nI x11)), (4, .int a4), (5, .int a5)]) (st2 := [.int a5, .int (nI x49), .int a4]) (w3 := w) rfl rfl ?_
                    refine sx_RP.step (pc2 := 103) (ls2 := [(0, .ref 111), (1, .int (nI x2)), (2, .int a2), (3, .int (nI x11)), (4, .int a4), (5, .int a5)]) (st2 := [.int ((nI x49) - a5), .int a4]) (w3 := w) rfl rfl ?_
                    refine sx_RP.br (p1 := 112) (l1 := [(0, .ref 111), (1, .int (nI x2)), (2, .int a2), (3, .int (nI x11)), (4, .int a4), (5, .int a5)]) (s1 := []) (v1 := w) (p2 := 106) (l2 := [(0, .ref 111), (1, .int (nI x2)), (2, .int a2), (3, .int (nI x11)), (4, .int a4), (5, .int a5)]) (s2 := []) (v2 := w) rfl rfl (fun q52 => ?_) (fun q52 => ?_)
                    · replace q52 := of_decide_eq_true q52
                      refine sx_RP.step (pc2 := 113) (ls2 := [(0, .ref 111), (1, .int (nI x2)), (2, .int a2), (3, .int (nI x11)), (4, .int a4), (5, .int a5)]) (st2 := [.int 0]) (w3 := w) rfl rfl ?_
                      refine sx_RP.step (pc2 := 115) (ls2 := [(6, .int 0), (0, .ref 111), (1, .int (nI x2)), (2, .int a2), (3, .int (nI x11)), (4, .int a4), (5, .int a5)]) (st2 := []) (w3 := w) rfl rfl ?_
                      obtain ⟨x53, x54, rfl, rfl, hx55⟩ := cop_of (by omega) q31 q26 q44
                      obtain ⟨x56, x57, rfl, ex58, hx59⟩ := cop_of (by omega) q36 q26 (Int32.not_lt.mpr q52)
                      have ex60 := (nI_eq (a := x54) (b := x57) (by omega) (by omega)).mp ex58
                      refine sx_RP.ls (sx_lr.cons rfl (sx_lr.cons rfl (sx_lr.cons rfl (sx_lr.cons rfl (sx_lr.cons rfl (sx_lr.cons rfl (sx_lr.cons rfl sx_lr.nil))))))) (K234aL (show x2 < 4 by omega) (show x11 < 4 by omega) (show x53 + x54 ≤ 40 by omega) (show x56 + x54 ≤ 40 by omega) (fun w61 hI62 hE63 => ?_) 40 0 w (by omega) (by omega) hI hE)
                      refine sx_RP.step (pc2 := 150) (ls2 := [(0, .ref 111), (1, .int (nI x2)), (2, .int (nI x53)), (3, .int (nI x11)), (4, .int (nI x56)), (5, .int (nI x54))]) (st2 := [.int 0]) (w3 := w61) rfl rfl ?_
                      refine sx_RP.step (pc2 := 152) (ls2 := [(6, .int 0), (0, .ref 111), (1, .int (nI x2)), (2, .int (nI x53)), (3, .int (nI x11)), (4, .int (nI x56)), (5, .int (nI x54))]) (st2 := []) (w3 := w61) rfl rfl ?_
                      exact sx_RP.ls (sx_lr.cons rfl (sx_lr.cons rfl (sx_lr.cons rfl (sx_lr.cons rfl (sx_lr.cons rfl (sx_lr.cons rfl (sx_lr.cons rfl sx_lr.nil))))))) (K234bL (show x2 < 4 by omega) (show x11 < 4 by omega) (show x53 + x54 ≤ 40 by omega) (show x56 + x54 ≤ 40 by omega) 40 0 w61 (by omega) (by omega) hI62 hE63)
                    · replace q52 := of_decide_eq_false q52
                      refine sx_RP.step (pc2 := 107) (ls2 := [(0, .ref 111), (1, .int (nI x2)), (2, .int a2), (3, .int (nI x11)), (4, .int a4), (5, .int a5)]) (st2 := [.ref 111]) (w3 := w) rfl rfl ?_
                      refine sx_RP.step (pc2 := 108) (ls2 := [(0, .ref 111), (1, .int (nI x2)), (2, .int a2), (3, .int (nI x11)), (4, .int a4), (5, .int a5)]) (st2 := [.int 0, .ref 111]) (w3 := w) rfl rfl ?_
                      refine sx_RP.callp (as2 := [.ref 111, .int 0]) (rest2 := []) rfl rfl (sx_inv_v2 (mi := 234) (k := 70) (st := [.int 0, .ref 111]) (w := w) rfl rfl hI.1.o111 rfl rfl rfl) rfl rfl rfl (K133_0 hI) (show _ = 111 from rfl) ?_
                      rintro r4 w64 ⟨rfl, hI65, hE67⟩
                      have hE66 := hE.tr (hE67)
                      show sx_RP _ _ _ _ _ [.int (-1000000001)] _ _
                      refine sx_RP.ret (r := (some (.int (-1000000001)))) rfl rfl ?_
                      exact ⟨⟨_, rfl⟩, hI65, hE66⟩
          · replace q25 := of_decide_eq_false q25
            refine sx_RP.step (pc2 := 60) (ls2 := [(0, .ref 111), (1, .int (nI x2)), (2, .int a2), (3, .int (nI x11)), (4, .int a4), (5, .int a5)]) (st2 := [.ref 111]) (w3 := w) rfl rfl ?_
            refine sx_RP.step (pc2 := 61) (ls2 := [(0, .ref 111), (1, .int (nI x2)), (2, .int a2), (3, .int (nI x11)), (4, .int a4), (5, .int a5)]) (st2 := [.int 2, .ref 111]) (w3 := w) rfl rfl ?_
            refine sx_RP.callp (as2 := [.ref 111, .int 2]) (rest2 := []) rfl rfl (sx_inv_v2 (mi := 234) (k := 70) (st := [.int 2, .ref 111]) (w := w) rfl rfl hI.1.o111 rfl rfl rfl) rfl rfl rfl (K133_2 hI) (show _ = 64 from rfl) ?_
            rintro r4 w68 ⟨rfl, hI69, hE71⟩
            have hE70 := hE.tr (hE71)
            show sx_RP _ _ _ _ _ [.int (-1000000003)] _ _
            refine sx_RP.ret (r := (some (.int (-1000000003)))) rfl rfl ?_
            exact ⟨⟨_, rfl⟩, hI69, hE70⟩
        · replace q24 := Decidable.not_not.mp (of_decide_eq_false q24)
          refine sx_RP.step (pc2 := 39) (ls2 := [(0, .ref 111), (1, .int (nI x2)), (2, .int a2), (3, .int (nI x11)), (4, .int a4), (5, .int a5)]) (st2 := [.ref 111]) (w3 := w) rfl rfl ?_
          refine sx_RP.step (pc2 := 40) (ls2 := [(0, .ref 111), (1, .int (nI x2)), (2, .int a2), (3, .int (nI x11)), (4, .int a4), (5, .int a5)]) (st2 := [.int 5, .ref 111]) (w3 := w) rfl rfl ?_
          refine sx_RP.callp (as2 := [.ref 111, .int 5]) (rest2 := []) rfl rfl (sx_inv_v2 (mi := 234) (k := 70) (st := [.int 5, .ref 111]) (w := w) rfl rfl hI.1.o111 rfl rfl rfl) rfl rfl rfl (K133_5 hI) (show _ = 43 from rfl) ?_
          rintro r4 w72 ⟨rfl, hI73, hE75⟩
          have hE74 := hE.tr (hE75)
          show sx_RP _ _ _ _ _ [.int (-1000000006)] _ _
          refine sx_RP.ret (r := (some (.int (-1000000006)))) rfl rfl ?_
          exact ⟨⟨_, rfl⟩, hI73, hE74⟩
def EWK (w w2 : List sx_C) : Prop := EK w w2 ∧ ia w2 118 = ia w 118
theorem EWK.rf {w : List sx_C} : EWK w w := ⟨EK.rf, rfl⟩
theorem sx_RP.mFWK {xs : Option (List Int32)} {d mi pc pc2 : Nat} {ls : sx_L} {r : List Value} {w w0 : List sx_C} {P : Option Value → List sx_C → Prop} {a : Nat} {i x : Int32} {n : Nat} (hI : WI w) (hE : EWK w0 w) (hi : sx_ins mi pc = some (.iastore, 1)) (hw : w[a]? = some (.inl (0, ia w a)) ∧ (ia w a).length = n) (hn : sx_in i n = true) (hf : a = 116 ∨ a = 117 ∨ a = 119) (hp : pc + 1 = pc2) (kk : ∀ w2, WI w2 → EWK w0 w2 → (∀ j, (ia w2 112).getD j 0 = (ia w 112).getD j 0) → sx_RP xs d mi pc2 ls r w2 P) : sx_RP xs d mi pc ls (.int x :: .int i :: .ref a :: r) w P :=
  sx_RP.ist hi hw.1 hw.2 hn rfl rfl hp (kk _ (hI.set hw.1 sh_set (cOK.free (by omega))) ⟨hE.1.set hw.1 (by omega) trivial, by rw [ia_ne (by omega)]; exact hE.2⟩ (fun j => by rw [ia_ne (by omega)]))
set_option maxRecDepth 20000 in
set_option maxHeartbeats 4000000 in
theorem K141nB {xs : Option (List Int32)} {d : Nat} {w w0 : List sx_C} {P : Option Value → List sx_C → Prop} {src g : Nat} (hs : src < 48) (hI : WI w) (hE : EK w0 w) {j : Nat} (hj : j ≤ 48) (kk : ∀ (w4 : List sx_C), WI w4 → EK w0 w4 → j + 1 ≤ 48 → sx_RP xs (d + 3) 141 2 [(0, .ref 111), (1, .int (nI src)), (2, .int (nI g)), (3, .int (nI (j + 1)))] [] w4 P) (kx37 : ∀ (w4 : List sx_C), WI w4 → EK w0 w4 → sx_RP xs (d + 3) 141 37 [(0, .ref 111), (1, .int (nI src)), (2, .int (nI g))] [] w4 P) : sx_RP xs (d + 3) 141 2 [(0, .ref 111), (1, .int (nI src)), (2, .int (nI g)), (3, .int (nI j))] [] w P := by
  refine sx_RP.step (pc2 := 3) (ls2 := [(0, .ref 111), (1, .int (nI src)), (2, .int (nI g)), (3, .int (nI j))]) (st2 := [.int (nI j)]) (w3 := w) rfl rfl ?_
  refine sx_RP.step (pc2 := 5) (ls2 := [(0, .ref 111), (1, .int (nI src)), (2, .int (nI g)), (3, .int (nI j))]) (st2 := [.int 48, .int (nI j)]) (w3 := w) rfl rfl ?_
  refine sx_RP.br (p1 := 37) (l1 := [(0, .ref 111), (1, .int (nI src)), (2, .int (nI g)), (3, .int (nI j))]) (s1 := []) (v1 := w) (p2 := 8) (l2 := [(0, .ref 111), (1, .int (nI src)), (2, .int (nI g)), (3, .int (nI j))]) (s2 := []) (v2 := w) rfl rfl (fun q1 => ?_) (fun q1 => ?_)
  · replace q1 := of_decide_eq_true q1
    replace q1 := (nI_leI (a := 48) (b := j) (by omega) (by omega)).mp q1
    exact sx_RP.ls (sx_lr.cons rfl (sx_lr.cons rfl (sx_lr.cons rfl sx_lr.nil))) (kx37 w hI hE)
  · replace q1 := of_decide_eq_false q1
    replace q1 := mt (nI_leI (a := 48) (b := j) (by omega) (by omega)).mpr q1
    refine sx_RP.step (pc2 := 9) (ls2 := [(0, .ref 111), (1, .int (nI src)), (2, .int (nI g)), (3, .int (nI j))]) (st2 := [.ref 111]) (w3 := w) rfl rfl ?_
    refine sx_RP.gf (v := .ref 117) rfl rfl hI.1.o111 rfl rfl (show _ = 12 from rfl) ?_
    refine sx_RP.step (pc2 := 13) (ls2 := [(0, .ref 111), (1, .int (nI src)), (2, .int (nI g)), (3, .int (nI j))]) (st2 := [.int (nI j), .ref 117]) (w3 := w) rfl rfl ?_
    refine sx_RP.step (pc2 := 14) (ls2 := [(0, .ref 111), (1, .int (nI src)), (2, .int (nI g)), (3, .int (nI j))]) (st2 := [.int (nI j), .int (nI j), .ref 117]) (w3 := w) rfl rfl ?_
    refine sx_RP.step (pc2 := 15) (ls2 := [(0, .ref 111), (1, .int (nI src)), (2, .int (nI g)), (3, .int (nI j))]) (st2 := [.int (nI src), .int (nI j), .int (nI j), .ref 117]) (w3 := w) rfl rfl ?_
    refine sx_RP.br (p1 := 22) (l1 := [(0, .ref 111), (1, .int (nI src)), (2, .int (nI g)), (3, .int (nI j))]) (s1 := [.int (nI j), .ref 117]) (v1 := w) (p2 := 18) (l2 := [(0, .ref 111), (1, .int (nI src)), (2, .int (nI g)), (3, .int (nI j))]) (s2 := [.int (nI j), .ref 117]) (v2 := w) rfl rfl (fun q2 => ?_) (fun q2 => ?_)
    · replace q2 := of_decide_eq_true q2
      replace q2 := mt (nI_eq (a := j) (b := src) (by omega) (by omega)).mpr q2
      refine sx_RP.step (pc2 := 23) (ls2 := [(0, .ref 111), (1, .int (nI src)), (2, .int (nI g)), (3, .int (nI j))]) (st2 := [.int (-1), .int (nI j), .ref 117]) (w3 := w) rfl rfl ?_
      refine sx_RP.mFK hI hE rfl hI.1.a117 (sx_in_nI (show j < 48 by omega) (by decide)) (by decide) (show _ = 24 from rfl) (fun w3 hI4 hE5 hk6 => ?_)
      refine sx_RP.step (pc2 := 25) (ls2 := [(0, .ref 111), (1, .int (nI src)), (2, .int (nI g)), (3, .int (nI j))]) (st2 := [.ref 111]) (w3 := w3) rfl rfl ?_
      refine sx_RP.gf (v := .ref 118) rfl rfl hI4.1.o111 rfl rfl (show _ = 28 from rfl) ?_
      refine sx_RP.step (pc2 := 29) (ls2 := [(0, .ref 111), (1, .int (nI src)), (2, .int (nI g)), (3, .int (nI j))]) (st2 := [.int (nI j), .ref 118]) (w3 := w3) rfl rfl ?_
      refine sx_RP.step (pc2 := 30) (ls2 := [(0, .ref 111), (1, .int (nI src)), (2, .int (nI g)), (3, .int (nI j))]) (st2 := [.int 0, .int (nI j), .ref 118]) (w3 := w3) rfl rfl ?_
      refine sx_RP.mBK hI4 hE5 rfl hI4.1.a118 (sx_in_nI (show j < 48 by omega) (by decide)) (by decide) (show _ = 31 from rfl) (fun w7 hI8 hE9 hk10 => ?_)
      refine sx_RP.step (pc2 := 34) (ls2 := [(3, .int ((nI j) + 1)), (0, .ref 111), (1, .int (nI src)), (2, .int (nI g))]) (st2 := []) (w3 := w7) rfl rfl ?_
      rw [nI_1 j]
      refine sx_RP.step (pc2 := 2) (ls2 := [(3, .int (nI (j + 1))), (0, .ref 111), (1, .int (nI src)), (2, .int (nI g))]) (st2 := []) (w3 := w7) rfl rfl ?_
      exact sx_RP.ls (sx_lr.cons rfl (sx_lr.cons rfl (sx_lr.cons rfl (sx_lr.cons rfl sx_lr.nil)))) (kk w7 hI8 hE9 (by omega))
    · replace q2 := Decidable.not_not.mp (of_decide_eq_false q2)
      replace q2 := (nI_eq (a := j) (b := src) (by omega) (by omega)).mp q2
      refine sx_RP.step (pc2 := 19) (ls2 := [(0, .ref 111), (1, .int (nI src)), (2, .int (nI g)), (3, .int (nI j))]) (st2 := [.int 0, .int (nI j), .ref 117]) (w3 := w) rfl rfl ?_
      refine sx_RP.step (pc2 := 23) (ls2 := [(0, .ref 111), (1, .int (nI src)), (2, .int (nI g)), (3, .int (nI j))]) (st2 := [.int 0, .int (nI j), .ref 117]) (w3 := w) rfl rfl ?_
      refine sx_RP.mFK hI hE rfl hI.1.a117 (sx_in_nI (show j < 48 by omega) (by decide)) (by decide) (show _ = 24 from rfl) (fun w11 hI12 hE13 hk14 => ?_)
      refine sx_RP.step (pc2 := 25) (ls2 := [(0, .ref 111), (1, .int (nI src)), (2, .int (nI g)), (3, .int (nI j))]) (st2 := [.ref 111]) (w3 := w11) rfl rfl ?_
      refine sx_RP.gf (v := .ref 118) rfl rfl hI12.1.o111 rfl rfl (show _ = 28 from rfl) ?_
      refine sx_RP.step (pc2 := 29) (ls2 := [(0, .ref 111), (1, .int (nI src)), (2, .int (nI g)), (3, .int (nI j))]) (st2 := [.int (nI j), .ref 118]) (w3 := w11) rfl rfl ?_
      refine sx_RP.step (pc2 := 30) (ls2 := [(0, .ref 111), (1, .int (nI src)), (2, .int (nI g)), (3, .int (nI j))]) (st2 := [.int 0, .int (nI j), .ref 118]) (w3 := w11) rfl rfl ?_
      refine sx_RP.mBK hI12 hE13 rfl hI12.1.a118 (sx_in_nI (show j < 48 by omega) (by decide)) (by decide) (show _ = 31 from rfl) (fun w15 hI16 hE17 hk18 => ?_)
      refine sx_RP.step (pc2 := 34) (ls2 := [(3, .int ((nI j) + 1)), (0, .ref 111), (1, .int (nI src)), (2, .int (nI g))]) (st2 := []) (w3 := w15) rfl rfl ?_
      rw [nI_1 j]
      refine sx_RP.step (pc2 := 2) (ls2 := [(3, .int (nI (j + 1))), (0, .ref 111), (1, .int (nI src)), (2, .int (nI g))]) (st2 := []) (w3 := w15) rfl rfl ?_
      exact sx_RP.ls (sx_lr.cons rfl (sx_lr.cons rfl (sx_lr.cons rfl (sx_lr.cons rfl sx_lr.nil)))) (kk w15 hI16 hE17 (by omega))
set_option maxRecDepth 20000 in
set_option maxHeartbeats 4000000 in
theorem K141nL {xs : Option (List Int32)} {d : Nat} {w0 : List sx_C} {P : Option Value → List sx_C → Prop} {src g : Nat} (hs : src < 48) (kx37 : ∀ (w4 : List sx_C), WI w4 → EK w0 w4 → sx_RP xs (d + 3) 141 37 [(0, .ref 111), (1, .int (nI src)), (2, .int (nI g))] [] w4 P) : ∀ (fz j : Nat) (w : List sx_C) , 48 ≤ j + fz * 1 → j ≤ 48 → WI w → EK w0 w → sx_RP xs (d + 3) 141 2 [(0, .ref 111), (1, .int (nI src)), (2, .int (nI g)), (3, .int (nI j))] [] w P
  | 0, j, w, h, hj, hI, hE => K141nB hs hI hE hj   (fun w4  hI4 hE4 hlt  => absurd hlt (by omega)) kx37
  | fz + 1, j, w, h, hj, hI, hE => K141nB hs hI hE hj   (fun w4  hI4 hE4 hlt  => K141nL hs kx37 fz (j + 1) w4  (by omega) hlt hI4 hE4 ) kx37
set_option maxRecDepth 20000 in
set_option maxHeartbeats 4000000 in
theorem K141jB {xs : Option (List Int32)} {d : Nat} {w w0 : List sx_C} {P : Option Value → List sx_C → Prop} {src g c : Nat} (hg : g < 10) (hc : c < 48) (hI : WI w) (hE : EWK w0 w) {j : Nat} (hj : j ≤ 4) (kk : ∀ (w4 : List sx_C), WI w4 → EWK w0 w4 → j + 1 ≤ 4 → sx_RP xs (d + 3) 141 53 [(0, .ref 111), (1, .int (nI src)), (2, .int (nI g)), (3, .int (nI c)), (4, .int (nI (j + 1)))] [] w4 P) (kx173 : ∀ (w4 : List sx_C), WI w4 → EWK w0 w4 → sx_RP xs (d + 3) 141 173 [(0, .ref 111), (1, .int (nI src)), (2, .int (nI g))] [] w4 P) : sx_RP xs (d + 3) 141 53 [(0, .ref 111), (1, .int (nI src)), (2, .int (nI g)), (3, .int (nI c)), (4, .int (nI j))] [] w P := by
  refine sx_RP.step (pc2 := 55) (ls2 := [(0, .ref 111), (1, .int (nI src)), (2, .int (nI g)), (3, .int (nI c)), (4, .int (nI j))]) (st2 := [.int (nI j)]) (w3 := w) rfl rfl ?_
  refine sx_RP.step (pc2 := 56) (ls2 := [(0, .ref 111), (1, .int (nI src)), (2, .int (nI g)), (3, .int (nI c)), (4, .int (nI j))]) (st2 := [.int 4, .int (nI j)]) (w3 := w) rfl rfl ?_
  refine sx_RP.br (p1 := 173) (l1 := [(0, .ref 111), (1, .int (nI src)), (2, .int (nI g)), (3, .int (nI c)), (4, .int (nI j))]) (s1 := []) (v1 := w) (p2 := 59) (l2 := [(0, .ref 111), (1, .int (nI src)), (2, .int (nI g)), (3, .int (nI c)), (4, .int (nI j))]) (s2 := []) (v2 := w) rfl rfl (fun q1 => ?_) (fun q1 => ?_)
  · replace q1 := of_decide_eq_true q1
    replace q1 := (nI_leI (a := 4) (b := j) (by omega) (by omega)).mp q1
    exact sx_RP.ls (sx_lr.cons rfl (sx_lr.cons rfl (sx_lr.cons rfl sx_lr.nil))) (kx173 w hI hE)
  · replace q1 := of_decide_eq_false q1
    replace q1 := mt (nI_leI (a := 4) (b := j) (by omega) (by omega)).mpr q1
    refine sx_RP.step (pc2 := 60) (ls2 := [(0, .ref 111), (1, .int (nI src)), (2, .int (nI g)), (3, .int (nI c)), (4, .int (nI j))]) (st2 := [.int (nI c)]) (w3 := w) rfl rfl ?_
    refine sx_RP.step (pc2 := 62) (ls2 := [(0, .ref 111), (1, .int (nI src)), (2, .int (nI g)), (3, .int (nI c)), (4, .int (nI j))]) (st2 := [.int (nI j), .int (nI c)]) (w3 := w) rfl rfl ?_
    rcases bes_cases (c := c) (j := j) (by omega) (by omega) with q2 | ⟨x3, hx4, q2⟩
    · refine sx_RP.cu (as := [.int (nI c), .int (nI j)]) (rest2 := []) (st3 := [.int (-1)]) rfl rfl rfl rfl rfl (cb_142e (by omega) (by omega) q2) rfl ?_
      refine sx_RP.step (pc2 := 67) (ls2 := [(5, .int (-1)), (0, .ref 111), (1, .int (nI src)), (2, .int (nI g)), (3, .int (nI c)), (4, .int (nI j))]) (st2 := []) (w3 := w) rfl rfl ?_
      refine sx_RP.step (pc2 := 69) (ls2 := [(5, .int (-1)), (0, .ref 111), (1, .int (nI src)), (2, .int (nI g)), (3, .int (nI c)), (4, .int (nI j))]) (st2 := [.int (-1)]) (w3 := w) rfl rfl ?_
      refine sx_RP.step (pc2 := 90) (ls2 := [(5, .int (-1)), (0, .ref 111), (1, .int (nI src)), (2, .int (nI g)), (3, .int (nI c)), (4, .int (nI j))]) (st2 := []) (w3 := w) rfl rfl ?_
      refine sx_RP.step (pc2 := 91) (ls2 := [(5, .int (-1)), (0, .ref 111), (1, .int (nI src)), (2, .int (nI g)), (3, .int (nI c)), (4, .int (nI j))]) (st2 := [.int 0]) (w3 := w) rfl rfl ?_
      refine sx_RP.step (pc2 := 93) (ls2 := [(6, .int 0), (5, .int (-1)), (0, .ref 111), (1, .int (nI src)), (2, .int (nI g)), (3, .int (nI c)), (4, .int (nI j))]) (st2 := []) (w3 := w) rfl rfl ?_
      refine sx_RP.step (pc2 := 95) (ls2 := [(6, .int 0), (5, .int (-1)), (0, .ref 111), (1, .int (nI src)), (2, .int (nI g)), (3, .int (nI c)), (4, .int (nI j))]) (st2 := [.int 0]) (w3 := w) rfl rfl ?_
      refine sx_RP.step (pc2 := 98) (ls2 := [(6, .int 0), (5, .int (-1)), (0, .ref 111), (1, .int (nI src)), (2, .int (nI g)), (3, .int (nI c)), (4, .int (nI j))]) (st2 := []) (w3 := w) rfl rfl ?_
      refine sx_RP.step (pc2 := 99) (ls2 := [(6, .int 0), (5, .int (-1)), (0, .ref 111), (1, .int (nI src)), (2, .int (nI g)), (3, .int (nI c)), (4, .int (nI j))]) (st2 := [.int 0]) (w3 := w) rfl rfl ?_
      refine sx_RP.step (pc2 := 129) (ls2 := [(6, .int 0), (5, .int (-1)), (0, .ref 111), (1, .int (nI src)), (2, .int (nI g)), (3, .int (nI c)), (4, .int (nI j))]) (st2 := [.int 0]) (w3 := w) rfl rfl ?_
      refine sx_RP.step (pc2 := 131) (ls2 := [(7, .int 0), (6, .int 0), (5, .int (-1)), (0, .ref 111), (1, .int (nI src)), (2, .int (nI g)), (3, .int (nI c)), (4, .int (nI j))]) (st2 := []) (w3 := w) rfl rfl ?_
      refine sx_RP.step (pc2 := 133) (ls2 := [(7, .int 0), (6, .int 0), (5, .int (-1)), (0, .ref 111), (1, .int (nI src)), (2, .int (nI g)), (3, .int (nI c)), (4, .int (nI j))]) (st2 := [.int 0]) (w3 := w) rfl rfl ?_
      refine sx_RP.step (pc2 := 167) (ls2 := [(7, .int 0), (6, .int 0), (5, .int (-1)), (0, .ref 111), (1, .int (nI src)), (2, .int (nI g)), (3, .int (nI c)), (4, .int (nI j))]) (st2 := []) (w3 := w) rfl rfl ?_
      refine sx_RP.step (pc2 := 170) (ls2 := [(4, .int ((nI j) + 1)), (7, .int 0), (6, .int 0), (5, .int (-1)), (0, .ref 111), (1, .int (nI src)), (2, .int (nI g)), (3, .int (nI c))]) (st2 := []) (w3 := w) rfl rfl ?_
      rw [nI_1 j]
      refine sx_RP.step (pc2 := 53) (ls2 := [(4, .int (nI (j + 1))), (7, .int 0), (6, .int 0), (5, .int (-1)), (0, .ref 111), (1, .int (nI src)), (2, .int (nI g)), (3, .int (nI c))]) (st2 := []) (w3 := w) rfl rfl ?_
      exact sx_RP.ls (sx_lr.cons rfl (sx_lr.cons rfl (sx_lr.cons rfl (sx_lr.cons rfl (sx_lr.cons rfl sx_lr.nil))))) (kk w hI hE (by omega))
    · refine sx_RP.cu (as := [.int (nI c), .int (nI j)]) (rest2 := []) (st3 := [.int (nI x3)]) rfl rfl rfl rfl rfl (cb_142e (by omega) (by omega) q2) rfl ?_
      refine sx_RP.step (pc2 := 67) (ls2 := [(5, .int (nI x3)), (0, .ref 111), (1, .int (nI src)), (2, .int (nI g)), (3, .int (nI c)), (4, .int (nI j))]) (st2 := []) (w3 := w) rfl rfl ?_
      refine sx_RP.step (pc2 := 69) (ls2 := [(5, .int (nI x3)), (0, .ref 111), (1, .int (nI src)), (2, .int (nI g)), (3, .int (nI c)), (4, .int (nI j))]) (st2 := [.int (nI x3)]) (w3 := w) rfl rfl ?_
      refine sx_RP.br (p2 := 72) (l2 := [(5, .int (nI x3)), (0, .ref 111), (1, .int (nI src)), (2, .int (nI g)), (3, .int (nI c)), (4, .int (nI j))]) (s2 := []) (v2 := w) rfl rfl (fun q => absurd (of_decide_eq_true q) (nI_pos (by omega))) (fun _ => ?_)
      refine sx_RP.step (pc2 := 73) (ls2 := [(5, .int (nI x3)), (0, .ref 111), (1, .int (nI src)), (2, .int (nI g)), (3, .int (nI c)), (4, .int (nI j))]) (st2 := [.int (nI g)]) (w3 := w) rfl rfl ?_
      refine sx_RP.br (p2 := 76) (l2 := [(5, .int (nI x3)), (0, .ref 111), (1, .int (nI src)), (2, .int (nI g)), (3, .int (nI c)), (4, .int (nI j))]) (s2 := []) (v2 := w) rfl rfl (fun q => absurd (of_decide_eq_true q) (nI_pos (by omega))) (fun _ => ?_)
      refine sx_RP.step (pc2 := 77) (ls2 := [(5, .int (nI x3)), (0, .ref 111), (1, .int (nI src)), (2, .int (nI g)), (3, .int (nI c)), (4, .int (nI j))]) (st2 := [.ref 111]) (w3 := w) rfl rfl ?_
      refine sx_RP.step (pc2 := 78) (ls2 := [(5, .int (nI x3)), (0, .ref 111), (1, .int (nI src)), (2, .int (nI g)), (3, .int (nI c)), (4, .int (nI j))]) (st2 := [.int (nI g), .ref 111]) (w3 := w) rfl rfl ?_
      refine sx_RP.step (pc2 := 80) (ls2 := [(5, .int (nI x3)), (0, .ref 111), (1, .int (nI src)), (2, .int (nI g)), (3, .int (nI c)), (4, .int (nI j))]) (st2 := [.int (nI x3), .int (nI g), .ref 111]) (w3 := w) rfl rfl ?_
      obtain ⟨x5, hx6, c7⟩ := p143 hI (show g < 10 by omega) (show x3 < 48 by omega)
      refine sx_RP.cu (as := [.ref 111, .int (nI g), .int (nI x3)]) (rest2 := []) (st3 := [.int (nI x5)]) rfl rfl (sx_inv_v2 (mi := 141) (k := 80) (st := [.int (nI x3), .int (nI g), .ref 111]) (w := w) rfl rfl hI.1.o111 rfl rfl rfl) rfl rfl (c7) rfl ?_
      refine sx_RP.br (p1 := 90) (l1 := [(5, .int (nI x3)), (0, .ref 111), (1, .int (nI src)), (2, .int (nI g)), (3, .int (nI c)), (4, .int (nI j))]) (s1 := []) (v1 := w) (p2 := 86) (l2 := [(5, .int (nI x3)), (0, .ref 111), (1, .int (nI src)), (2, .int (nI g)), (3, .int (nI c)), (4, .int (nI j))]) (s2 := []) (v2 := w) rfl rfl (fun q8 => ?_) (fun q8 => ?_)
      · replace q8 := of_decide_eq_true q8
        replace q8 := (nI_eq (a := x5) (b := 0) (by omega) (by omega)).mp q8
        refine sx_RP.step (pc2 := 91) (ls2 := [(5, .int (nI x3)), (0, .ref 111), (1, .int (nI src)), (2, .int (nI g)), (3, .int (nI c)), (4, .int (nI j))]) (st2 := [.int 0]) (w3 := w) rfl rfl ?_
        refine sx_RP.step (pc2 := 93) (ls2 := [(6, .int 0), (5, .int (nI x3)), (0, .ref 111), (1, .int (nI src)), (2, .int (nI g)), (3, .int (nI c)), (4, .int (nI j))]) (st2 := []) (w3 := w) rfl rfl ?_
        refine sx_RP.step (pc2 := 95) (ls2 := [(6, .int 0), (5, .int (nI x3)), (0, .ref 111), (1, .int (nI src)), (2, .int (nI g)), (3, .int (nI c)), (4, .int (nI j))]) (st2 := [.int 0]) (w3 := w) rfl rfl ?_
        refine sx_RP.step (pc2 := 98) (ls2 := [(6, .int 0), (5, .int (nI x3)), (0, .ref 111), (1, .int (nI src)), (2, .int (nI g)), (3, .int (nI c)), (4, .int (nI j))]) (st2 := []) (w3 := w) rfl rfl ?_
        refine sx_RP.step (pc2 := 99) (ls2 := [(6, .int 0), (5, .int (nI x3)), (0, .ref 111), (1, .int (nI src)), (2, .int (nI g)), (3, .int (nI c)), (4, .int (nI j))]) (st2 := [.int 0]) (w3 := w) rfl rfl ?_
        refine sx_RP.step (pc2 := 129) (ls2 := [(6, .int 0), (5, .int (nI x3)), (0, .ref 111), (1, .int (nI src)), (2, .int (nI g)), (3, .int (nI c)), (4, .int (nI j))]) (st2 := [.int 0]) (w3 := w) rfl rfl ?_
        refine sx_RP.step (pc2 := 131) (ls2 := [(7, .int 0), (6, .int 0), (5, .int (nI x3)), (0, .ref 111), (1, .int (nI src)), (2, .int (nI g)), (3, .int (nI c)), (4, .int (nI j))]) (st2 := []) (w3 := w) rfl rfl ?_
        refine sx_RP.step (pc2 := 133) (ls2 := [(7, .int 0), (6, .int 0), (5, .int (nI x3)), (0, .ref 111), (1, .int (nI src)), (2, .int (nI g)), (3, .int (nI c)), (4, .int (nI j))]) (st2 := [.int 0]) (w3 := w) rfl rfl ?_
        refine sx_RP.step (pc2 := 167) (ls2 := [(7, .int 0), (6, .int 0), (5, .int (nI x3)), (0, .ref 111), (1, .int (nI src)), (2, .int (nI g)), (3, .int (nI c)), (4, .int (nI j))]) (st2 := []) (w3 := w) rfl rfl ?_
        refine sx_RP.step (pc2 := 170) (ls2 := [(4, .int ((nI j) + 1)), (7, .int 0), (6, .int 0), (5, .int (nI x3)), (0, .ref 111), (1, .int (nI src)), (2, .int (nI g)), (3, .int (nI c))]) (st2 := []) (w3 := w) rfl rfl ?_
        rw [nI_1 j]
        refine sx_RP.step (pc2 := 53) (ls2 := [(4, .int (nI (j + 1))), (7, .int 0), (6, .int 0), (5, .int (nI x3)), (0, .ref 111), (1, .int (nI src)), (2, .int (nI g)), (3, .int (nI c))]) (st2 := []) (w3 := w) rfl rfl ?_
        exact sx_RP.ls (sx_lr.cons rfl (sx_lr.cons rfl (sx_lr.cons rfl (sx_lr.cons rfl (sx_lr.cons rfl sx_lr.nil))))) (kk w hI hE (by omega))
      · replace q8 := of_decide_eq_false q8
        replace q8 := mt (nI_eq (a := x5) (b := 0) (by omega) (by omega)).mpr q8
        refine sx_RP.step (pc2 := 87) (ls2 := [(5, .int (nI x3)), (0, .ref 111), (1, .int (nI src)), (2, .int (nI g)), (3, .int (nI c)), (4, .int (nI j))]) (st2 := [.int 1]) (w3 := w) rfl rfl ?_
        refine sx_RP.step (pc2 := 91) (ls2 := [(5, .int (nI x3)), (0, .ref 111), (1, .int (nI src)), (2, .int (nI g)), (3, .int (nI c)), (4, .int (nI j))]) (st2 := [.int 1]) (w3 := w) rfl rfl ?_
        refine sx_RP.step (pc2 := 93) (ls2 := [(6, .int 1), (5, .int (nI x3)), (0, .ref 111), (1, .int (nI src)), (2, .int (nI g)), (3, .int (nI c)), (4, .int (nI j))]) (st2 := []) (w3 := w) rfl rfl ?_
        refine sx_RP.step (pc2 := 95) (ls2 := [(6, .int 1), (5, .int (nI x3)), (0, .ref 111), (1, .int (nI src)), (2, .int (nI g)), (3, .int (nI c)), (4, .int (nI j))]) (st2 := [.int 1]) (w3 := w) rfl rfl ?_
        refine sx_RP.step (pc2 := 102) (ls2 := [(6, .int 1), (5, .int (nI x3)), (0, .ref 111), (1, .int (nI src)), (2, .int (nI g)), (3, .int (nI c)), (4, .int (nI j))]) (st2 := []) (w3 := w) rfl rfl ?_
        refine sx_RP.step (pc2 := 103) (ls2 := [(6, .int 1), (5, .int (nI x3)), (0, .ref 111), (1, .int (nI src)), (2, .int (nI g)), (3, .int (nI c)), (4, .int (nI j))]) (st2 := [.ref 111]) (w3 := w) rfl rfl ?_
        refine sx_RP.gf (v := .ref 117) rfl rfl hI.1.o111 rfl rfl (show _ = 106 from rfl) ?_
        refine sx_RP.step (pc2 := 107) (ls2 := [(6, .int 1), (5, .int (nI x3)), (0, .ref 111), (1, .int (nI src)), (2, .int (nI g)), (3, .int (nI c)), (4, .int (nI j))]) (st2 := [.int (nI c), .ref 117]) (w3 := w) rfl rfl ?_
        refine sx_RP.ild (c := c) rfl hI.1.a117.1 hI.1.a117.2 (sx_in_nI (show c < 48 by omega) (by decide)) (show (nI c).toNatClampNeg = c from nI_clamp (by omega)) (show _ = 108 from rfl) ?_
        refine sx_RP.step (pc2 := 109) (ls2 := [(6, .int 1), (5, .int (nI x3)), (0, .ref 111), (1, .int (nI src)), (2, .int (nI g)), (3, .int (nI c)), (4, .int (nI j))]) (st2 := [.int (nI g), .int ((ia w 117).getD c 0)]) (w3 := w) rfl rfl ?_
        refine sx_RP.br (p1 := 121) (l1 := [(6, .int 1), (5, .int (nI x3)), (0, .ref 111), (1, .int (nI src)), (2, .int (nI g)), (3, .int (nI c)), (4, .int (nI j))]) (s1 := [.int ((ia w 117).getD c 0)]) (v1 := w) rfl rfl (fun _ => ?_) (fun q => absurd (nI_pos' (by omega)) (of_decide_eq_false q))
        refine sx_RP.step (pc2 := 122) (ls2 := [(6, .int 1), (5, .int (nI x3)), (0, .ref 111), (1, .int (nI src)), (2, .int (nI g)), (3, .int (nI c)), (4, .int (nI j))]) (st2 := [.ref 111, .int ((ia w 117).getD c 0)]) (w3 := w) rfl rfl ?_
        refine sx_RP.step (pc2 := 123) (ls2 := [(6, .int 1), (5, .int (nI x3)), (0, .ref 111), (1, .int (nI src)), (2, .int (nI g)), (3, .int (nI c)), (4, .int (nI j))]) (st2 := [.int (nI g), .ref 111, .int ((ia w 117).getD c 0)]) (w3 := w) rfl rfl ?_
        refine sx_RP.step (pc2 := 125) (ls2 := [(6, .int 1), (5, .int (nI x3)), (0, .ref 111), (1, .int (nI src)), (2, .int (nI g)), (3, .int (nI c)), (4, .int (nI j))]) (st2 := [.int (nI x3), .int (nI g), .ref 111, .int ((ia w 117).getD c 0)]) (w3 := w) rfl rfl ?_
        obtain ⟨v9, c10⟩ := p147 hI (show g < 10 by omega) (show x3 < 48 by omega)
        refine sx_RP.cu (as := [.ref 111, .int (nI g), .int (nI x3)]) (rest2 := [.int ((ia w 117).getD c 0)]) (st3 := [.int v9, .int ((ia w 117).getD c 0)]) rfl rfl (sx_inv_v2 (mi := 141) (k := 87) (st := [.int (nI x3), .int (nI g), .ref 111, .int ((ia w 117).getD c 0)]) (w := w) rfl rfl hI.1.o111 rfl rfl rfl) rfl rfl (c10) rfl ?_
        refine sx_RP.step (pc2 := 129) (ls2 := [(6, .int 1), (5, .int (nI x3)), (0, .ref 111), (1, .int (nI src)), (2, .int (nI g)), (3, .int (nI c)), (4, .int (nI j))]) (st2 := [.int (((ia w 117).getD c 0) + v9)]) (w3 := w) rfl rfl ?_
        refine sx_RP.step (pc2 := 131) (ls2 := [(7, .int (((ia w 117).getD c 0) + v9)), (6, .int 1), (5, .int (nI x3)), (0, .ref 111), (1, .int (nI src)), (2, .int (nI g)), (3, .int (nI c)), (4, .int (nI j))]) (st2 := []) (w3 := w) rfl rfl ?_
        refine sx_RP.step (pc2 := 133) (ls2 := [(7, .int (((ia w 117).getD c 0) + v9)), (6, .int 1), (5, .int (nI x3)), (0, .ref 111), (1, .int (nI src)), (2, .int (nI g)), (3, .int (nI c)), (4, .int (nI j))]) (st2 := [.int 1]) (w3 := w) rfl rfl ?_
        refine sx_RP.step (pc2 := 136) (ls2 := [(7, .int (((ia w 117).getD c 0) + v9)), (6, .int 1), (5, .int (nI x3)), (0, .ref 111), (1, .int (nI src)), (2, .int (nI g)), (3, .int (nI c)), (4, .int (nI j))]) (st2 := []) (w3 := w) rfl rfl ?_
        refine sx_RP.step (pc2 := 137) (ls2 := [(7, .int (((ia w 117).getD c 0) + v9)), (6, .int 1), (5, .int (nI x3)), (0, .ref 111), (1, .int (nI src)), (2, .int (nI g)), (3, .int (nI c)), (4, .int (nI j))]) (st2 := [.ref 111]) (w3 := w) rfl rfl ?_
        refine sx_RP.gf (v := .ref 117) rfl rfl hI.1.o111 rfl rfl (show _ = 140 from rfl) ?_
        refine sx_RP.step (pc2 := 142) (ls2 := [(7, .int (((ia w 117).getD c 0) + v9)), (6, .int 1), (5, .int (nI x3)), (0, .ref 111), (1, .int (nI src)), (2, .int (nI g)), (3, .int (nI c)), (4, .int (nI j))]) (st2 := [.int (nI x3), .ref 117]) (w3 := w) rfl rfl ?_
        refine sx_RP.ild (c := x3) rfl hI.1.a117.1 hI.1.a117.2 (sx_in_nI (show x3 < 48 by omega) (by decide)) (show (nI x3).toNatClampNeg = x3 from nI_clamp (by omega)) (show _ = 143 from rfl) ?_
        refine sx_RP.br (p1 := 158) (l1 := [(7, .int (((ia w 117).getD c 0) + v9)), (6, .int 1), (5, .int (nI x3)), (0, .ref 111), (1, .int (nI src)), (2, .int (nI g)), (3, .int (nI c)), (4, .int (nI j))]) (s1 := []) (v1 := w) (p2 := 146) (l2 := [(7, .int (((ia w 117).getD c 0) + v9)), (6, .int 1), (5, .int (nI x3)), (0, .ref 111), (1, .int (nI src)), (2, .int (nI g)), (3, .int (nI c)), (4, .int (nI j))]) (s2 := []) (v2 := w) rfl rfl (fun q11 => ?_) (fun q11 => ?_)
        · replace q11 := of_decide_eq_true q11
          refine sx_RP.step (pc2 := 159) (ls2 := [(7, .int (((ia w 117).getD c 0) + v9)), (6, .int 1), (5, .int (nI x3)), (0, .ref 111), (1, .int (nI src)), (2, .int (nI g)), (3, .int (nI c)), (4, .int (nI j))]) (st2 := [.ref 111]) (w3 := w) rfl rfl ?_
          refine sx_RP.gf (v := .ref 117) rfl rfl hI.1.o111 rfl rfl (show _ = 162 from rfl) ?_
          refine sx_RP.step (pc2 := 164) (ls2 := [(7, .int (((ia w 117).getD c 0) + v9)), (6, .int 1), (5, .int (nI x3)), (0, .ref 111), (1, .int (nI src)), (2, .int (nI g)), (3, .int (nI c)), (4, .int (nI j))]) (st2 := [.int (nI x3), .ref 117]) (w3 := w) rfl rfl ?_
          refine sx_RP.step (pc2 := 166) (ls2 := [(7, .int (((ia w 117).getD c 0) + v9)), (6, .int 1), (5, .int (nI x3)), (0, .ref 111), (1, .int (nI src)), (2, .int (nI g)), (3, .int (nI c)), (4, .int (nI j))]) (st2 := [.int (((ia w 117).getD c 0) + v9), .int (nI x3), .ref 117]) (w3 := w) rfl rfl ?_
          refine sx_RP.mFWK hI hE rfl hI.1.a117 (sx_in_nI (show x3 < 48 by omega) (by decide)) (by decide) (show _ = 167 from rfl) (fun w12 hI13 hE14 hk15 => ?_)
          refine sx_RP.step (pc2 := 170) (ls2 := [(4, .int ((nI j) + 1)), (7, .int (((ia w 117).getD c 0) + v9)), (6, .int 1), (5, .int (nI x3)), (0, .ref 111), (1, .int (nI src)), (2, .int (nI g)), (3, .int (nI c))]) (st2 := []) (w3 := w12) rfl rfl ?_
          rw [nI_1 j]
          refine sx_RP.step (pc2 := 53) (ls2 := [(4, .int (nI (j + 1))), (7, .int (((ia w 117).getD c 0) + v9)), (6, .int 1), (5, .int (nI x3)), (0, .ref 111), (1, .int (nI src)), (2, .int (nI g)), (3, .int (nI c))]) (st2 := []) (w3 := w12) rfl rfl ?_
          exact sx_RP.ls (sx_lr.cons rfl (sx_lr.cons rfl (sx_lr.cons rfl (sx_lr.cons rfl (sx_lr.cons rfl sx_lr.nil))))) (kk w12 hI13 hE14 (by omega))
        · replace q11 := of_decide_eq_false q11
          refine sx_RP.step (pc2 := 148) (ls2 := [(7, .int (((ia w 117).getD c 0) + v9)), (6, .int 1), (5, .int (nI x3)), (0, .ref 111), (1, .int (nI src)), (2, .int (nI g)), (3, .int (nI c)), (4, .int (nI j))]) (st2 := [.int (((ia w 117).getD c 0) + v9)]) (w3 := w) rfl rfl ?_
          refine sx_RP.step (pc2 := 149) (ls2 := [(7, .int (((ia w 117).getD c 0) + v9)), (6, .int 1), (5, .int (nI x3)), (0, .ref 111), (1, .int (nI src)), (2, .int (nI g)), (3, .int (nI c)), (4, .int (nI j))]) (st2 := [.ref 111, .int (((ia w 117).getD c 0) + v9)]) (w3 := w) rfl rfl ?_
          refine sx_RP.gf (v := .ref 117) rfl rfl hI.1.o111 rfl rfl (show _ = 152 from rfl) ?_
          refine sx_RP.step (pc2 := 154) (ls2 := [(7, .int (((ia w 117).getD c 0) + v9)), (6, .int 1), (5, .int (nI x3)), (0, .ref 111), (1, .int (nI src)), (2, .int (nI g)), (3, .int (nI c)), (4, .int (nI j))]) (st2 := [.int (nI x3), .ref 117, .int (((ia w 117).getD c 0) + v9)]) (w3 := w) rfl rfl ?_
          refine sx_RP.ild (c := x3) rfl hI.1.a117.1 hI.1.a117.2 (sx_in_nI (show x3 < 48 by omega) (by decide)) (show (nI x3).toNatClampNeg = x3 from nI_clamp (by omega)) (show _ = 155 from rfl) ?_
          refine sx_RP.br (p1 := 167) (l1 := [(7, .int (((ia w 117).getD c 0) + v9)), (6, .int 1), (5, .int (nI x3)), (0, .ref 111), (1, .int (nI src)), (2, .int (nI g)), (3, .int (nI c)), (4, .int (nI j))]) (s1 := []) (v1 := w) (p2 := 158) (l2 := [(7, .int (((ia w 117).getD c 0) + v9)), (6, .int 1), (5, .int (nI x3)), (0, .ref 111), (1, .int (nI src)), (2, .int (nI g)), (3, .int (nI c)), (4, .int (nI j))]) (s2 := []) (v2 := w) rfl rfl (fun q16 => ?_) (fun q16 => ?_)
          · replace q16 := of_decide_eq_true q16
            refine sx_RP.step (pc2 := 170) (ls2 := [(4, .int ((nI j) + 1)), (7, .int (((ia w 117).getD c 0) + v9)), (6, .int 1), (5, .int (nI x3)), (0, .ref 111), (1, .int (nI src)), (2, .int (nI g)), (3, .int (nI c))]) (st2 := []) (w3 := w) rfl rfl ?_
            rw [nI_1 j]
            refine sx_RP.step (pc2 := 53) (ls2 := [(4, .int (nI (j + 1))), (7, .int (((ia w 117).getD c 0) + v9)), (6, .int 1), (5, .int (nI x3)), (0, .ref 111), (1, .int (nI src)), (2, .int (nI g)), (3, .int (nI c))]) (st2 := []) (w3 := w) rfl rfl ?_
            exact sx_RP.ls (sx_lr.cons rfl (sx_lr.cons rfl (sx_lr.cons rfl (sx_lr.cons rfl (sx_lr.cons rfl sx_lr.nil))))) (kk w hI hE (by omega))
          · replace q16 := of_decide_eq_false q16
            refine sx_RP.step (pc2 := 159) (ls2 := [(7, .int (((ia w 117).getD c 0) + v9)), (6, .int 1), (5, .int (nI x3)), (0, .ref 111), (1, .int (nI src)), (2, .int (nI g)), (3, .int (nI c)), (4, .int (nI j))]) (st2 := [.ref 111]) (w3 := w) rfl rfl ?_
            refine sx_RP.gf (v := .ref 117) rfl rfl hI.1.o111 rfl rfl (show _ = 162 from rfl) ?_
            refine sx_RP.step (pc2 := 164) (ls2 := [(7, .int (((ia w 117).getD c 0) + v9)), (6, .int 1), (5, .int (nI x3)), (0, .ref 111), (1, .int (nI src)), (2, .int (nI g)), (3, .int (nI c)), (4, .int (nI j))]) (st2 := [.int (nI x3), .ref 117]) (w3 := w) rfl rfl ?_
            refine sx_RP.step (pc2 := 166) (ls2 := [(7, .int (((ia w 117).getD c 0) + v9)), (6, .int 1), (5, .int (nI x3)), (0, .ref 111), (1, .int (nI src)), (2, .int (nI g)), (3, .int (nI c)), (4, .int (nI j))]) (st2 := [.int (((ia w 117).getD c 0) + v9), .int (nI x3), .ref 117]) (w3 := w) rfl rfl ?_
            refine sx_RP.mFWK hI hE rfl hI.1.a117 (sx_in_nI (show x3 < 48 by omega) (by decide)) (by decide) (show _ = 167 from rfl) (fun w17 hI18 hE19 hk20 => ?_)
            refine sx_RP.step (pc2 := 170) (ls2 := [(4, .int ((nI j) + 1)), (7, .int (((ia w 117).getD c 0) + v9)), (6, .int 1), (5, .int (nI x3)), (0, .ref 111), (1, .int (nI src)), (2, .int (nI g)), (3, .int (nI c))]) (st2 := []) (w3 := w17) rfl rfl ?_
            rw [nI_1 j]
            refine sx_RP.step (pc2 := 53) (ls2 := [(4, .int (nI (j + 1))), (7, .int (((ia w 117).getD c 0) + v9)), (6, .int 1), (5, .int (nI x3)), (0, .ref 111), (1, .int (nI src)), (2, .int (nI g)), (3, .int (nI c))]) (st2 := []) (w3 := w17) rfl rfl ?_
            exact sx_RP.ls (sx_lr.cons rfl (sx_lr.cons rfl (sx_lr.cons rfl (sx_lr.cons rfl (sx_lr.cons rfl sx_lr.nil))))) (kk w17 hI18 hE19 (by omega))
set_option maxRecDepth 20000 in
set_option maxHeartbeats 4000000 in
theorem K141jL {xs : Option (List Int32)} {d : Nat} {w0 : List sx_C} {P : Option Value → List sx_C → Prop} {src g c : Nat} (hg : g < 10) (hc : c < 48) (kx173 : ∀ (w4 : List sx_C), WI w4 → EWK w0 w4 → sx_RP xs (d + 3) 141 173 [(0, .ref 111), (1, .int (nI src)), (2, .int (nI g))] [] w4 P) : ∀ (fz j : Nat) (w : List sx_C) , 4 ≤ j + fz * 1 → j ≤ 4 → WI w → EWK w0 w → sx_RP xs (d + 3) 141 53 [(0, .ref 111), (1, .int (nI src)), (2, .int (nI g)), (3, .int (nI c)), (4, .int (nI j))] [] w P
  | 0, j, w, h, hj, hI, hE => K141jB hg hc hI hE hj   (fun w4  hI4 hE4 hlt  => absurd hlt (by omega)) kx173
  | fz + 1, j, w, h, hj, hI, hE => K141jB hg hc hI hE hj   (fun w4  hI4 hE4 hlt  => K141jL hg hc kx173 fz (j + 1) w4  (by omega) hlt hI4 hE4 ) kx173
set_option maxRecDepth 20000 in
set_option maxHeartbeats 4000000 in
theorem K141z {xs : Option (List Int32)} {d : Nat} {w : List sx_C} {P : Option Value → List sx_C → Prop} {src g : Nat} {b : Int32} (q : b < 0) (kk : P none w) : sx_RP xs d 141 39 [(0, .ref 111), (1, .int (nI src)), (2, .int (nI g)), (3, .int b)] [] w P := by
  refine sx_RP.step (pc2 := 40) (ls2 := [(0, .ref 111), (1, .int (nI src)), (2, .int (nI g)), (3, .int b)]) (st2 := [.int b]) (w3 := w) rfl rfl ?_
  refine sx_RP.br (p1 := 181) (l1 := [(0, .ref 111), (1, .int (nI src)), (2, .int (nI g)), (3, .int b)]) (s1 := []) (v1 := w) rfl rfl (fun _ => ?_) (fun z => absurd q (of_decide_eq_false z))
  exact ⟨none, w, sx_RU.ret rfl rfl, kk⟩
set_option maxRecDepth 20000 in
set_option maxHeartbeats 4000000 in
theorem K141m {xs : Option (List Int32)} {d : Nat} {w w0 : List sx_C} {P : Option Value → List sx_C → Prop} {src g c : Nat} (hg : g < 10) (hI : WI w) (hE : EK w0 w) (hc : c < 48) (kk : ∀ w2 wy, WI w2 → EK w0 w2 → ia w2 118 = (ia w 118).set c 1 → sx_RP xs (d + 3) 141 39 [(0, .ref 111), (1, .int (nI src)), (2, .int (nI g)), (3, .int (nrF wy (ia w2 118) 48 0 (-1)))] [] w2 P) : sx_RP xs (d + 3) 141 39 [(0, .ref 111), (1, .int (nI src)), (2, .int (nI g)), (3, .int (nI c))] [] w P := by
  have h8 := hI.1.a118
  have hI1 : WI (w.set 118 (.inl (1, (ia w 118).set c 1))) := hI.set h8.1 sh_set (cOK.free (by omega))
  have hE1 : EK w0 (w.set 118 (.inl (1, (ia w 118).set c 1))) := hE.set h8.1 (by omega) trivial
  have e1 : ia (w.set 118 (.inl (1, (ia w 118).set c 1))) 118 = (ia w 118).set c 1 := ia_set h8.1
  refine sx_RP.step (pc2 := 40) (ls2 := [(0, .ref 111), (1, .int (nI src)), (2, .int (nI g)), (3, .int (nI c))]) (st2 := [.int (nI c)]) (w3 := w) rfl rfl ?_
  refine sx_RP.br (p2 := 43) (l2 := [(0, .ref 111), (1, .int (nI src)), (2, .int (nI g)), (3, .int (nI c))]) (s2 := []) (v2 := w) rfl rfl (fun q => absurd (of_decide_eq_true q) (nI_pos (by omega))) (fun _ => ?_)
  refine sx_RP.step (pc2 := 44) (ls2 := [(0, .ref 111), (1, .int (nI src)), (2, .int (nI g)), (3, .int (nI c))]) (st2 := [.ref 111]) (w3 := w) rfl rfl ?_
  refine sx_RP.gf (v := .ref 118) rfl rfl hI.1.o111 rfl rfl (show _ = 47 from rfl) ?_
  refine sx_RP.step (pc2 := 48) (ls2 := [(0, .ref 111), (1, .int (nI src)), (2, .int (nI g)), (3, .int (nI c))]) (st2 := [.int (nI c), .ref 118]) (w3 := w) rfl rfl ?_
  refine sx_RP.step (pc2 := 49) (ls2 := [(0, .ref 111), (1, .int (nI src)), (2, .int (nI g)), (3, .int (nI c))]) (st2 := [.int 1, .int (nI c), .ref 118]) (w3 := w) rfl rfl ?_
  refine sx_RP.bst1 (c := c) (w2 := (w.set 118 (.inl (1, (ia w 118).set c 1)))) rfl h8.1 h8.2 (sx_in_nI hc (by decide)) (nI_clamp (by have := hc; omega)) rfl (show _ = 50 from rfl) ?_
  revert hI1 hE1 e1
  generalize w.set 118 (.inl (1, (ia w 118).set c 1)) = w1
  intro hI1 hE1 e1
  refine sx_RP.step (pc2 := 51) (ls2 := [(0, .ref 111), (1, .int (nI src)), (2, .int (nI g)), (3, .int (nI c))]) (st2 := [.int 0]) (w3 := w1) rfl rfl ?_
  refine sx_RP.step (pc2 := 53) (ls2 := [(4, .int (nI 0)), (0, .ref 111), (1, .int (nI src)), (2, .int (nI g)), (3, .int (nI c))]) (st2 := []) (w3 := w1) rfl rfl ?_
  refine sx_RP.ls (sx_lr.cons rfl (sx_lr.cons rfl (sx_lr.cons rfl (sx_lr.cons rfl (sx_lr.cons rfl sx_lr.nil))))) (K141jL hg hc (fun w4 hI4 hE4 => ?_) 4 0 w1 (by omega) (by omega) hI1 EWK.rf)
  refine sx_RP.step (pc2 := 174) (ls2 := [(0, .ref 111), (1, .int (nI src)), (2, .int (nI g))]) (st2 := [.ref 111]) (w3 := w4) rfl rfl ?_
  refine sx_RP.cu (as := [.ref 111]) (rest2 := []) (st3 := [.int (nrF (ia w4 117) (ia w4 118) 48 0 (-1))]) rfl rfl (sx_inv_v2 (mi := 141) (k := 90) (st := [.ref 111]) (w := w4) rfl rfl hI4.1.o111 rfl rfl rfl) rfl rfl (cp_149 hI4.1.o111 hI4.1.a117.1 hI4.1.a118.1 hI4.1.a117.2 hI4.1.a118.2) rfl ?_
  refine sx_RP.step (pc2 := 178) (ls2 := [(3, .int (nrF (ia w4 117) (ia w4 118) 48 0 (-1))), (0, .ref 111), (1, .int (nI src)), (2, .int (nI g))]) (st2 := []) (w3 := w4) rfl rfl ?_
  refine sx_RP.step (pc2 := 39) (ls2 := [(3, .int (nrF (ia w4 117) (ia w4 118) 48 0 (-1))), (0, .ref 111), (1, .int (nI src)), (2, .int (nI g))]) (st2 := []) (w3 := w4) rfl rfl ?_
  exact sx_RP.ls (sx_lr.cons rfl (sx_lr.cons rfl (sx_lr.cons rfl (sx_lr.cons rfl sx_lr.nil)))) (kk w4 _ hI4 (hE1.tr hE4.1) (hE4.2.trans e1))
theorem K141o {xs : Option (List Int32)} {d : Nat} {w0 : List sx_C} {src g : Nat} (hg : g < 10) : ∀ (f : Nat) (b : Int32) (w : List sx_C), (ia w 118).count 0 ≤ f → nrOK (ia w 118) b → WI w → EK w0 w → sx_RP xs (d + 3) 141 39 [(0, .ref 111), (1, .int (nI src)), (2, .int (nI g)), (3, .int b)] [] w (fun r w2 => r = none ∧ WI w2 ∧ EK w0 w2)
  | 0, b, w, hf, hb, hI, hE => by
    rcases hb with hb | ⟨c, hc, rfl, h0⟩
    · exact K141z hb ⟨rfl, hI, hE⟩
    · exact absurd (cnt_pos (by rw [hI.1.a118.2]; exact hc) h0) (by omega)
  | f + 1, b, w, hf, hb, hI, hE => by
    rcases hb with hb | ⟨c, hc, rfl, h0⟩
    · exact K141z hb ⟨rfl, hI, hE⟩
    · refine K141m hg hI hE hc (fun w2 wy h1 h2 h3 => K141o hg f _ w2 ?_ (nrF_ok 48 0 _ rfl (Or.inl (by decide))) h1 h2)
      rw [h3]
      exact cnt_set (by rw [hI.1.a118.2]; exact hc) h0 hf
set_option maxRecDepth 20000 in
set_option maxHeartbeats 4000000 in
theorem K141d {xs : Option (List Int32)} {d : Nat} {w : List sx_C} (hI : WI w) {src g : Nat} (hs : src < 48) (hg : g < 10) : sx_RP xs (d + 3) 141 0 (lv_args 0 [.ref 111, .int (nI src), .int (nI g)]) [] w (fun r w2 => r = none ∧ WI w2 ∧ EK w w2) := by
  refine sx_RP.step (pc2 := 1) (ls2 := [(0, .ref 111), (1, .int (nI src)), (2, .int (nI g))]) (st2 := [.int 0]) (w3 := w) rfl rfl ?_
  refine sx_RP.step (pc2 := 2) (ls2 := [(3, .int (nI 0)), (0, .ref 111), (1, .int (nI src)), (2, .int (nI g))]) (st2 := []) (w3 := w) rfl rfl ?_
  refine sx_RP.ls (sx_lr.cons rfl (sx_lr.cons rfl (sx_lr.cons rfl (sx_lr.cons rfl sx_lr.nil)))) (K141nL hs (fun w4 hI4 hE4 => ?_) 48 0 w (by omega) (by omega) hI EK.rf)
  refine sx_RP.step (pc2 := 38) (ls2 := [(0, .ref 111), (1, .int (nI src)), (2, .int (nI g))]) (st2 := [.int (nI src)]) (w3 := w4) rfl rfl ?_
  refine sx_RP.step (pc2 := 39) (ls2 := [(3, .int (nI src)), (0, .ref 111), (1, .int (nI src)), (2, .int (nI g))]) (st2 := []) (w3 := w4) rfl rfl ?_
  refine sx_RP.ls (sx_lr.cons rfl (sx_lr.cons rfl (sx_lr.cons rfl (sx_lr.cons rfl sx_lr.nil)))) (K141m hg hI4 hE4 hs (fun w2 wy h1 h2 _ => K141o hg 48 _ w2 ?_ (nrF_ok 48 0 _ rfl (Or.inl (by decide))) h1 h2))
  exact Nat.le_trans List.count_le_length (by rw [h1.1.a118.2]; exact Nat.le_refl _)
theorem K141s {xs : Option (List Int32)} {d : Nat} {w : List sx_C} (hI : WI w) {src : Nat} (hs : src < 48) : sx_RP xs (d + 1) 141 0 (lv_args 0 [.ref 111, .int (nI src), .int (-1)]) [] w (fun r w2 => r = none ∧ WI w2 ∧ EK w w2 ∧ ia w2 112 = ia w 112 ∧ wA (ia w 112) src 1000 (ia w2 117) ∧ ∀ c, c < 48 → (ia w2 117).getD c 0 ≠ -1) := by
  have h2 := hI.1.aM (a := 112) (by omega)
  have h7 := hI.1.a117
  have h8 := hI.1.a118
  have hw := wlF_inv (s := ia w 112) hs h7.2 h8.2
  have hl : (wlF (ia w 112) src (ia w 117) (ia w 118)).1.length = 48 ∧ (wlF (ia w 112) src (ia w 117) (ia w 118)).2.length = 48 := wkF_len 49 _ _ _ (wiF_len 48 0 _ h7.2) (flF_len 48 0 _ h8.2)
  have hc := cp_141 (xs := xs) (d := d) hI.1.o111 h2.1 h7.1 h8.1 h2.2 h7.2 h8.2 hs
  revert hw hl hc
  generalize wlF (ia w 112) src (ia w 117) (ia w 118) = p
  obtain ⟨wy, su⟩ := p
  intro hw hl hc
  have e7 : sx_sh (.inl (0, wy)) = sx_sh (.inl (0, ia w 117)) := by
    show (Sum.inl (0, List.replicate wy.length (0 : Int32)) : sx_C) = Sum.inl (0, List.replicate (ia w 117).length 0)
    rw [h7.2, hl.1]
  have e8 : sx_sh (.inl (1, su)) = sx_sh (.inl (1, ia w 118)) := by
    show (Sum.inl (1, List.replicate su.length (0 : Int32)) : sx_C) = Sum.inl (1, List.replicate (ia w 118).length 0)
    rw [h8.2, hl.2]
  have h8b : (w.set 117 (.inl (0, wy)))[118]? = some (.inl (1, ia w 118)) := by
    rw [List.getElem?_set_ne (by decide)]
    exact h8.1
  refine ⟨none, _, hc, rfl, (hI.set h7.1 e7 (cOK.free (by omega))).set h8b e8 (cOK.free (by omega)), (EK.rf.set h7.1 (by omega) trivial).set h8b (by omega) trivial, ?_, ?_⟩
  · rw [ia_ne (by omega), ia_ne (by omega)]
  · rw [ia_ne (by omega), ia_set h7.1]
    exact hw
theorem K141t {xs : Option (List Int32)} {d : Nat} {w : List sx_C} (hI : WI w) {src : Nat} (hs : src < 48) : sx_RP xs (d + 1) 141 0 (lv_args 0 [.ref 111, .int (nI src), .int (-1)]) [] w (fun r w2 => (r = none ∧ wOK w src w2) ∧ WI w2 ∧ EK w w2) := by
  obtain ⟨r, w2, h, h1, h2, h3, h4⟩ := K141s (xs := xs) (d := d) hI hs
  exact ⟨r, w2, h, ⟨h1, h4⟩, h2, h3⟩
set_option maxRecDepth 20000 in
set_option maxHeartbeats 4000000 in
theorem K140 {xs : Option (List Int32)} {d : Nat} {w : List sx_C} (hI : WI w) (a1 a2 : Int32) : sx_RP xs (d + 7) 140 0 (lv_args 0 [.ref 111, .int a1, .int a2]) [] w (fun r w2 => (∃ v : Int32, r = some (.int v)) ∧ WI w2 ∧ EK w w2) := by
  have hE : EK w w := EK.rf
  refine sx_RP.step (pc2 := 1) (ls2 := [(0, .ref 111), (1, .int a1), (2, .int a2)]) (st2 := [.int a1]) (w3 := w) rfl rfl ?_
  rcases in_cases a1 0 47 (m := 0) (n := 47) rfl rfl (by decide) (by decide) with q1 | ⟨x2, hx3, hx4, rfl⟩
  · refine sx_RP.cu (as := [.int a1]) (rest2 := []) (st3 := [.int 0]) rfl rfl rfl rfl rfl (cx_131n q1) rfl ?_
    refine sx_RP.step (pc2 := 14) (ls2 := [(0, .ref 111), (1, .int a1), (2, .int a2)]) (st2 := []) (w3 := w) rfl rfl ?_
    refine sx_RP.step (pc2 := 15) (ls2 := [(0, .ref 111), (1, .int a1), (2, .int a2)]) (st2 := [.ref 111]) (w3 := w) rfl rfl ?_
    refine sx_RP.step (pc2 := 16) (ls2 := [(0, .ref 111), (1, .int a1), (2, .int a2)]) (st2 := [.int 0, .ref 111]) (w3 := w) rfl rfl ?_
    refine sx_RP.callp (as2 := [.ref 111, .int 0]) (rest2 := []) rfl rfl (sx_inv_v2 (mi := 140) (k := 70) (st := [.int 0, .ref 111]) (w := w) rfl rfl hI.1.o111 rfl rfl rfl) rfl rfl rfl (K133_0 hI) (show _ = 19 from rfl) ?_
    rintro r4 w6 ⟨rfl, hI7, hE9⟩
    have hE8 := hE.tr (hE9)
    show sx_RP _ _ _ _ _ [.int (-1000000001)] _ _
    refine sx_RP.ret (r := (some (.int (-1000000001)))) rfl rfl ?_
    exact ⟨⟨_, rfl⟩, hI7, hE8⟩
  · refine sx_RP.cu (as := [.int (nI x2)]) (rest2 := []) (st3 := [.int 1]) rfl rfl rfl rfl rfl (cx_131p ⟨nI_le (a := 0) hx3 (by omega), nI_le (b := 47) hx4 (by decide)⟩) rfl ?_
    refine sx_RP.step (pc2 := 7) (ls2 := [(0, .ref 111), (1, .int (nI x2)), (2, .int a2)]) (st2 := []) (w3 := w) rfl rfl ?_
    refine sx_RP.step (pc2 := 8) (ls2 := [(0, .ref 111), (1, .int (nI x2)), (2, .int a2)]) (st2 := [.int a2]) (w3 := w) rfl rfl ?_
    rcases in_cases a2 0 47 (m := 0) (n := 47) rfl rfl (by decide) (by decide) with q10 | ⟨x11, hx12, hx13, rfl⟩
    · refine sx_RP.cu (as := [.int a2]) (rest2 := []) (st3 := [.int 0]) rfl rfl rfl rfl rfl (cx_131n q10) rfl ?_
      refine sx_RP.step (pc2 := 14) (ls2 := [(0, .ref 111), (1, .int (nI x2)), (2, .int a2)]) (st2 := []) (w3 := w) rfl rfl ?_
      refine sx_RP.step (pc2 := 15) (ls2 := [(0, .ref 111), (1, .int (nI x2)), (2, .int a2)]) (st2 := [.ref 111]) (w3 := w) rfl rfl ?_
      refine sx_RP.step (pc2 := 16) (ls2 := [(0, .ref 111), (1, .int (nI x2)), (2, .int a2)]) (st2 := [.int 0, .ref 111]) (w3 := w) rfl rfl ?_
      refine sx_RP.callp (as2 := [.ref 111, .int 0]) (rest2 := []) rfl rfl (sx_inv_v2 (mi := 140) (k := 70) (st := [.int 0, .ref 111]) (w := w) rfl rfl hI.1.o111 rfl rfl rfl) rfl rfl rfl (K133_0 hI) (show _ = 19 from rfl) ?_
      rintro r4 w15 ⟨rfl, hI16, hE18⟩
      have hE17 := hE.tr (hE18)
      show sx_RP _ _ _ _ _ [.int (-1000000001)] _ _
      refine sx_RP.ret (r := (some (.int (-1000000001)))) rfl rfl ?_
      exact ⟨⟨_, rfl⟩, hI16, hE17⟩
    · refine sx_RP.cu (as := [.int (nI x11)]) (rest2 := []) (st3 := [.int 1]) rfl rfl rfl rfl rfl (cx_131p ⟨nI_le (a := 0) hx12 (by omega), nI_le (b := 47) hx13 (by decide)⟩) rfl ?_
      refine sx_RP.step (pc2 := 20) (ls2 := [(0, .ref 111), (1, .int (nI x2)), (2, .int (nI x11))]) (st2 := []) (w3 := w) rfl rfl ?_
      refine sx_RP.step (pc2 := 21) (ls2 := [(0, .ref 111), (1, .int (nI x2)), (2, .int (nI x11))]) (st2 := [.ref 111]) (w3 := w) rfl rfl ?_
      refine sx_RP.step (pc2 := 22) (ls2 := [(0, .ref 111), (1, .int (nI x2)), (2, .int (nI x11))]) (st2 := [.int (nI x2), .ref 111]) (w3 := w) rfl rfl ?_
      refine sx_RP.step (pc2 := 23) (ls2 := [(0, .ref 111), (1, .int (nI x2)), (2, .int (nI x11))]) (st2 := [.int (-1), .int (nI x2), .ref 111]) (w3 := w) rfl rfl ?_
      refine sx_RP.callp (as2 := [.ref 111, .int (nI x2), .int (-1)]) (rest2 := []) rfl rfl (sx_inv_v2 (mi := 140) (k := 94) (st := [.int (-1), .int (nI x2), .ref 111]) (w := w) rfl rfl hI.1.o111 rfl rfl rfl) rfl rfl rfl (K141t hI (show x2 < 48 by omega)) (show _ = 26 from rfl) ?_
      rintro r4 w20 ⟨⟨rfl, hw19⟩, hI21, hE23⟩
      have hE22 := hE.tr (hE23)
      show sx_RP _ _ _ _ _ [] _ _
      refine sx_RP.step (pc2 := 27) (ls2 := [(0, .ref 111), (1, .int (nI x2)), (2, .int (nI x11))]) (st2 := [.ref 111]) (w3 := w20) rfl rfl ?_
      refine sx_RP.gf (v := .ref 117) rfl rfl hI21.1.o111 rfl rfl (show _ = 30 from rfl) ?_
      refine sx_RP.step (pc2 := 31) (ls2 := [(0, .ref 111), (1, .int (nI x2)), (2, .int (nI x11))]) (st2 := [.int (nI x11), .ref 117]) (w3 := w20) rfl rfl ?_
      refine sx_RP.ild (c := x11) rfl hI21.1.a117.1 hI21.1.a117.2 (sx_in_nI (show x11 < 48 by omega) (by decide)) (show (nI x11).toNatClampNeg = x11 from nI_clamp (by omega)) (show _ = 32 from rfl) ?_
      obtain ⟨x24, hx25, ex26⟩ : inR ((ia w20 117).getD x11 0) 1000 := hw19.at (show x11 < 48 by omega)
      rw [ex26]
      refine sx_RP.ret (r := (some (.int (nI x24)))) rfl rfl ?_
      exact ⟨⟨_, rfl⟩, hI21, hE22⟩
set_option maxRecDepth 20000 in
set_option maxHeartbeats 4000000 in
theorem K179 {xs : Option (List Int32)} {d : Nat} {w : List sx_C} (hI : WI w) (a1 a2 : Int32) : sx_RP xs (d + 7) 179 0 (lv_args 0 [.ref 111, .int a1, .int a2]) [] w (fun r w2 => (∃ v : Int32, r = some (.int v)) ∧ WI w2 ∧ EK w w2) := by
  have hE : EK w w := EK.rf
  refine sx_RP.step (pc2 := 1) (ls2 := [(0, .ref 111), (1, .int a1), (2, .int a2)]) (st2 := [.ref 111]) (w3 := w) rfl rfl ?_
  refine sx_RP.step (pc2 := 2) (ls2 := [(0, .ref 111), (1, .int a1), (2, .int a2)]) (st2 := [.int a1, .ref 111]) (w3 := w) rfl rfl ?_
  rcases p156 (xs := xs) hI a1 with c2 | ⟨⟨x3, hx4, rfl⟩, c2⟩
  · refine sx_RP.cu (as := [.ref 111, .int a1]) (rest2 := []) (st3 := [.int 0]) rfl rfl (sx_inv_v2 (mi := 179) (k := 124) (st := [.int a1, .ref 111]) (w := w) rfl rfl hI.1.o111 rfl rfl rfl) rfl rfl (c2) rfl ?_
    refine sx_RP.step (pc2 := 15) (ls2 := [(0, .ref 111), (1, .int a1), (2, .int a2)]) (st2 := []) (w3 := w) rfl rfl ?_
    refine sx_RP.step (pc2 := 16) (ls2 := [(0, .ref 111), (1, .int a1), (2, .int a2)]) (st2 := [.ref 111]) (w3 := w) rfl rfl ?_
    refine sx_RP.step (pc2 := 17) (ls2 := [(0, .ref 111), (1, .int a1), (2, .int a2)]) (st2 := [.int 0, .ref 111]) (w3 := w) rfl rfl ?_
    refine sx_RP.callp (as2 := [.ref 111, .int 0]) (rest2 := []) rfl rfl (sx_inv_v2 (mi := 179) (k := 70) (st := [.int 0, .ref 111]) (w := w) rfl rfl hI.1.o111 rfl rfl rfl) rfl rfl rfl (K133_0 hI) (show _ = 20 from rfl) ?_
    rintro r4 w6 ⟨rfl, hI7, hE9⟩
    have hE8 := hE.tr (hE9)
    show sx_RP _ _ _ _ _ [.int (-1000000001)] _ _
    refine sx_RP.ret (r := (some (.int (-1000000001)))) rfl rfl ?_
    exact ⟨⟨_, rfl⟩, hI7, hE8⟩
  · refine sx_RP.cu (as := [.ref 111, .int (nI x3)]) (rest2 := []) (st3 := [.int 1]) rfl rfl (sx_inv_v2 (mi := 179) (k := 124) (st := [.int (nI x3), .ref 111]) (w := w) rfl rfl hI.1.o111 rfl rfl rfl) rfl rfl (c2) rfl ?_
    refine sx_RP.step (pc2 := 8) (ls2 := [(0, .ref 111), (1, .int (nI x3)), (2, .int a2)]) (st2 := []) (w3 := w) rfl rfl ?_
    refine sx_RP.step (pc2 := 9) (ls2 := [(0, .ref 111), (1, .int (nI x3)), (2, .int a2)]) (st2 := [.int a2]) (w3 := w) rfl rfl ?_
    rcases in_cases a2 0 47 (m := 0) (n := 47) rfl rfl (by decide) (by decide) with q10 | ⟨x11, hx12, hx13, rfl⟩
    · refine sx_RP.cu (as := [.int a2]) (rest2 := []) (st3 := [.int 0]) rfl rfl rfl rfl rfl (cx_131n q10) rfl ?_
      refine sx_RP.step (pc2 := 15) (ls2 := [(0, .ref 111), (1, .int (nI x3)), (2, .int a2)]) (st2 := []) (w3 := w) rfl rfl ?_
      refine sx_RP.step (pc2 := 16) (ls2 := [(0, .ref 111), (1, .int (nI x3)), (2, .int a2)]) (st2 := [.ref 111]) (w3 := w) rfl rfl ?_
      refine sx_RP.step (pc2 := 17) (ls2 := [(0, .ref 111), (1, .int (nI x3)), (2, .int a2)]) (st2 := [.int 0, .ref 111]) (w3 := w) rfl rfl ?_
      refine sx_RP.callp (as2 := [.ref 111, .int 0]) (rest2 := []) rfl rfl (sx_inv_v2 (mi := 179) (k := 70) (st := [.int 0, .ref 111]) (w := w) rfl rfl hI.1.o111 rfl rfl rfl) rfl rfl rfl (K133_0 hI) (show _ = 20 from rfl) ?_
      rintro r4 w15 ⟨rfl, hI16, hE18⟩
      have hE17 := hE.tr (hE18)
      show sx_RP _ _ _ _ _ [.int (-1000000001)] _ _
      refine sx_RP.ret (r := (some (.int (-1000000001)))) rfl rfl ?_
      exact ⟨⟨_, rfl⟩, hI16, hE17⟩
    · refine sx_RP.cu (as := [.int (nI x11)]) (rest2 := []) (st3 := [.int 1]) rfl rfl rfl rfl rfl (cx_131p ⟨nI_le (a := 0) hx12 (by omega), nI_le (b := 47) hx13 (by decide)⟩) rfl ?_
      refine sx_RP.step (pc2 := 21) (ls2 := [(0, .ref 111), (1, .int (nI x3)), (2, .int (nI x11))]) (st2 := []) (w3 := w) rfl rfl ?_
      refine sx_RP.step (pc2 := 22) (ls2 := [(0, .ref 111), (1, .int (nI x3)), (2, .int (nI x11))]) (st2 := [.ref 111]) (w3 := w) rfl rfl ?_
      refine sx_RP.step (pc2 := 23) (ls2 := [(0, .ref 111), (1, .int (nI x3)), (2, .int (nI x11))]) (st2 := [.int (nI x3), .ref 111]) (w3 := w) rfl rfl ?_
      obtain ⟨x19, hx20, c21⟩ := p137 hI (show x3 < 10 by omega)
      refine sx_RP.cu (as := [.ref 111, .int (nI x3)]) (rest2 := []) (st3 := [.int (nI x19)]) rfl rfl (sx_inv_v2 (mi := 179) (k := 74) (st := [.int (nI x3), .ref 111]) (w := w) rfl rfl hI.1.o111 rfl rfl rfl) rfl rfl (c21) rfl ?_
      refine sx_RP.br (p1 := 38) (l1 := [(0, .ref 111), (1, .int (nI x3)), (2, .int (nI x11))]) (s1 := []) (v1 := w) (p2 := 29) (l2 := [(0, .ref 111), (1, .int (nI x3)), (2, .int (nI x11))]) (s2 := []) (v2 := w) rfl rfl (fun q22 => ?_) (fun q22 => ?_)
      · replace q22 := of_decide_eq_true q22
        replace q22 := (nI_eq (a := x19) (b := 0) (by omega) (by omega)).mp q22
        refine sx_RP.step (pc2 := 39) (ls2 := [(0, .ref 111), (1, .int (nI x3)), (2, .int (nI x11))]) (st2 := [.ref 111]) (w3 := w) rfl rfl ?_
        refine sx_RP.step (pc2 := 40) (ls2 := [(0, .ref 111), (1, .int (nI x3)), (2, .int (nI x11))]) (st2 := [.int 4, .ref 111]) (w3 := w) rfl rfl ?_
        refine sx_RP.callp (as2 := [.ref 111, .int 4]) (rest2 := []) rfl rfl (sx_inv_v2 (mi := 179) (k := 70) (st := [.int 4, .ref 111]) (w := w) rfl rfl hI.1.o111 rfl rfl rfl) rfl rfl rfl (K133_4 hI) (show _ = 43 from rfl) ?_
        rintro r4 w23 ⟨rfl, hI24, hE26⟩
        have hE25 := hE.tr (hE26)
        show sx_RP _ _ _ _ _ [.int (-1000000005)] _ _
        refine sx_RP.ret (r := (some (.int (-1000000005)))) rfl rfl ?_
        exact ⟨⟨_, rfl⟩, hI24, hE25⟩
      · replace q22 := of_decide_eq_false q22
        replace q22 := mt (nI_eq (a := x19) (b := 0) (by omega) (by omega)).mpr q22
        refine sx_RP.step (pc2 := 30) (ls2 := [(0, .ref 111), (1, .int (nI x3)), (2, .int (nI x11))]) (st2 := [.ref 111]) (w3 := w) rfl rfl ?_
        refine sx_RP.step (pc2 := 31) (ls2 := [(0, .ref 111), (1, .int (nI x3)), (2, .int (nI x11))]) (st2 := [.int (nI x3), .ref 111]) (w3 := w) rfl rfl ?_
        refine sx_RP.step (pc2 := 32) (ls2 := [(0, .ref 111), (1, .int (nI x3)), (2, .int (nI x11))]) (st2 := [.int 1, .int (nI x3), .ref 111]) (w3 := w) rfl rfl ?_
        obtain ⟨x27, hx28, c29⟩ := p138_1 hI (show x3 < 10 by omega)
        refine sx_RP.cu (as := [.ref 111, .int (nI x3), .int 1]) (rest2 := []) (st3 := [.int (nI x27)]) rfl rfl (sx_inv_v2 (mi := 179) (k := 59) (st := [.int 1, .int (nI x3), .ref 111]) (w := w) rfl rfl hI.1.o111 rfl rfl rfl) rfl rfl (c29) rfl ?_
        refine sx_RP.br (p1 := 44) (l1 := [(0, .ref 111), (1, .int (nI x3)), (2, .int (nI x11))]) (s1 := []) (v1 := w) (p2 := 38) (l2 := [(0, .ref 111), (1, .int (nI x3)), (2, .int (nI x11))]) (s2 := []) (v2 := w) rfl rfl (fun q30 => ?_) (fun q30 => ?_)
        · replace q30 := of_decide_eq_true q30
          replace q30 := mt (nI_eq (a := x27) (b := 0) (by omega) (by omega)).mpr q30
          refine sx_RP.step (pc2 := 45) (ls2 := [(0, .ref 111), (1, .int (nI x3)), (2, .int (nI x11))]) (st2 := [.ref 111]) (w3 := w) rfl rfl ?_
          refine sx_RP.step (pc2 := 46) (ls2 := [(0, .ref 111), (1, .int (nI x3)), (2, .int (nI x11))]) (st2 := [.ref 111, .ref 111]) (w3 := w) rfl rfl ?_
          refine sx_RP.step (pc2 := 47) (ls2 := [(0, .ref 111), (1, .int (nI x3)), (2, .int (nI x11))]) (st2 := [.int (nI x3), .ref 111, .ref 111]) (w3 := w) rfl rfl ?_
          refine sx_RP.step (pc2 := 48) (ls2 := [(0, .ref 111), (1, .int (nI x3)), (2, .int (nI x11))]) (st2 := [.int 2, .int (nI x3), .ref 111, .ref 111]) (w3 := w) rfl rfl ?_
          obtain ⟨x31, hx32, c33⟩ := p138_2 hI (show x3 < 10 by omega)
          refine sx_RP.cu (as := [.ref 111, .int (nI x3), .int 2]) (rest2 := [.ref 111]) (st3 := [.int (nI x31), .ref 111]) rfl rfl (sx_inv_v2 (mi := 179) (k := 59) (st := [.int 2, .int (nI x3), .ref 111, .ref 111]) (w := w) rfl rfl hI.1.o111 rfl rfl rfl) rfl rfl (c33) rfl ?_
          refine sx_RP.step (pc2 := 52) (ls2 := [(0, .ref 111), (1, .int (nI x3)), (2, .int (nI x11))]) (st2 := [.int (nI x3), .int (nI x31), .ref 111]) (w3 := w) rfl rfl ?_
          refine sx_RP.callp (as2 := [.ref 111, .int (nI x31), .int (nI x3)]) (rest2 := []) rfl rfl (sx_inv_v2 (mi := 179) (k := 94) (st := [.int (nI x3), .int (nI x31), .ref 111]) (w := w) rfl rfl hI.1.o111 rfl rfl rfl) rfl rfl rfl (K141d hI (show x31 < 48 by omega) (show x3 < 10 by omega)) (show _ = 55 from rfl) ?_
          rintro r4 w34 ⟨rfl, hI35, hE37⟩
          have hE36 := hE.tr (hE37)
          show sx_RP _ _ _ _ _ [] _ _
          refine sx_RP.step (pc2 := 56) (ls2 := [(0, .ref 111), (1, .int (nI x3)), (2, .int (nI x11))]) (st2 := [.ref 111]) (w3 := w34) rfl rfl ?_
          refine sx_RP.gf (v := .ref 117) rfl rfl hI35.1.o111 rfl rfl (show _ = 59 from rfl) ?_
          refine sx_RP.step (pc2 := 60) (ls2 := [(0, .ref 111), (1, .int (nI x3)), (2, .int (nI x11))]) (st2 := [.int (nI x11), .ref 117]) (w3 := w34) rfl rfl ?_
          refine sx_RP.ild (c := x11) rfl hI35.1.a117.1 hI35.1.a117.2 (sx_in_nI (show x11 < 48 by omega) (by decide)) (show (nI x11).toNatClampNeg = x11 from nI_clamp (by omega)) (show _ = 61 from rfl) ?_
          refine sx_RP.br (p1 := 72) (l1 := [(0, .ref 111), (1, .int (nI x3)), (2, .int (nI x11))]) (s1 := []) (v1 := w34) (p2 := 64) (l2 := [(0, .ref 111), (1, .int (nI x3)), (2, .int (nI x11))]) (s2 := []) (v2 := w34) rfl rfl (fun q38 => ?_) (fun q38 => ?_)
          · replace q38 := of_decide_eq_true q38
            refine sx_RP.step (pc2 := 73) (ls2 := [(0, .ref 111), (1, .int (nI x3)), (2, .int (nI x11))]) (st2 := [.ref 111]) (w3 := w34) rfl rfl ?_
            refine sx_RP.gf (v := .ref 117) rfl rfl hI35.1.o111 rfl rfl (show _ = 76 from rfl) ?_
            refine sx_RP.step (pc2 := 77) (ls2 := [(0, .ref 111), (1, .int (nI x3)), (2, .int (nI x11))]) (st2 := [.int (nI x11), .ref 117]) (w3 := w34) rfl rfl ?_
            refine sx_RP.ild (c := x11) rfl hI35.1.a117.1 hI35.1.a117.2 (sx_in_nI (show x11 < 48 by omega) (by decide)) (show (nI x11).toNatClampNeg = x11 from nI_clamp (by omega)) (show _ = 78 from rfl) ?_
            refine sx_RP.ret (r := (some (.int ((ia w34 117).getD x11 0)))) rfl rfl ?_
            exact ⟨⟨_, rfl⟩, hI35, hE36⟩
          · replace q38 := of_decide_eq_false q38
            refine sx_RP.step (pc2 := 65) (ls2 := [(0, .ref 111), (1, .int (nI x3)), (2, .int (nI x11))]) (st2 := [.ref 111]) (w3 := w34) rfl rfl ?_
            refine sx_RP.step (pc2 := 66) (ls2 := [(0, .ref 111), (1, .int (nI x3)), (2, .int (nI x11))]) (st2 := [.int 3, .ref 111]) (w3 := w34) rfl rfl ?_
            refine sx_RP.callp (as2 := [.ref 111, .int 3]) (rest2 := []) rfl rfl (sx_inv_v2 (mi := 179) (k := 70) (st := [.int 3, .ref 111]) (w := w34) rfl rfl hI35.1.o111 rfl rfl rfl) rfl rfl rfl (K133_3 hI35) (show _ = 69 from rfl) ?_
            rintro r4 w39 ⟨rfl, hI40, hE42⟩
            have hE41 := hE36.tr (hE42)
            show sx_RP _ _ _ _ _ [.int (-1000000004)] _ _
            refine sx_RP.step (pc2 := 78) (ls2 := [(0, .ref 111), (1, .int (nI x3)), (2, .int (nI x11))]) (st2 := [.int (-1000000004)]) (w3 := w39) rfl rfl ?_
            refine sx_RP.ret (r := (some (.int (-1000000004)))) rfl rfl ?_
            exact ⟨⟨_, rfl⟩, hI40, hE41⟩
        · replace q30 := Decidable.not_not.mp (of_decide_eq_false q30)
          replace q30 := (nI_eq (a := x27) (b := 0) (by omega) (by omega)).mp q30
          refine sx_RP.step (pc2 := 39) (ls2 := [(0, .ref 111), (1, .int (nI x3)), (2, .int (nI x11))]) (st2 := [.ref 111]) (w3 := w) rfl rfl ?_
          refine sx_RP.step (pc2 := 40) (ls2 := [(0, .ref 111), (1, .int (nI x3)), (2, .int (nI x11))]) (st2 := [.int 4, .ref 111]) (w3 := w) rfl rfl ?_
          refine sx_RP.callp (as2 := [.ref 111, .int 4]) (rest2 := []) rfl rfl (sx_inv_v2 (mi := 179) (k := 70) (st := [.int 4, .ref 111]) (w := w) rfl rfl hI.1.o111 rfl rfl rfl) rfl rfl rfl (K133_4 hI) (show _ = 43 from rfl) ?_
          rintro r4 w43 ⟨rfl, hI44, hE46⟩
          have hE45 := hE.tr (hE46)
          show sx_RP _ _ _ _ _ [.int (-1000000005)] _ _
          refine sx_RP.ret (r := (some (.int (-1000000005)))) rfl rfl ?_
          exact ⟨⟨_, rfl⟩, hI44, hE45⟩
set_option maxRecDepth 20000 in
set_option maxHeartbeats 4000000 in
theorem K190 {xs : Option (List Int32)} {d : Nat} {w : List sx_C} (hI : WI w) {c g : Nat} (hc : c < 48) (hg : g < 10) : sx_RP xs (d + 3) 190 0 (lv_args 0 [.ref 111, .int (nI c), .int (nI g)]) [] w (fun r w2 => (∃ v : Int32, r = some (.int v)) ∧ WI w2 ∧ EK w w2) := by
  have hE : EK w w := EK.rf
  refine sx_RP.step (pc2 := 1) (ls2 := [(0, .ref 111), (1, .int (nI c)), (2, .int (nI g))]) (st2 := [.ref 111]) (w3 := w) rfl rfl ?_
  refine sx_RP.step (pc2 := 2) (ls2 := [(0, .ref 111), (1, .int (nI c)), (2, .int (nI g))]) (st2 := [.int (nI g), .ref 111]) (w3 := w) rfl rfl ?_
  refine sx_RP.step (pc2 := 3) (ls2 := [(0, .ref 111), (1, .int (nI c)), (2, .int (nI g))]) (st2 := [.int 0, .int (nI g), .ref 111]) (w3 := w) rfl rfl ?_
  obtain ⟨x1, hx2, c3⟩ := p181 hI (show g < 10 by omega) 0
  refine sx_RP.cu (as := [.ref 111, .int (nI g), .int 0]) (rest2 := []) (st3 := [.int (nI x1)]) rfl rfl (sx_inv_v2 (mi := 190) (k := 165) (st := [.int 0, .int (nI g), .ref 111]) (w := w) rfl rfl hI.1.o111 rfl rfl rfl) rfl rfl (c3) rfl ?_
  refine sx_RP.br (p1 := 11) (l1 := [(0, .ref 111), (1, .int (nI c)), (2, .int (nI g))]) (s1 := []) (v1 := w) (p2 := 9) (l2 := [(0, .ref 111), (1, .int (nI c)), (2, .int (nI g))]) (s2 := []) (v2 := w) rfl rfl (fun q4 => ?_) (fun q4 => ?_)
  · replace q4 := of_decide_eq_true q4
    replace q4 := mt (nI_eq (a := x1) (b := 0) (by omega) (by omega)).mpr q4
    refine sx_RP.step (pc2 := 12) (ls2 := [(0, .ref 111), (1, .int (nI c)), (2, .int (nI g))]) (st2 := [.ref 111]) (w3 := w) rfl rfl ?_
    refine sx_RP.step (pc2 := 13) (ls2 := [(0, .ref 111), (1, .int (nI c)), (2, .int (nI g))]) (st2 := [.int (nI g), .ref 111]) (w3 := w) rfl rfl ?_
    refine sx_RP.step (pc2 := 14) (ls2 := [(0, .ref 111), (1, .int (nI c)), (2, .int (nI g))]) (st2 := [.int 2, .int (nI g), .ref 111]) (w3 := w) rfl rfl ?_
    obtain ⟨x5, hx6, c7⟩ := p138_2 hI (show g < 10 by omega)
    refine sx_RP.cu (as := [.ref 111, .int (nI g), .int 2]) (rest2 := []) (st3 := [.int (nI x5)]) rfl rfl (sx_inv_v2 (mi := 190) (k := 59) (st := [.int 2, .int (nI g), .ref 111]) (w := w) rfl rfl hI.1.o111 rfl rfl rfl) rfl rfl (c7) rfl ?_
    refine sx_RP.step (pc2 := 18) (ls2 := [(3, .int (nI x5)), (0, .ref 111), (1, .int (nI c)), (2, .int (nI g))]) (st2 := []) (w3 := w) rfl rfl ?_
    refine sx_RP.step (pc2 := 19) (ls2 := [(3, .int (nI x5)), (0, .ref 111), (1, .int (nI c)), (2, .int (nI g))]) (st2 := [.ref 111]) (w3 := w) rfl rfl ?_
    refine sx_RP.step (pc2 := 20) (ls2 := [(3, .int (nI x5)), (0, .ref 111), (1, .int (nI c)), (2, .int (nI g))]) (st2 := [.int (nI x5), .ref 111]) (w3 := w) rfl rfl ?_
    refine sx_RP.step (pc2 := 21) (ls2 := [(3, .int (nI x5)), (0, .ref 111), (1, .int (nI c)), (2, .int (nI g))]) (st2 := [.int (-1), .int (nI x5), .ref 111]) (w3 := w) rfl rfl ?_
    refine sx_RP.callp (as2 := [.ref 111, .int (nI x5), .int (-1)]) (rest2 := []) rfl rfl (sx_inv_v2 (mi := 190) (k := 94) (st := [.int (-1), .int (nI x5), .ref 111]) (w := w) rfl rfl hI.1.o111 rfl rfl rfl) rfl rfl rfl (K141t hI (show x5 < 48 by omega)) (show _ = 24 from rfl) ?_
    rintro r4 w9 ⟨⟨rfl, hw8⟩, hI10, hE12⟩
    have hE11 := hE.tr (hE12)
    show sx_RP _ _ _ _ _ [] _ _
    refine sx_RP.step (pc2 := 25) (ls2 := [(3, .int (nI x5)), (0, .ref 111), (1, .int (nI c)), (2, .int (nI g))]) (st2 := [.ref 111]) (w3 := w9) rfl rfl ?_
    refine sx_RP.step (pc2 := 26) (ls2 := [(3, .int (nI x5)), (0, .ref 111), (1, .int (nI c)), (2, .int (nI g))]) (st2 := [.ref 111, .ref 111]) (w3 := w9) rfl rfl ?_
    refine sx_RP.step (pc2 := 27) (ls2 := [(3, .int (nI x5)), (0, .ref 111), (1, .int (nI c)), (2, .int (nI g))]) (st2 := [.int (nI g), .ref 111, .ref 111]) (w3 := w9) rfl rfl ?_
    refine sx_RP.step (pc2 := 28) (ls2 := [(3, .int (nI x5)), (0, .ref 111), (1, .int (nI c)), (2, .int (nI g))]) (st2 := [.int 0, .int (nI g), .ref 111, .ref 111]) (w3 := w9) rfl rfl ?_
    obtain ⟨x13, hx14, c15⟩ := p138_0 hI10 (show g < 10 by omega)
    refine sx_RP.cu (as := [.ref 111, .int (nI g), .int 0]) (rest2 := [.ref 111]) (st3 := [.int (nI x13), .ref 111]) rfl rfl (sx_inv_v2 (mi := 190) (k := 59) (st := [.int 0, .int (nI g), .ref 111, .ref 111]) (w := w9) rfl rfl hI10.1.o111 rfl rfl rfl) rfl rfl (c15) rfl ?_
    refine sx_RP.step (pc2 := 32) (ls2 := [(3, .int (nI x5)), (0, .ref 111), (1, .int (nI c)), (2, .int (nI g))]) (st2 := [.int (nI x5), .int (nI x13), .ref 111]) (w3 := w9) rfl rfl ?_
    obtain ⟨v16, c17⟩ := p162 hI10 (nI x13) (show x5 < 48 by omega)
    refine sx_RP.cu (as := [.ref 111, .int (nI x13), .int (nI x5)]) (rest2 := []) (st3 := [.int v16]) rfl rfl (sx_inv_v2 (mi := 190) (k := 130) (st := [.int (nI x5), .int (nI x13), .ref 111]) (w := w9) rfl rfl hI10.1.o111 rfl rfl rfl) rfl rfl (c17) rfl ?_
    refine sx_RP.step (pc2 := 36) (ls2 := [(3, .int (nI x5)), (0, .ref 111), (1, .int (nI c)), (2, .int (nI g))]) (st2 := [.int 1, .int v16]) (w3 := w9) rfl rfl ?_
    refine sx_RP.step (pc2 := 37) (ls2 := [(3, .int (nI x5)), (0, .ref 111), (1, .int (nI c)), (2, .int (nI g))]) (st2 := [.ref 111, .int 1, .int v16]) (w3 := w9) rfl rfl ?_
    refine sx_RP.gf (v := .ref 117) rfl rfl hI10.1.o111 rfl rfl (show _ = 40 from rfl) ?_
    refine sx_RP.step (pc2 := 41) (ls2 := [(3, .int (nI x5)), (0, .ref 111), (1, .int (nI c)), (2, .int (nI g))]) (st2 := [.int (nI c), .ref 117, .int 1, .int v16]) (w3 := w9) rfl rfl ?_
    refine sx_RP.ild (c := c) rfl hI10.1.a117.1 hI10.1.a117.2 (sx_in_nI (show c < 48 by omega) (by decide)) (show (nI c).toNatClampNeg = c from nI_clamp (by omega)) (show _ = 42 from rfl) ?_
    obtain ⟨x18, hx19, ex20⟩ : inR ((ia w9 117).getD c 0) 1000 := hw8.at (show c < 48 by omega)
    rw [ex20]
    refine sx_RP.step (pc2 := 43) (ls2 := [(3, .int (nI x5)), (0, .ref 111), (1, .int (nI c)), (2, .int (nI g))]) (st2 := [.int (1 + (nI x18)), .int v16]) (w3 := w9) rfl rfl ?_
    rw [show (1 + (nI x18) : Int32) = nI (1 + x18) from nI_add 1 x18]
    refine sx_RP.idiv (pc2 := 44) rfl (nI_n0 (by omega) (by omega)) rfl ?_
    refine sx_RP.ret (r := (some (.int (v16 / (nI (1 + x18)))))) rfl rfl ?_
    exact ⟨⟨_, rfl⟩, hI10, hE11⟩
  · replace q4 := Decidable.not_not.mp (of_decide_eq_false q4)
    replace q4 := (nI_eq (a := x1) (b := 0) (by omega) (by omega)).mp q4
    refine sx_RP.step (pc2 := 10) (ls2 := [(0, .ref 111), (1, .int (nI c)), (2, .int (nI g))]) (st2 := [.int 0]) (w3 := w) rfl rfl ?_
    refine sx_RP.ret (r := (some (.int 0))) rfl rfl ?_
    exact ⟨⟨_, rfl⟩, hI, hE⟩
set_option maxRecDepth 20000 in
set_option maxHeartbeats 4000000 in
theorem K189B {xs : Option (List Int32)} {d : Nat} {w w0 : List sx_C} {c : Nat} (hc : c < 48) (hI : WI w) (hE : EK w0 w) {j : Nat} (hj : j ≤ 10) (n : Int32) (kk : ∀ (w4 : List sx_C) (un : Int32), WI w4 → EK w0 w4 → j + 1 ≤ 10 → sx_RP xs (d + 4) 189 4 [(0, .ref 111), (1, .int (nI c)), (2, .int un), (3, .int (nI (j + 1)))] [] w4 (fun r w2 => (∃ v : Int32, r = some (.int v)) ∧ WI w2 ∧ EK w0 w2)) : sx_RP xs (d + 4) 189 4 [(0, .ref 111), (1, .int (nI c)), (2, .int n), (3, .int (nI j))] [] w (fun r w2 => (∃ v : Int32, r = some (.int v)) ∧ WI w2 ∧ EK w0 w2) := by
  refine sx_RP.step (pc2 := 5) (ls2 := [(0, .ref 111), (1, .int (nI c)), (2, .int n), (3, .int (nI j))]) (st2 := [.int (nI j)]) (w3 := w) rfl rfl ?_
  refine sx_RP.step (pc2 := 6) (ls2 := [(0, .ref 111), (1, .int (nI c)), (2, .int n), (3, .int (nI j))]) (st2 := [.ref 111, .int (nI j)]) (w3 := w) rfl rfl ?_
  refine sx_RP.gf (v := .ref 112) rfl rfl hI.1.o111 rfl rfl (show _ = 9 from rfl) ?_
  refine sx_RP.step (pc2 := 10) (ls2 := [(0, .ref 111), (1, .int (nI c)), (2, .int n), (3, .int (nI j))]) (st2 := [.int 1, .ref 112, .int (nI j)]) (w3 := w) rfl rfl ?_
  refine sx_RP.ild (c := 1) rfl hI.1.a112.1 hI.1.a112.2 (sx_in_nI (show 1 < 172 by omega) (by decide)) (show (nI 1).toNatClampNeg = 1 from nI_clamp (by omega)) (show _ = 11 from rfl) ?_
  obtain ⟨x1, hx2, ex3⟩ : inR ((ia w 112).getD 1 0) 10 := (hI.s (1) (by omega)).1 rfl
  rw [ex3]
  refine sx_RP.br (p1 := 29) (l1 := [(0, .ref 111), (1, .int (nI c)), (2, .int n), (3, .int (nI j))]) (s1 := []) (v1 := w) (p2 := 14) (l2 := [(0, .ref 111), (1, .int (nI c)), (2, .int n), (3, .int (nI j))]) (s2 := []) (v2 := w) rfl rfl (fun q4 => ?_) (fun q4 => ?_)
  · replace q4 := of_decide_eq_true q4
    replace q4 := (nI_leI (a := x1) (b := j) (by omega) (by omega)).mp q4
    refine sx_RP.step (pc2 := 30) (ls2 := [(0, .ref 111), (1, .int (nI c)), (2, .int n), (3, .int (nI j))]) (st2 := [.int n]) (w3 := w) rfl rfl ?_
    refine sx_RP.ret (r := (some (.int n))) rfl rfl ?_
    exact ⟨⟨_, rfl⟩, hI, hE⟩
  · replace q4 := of_decide_eq_false q4
    replace q4 := mt (nI_leI (a := x1) (b := j) (by omega) (by omega)).mpr q4
    refine sx_RP.step (pc2 := 15) (ls2 := [(0, .ref 111), (1, .int (nI c)), (2, .int n), (3, .int (nI j))]) (st2 := [.int n]) (w3 := w) rfl rfl ?_
    refine sx_RP.step (pc2 := 16) (ls2 := [(0, .ref 111), (1, .int (nI c)), (2, .int n), (3, .int (nI j))]) (st2 := [.ref 111, .int n]) (w3 := w) rfl rfl ?_
    refine sx_RP.step (pc2 := 17) (ls2 := [(0, .ref 111), (1, .int (nI c)), (2, .int n), (3, .int (nI j))]) (st2 := [.int (nI c), .ref 111, .int n]) (w3 := w) rfl rfl ?_
    refine sx_RP.step (pc2 := 18) (ls2 := [(0, .ref 111), (1, .int (nI c)), (2, .int n), (3, .int (nI j))]) (st2 := [.int (nI j), .int (nI c), .ref 111, .int n]) (w3 := w) rfl rfl ?_
    refine sx_RP.callp (as2 := [.ref 111, .int (nI c), .int (nI j)]) (rest2 := [.int n]) rfl rfl (sx_inv_v2 (mi := 189) (k := 174) (st := [.int (nI j), .int (nI c), .ref 111, .int n]) (w := w) rfl rfl hI.1.o111 rfl rfl rfl) rfl rfl rfl (K190 hI (show c < 48 by omega) (show j < 10 by omega)) (show _ = 21 from rfl) ?_
    rintro r4 w6 ⟨⟨v5, rfl⟩, hI7, hE9⟩
    have hE8 := hE.tr (hE9)
    show sx_RP _ _ _ _ _ [.int v5, .int n] _ _
    refine sx_RP.step (pc2 := 22) (ls2 := [(0, .ref 111), (1, .int (nI c)), (2, .int n), (3, .int (nI j))]) (st2 := [.int (n + v5)]) (w3 := w6) rfl rfl ?_
    refine sx_RP.step (pc2 := 23) (ls2 := [(2, .int (n + v5)), (0, .ref 111), (1, .int (nI c)), (3, .int (nI j))]) (st2 := []) (w3 := w6) rfl rfl ?_
    refine sx_RP.step (pc2 := 26) (ls2 := [(3, .int ((nI j) + 1)), (2, .int (n + v5)), (0, .ref 111), (1, .int (nI c))]) (st2 := []) (w3 := w6) rfl rfl ?_
    rw [nI_1 j]
    refine sx_RP.step (pc2 := 4) (ls2 := [(3, .int (nI (j + 1))), (2, .int (n + v5)), (0, .ref 111), (1, .int (nI c))]) (st2 := []) (w3 := w6) rfl rfl ?_
    exact sx_RP.ls (sx_lr.cons rfl (sx_lr.cons rfl (sx_lr.cons rfl (sx_lr.cons rfl sx_lr.nil)))) (kk w6 (n + v5) hI7 hE8 (by omega))
set_option maxRecDepth 20000 in
set_option maxHeartbeats 4000000 in
theorem K189L {xs : Option (List Int32)} {d : Nat} {w0 : List sx_C} {c : Nat} (hc : c < 48) : ∀ (fz j : Nat) (w : List sx_C) (n : Int32) , 10 ≤ j + fz * 1 → j ≤ 10 → WI w → EK w0 w → sx_RP xs (d + 4) 189 4 [(0, .ref 111), (1, .int (nI c)), (2, .int n), (3, .int (nI j))] [] w (fun r w2 => (∃ v : Int32, r = some (.int v)) ∧ WI w2 ∧ EK w0 w2)
  | 0, j, w, n, h, hj, hI, hE => K189B hc hI hE hj n  (fun w4 un hI4 hE4 hlt  => absurd hlt (by omega)) 
  | fz + 1, j, w, n, h, hj, hI, hE => K189B hc hI hE hj n  (fun w4 un hI4 hE4 hlt  => K189L hc  fz (j + 1) w4 un (by omega) hlt hI4 hE4 ) 
set_option maxRecDepth 20000 in
set_option maxHeartbeats 4000000 in
theorem K189 {xs : Option (List Int32)} {d : Nat} {w : List sx_C} (hI : WI w) {c : Nat} (hc : c < 48) : sx_RP xs (d + 4) 189 0 (lv_args 0 [.ref 111, .int (nI c)]) [] w (fun r w2 => (∃ v : Int32, r = some (.int v)) ∧ WI w2 ∧ EK w w2) := by
  have hE : EK w w := EK.rf
  refine sx_RP.step (pc2 := 1) (ls2 := [(0, .ref 111), (1, .int (nI c))]) (st2 := [.int 0]) (w3 := w) rfl rfl ?_
  refine sx_RP.step (pc2 := 2) (ls2 := [(2, .int 0), (0, .ref 111), (1, .int (nI c))]) (st2 := []) (w3 := w) rfl rfl ?_
  refine sx_RP.step (pc2 := 3) (ls2 := [(2, .int 0), (0, .ref 111), (1, .int (nI c))]) (st2 := [.int 0]) (w3 := w) rfl rfl ?_
  refine sx_RP.step (pc2 := 4) (ls2 := [(3, .int 0), (2, .int 0), (0, .ref 111), (1, .int (nI c))]) (st2 := []) (w3 := w) rfl rfl ?_
  exact sx_RP.ls (sx_lr.cons rfl (sx_lr.cons rfl (sx_lr.cons rfl (sx_lr.cons rfl sx_lr.nil)))) (K189L hc 10 0 w 0 (by omega) (by omega) hI hE )
set_option maxRecDepth 20000 in
set_option maxHeartbeats 4000000 in
theorem K188 {xs : Option (List Int32)} {d : Nat} {w : List sx_C} (hI : WI w) {j : Nat} (hj : j < 9) : sx_RP xs (d + 5) 188 0 (lv_args 0 [.ref 111, .int (nI j)]) [] w (fun r w2 => (∃ v : Int32, r = some (.int v)) ∧ WI w2 ∧ EK w w2) := by
  have hE : EK w w := EK.rf
  refine sx_RP.step (pc2 := 1) (ls2 := [(0, .ref 111), (1, .int (nI j))]) (st2 := [.ref 111]) (w3 := w) rfl rfl ?_
  refine sx_RP.step (pc2 := 2) (ls2 := [(0, .ref 111), (1, .int (nI j))]) (st2 := [.ref 111, .ref 111]) (w3 := w) rfl rfl ?_
  refine sx_RP.gf (v := .ref 112) rfl rfl hI.1.o111 rfl rfl (show _ = 5 from rfl) ?_
  refine sx_RP.step (pc2 := 8) (ls2 := [(0, .ref 111), (1, .int (nI j))]) (st2 := [.int 163, .ref 112, .ref 111]) (w3 := w) rfl rfl ?_
  refine sx_RP.step (pc2 := 9) (ls2 := [(0, .ref 111), (1, .int (nI j))]) (st2 := [.int (nI j), .int 163, .ref 112, .ref 111]) (w3 := w) rfl rfl ?_
  refine sx_RP.step (pc2 := 10) (ls2 := [(0, .ref 111), (1, .int (nI j))]) (st2 := [.int (163 + (nI j)), .ref 112, .ref 111]) (w3 := w) rfl rfl ?_
  rw [show (163 + (nI j) : Int32) = nI (163 + j) from nI_add 163 j]
  refine sx_RP.ild (c := (163 + j)) rfl hI.1.a112.1 hI.1.a112.2 (sx_in_nI (show (163 + j) < 172 by omega) (by decide)) (show (nI (163 + j)).toNatClampNeg = (163 + j) from nI_clamp (by omega)) (show _ = 11 from rfl) ?_
  obtain ⟨x1, hx2, ex3⟩ : inR ((ia w 112).getD (163 + j) 0) 47 := (hI.s ((163 + j)) (by omega)).2.2.2.2.2.2.2.2 (by omega)
  rw [ex3]
  refine sx_RP.callp (as2 := [.ref 111, .int (nI x1)]) (rest2 := []) rfl rfl (sx_inv_v2 (mi := 188) (k := 177) (st := [.int (nI x1), .ref 111]) (w := w) rfl rfl hI.1.o111 rfl rfl rfl) rfl rfl rfl (K189 hI (show x1 < 48 by omega)) (show _ = 14 from rfl) ?_
  rintro r4 w5 ⟨⟨v4, rfl⟩, hI6, hE8⟩
  have hE7 := hE.tr (hE8)
  show sx_RP _ _ _ _ _ [.int v4] _ _
  refine sx_RP.ret (r := (some (.int v4))) rfl rfl ?_
  exact ⟨⟨_, rfl⟩, hI6, hE7⟩
set_option maxRecDepth 20000 in
set_option maxHeartbeats 4000000 in
theorem K187 {xs : Option (List Int32)} {d : Nat} {w : List sx_C} (hI : WI w) (a1 : Int32) : sx_RP xs (d + 7) 187 0 (lv_args 0 [.ref 111, .int a1]) [] w (fun r w2 => (∃ v : Int32, r = some (.int v)) ∧ WI w2 ∧ EK w w2) := by
  have hE : EK w w := EK.rf
  refine sx_RP.step (pc2 := 1) (ls2 := [(0, .ref 111), (1, .int a1)]) (st2 := [.ref 111]) (w3 := w) rfl rfl ?_
  refine sx_RP.step (pc2 := 2) (ls2 := [(0, .ref 111), (1, .int a1)]) (st2 := [.int a1, .ref 111]) (w3 := w) rfl rfl ?_
  rcases p186 (xs := xs) hI a1 with c2 | ⟨⟨x3, hx4, rfl⟩, c2⟩
  · refine sx_RP.cu (as := [.ref 111, .int a1]) (rest2 := []) (st3 := [.int 0]) rfl rfl (sx_inv_v2 (mi := 187) (k := 171) (st := [.int a1, .ref 111]) (w := w) rfl rfl hI.1.o111 rfl rfl rfl) rfl rfl (c2) rfl ?_
    refine sx_RP.step (pc2 := 16) (ls2 := [(0, .ref 111), (1, .int a1)]) (st2 := []) (w3 := w) rfl rfl ?_
    refine sx_RP.step (pc2 := 17) (ls2 := [(0, .ref 111), (1, .int a1)]) (st2 := [.ref 111]) (w3 := w) rfl rfl ?_
    refine sx_RP.step (pc2 := 18) (ls2 := [(0, .ref 111), (1, .int a1)]) (st2 := [.int 0, .ref 111]) (w3 := w) rfl rfl ?_
    refine sx_RP.callp (as2 := [.ref 111, .int 0]) (rest2 := []) rfl rfl (sx_inv_v2 (mi := 187) (k := 70) (st := [.int 0, .ref 111]) (w := w) rfl rfl hI.1.o111 rfl rfl rfl) rfl rfl rfl (K133_0 hI) (show _ = 21 from rfl) ?_
    rintro r4 w6 ⟨rfl, hI7, hE9⟩
    have hE8 := hE.tr (hE9)
    show sx_RP _ _ _ _ _ [.int (-1000000001)] _ _
    refine sx_RP.ret (r := (some (.int (-1000000001)))) rfl rfl ?_
    exact ⟨⟨_, rfl⟩, hI7, hE8⟩
  · refine sx_RP.cu (as := [.ref 111, .int (nI x3)]) (rest2 := []) (st3 := [.int 1]) rfl rfl (sx_inv_v2 (mi := 187) (k := 171) (st := [.int (nI x3), .ref 111]) (w := w) rfl rfl hI.1.o111 rfl rfl rfl) rfl rfl (c2) rfl ?_
    refine sx_RP.step (pc2 := 8) (ls2 := [(0, .ref 111), (1, .int (nI x3))]) (st2 := []) (w3 := w) rfl rfl ?_
    refine sx_RP.step (pc2 := 9) (ls2 := [(0, .ref 111), (1, .int (nI x3))]) (st2 := [.ref 111]) (w3 := w) rfl rfl ?_
    refine sx_RP.step (pc2 := 10) (ls2 := [(0, .ref 111), (1, .int (nI x3))]) (st2 := [.int (nI x3), .ref 111]) (w3 := w) rfl rfl ?_
    refine sx_RP.callp (as2 := [.ref 111, .int (nI x3)]) (rest2 := []) rfl rfl (sx_inv_v2 (mi := 187) (k := 180) (st := [.int (nI x3), .ref 111]) (w := w) rfl rfl hI.1.o111 rfl rfl rfl) rfl rfl rfl (K188 hI (show x3 < 9 by omega)) (show _ = 13 from rfl) ?_
    rintro r4 w11 ⟨⟨v10, rfl⟩, hI12, hE14⟩
    have hE13 := hE.tr (hE14)
    show sx_RP _ _ _ _ _ [.int v10] _ _
    refine sx_RP.step (pc2 := 21) (ls2 := [(0, .ref 111), (1, .int (nI x3))]) (st2 := [.int v10]) (w3 := w11) rfl rfl ?_
    refine sx_RP.ret (r := (some (.int v10))) rfl rfl ?_
    exact ⟨⟨_, rfl⟩, hI12, hE13⟩
set_option maxRecDepth 20000 in
set_option maxHeartbeats 4000000 in
theorem K191 {xs : Option (List Int32)} {d : Nat} {w : List sx_C} (hI : WI w) (a1 a2 : Int32) : sx_RP xs (d + 7) 191 0 (lv_args 0 [.ref 111, .int a1, .int a2]) [] w (fun r w2 => (∃ v : Int32, r = some (.int v)) ∧ WI w2 ∧ EK w w2) := by
  have hE : EK w w := EK.rf
  refine sx_RP.step (pc2 := 1) (ls2 := [(0, .ref 111), (1, .int a1), (2, .int a2)]) (st2 := [.ref 111]) (w3 := w) rfl rfl ?_
  refine sx_RP.step (pc2 := 2) (ls2 := [(0, .ref 111), (1, .int a1), (2, .int a2)]) (st2 := [.int a1, .ref 111]) (w3 := w) rfl rfl ?_
  rcases p186 (xs := xs) hI a1 with c2 | ⟨⟨x3, hx4, rfl⟩, c2⟩
  · refine sx_RP.cu (as := [.ref 111, .int a1]) (rest2 := []) (st3 := [.int 0]) rfl rfl (sx_inv_v2 (mi := 191) (k := 171) (st := [.int a1, .ref 111]) (w := w) rfl rfl hI.1.o111 rfl rfl rfl) rfl rfl (c2) rfl ?_
    refine sx_RP.step (pc2 := 34) (ls2 := [(0, .ref 111), (1, .int a1), (2, .int a2)]) (st2 := []) (w3 := w) rfl rfl ?_
    refine sx_RP.step (pc2 := 35) (ls2 := [(0, .ref 111), (1, .int a1), (2, .int a2)]) (st2 := [.ref 111]) (w3 := w) rfl rfl ?_
    refine sx_RP.step (pc2 := 36) (ls2 := [(0, .ref 111), (1, .int a1), (2, .int a2)]) (st2 := [.int 0, .ref 111]) (w3 := w) rfl rfl ?_
    refine sx_RP.callp (as2 := [.ref 111, .int 0]) (rest2 := []) rfl rfl (sx_inv_v2 (mi := 191) (k := 70) (st := [.int 0, .ref 111]) (w := w) rfl rfl hI.1.o111 rfl rfl rfl) rfl rfl rfl (K133_0 hI) (show _ = 39 from rfl) ?_
    rintro r4 w6 ⟨rfl, hI7, hE9⟩
    have hE8 := hE.tr (hE9)
    show sx_RP _ _ _ _ _ [.int (-1000000001)] _ _
    refine sx_RP.ret (r := (some (.int (-1000000001)))) rfl rfl ?_
    exact ⟨⟨_, rfl⟩, hI7, hE8⟩
  · refine sx_RP.cu (as := [.ref 111, .int (nI x3)]) (rest2 := []) (st3 := [.int 1]) rfl rfl (sx_inv_v2 (mi := 191) (k := 171) (st := [.int (nI x3), .ref 111]) (w := w) rfl rfl hI.1.o111 rfl rfl rfl) rfl rfl (c2) rfl ?_
    refine sx_RP.step (pc2 := 8) (ls2 := [(0, .ref 111), (1, .int (nI x3)), (2, .int a2)]) (st2 := []) (w3 := w) rfl rfl ?_
    refine sx_RP.step (pc2 := 9) (ls2 := [(0, .ref 111), (1, .int (nI x3)), (2, .int a2)]) (st2 := [.ref 111]) (w3 := w) rfl rfl ?_
    refine sx_RP.step (pc2 := 10) (ls2 := [(0, .ref 111), (1, .int (nI x3)), (2, .int a2)]) (st2 := [.int a2, .ref 111]) (w3 := w) rfl rfl ?_
    rcases p156 (xs := xs) hI a2 with c11 | ⟨⟨x12, hx13, rfl⟩, c11⟩
    · refine sx_RP.cu (as := [.ref 111, .int a2]) (rest2 := []) (st3 := [.int 0]) rfl rfl (sx_inv_v2 (mi := 191) (k := 124) (st := [.int a2, .ref 111]) (w := w) rfl rfl hI.1.o111 rfl rfl rfl) rfl rfl (c11) rfl ?_
      refine sx_RP.step (pc2 := 34) (ls2 := [(0, .ref 111), (1, .int (nI x3)), (2, .int a2)]) (st2 := []) (w3 := w) rfl rfl ?_
      refine sx_RP.step (pc2 := 35) (ls2 := [(0, .ref 111), (1, .int (nI x3)), (2, .int a2)]) (st2 := [.ref 111]) (w3 := w) rfl rfl ?_
      refine sx_RP.step (pc2 := 36) (ls2 := [(0, .ref 111), (1, .int (nI x3)), (2, .int a2)]) (st2 := [.int 0, .ref 111]) (w3 := w) rfl rfl ?_
      refine sx_RP.callp (as2 := [.ref 111, .int 0]) (rest2 := []) rfl rfl (sx_inv_v2 (mi := 191) (k := 70) (st := [.int 0, .ref 111]) (w := w) rfl rfl hI.1.o111 rfl rfl rfl) rfl rfl rfl (K133_0 hI) (show _ = 39 from rfl) ?_
      rintro r4 w15 ⟨rfl, hI16, hE18⟩
      have hE17 := hE.tr (hE18)
      show sx_RP _ _ _ _ _ [.int (-1000000001)] _ _
      refine sx_RP.ret (r := (some (.int (-1000000001)))) rfl rfl ?_
      exact ⟨⟨_, rfl⟩, hI16, hE17⟩
    · refine sx_RP.cu (as := [.ref 111, .int (nI x12)]) (rest2 := []) (st3 := [.int 1]) rfl rfl (sx_inv_v2 (mi := 191) (k := 124) (st := [.int (nI x12), .ref 111]) (w := w) rfl rfl hI.1.o111 rfl rfl rfl) rfl rfl (c11) rfl ?_
      refine sx_RP.step (pc2 := 16) (ls2 := [(0, .ref 111), (1, .int (nI x3)), (2, .int (nI x12))]) (st2 := []) (w3 := w) rfl rfl ?_
      refine sx_RP.step (pc2 := 17) (ls2 := [(0, .ref 111), (1, .int (nI x3)), (2, .int (nI x12))]) (st2 := [.ref 111]) (w3 := w) rfl rfl ?_
      refine sx_RP.step (pc2 := 18) (ls2 := [(0, .ref 111), (1, .int (nI x3)), (2, .int (nI x12))]) (st2 := [.ref 111, .ref 111]) (w3 := w) rfl rfl ?_
      refine sx_RP.gf (v := .ref 112) rfl rfl hI.1.o111 rfl rfl (show _ = 21 from rfl) ?_
      refine sx_RP.step (pc2 := 24) (ls2 := [(0, .ref 111), (1, .int (nI x3)), (2, .int (nI x12))]) (st2 := [.int 163, .ref 112, .ref 111]) (w3 := w) rfl rfl ?_
      refine sx_RP.step (pc2 := 25) (ls2 := [(0, .ref 111), (1, .int (nI x3)), (2, .int (nI x12))]) (st2 := [.int (nI x3), .int 163, .ref 112, .ref 111]) (w3 := w) rfl rfl ?_
      refine sx_RP.step (pc2 := 26) (ls2 := [(0, .ref 111), (1, .int (nI x3)), (2, .int (nI x12))]) (st2 := [.int (163 + (nI x3)), .ref 112, .ref 111]) (w3 := w) rfl rfl ?_
      rw [show (163 + (nI x3) : Int32) = nI (163 + x3) from nI_add 163 x3]
      refine sx_RP.ild (c := (163 + x3)) rfl hI.1.a112.1 hI.1.a112.2 (sx_in_nI (show (163 + x3) < 172 by omega) (by decide)) (show (nI (163 + x3)).toNatClampNeg = (163 + x3) from nI_clamp (by omega)) (show _ = 27 from rfl) ?_
      obtain ⟨x19, hx20, ex21⟩ : inR ((ia w 112).getD (163 + x3) 0) 47 := (hI.s ((163 + x3)) (by omega)).2.2.2.2.2.2.2.2 (by omega)
      rw [ex21]
      refine sx_RP.step (pc2 := 28) (ls2 := [(0, .ref 111), (1, .int (nI x3)), (2, .int (nI x12))]) (st2 := [.int (nI x12), .int (nI x19), .ref 111]) (w3 := w) rfl rfl ?_
      refine sx_RP.callp (as2 := [.ref 111, .int (nI x19), .int (nI x12)]) (rest2 := []) rfl rfl (sx_inv_v2 (mi := 191) (k := 174) (st := [.int (nI x12), .int (nI x19), .ref 111]) (w := w) rfl rfl hI.1.o111 rfl rfl rfl) rfl rfl rfl (K190 hI (show x19 < 48 by omega) (show x12 < 10 by omega)) (show _ = 31 from rfl) ?_
      rintro r4 w23 ⟨⟨v22, rfl⟩, hI24, hE26⟩
      have hE25 := hE.tr (hE26)
      show sx_RP _ _ _ _ _ [.int v22] _ _
      refine sx_RP.step (pc2 := 39) (ls2 := [(0, .ref 111), (1, .int (nI x3)), (2, .int (nI x12))]) (st2 := [.int v22]) (w3 := w23) rfl rfl ?_
      refine sx_RP.ret (r := (some (.int v22))) rfl rfl ?_
      exact ⟨⟨_, rfl⟩, hI24, hE25⟩
set_option maxRecDepth 20000 in
set_option maxHeartbeats 4000000 in
theorem K182aB {xs : Option (List Int32)} {d : Nat} {w w0 : List sx_C} {P : Option Value → List sx_C → Prop} {g t : Nat} (hg : g < 10) (ht : t < 10) (hI : WI w) (hE : EK w0 w) {j : Nat} (hj : j ≤ 10) (kk : ∀ (w4 : List sx_C), WI w4 → EK w0 w4 → j + 1 ≤ 10 → sx_RP xs (d + 4) 182 24 [(0, .ref 111), (1, .int (nI g)), (2, .int (nI t)), (3, .int (nI (j + 1)))] [] w4 P) (kx58 : ∀ (w4 : List sx_C), WI w4 → EK w0 w4 → sx_RP xs (d + 4) 182 58 [(0, .ref 111), (1, .int (nI g)), (2, .int (nI t))] [] w4 P) : sx_RP xs (d + 4) 182 24 [(0, .ref 111), (1, .int (nI g)), (2, .int (nI t)), (3, .int (nI j))] [] w P := by
  refine sx_RP.step (pc2 := 25) (ls2 := [(0, .ref 111), (1, .int (nI g)), (2, .int (nI t)), (3, .int (nI j))]) (st2 := [.int (nI j)]) (w3 := w) rfl rfl ?_
  refine sx_RP.step (pc2 := 26) (ls2 := [(0, .ref 111), (1, .int (nI g)), (2, .int (nI t)), (3, .int (nI j))]) (st2 := [.ref 111, .int (nI j)]) (w3 := w) rfl rfl ?_
  refine sx_RP.gf (v := .ref 112) rfl rfl hI.1.o111 rfl rfl (show _ = 29 from rfl) ?_
  refine sx_RP.step (pc2 := 30) (ls2 := [(0, .ref 111), (1, .int (nI g)), (2, .int (nI t)), (3, .int (nI j))]) (st2 := [.int 1, .ref 112, .int (nI j)]) (w3 := w) rfl rfl ?_
  refine sx_RP.ild (c := 1) rfl hI.1.a112.1 hI.1.a112.2 (sx_in_nI (show 1 < 172 by omega) (by decide)) (show (nI 1).toNatClampNeg = 1 from nI_clamp (by omega)) (show _ = 31 from rfl) ?_
  obtain ⟨x1, hx2, ex3⟩ : inR ((ia w 112).getD 1 0) 10 := (hI.s (1) (by omega)).1 rfl
  rw [ex3]
  refine sx_RP.br (p1 := 58) (l1 := [(0, .ref 111), (1, .int (nI g)), (2, .int (nI t)), (3, .int (nI j))]) (s1 := []) (v1 := w) (p2 := 34) (l2 := [(0, .ref 111), (1, .int (nI g)), (2, .int (nI t)), (3, .int (nI j))]) (s2 := []) (v2 := w) rfl rfl (fun q4 => ?_) (fun q4 => ?_)
  · replace q4 := of_decide_eq_true q4
    replace q4 := (nI_leI (a := x1) (b := j) (by omega) (by omega)).mp q4
    exact sx_RP.ls (sx_lr.cons rfl (sx_lr.cons rfl (sx_lr.cons rfl sx_lr.nil))) (kx58 w hI hE)
  · replace q4 := of_decide_eq_false q4
    replace q4 := mt (nI_leI (a := x1) (b := j) (by omega) (by omega)).mpr q4
    refine sx_RP.step (pc2 := 35) (ls2 := [(0, .ref 111), (1, .int (nI g)), (2, .int (nI t)), (3, .int (nI j))]) (st2 := [.ref 111]) (w3 := w) rfl rfl ?_
    refine sx_RP.step (pc2 := 36) (ls2 := [(0, .ref 111), (1, .int (nI g)), (2, .int (nI t)), (3, .int (nI j))]) (st2 := [.int (nI j), .ref 111]) (w3 := w) rfl rfl ?_
    refine sx_RP.step (pc2 := 37) (ls2 := [(0, .ref 111), (1, .int (nI g)), (2, .int (nI t)), (3, .int (nI j))]) (st2 := [.int 1, .int (nI j), .ref 111]) (w3 := w) rfl rfl ?_
    obtain ⟨x5, hx6, c7⟩ := p138_1 hI (show j < 10 by omega)
    refine sx_RP.cu (as := [.ref 111, .int (nI j), .int 1]) (rest2 := []) (st3 := [.int (nI x5)]) rfl rfl (sx_inv_v2 (mi := 182) (k := 59) (st := [.int 1, .int (nI j), .ref 111]) (w := w) rfl rfl hI.1.o111 rfl rfl rfl) rfl rfl (c7) rfl ?_
    refine sx_RP.step (pc2 := 41) (ls2 := [(0, .ref 111), (1, .int (nI g)), (2, .int (nI t)), (3, .int (nI j))]) (st2 := [.int 1, .int (nI x5)]) (w3 := w) rfl rfl ?_
    refine sx_RP.br (p1 := 52) (l1 := [(0, .ref 111), (1, .int (nI g)), (2, .int (nI t)), (3, .int (nI j))]) (s1 := []) (v1 := w) (p2 := 44) (l2 := [(0, .ref 111), (1, .int (nI g)), (2, .int (nI t)), (3, .int (nI j))]) (s2 := []) (v2 := w) rfl rfl (fun q8 => ?_) (fun q8 => ?_)
    · replace q8 := of_decide_eq_true q8
      replace q8 := mt (nI_eq (a := x5) (b := 1) (by omega) (by omega)).mpr q8
      refine sx_RP.step (pc2 := 55) (ls2 := [(3, .int ((nI j) + 1)), (0, .ref 111), (1, .int (nI g)), (2, .int (nI t))]) (st2 := []) (w3 := w) rfl rfl ?_
      rw [nI_1 j]
      refine sx_RP.step (pc2 := 24) (ls2 := [(3, .int (nI (j + 1))), (0, .ref 111), (1, .int (nI g)), (2, .int (nI t))]) (st2 := []) (w3 := w) rfl rfl ?_
      exact sx_RP.ls (sx_lr.cons rfl (sx_lr.cons rfl (sx_lr.cons rfl (sx_lr.cons rfl sx_lr.nil)))) (kk w hI hE (by omega))
    · replace q8 := Decidable.not_not.mp (of_decide_eq_false q8)
      replace q8 := (nI_eq (a := x5) (b := 1) (by omega) (by omega)).mp q8
      refine sx_RP.step (pc2 := 45) (ls2 := [(0, .ref 111), (1, .int (nI g)), (2, .int (nI t)), (3, .int (nI j))]) (st2 := [.ref 111]) (w3 := w) rfl rfl ?_
      refine sx_RP.step (pc2 := 46) (ls2 := [(0, .ref 111), (1, .int (nI g)), (2, .int (nI t)), (3, .int (nI j))]) (st2 := [.int (nI j), .ref 111]) (w3 := w) rfl rfl ?_
      refine sx_RP.step (pc2 := 47) (ls2 := [(0, .ref 111), (1, .int (nI g)), (2, .int (nI t)), (3, .int (nI j))]) (st2 := [.int 5, .int (nI j), .ref 111]) (w3 := w) rfl rfl ?_
      refine sx_RP.step (pc2 := 48) (ls2 := [(0, .ref 111), (1, .int (nI g)), (2, .int (nI t)), (3, .int (nI j))]) (st2 := [.int 1, .int 5, .int (nI j), .ref 111]) (w3 := w) rfl rfl ?_
      refine sx_RP.callp (as2 := [.ref 111, .int (nI j), .int 5, .int 1]) (rest2 := []) rfl rfl (sx_inv_v2 (mi := 182) (k := 110) (st := [.int 1, .int 5, .int (nI j), .ref 111]) (w := w) rfl rfl hI.1.o111 rfl rfl rfl) rfl rfl rfl (K154_5 hI (show j < 10 by omega) (show 1 ≤ 1 by omega)) (show _ = 51 from rfl) ?_
      rintro r4 w10 ⟨⟨v9, rfl⟩, hI11, hE13⟩
      have hE12 := hE.tr (hE13)
      show sx_RP _ _ _ _ _ [.int v9] _ _
      refine sx_RP.step (pc2 := 52) (ls2 := [(0, .ref 111), (1, .int (nI g)), (2, .int (nI t)), (3, .int (nI j))]) (st2 := []) (w3 := w10) rfl rfl ?_
      refine sx_RP.step (pc2 := 55) (ls2 := [(3, .int ((nI j) + 1)), (0, .ref 111), (1, .int (nI g)), (2, .int (nI t))]) (st2 := []) (w3 := w10) rfl rfl ?_
      rw [nI_1 j]
      refine sx_RP.step (pc2 := 24) (ls2 := [(3, .int (nI (j + 1))), (0, .ref 111), (1, .int (nI g)), (2, .int (nI t))]) (st2 := []) (w3 := w10) rfl rfl ?_
      exact sx_RP.ls (sx_lr.cons rfl (sx_lr.cons rfl (sx_lr.cons rfl (sx_lr.cons rfl sx_lr.nil)))) (kk w10 hI11 hE12 (by omega))
set_option maxRecDepth 20000 in
set_option maxHeartbeats 4000000 in
theorem K182aL {xs : Option (List Int32)} {d : Nat} {w0 : List sx_C} {P : Option Value → List sx_C → Prop} {g t : Nat} (hg : g < 10) (ht : t < 10) (kx58 : ∀ (w4 : List sx_C), WI w4 → EK w0 w4 → sx_RP xs (d + 4) 182 58 [(0, .ref 111), (1, .int (nI g)), (2, .int (nI t))] [] w4 P) : ∀ (fz j : Nat) (w : List sx_C) , 10 ≤ j + fz * 1 → j ≤ 10 → WI w → EK w0 w → sx_RP xs (d + 4) 182 24 [(0, .ref 111), (1, .int (nI g)), (2, .int (nI t)), (3, .int (nI j))] [] w P
  | 0, j, w, h, hj, hI, hE => K182aB hg ht hI hE hj   (fun w4  hI4 hE4 hlt  => absurd hlt (by omega)) kx58
  | fz + 1, j, w, h, hj, hI, hE => K182aB hg ht hI hE hj   (fun w4  hI4 hE4 hlt  => K182aL hg ht kx58 fz (j + 1) w4  (by omega) hlt hI4 hE4 ) kx58
set_option maxRecDepth 20000 in
set_option maxHeartbeats 4000000 in
theorem K182cB {xs : Option (List Int32)} {d : Nat} {w w0 : List sx_C} {P : Option Value → List sx_C → Prop} {g t : Nat} (hg : g < 10) (ht : t < 10) {n : Nat} (hI : WI w) (hE : EK w0 w) {j : Nat} (hj : j ≤ 48) (m : Int32) (kk : ∀ (w4 : List sx_C) (um : Int32), WI w4 → EK w0 w4 → j + 1 ≤ 48 → sx_RP xs (d + 4) 182 85 [(0, .ref 111), (1, .int (nI g)), (2, .int (nI t)), (3, .int (nI n)), (4, .int um), (5, .int (nI (j + 1)))] [] w4 P) (kx145 : ∀ (w4 : List sx_C) (um : Int32), WI w4 → EK w0 w4 → sx_RP xs (d + 4) 182 145 [(0, .ref 111), (1, .int (nI g)), (2, .int (nI t)), (3, .int (nI n)), (4, .int um)] [] w4 P) : sx_RP xs (d + 4) 182 85 [(0, .ref 111), (1, .int (nI g)), (2, .int (nI t)), (3, .int (nI n)), (4, .int m), (5, .int (nI j))] [] w P := by
  refine sx_RP.step (pc2 := 87) (ls2 := [(0, .ref 111), (1, .int (nI g)), (2, .int (nI t)), (3, .int (nI n)), (4, .int m), (5, .int (nI j))]) (st2 := [.int (nI j)]) (w3 := w) rfl rfl ?_
  refine sx_RP.step (pc2 := 89) (ls2 := [(0, .ref 111), (1, .int (nI g)), (2, .int (nI t)), (3, .int (nI n)), (4, .int m), (5, .int (nI j))]) (st2 := [.int 48, .int (nI j)]) (w3 := w) rfl rfl ?_
  refine sx_RP.br (p1 := 145) (l1 := [(0, .ref 111), (1, .int (nI g)), (2, .int (nI t)), (3, .int (nI n)), (4, .int m), (5, .int (nI j))]) (s1 := []) (v1 := w) (p2 := 92) (l2 := [(0, .ref 111), (1, .int (nI g)), (2, .int (nI t)), (3, .int (nI n)), (4, .int m), (5, .int (nI j))]) (s2 := []) (v2 := w) rfl rfl (fun q1 => ?_) (fun q1 => ?_)
  · replace q1 := of_decide_eq_true q1
    replace q1 := (nI_leI (a := 48) (b := j) (by omega) (by omega)).mp q1
    exact sx_RP.ls (sx_lr.cons rfl (sx_lr.cons rfl (sx_lr.cons rfl (sx_lr.cons rfl (sx_lr.cons rfl sx_lr.nil))))) (kx145 w m hI hE)
  · replace q1 := of_decide_eq_false q1
    replace q1 := mt (nI_leI (a := 48) (b := j) (by omega) (by omega)).mpr q1
    refine sx_RP.step (pc2 := 94) (ls2 := [(0, .ref 111), (1, .int (nI g)), (2, .int (nI t)), (3, .int (nI n)), (4, .int m), (5, .int (nI j))]) (st2 := [.int m]) (w3 := w) rfl rfl ?_
    refine sx_RP.br (p1 := 145) (l1 := [(0, .ref 111), (1, .int (nI g)), (2, .int (nI t)), (3, .int (nI n)), (4, .int m), (5, .int (nI j))]) (s1 := []) (v1 := w) (p2 := 97) (l2 := [(0, .ref 111), (1, .int (nI g)), (2, .int (nI t)), (3, .int (nI n)), (4, .int m), (5, .int (nI j))]) (s2 := []) (v2 := w) rfl rfl (fun q2 => ?_) (fun q2 => ?_)
    · replace q2 := of_decide_eq_true q2
      exact sx_RP.ls (sx_lr.cons rfl (sx_lr.cons rfl (sx_lr.cons rfl (sx_lr.cons rfl (sx_lr.cons rfl sx_lr.nil))))) (kx145 w m hI hE)
    · replace q2 := of_decide_eq_false q2
      refine sx_RP.step (pc2 := 98) (ls2 := [(0, .ref 111), (1, .int (nI g)), (2, .int (nI t)), (3, .int (nI n)), (4, .int m), (5, .int (nI j))]) (st2 := [.ref 111]) (w3 := w) rfl rfl ?_
      refine sx_RP.gf (v := .ref 117) rfl rfl hI.1.o111 rfl rfl (show _ = 101 from rfl) ?_
      refine sx_RP.step (pc2 := 103) (ls2 := [(0, .ref 111), (1, .int (nI g)), (2, .int (nI t)), (3, .int (nI n)), (4, .int m), (5, .int (nI j))]) (st2 := [.int (nI j), .ref 117]) (w3 := w) rfl rfl ?_
      refine sx_RP.ild (c := j) rfl hI.1.a117.1 hI.1.a117.2 (sx_in_nI (show j < 48 by omega) (by decide)) (show (nI j).toNatClampNeg = j from nI_clamp (by omega)) (show _ = 104 from rfl) ?_
      refine sx_RP.br (p1 := 136) (l1 := [(0, .ref 111), (1, .int (nI g)), (2, .int (nI t)), (3, .int (nI n)), (4, .int m), (5, .int (nI j))]) (s1 := []) (v1 := w) (p2 := 107) (l2 := [(0, .ref 111), (1, .int (nI g)), (2, .int (nI t)), (3, .int (nI n)), (4, .int m), (5, .int (nI j))]) (s2 := []) (v2 := w) rfl rfl (fun q3 => ?_) (fun q3 => ?_)
      · replace q3 := of_decide_eq_true q3
        refine sx_RP.step (pc2 := 137) (ls2 := [(0, .ref 111), (1, .int (nI g)), (2, .int (nI t)), (3, .int (nI n)), (4, .int m), (5, .int (nI j))]) (st2 := [.int (-1)]) (w3 := w) rfl rfl ?_
        refine sx_RP.step (pc2 := 139) (ls2 := [(4, .int (-1)), (0, .ref 111), (1, .int (nI g)), (2, .int (nI t)), (3, .int (nI n)), (5, .int (nI j))]) (st2 := []) (w3 := w) rfl rfl ?_
        refine sx_RP.step (pc2 := 142) (ls2 := [(5, .int ((nI j) + 1)), (4, .int (-1)), (0, .ref 111), (1, .int (nI g)), (2, .int (nI t)), (3, .int (nI n))]) (st2 := []) (w3 := w) rfl rfl ?_
        rw [nI_1 j]
        refine sx_RP.step (pc2 := 85) (ls2 := [(5, .int (nI (j + 1))), (4, .int (-1)), (0, .ref 111), (1, .int (nI g)), (2, .int (nI t)), (3, .int (nI n))]) (st2 := []) (w3 := w) rfl rfl ?_
        exact sx_RP.ls (sx_lr.cons rfl (sx_lr.cons rfl (sx_lr.cons rfl (sx_lr.cons rfl (sx_lr.cons rfl (sx_lr.cons rfl sx_lr.nil)))))) (kk w (-1) hI hE (by omega))
      · replace q3 := of_decide_eq_false q3
        refine sx_RP.step (pc2 := 108) (ls2 := [(0, .ref 111), (1, .int (nI g)), (2, .int (nI t)), (3, .int (nI n)), (4, .int m), (5, .int (nI j))]) (st2 := [.ref 111]) (w3 := w) rfl rfl ?_
        refine sx_RP.gf (v := .ref 117) rfl rfl hI.1.o111 rfl rfl (show _ = 111 from rfl) ?_
        refine sx_RP.step (pc2 := 113) (ls2 := [(0, .ref 111), (1, .int (nI g)), (2, .int (nI t)), (3, .int (nI n)), (4, .int m), (5, .int (nI j))]) (st2 := [.int (nI j), .ref 117]) (w3 := w) rfl rfl ?_
        refine sx_RP.ild (c := j) rfl hI.1.a117.1 hI.1.a117.2 (sx_in_nI (show j < 48 by omega) (by decide)) (show (nI j).toNatClampNeg = j from nI_clamp (by omega)) (show _ = 114 from rfl) ?_
        refine sx_RP.step (pc2 := 115) (ls2 := [(0, .ref 111), (1, .int (nI g)), (2, .int (nI t)), (3, .int (nI n)), (4, .int m), (5, .int (nI j))]) (st2 := [.int (nI n), .int ((ia w 117).getD j 0)]) (w3 := w) rfl rfl ?_
        refine sx_RP.br (p1 := 136) (l1 := [(0, .ref 111), (1, .int (nI g)), (2, .int (nI t)), (3, .int (nI n)), (4, .int m), (5, .int (nI j))]) (s1 := []) (v1 := w) (p2 := 118) (l2 := [(0, .ref 111), (1, .int (nI g)), (2, .int (nI t)), (3, .int (nI n)), (4, .int m), (5, .int (nI j))]) (s2 := []) (v2 := w) rfl rfl (fun q4 => ?_) (fun q4 => ?_)
        · replace q4 := of_decide_eq_true q4
          refine sx_RP.step (pc2 := 137) (ls2 := [(0, .ref 111), (1, .int (nI g)), (2, .int (nI t)), (3, .int (nI n)), (4, .int m), (5, .int (nI j))]) (st2 := [.int (-1)]) (w3 := w) rfl rfl ?_
          refine sx_RP.step (pc2 := 139) (ls2 := [(4, .int (-1)), (0, .ref 111), (1, .int (nI g)), (2, .int (nI t)), (3, .int (nI n)), (5, .int (nI j))]) (st2 := []) (w3 := w) rfl rfl ?_
          refine sx_RP.step (pc2 := 142) (ls2 := [(5, .int ((nI j) + 1)), (4, .int (-1)), (0, .ref 111), (1, .int (nI g)), (2, .int (nI t)), (3, .int (nI n))]) (st2 := []) (w3 := w) rfl rfl ?_
          rw [nI_1 j]
          refine sx_RP.step (pc2 := 85) (ls2 := [(5, .int (nI (j + 1))), (4, .int (-1)), (0, .ref 111), (1, .int (nI g)), (2, .int (nI t)), (3, .int (nI n))]) (st2 := []) (w3 := w) rfl rfl ?_
          exact sx_RP.ls (sx_lr.cons rfl (sx_lr.cons rfl (sx_lr.cons rfl (sx_lr.cons rfl (sx_lr.cons rfl (sx_lr.cons rfl sx_lr.nil)))))) (kk w (-1) hI hE (by omega))
        · replace q4 := of_decide_eq_false q4
          refine sx_RP.step (pc2 := 119) (ls2 := [(0, .ref 111), (1, .int (nI g)), (2, .int (nI t)), (3, .int (nI n)), (4, .int m), (5, .int (nI j))]) (st2 := [.ref 111]) (w3 := w) rfl rfl ?_
          refine sx_RP.step (pc2 := 120) (ls2 := [(0, .ref 111), (1, .int (nI g)), (2, .int (nI t)), (3, .int (nI n)), (4, .int m), (5, .int (nI j))]) (st2 := [.int (nI t), .ref 111]) (w3 := w) rfl rfl ?_
          refine sx_RP.step (pc2 := 121) (ls2 := [(0, .ref 111), (1, .int (nI g)), (2, .int (nI t)), (3, .int (nI n)), (4, .int m), (5, .int (nI j))]) (st2 := [.int 2, .int (nI t), .ref 111]) (w3 := w) rfl rfl ?_
          obtain ⟨x5, hx6, c7⟩ := p138_2 hI (show t < 10 by omega)
          refine sx_RP.cu (as := [.ref 111, .int (nI t), .int 2]) (rest2 := []) (st3 := [.int (nI x5)]) rfl rfl (sx_inv_v2 (mi := 182) (k := 59) (st := [.int 2, .int (nI t), .ref 111]) (w := w) rfl rfl hI.1.o111 rfl rfl rfl) rfl rfl (c7) rfl ?_
          refine sx_RP.step (pc2 := 126) (ls2 := [(0, .ref 111), (1, .int (nI g)), (2, .int (nI t)), (3, .int (nI n)), (4, .int m), (5, .int (nI j))]) (st2 := [.int (nI j), .int (nI x5)]) (w3 := w) rfl rfl ?_
          obtain ⟨x8, hx9, c10⟩ := p172 hI (show x5 < 48 by omega) (nI j)
          refine sx_RP.cu (as := [.int (nI x5), .int (nI j)]) (rest2 := []) (st3 := [.int (nI x8)]) rfl rfl rfl rfl rfl (c10) rfl ?_
          refine sx_RP.br (p1 := 136) (l1 := [(0, .ref 111), (1, .int (nI g)), (2, .int (nI t)), (3, .int (nI n)), (4, .int m), (5, .int (nI j))]) (s1 := []) (v1 := w) (p2 := 132) (l2 := [(0, .ref 111), (1, .int (nI g)), (2, .int (nI t)), (3, .int (nI n)), (4, .int m), (5, .int (nI j))]) (s2 := []) (v2 := w) rfl rfl (fun q11 => ?_) (fun q11 => ?_)
          · replace q11 := of_decide_eq_true q11
            replace q11 := (nI_eq (a := x8) (b := 0) (by omega) (by omega)).mp q11
            refine sx_RP.step (pc2 := 137) (ls2 := [(0, .ref 111), (1, .int (nI g)), (2, .int (nI t)), (3, .int (nI n)), (4, .int m), (5, .int (nI j))]) (st2 := [.int (-1)]) (w3 := w) rfl rfl ?_
            refine sx_RP.step (pc2 := 139) (ls2 := [(4, .int (-1)), (0, .ref 111), (1, .int (nI g)), (2, .int (nI t)), (3, .int (nI n)), (5, .int (nI j))]) (st2 := []) (w3 := w) rfl rfl ?_
            refine sx_RP.step (pc2 := 142) (ls2 := [(5, .int ((nI j) + 1)), (4, .int (-1)), (0, .ref 111), (1, .int (nI g)), (2, .int (nI t)), (3, .int (nI n))]) (st2 := []) (w3 := w) rfl rfl ?_
            rw [nI_1 j]
            refine sx_RP.step (pc2 := 85) (ls2 := [(5, .int (nI (j + 1))), (4, .int (-1)), (0, .ref 111), (1, .int (nI g)), (2, .int (nI t)), (3, .int (nI n))]) (st2 := []) (w3 := w) rfl rfl ?_
            exact sx_RP.ls (sx_lr.cons rfl (sx_lr.cons rfl (sx_lr.cons rfl (sx_lr.cons rfl (sx_lr.cons rfl (sx_lr.cons rfl sx_lr.nil)))))) (kk w (-1) hI hE (by omega))
          · replace q11 := of_decide_eq_false q11
            replace q11 := mt (nI_eq (a := x8) (b := 0) (by omega) (by omega)).mpr q11
            refine sx_RP.step (pc2 := 133) (ls2 := [(0, .ref 111), (1, .int (nI g)), (2, .int (nI t)), (3, .int (nI n)), (4, .int m), (5, .int (nI j))]) (st2 := [.int (nI n)]) (w3 := w) rfl rfl ?_
            refine sx_RP.step (pc2 := 137) (ls2 := [(0, .ref 111), (1, .int (nI g)), (2, .int (nI t)), (3, .int (nI n)), (4, .int m), (5, .int (nI j))]) (st2 := [.int (nI n)]) (w3 := w) rfl rfl ?_
            refine sx_RP.step (pc2 := 139) (ls2 := [(4, .int (nI n)), (0, .ref 111), (1, .int (nI g)), (2, .int (nI t)), (3, .int (nI n)), (5, .int (nI j))]) (st2 := []) (w3 := w) rfl rfl ?_
            refine sx_RP.step (pc2 := 142) (ls2 := [(5, .int ((nI j) + 1)), (4, .int (nI n)), (0, .ref 111), (1, .int (nI g)), (2, .int (nI t)), (3, .int (nI n))]) (st2 := []) (w3 := w) rfl rfl ?_
            rw [nI_1 j]
            refine sx_RP.step (pc2 := 85) (ls2 := [(5, .int (nI (j + 1))), (4, .int (nI n)), (0, .ref 111), (1, .int (nI g)), (2, .int (nI t)), (3, .int (nI n))]) (st2 := []) (w3 := w) rfl rfl ?_
            exact sx_RP.ls (sx_lr.cons rfl (sx_lr.cons rfl (sx_lr.cons rfl (sx_lr.cons rfl (sx_lr.cons rfl (sx_lr.cons rfl sx_lr.nil)))))) (kk w (nI n) hI hE (by omega))
set_option maxRecDepth 20000 in
set_option maxHeartbeats 4000000 in
theorem K182cL {xs : Option (List Int32)} {d : Nat} {w0 : List sx_C} {P : Option Value → List sx_C → Prop} {g t : Nat} (hg : g < 10) (ht : t < 10) {n : Nat} (kx145 : ∀ (w4 : List sx_C) (um : Int32), WI w4 → EK w0 w4 → sx_RP xs (d + 4) 182 145 [(0, .ref 111), (1, .int (nI g)), (2, .int (nI t)), (3, .int (nI n)), (4, .int um)] [] w4 P) : ∀ (fz j : Nat) (w : List sx_C) (m : Int32) , 48 ≤ j + fz * 1 → j ≤ 48 → WI w → EK w0 w → sx_RP xs (d + 4) 182 85 [(0, .ref 111), (1, .int (nI g)), (2, .int (nI t)), (3, .int (nI n)), (4, .int m), (5, .int (nI j))] [] w P
  | 0, j, w, m, h, hj, hI, hE => K182cB hg ht (n := n) hI hE hj m  (fun w4 um hI4 hE4 hlt  => absurd hlt (by omega)) kx145
  | fz + 1, j, w, m, h, hj, hI, hE => K182cB hg ht (n := n) hI hE hj m  (fun w4 um hI4 hE4 hlt  => K182cL hg ht (n := n) kx145 fz (j + 1) w4 um (by omega) hlt hI4 hE4 ) kx145
set_option maxRecDepth 20000 in
set_option maxHeartbeats 4000000 in
theorem K182bB {xs : Option (List Int32)} {d : Nat} {w w0 : List sx_C} {P : Option Value → List sx_C → Prop} {g t : Nat} (hg : g < 10) (ht : t < 10) (hI : WI w) (hE : EK w0 w) {j : Nat} (hj : j ≤ 61) (m : Int32) (kk : ∀ (w4 : List sx_C) (um : Int32), WI w4 → EK w0 w4 → j + 1 ≤ 61 → sx_RP xs (d + 4) 182 63 [(0, .ref 111), (1, .int (nI g)), (2, .int (nI t)), (4, .int um), (3, .int (nI (j + 1)))] [] w4 P) (kx155 : ∀ (w4 : List sx_C) (um : Int32), WI w4 → EK w0 w4 → sx_RP xs (d + 4) 182 155 [(0, .ref 111), (1, .int (nI g)), (2, .int (nI t)), (4, .int um)] [] w4 P) : sx_RP xs (d + 4) 182 63 [(0, .ref 111), (1, .int (nI g)), (2, .int (nI t)), (4, .int m), (3, .int (nI j))] [] w P := by
  refine sx_RP.step (pc2 := 64) (ls2 := [(0, .ref 111), (1, .int (nI g)), (2, .int (nI t)), (4, .int m), (3, .int (nI j))]) (st2 := [.int (nI j)]) (w3 := w) rfl rfl ?_
  refine sx_RP.step (pc2 := 66) (ls2 := [(0, .ref 111), (1, .int (nI g)), (2, .int (nI t)), (4, .int m), (3, .int (nI j))]) (st2 := [.int 60, .int (nI j)]) (w3 := w) rfl rfl ?_
  refine sx_RP.br (p1 := 155) (l1 := [(0, .ref 111), (1, .int (nI g)), (2, .int (nI t)), (4, .int m), (3, .int (nI j))]) (s1 := []) (v1 := w) (p2 := 69) (l2 := [(0, .ref 111), (1, .int (nI g)), (2, .int (nI t)), (4, .int m), (3, .int (nI j))]) (s2 := []) (v2 := w) rfl rfl (fun q1 => ?_) (fun q1 => ?_)
  · replace q1 := of_decide_eq_true q1
    replace q1 := (nI_ltI (a := 60) (b := j) (by omega) (by omega)).mp q1
    exact sx_RP.ls (sx_lr.cons rfl (sx_lr.cons rfl (sx_lr.cons rfl (sx_lr.cons rfl sx_lr.nil)))) (kx155 w m hI hE)
  · replace q1 := of_decide_eq_false q1
    replace q1 := mt (nI_ltI (a := 60) (b := j) (by omega) (by omega)).mpr q1
    refine sx_RP.step (pc2 := 71) (ls2 := [(0, .ref 111), (1, .int (nI g)), (2, .int (nI t)), (4, .int m), (3, .int (nI j))]) (st2 := [.int m]) (w3 := w) rfl rfl ?_
    refine sx_RP.br (p1 := 155) (l1 := [(0, .ref 111), (1, .int (nI g)), (2, .int (nI t)), (4, .int m), (3, .int (nI j))]) (s1 := []) (v1 := w) (p2 := 74) (l2 := [(0, .ref 111), (1, .int (nI g)), (2, .int (nI t)), (4, .int m), (3, .int (nI j))]) (s2 := []) (v2 := w) rfl rfl (fun q2 => ?_) (fun q2 => ?_)
    · replace q2 := of_decide_eq_true q2
      exact sx_RP.ls (sx_lr.cons rfl (sx_lr.cons rfl (sx_lr.cons rfl (sx_lr.cons rfl sx_lr.nil)))) (kx155 w m hI hE)
    · replace q2 := of_decide_eq_false q2
      refine sx_RP.step (pc2 := 75) (ls2 := [(0, .ref 111), (1, .int (nI g)), (2, .int (nI t)), (4, .int m), (3, .int (nI j))]) (st2 := [.ref 111]) (w3 := w) rfl rfl ?_
      refine sx_RP.step (pc2 := 76) (ls2 := [(0, .ref 111), (1, .int (nI g)), (2, .int (nI t)), (4, .int m), (3, .int (nI j))]) (st2 := [.int (nI t), .ref 111]) (w3 := w) rfl rfl ?_
      obtain ⟨x3, hx4, c5⟩ := p137 hI (show t < 10 by omega)
      refine sx_RP.cu (as := [.ref 111, .int (nI t)]) (rest2 := []) (st3 := [.int (nI x3)]) rfl rfl (sx_inv_v2 (mi := 182) (k := 74) (st := [.int (nI t), .ref 111]) (w := w) rfl rfl hI.1.o111 rfl rfl rfl) rfl rfl (c5) rfl ?_
      refine sx_RP.br (p1 := 155) (l1 := [(0, .ref 111), (1, .int (nI g)), (2, .int (nI t)), (4, .int m), (3, .int (nI j))]) (s1 := []) (v1 := w) (p2 := 82) (l2 := [(0, .ref 111), (1, .int (nI g)), (2, .int (nI t)), (4, .int m), (3, .int (nI j))]) (s2 := []) (v2 := w) rfl rfl (fun q6 => ?_) (fun q6 => ?_)
      · replace q6 := of_decide_eq_true q6
        replace q6 := (nI_eq (a := x3) (b := 0) (by omega) (by omega)).mp q6
        exact sx_RP.ls (sx_lr.cons rfl (sx_lr.cons rfl (sx_lr.cons rfl (sx_lr.cons rfl sx_lr.nil)))) (kx155 w m hI hE)
      · replace q6 := of_decide_eq_false q6
        replace q6 := mt (nI_eq (a := x3) (b := 0) (by omega) (by omega)).mpr q6
        refine sx_RP.step (pc2 := 83) (ls2 := [(0, .ref 111), (1, .int (nI g)), (2, .int (nI t)), (4, .int m), (3, .int (nI j))]) (st2 := [.int 0]) (w3 := w) rfl rfl ?_
        refine sx_RP.step (pc2 := 85) (ls2 := [(5, .int 0), (0, .ref 111), (1, .int (nI g)), (2, .int (nI t)), (4, .int m), (3, .int (nI j))]) (st2 := []) (w3 := w) rfl rfl ?_
        refine sx_RP.ls (sx_lr.cons rfl (sx_lr.cons rfl (sx_lr.cons rfl (sx_lr.cons rfl (sx_lr.cons rfl (sx_lr.cons rfl sx_lr.nil)))))) (K182cL hg ht (n := j) (fun w7 u10 hI8 hE9 => ?_) 48 0 w m (by omega) (by omega) hI hE )
        refine sx_RP.step (pc2 := 146) (ls2 := [(0, .ref 111), (1, .int (nI g)), (2, .int (nI t)), (3, .int (nI j)), (4, .int u10)]) (st2 := [.ref 111]) (w3 := w7) rfl rfl ?_
        refine sx_RP.callp (as2 := [.ref 111]) (rest2 := []) rfl rfl (sx_inv_v2 (mi := 182) (k := 143) (st := [.ref 111]) (w := w7) rfl rfl hI8.1.o111 rfl rfl rfl) rfl rfl rfl (K169 hI8 ) (show _ = 149 from rfl) ?_
        rintro r4 w11 ⟨rfl, hI12, hE14⟩
        have hE13 := hE9.tr (hE14)
        show sx_RP _ _ _ _ _ [] _ _
        refine sx_RP.step (pc2 := 152) (ls2 := [(3, .int ((nI j) + 1)), (0, .ref 111), (1, .int (nI g)), (2, .int (nI t)), (4, .int u10)]) (st2 := []) (w3 := w11) rfl rfl ?_
        rw [nI_1 j]
        refine sx_RP.step (pc2 := 63) (ls2 := [(3, .int (nI (j + 1))), (0, .ref 111), (1, .int (nI g)), (2, .int (nI t)), (4, .int u10)]) (st2 := []) (w3 := w11) rfl rfl ?_
        exact sx_RP.ls (sx_lr.cons rfl (sx_lr.cons rfl (sx_lr.cons rfl (sx_lr.cons rfl (sx_lr.cons rfl sx_lr.nil))))) (kk w11 u10 hI12 hE13 (by omega))
set_option maxRecDepth 20000 in
set_option maxHeartbeats 4000000 in
theorem K182bL {xs : Option (List Int32)} {d : Nat} {w0 : List sx_C} {P : Option Value → List sx_C → Prop} {g t : Nat} (hg : g < 10) (ht : t < 10) (kx155 : ∀ (w4 : List sx_C) (um : Int32), WI w4 → EK w0 w4 → sx_RP xs (d + 4) 182 155 [(0, .ref 111), (1, .int (nI g)), (2, .int (nI t)), (4, .int um)] [] w4 P) : ∀ (fz j : Nat) (w : List sx_C) (m : Int32) , 61 ≤ j + fz * 1 → j ≤ 61 → WI w → EK w0 w → sx_RP xs (d + 4) 182 63 [(0, .ref 111), (1, .int (nI g)), (2, .int (nI t)), (4, .int m), (3, .int (nI j))] [] w P
  | 0, j, w, m, h, hj, hI, hE => K182bB hg ht hI hE hj m  (fun w4 um hI4 hE4 hlt  => absurd hlt (by omega)) kx155
  | fz + 1, j, w, m, h, hj, hI, hE => K182bB hg ht hI hE hj m  (fun w4 um hI4 hE4 hlt  => K182bL hg ht kx155 fz (j + 1) w4 um (by omega) hlt hI4 hE4 ) kx155
set_option maxRecDepth 20000 in
set_option maxHeartbeats 4000000 in
theorem K182 {xs : Option (List Int32)} {d : Nat} {w : List sx_C} (hI : WI w) {g t : Nat} (hg : g < 10) (ht : t < 10) : sx_RP xs (d + 4) 182 0 (lv_args 0 [.ref 111, .int (nI g), .int (nI t)]) [] w (fun r w2 => (∃ v : Int32, r = some (.int v)) ∧ WI w2 ∧ EL w w2) := by
  have hE : EK w w := EK.rf
  refine sx_RP.step (pc2 := 1) (ls2 := [(0, .ref 111), (1, .int (nI g)), (2, .int (nI t))]) (st2 := [.ref 111]) (w3 := w) rfl rfl ?_
  refine sx_RP.step (pc2 := 2) (ls2 := [(0, .ref 111), (1, .int (nI g)), (2, .int (nI t))]) (st2 := [.ref 111, .ref 111]) (w3 := w) rfl rfl ?_
  refine sx_RP.step (pc2 := 3) (ls2 := [(0, .ref 111), (1, .int (nI g)), (2, .int (nI t))]) (st2 := [.int (nI g), .ref 111, .ref 111]) (w3 := w) rfl rfl ?_
  refine sx_RP.step (pc2 := 4) (ls2 := [(0, .ref 111), (1, .int (nI g)), (2, .int (nI t))]) (st2 := [.int 2, .int (nI g), .ref 111, .ref 111]) (w3 := w) rfl rfl ?_
  obtain ⟨x1, hx2, c3⟩ := p138_2 hI (show g < 10 by omega)
  refine sx_RP.cu (as := [.ref 111, .int (nI g), .int 2]) (rest2 := [.ref 111]) (st3 := [.int (nI x1), .ref 111]) rfl rfl (sx_inv_v2 (mi := 182) (k := 59) (st := [.int 2, .int (nI g), .ref 111, .ref 111]) (w := w) rfl rfl hI.1.o111 rfl rfl rfl) rfl rfl (c3) rfl ?_
  refine sx_RP.step (pc2 := 8) (ls2 := [(0, .ref 111), (1, .int (nI g)), (2, .int (nI t))]) (st2 := [.int (nI g), .int (nI x1), .ref 111]) (w3 := w) rfl rfl ?_
  refine sx_RP.callp (as2 := [.ref 111, .int (nI x1), .int (nI g)]) (rest2 := []) rfl rfl (sx_inv_v2 (mi := 182) (k := 94) (st := [.int (nI g), .int (nI x1), .ref 111]) (w := w) rfl rfl hI.1.o111 rfl rfl rfl) rfl rfl rfl (K141d hI (show x1 < 48 by omega) (show g < 10 by omega)) (show _ = 11 from rfl) ?_
  rintro r4 w4 ⟨rfl, hI5, hE7⟩
  have hE6 := hE.tr (hE7)
  show sx_RP _ _ _ _ _ [] _ _
  refine sx_RP.step (pc2 := 12) (ls2 := [(0, .ref 111), (1, .int (nI g)), (2, .int (nI t))]) (st2 := [.ref 111]) (w3 := w4) rfl rfl ?_
  refine sx_RP.gf (v := .ref 112) rfl rfl hI5.1.o111 rfl rfl (show _ = 15 from rfl) ?_
  refine sx_RP.step (pc2 := 16) (ls2 := [(0, .ref 111), (1, .int (nI g)), (2, .int (nI t))]) (st2 := [.ref 111, .ref 112]) (w3 := w4) rfl rfl ?_
  refine sx_RP.gf (v := .ref 114) rfl rfl hI5.1.o111 rfl rfl (show _ = 19 from rfl) ?_
  refine sx_RP.callp (as2 := [.ref 112, .ref 114]) (rest2 := []) rfl rfl rfl rfl rfl rfl (K175 hI5 (a := 112) (b := 114) (by decide) (by decide) (by decide)) (show _ = 22 from rfl) ?_
  rintro r4 w8 ⟨rfl, hI9, hE11⟩
  have hE10 : EK w8 w8 := EK.rf
  show sx_RP _ _ _ _ _ [] _ _
  refine sx_RP.step (pc2 := 23) (ls2 := [(0, .ref 111), (1, .int (nI g)), (2, .int (nI t))]) (st2 := [.int 0]) (w3 := w8) rfl rfl ?_
  refine sx_RP.step (pc2 := 24) (ls2 := [(3, .int 0), (0, .ref 111), (1, .int (nI g)), (2, .int (nI t))]) (st2 := []) (w3 := w8) rfl rfl ?_
  refine sx_RP.ls (sx_lr.cons rfl (sx_lr.cons rfl (sx_lr.cons rfl (sx_lr.cons rfl sx_lr.nil)))) (K182aL hg ht (fun w12 hI13 hE14 => ?_) 10 0 w8  (by omega) (by omega) hI9 hE10 )
  refine sx_RP.step (pc2 := 59) (ls2 := [(0, .ref 111), (1, .int (nI g)), (2, .int (nI t))]) (st2 := [.int 0]) (w3 := w12) rfl rfl ?_
  refine sx_RP.step (pc2 := 60) (ls2 := [(3, .int 0), (0, .ref 111), (1, .int (nI g)), (2, .int (nI t))]) (st2 := []) (w3 := w12) rfl rfl ?_
  refine sx_RP.step (pc2 := 61) (ls2 := [(3, .int 0), (0, .ref 111), (1, .int (nI g)), (2, .int (nI t))]) (st2 := [.int (-1)]) (w3 := w12) rfl rfl ?_
  refine sx_RP.step (pc2 := 63) (ls2 := [(4, .int (-1)), (3, .int 0), (0, .ref 111), (1, .int (nI g)), (2, .int (nI t))]) (st2 := []) (w3 := w12) rfl rfl ?_
  refine sx_RP.ls (sx_lr.cons rfl (sx_lr.cons rfl (sx_lr.cons rfl (sx_lr.cons rfl (sx_lr.cons rfl sx_lr.nil))))) (K182bL hg ht (fun w15 u18 hI16 hE17 => ?_) 61 0 w12 (-1) (by omega) (by omega) hI13 hE14 )
  refine sx_RP.step (pc2 := 156) (ls2 := [(0, .ref 111), (1, .int (nI g)), (2, .int (nI t)), (4, .int u18)]) (st2 := [.ref 111]) (w3 := w15) rfl rfl ?_
  refine sx_RP.gf (v := .ref 114) rfl rfl hI16.1.o111 rfl rfl (show _ = 159 from rfl) ?_
  refine sx_RP.step (pc2 := 160) (ls2 := [(0, .ref 111), (1, .int (nI g)), (2, .int (nI t)), (4, .int u18)]) (st2 := [.ref 111, .ref 114]) (w3 := w15) rfl rfl ?_
  refine sx_RP.gf (v := .ref 112) rfl rfl hI16.1.o111 rfl rfl (show _ = 163 from rfl) ?_
  refine sx_RP.callp (as2 := [.ref 114, .ref 112]) (rest2 := []) rfl rfl rfl rfl rfl rfl (K175 hI16 (a := 114) (b := 112) (by decide) (by decide) (by decide)) (show _ = 166 from rfl) ?_
  rintro r4 w19 ⟨rfl, hI20, hE22⟩
  have hE21 := ER.of hE17 hE22
  show sx_RP _ _ _ _ _ [] _ _
  refine sx_RP.step (pc2 := 168) (ls2 := [(0, .ref 111), (1, .int (nI g)), (2, .int (nI t)), (4, .int u18)]) (st2 := [.int u18]) (w3 := w19) rfl rfl ?_
  refine sx_RP.ret (r := (some (.int u18))) rfl rfl ?_
  exact ⟨⟨_, rfl⟩, hI20, EL.of hE6 hE11 hE21⟩
set_option maxRecDepth 20000 in
set_option maxHeartbeats 4000000 in
theorem K180 {xs : Option (List Int32)} {d : Nat} {w : List sx_C} (hI : WI w) (a1 a2 : Int32) : sx_RP xs (d + 7) 180 0 (lv_args 0 [.ref 111, .int a1, .int a2]) [] w (fun r w2 => (∃ v : Int32, r = some (.int v)) ∧ WI w2 ∧ EL w w2) := by
  have hE : EL w w := EL.rf
  refine sx_RP.step (pc2 := 1) (ls2 := [(0, .ref 111), (1, .int a1), (2, .int a2)]) (st2 := [.ref 111]) (w3 := w) rfl rfl ?_
  refine sx_RP.step (pc2 := 2) (ls2 := [(0, .ref 111), (1, .int a1), (2, .int a2)]) (st2 := [.int a1, .ref 111]) (w3 := w) rfl rfl ?_
  rcases p156 (xs := xs) hI a1 with c2 | ⟨⟨x3, hx4, rfl⟩, c2⟩
  · refine sx_RP.cu (as := [.ref 111, .int a1]) (rest2 := []) (st3 := [.int 0]) rfl rfl (sx_inv_v2 (mi := 180) (k := 124) (st := [.int a1, .ref 111]) (w := w) rfl rfl hI.1.o111 rfl rfl rfl) rfl rfl (c2) rfl ?_
    refine sx_RP.step (pc2 := 16) (ls2 := [(0, .ref 111), (1, .int a1), (2, .int a2)]) (st2 := []) (w3 := w) rfl rfl ?_
    refine sx_RP.step (pc2 := 17) (ls2 := [(0, .ref 111), (1, .int a1), (2, .int a2)]) (st2 := [.ref 111]) (w3 := w) rfl rfl ?_
    refine sx_RP.step (pc2 := 18) (ls2 := [(0, .ref 111), (1, .int a1), (2, .int a2)]) (st2 := [.int 0, .ref 111]) (w3 := w) rfl rfl ?_
    refine sx_RP.callp (as2 := [.ref 111, .int 0]) (rest2 := []) rfl rfl (sx_inv_v2 (mi := 180) (k := 70) (st := [.int 0, .ref 111]) (w := w) rfl rfl hI.1.o111 rfl rfl rfl) rfl rfl rfl (K133_0 hI) (show _ = 21 from rfl) ?_
    rintro r4 w6 ⟨rfl, hI7, hE9⟩
    have hE8 := hE.tr (hE9.el)
    show sx_RP _ _ _ _ _ [.int (-1000000001)] _ _
    refine sx_RP.ret (r := (some (.int (-1000000001)))) rfl rfl ?_
    exact ⟨⟨_, rfl⟩, hI7, hE8⟩
  · refine sx_RP.cu (as := [.ref 111, .int (nI x3)]) (rest2 := []) (st3 := [.int 1]) rfl rfl (sx_inv_v2 (mi := 180) (k := 124) (st := [.int (nI x3), .ref 111]) (w := w) rfl rfl hI.1.o111 rfl rfl rfl) rfl rfl (c2) rfl ?_
    refine sx_RP.step (pc2 := 8) (ls2 := [(0, .ref 111), (1, .int (nI x3)), (2, .int a2)]) (st2 := []) (w3 := w) rfl rfl ?_
    refine sx_RP.step (pc2 := 9) (ls2 := [(0, .ref 111), (1, .int (nI x3)), (2, .int a2)]) (st2 := [.ref 111]) (w3 := w) rfl rfl ?_
    refine sx_RP.step (pc2 := 10) (ls2 := [(0, .ref 111), (1, .int (nI x3)), (2, .int a2)]) (st2 := [.int a2, .ref 111]) (w3 := w) rfl rfl ?_
    rcases p156 (xs := xs) hI a2 with c11 | ⟨⟨x12, hx13, rfl⟩, c11⟩
    · refine sx_RP.cu (as := [.ref 111, .int a2]) (rest2 := []) (st3 := [.int 0]) rfl rfl (sx_inv_v2 (mi := 180) (k := 124) (st := [.int a2, .ref 111]) (w := w) rfl rfl hI.1.o111 rfl rfl rfl) rfl rfl (c11) rfl ?_
      refine sx_RP.step (pc2 := 16) (ls2 := [(0, .ref 111), (1, .int (nI x3)), (2, .int a2)]) (st2 := []) (w3 := w) rfl rfl ?_
      refine sx_RP.step (pc2 := 17) (ls2 := [(0, .ref 111), (1, .int (nI x3)), (2, .int a2)]) (st2 := [.ref 111]) (w3 := w) rfl rfl ?_
      refine sx_RP.step (pc2 := 18) (ls2 := [(0, .ref 111), (1, .int (nI x3)), (2, .int a2)]) (st2 := [.int 0, .ref 111]) (w3 := w) rfl rfl ?_
      refine sx_RP.callp (as2 := [.ref 111, .int 0]) (rest2 := []) rfl rfl (sx_inv_v2 (mi := 180) (k := 70) (st := [.int 0, .ref 111]) (w := w) rfl rfl hI.1.o111 rfl rfl rfl) rfl rfl rfl (K133_0 hI) (show _ = 21 from rfl) ?_
      rintro r4 w15 ⟨rfl, hI16, hE18⟩
      have hE17 := hE.tr (hE18.el)
      show sx_RP _ _ _ _ _ [.int (-1000000001)] _ _
      refine sx_RP.ret (r := (some (.int (-1000000001)))) rfl rfl ?_
      exact ⟨⟨_, rfl⟩, hI16, hE17⟩
    · refine sx_RP.cu (as := [.ref 111, .int (nI x12)]) (rest2 := []) (st3 := [.int 1]) rfl rfl (sx_inv_v2 (mi := 180) (k := 124) (st := [.int (nI x12), .ref 111]) (w := w) rfl rfl hI.1.o111 rfl rfl rfl) rfl rfl (c11) rfl ?_
      refine sx_RP.step (pc2 := 22) (ls2 := [(0, .ref 111), (1, .int (nI x3)), (2, .int (nI x12))]) (st2 := []) (w3 := w) rfl rfl ?_
      refine sx_RP.step (pc2 := 23) (ls2 := [(0, .ref 111), (1, .int (nI x3)), (2, .int (nI x12))]) (st2 := [.ref 111]) (w3 := w) rfl rfl ?_
      refine sx_RP.step (pc2 := 24) (ls2 := [(0, .ref 111), (1, .int (nI x3)), (2, .int (nI x12))]) (st2 := [.int (nI x3), .ref 111]) (w3 := w) rfl rfl ?_
      refine sx_RP.step (pc2 := 25) (ls2 := [(0, .ref 111), (1, .int (nI x3)), (2, .int (nI x12))]) (st2 := [.int 1, .int (nI x3), .ref 111]) (w3 := w) rfl rfl ?_
      obtain ⟨x19, hx20, c21⟩ := p181 hI (show x3 < 10 by omega) 1
      refine sx_RP.cu (as := [.ref 111, .int (nI x3), .int 1]) (rest2 := []) (st3 := [.int (nI x19)]) rfl rfl (sx_inv_v2 (mi := 180) (k := 165) (st := [.int 1, .int (nI x3), .ref 111]) (w := w) rfl rfl hI.1.o111 rfl rfl rfl) rfl rfl (c21) rfl ?_
      refine sx_RP.br (p1 := 49) (l1 := [(0, .ref 111), (1, .int (nI x3)), (2, .int (nI x12))]) (s1 := []) (v1 := w) (p2 := 31) (l2 := [(0, .ref 111), (1, .int (nI x3)), (2, .int (nI x12))]) (s2 := []) (v2 := w) rfl rfl (fun q22 => ?_) (fun q22 => ?_)
      · replace q22 := of_decide_eq_true q22
        replace q22 := (nI_eq (a := x19) (b := 0) (by omega) (by omega)).mp q22
        refine sx_RP.step (pc2 := 50) (ls2 := [(0, .ref 111), (1, .int (nI x3)), (2, .int (nI x12))]) (st2 := [.ref 111]) (w3 := w) rfl rfl ?_
        refine sx_RP.step (pc2 := 51) (ls2 := [(0, .ref 111), (1, .int (nI x3)), (2, .int (nI x12))]) (st2 := [.int 4, .ref 111]) (w3 := w) rfl rfl ?_
        refine sx_RP.callp (as2 := [.ref 111, .int 4]) (rest2 := []) rfl rfl (sx_inv_v2 (mi := 180) (k := 70) (st := [.int 4, .ref 111]) (w := w) rfl rfl hI.1.o111 rfl rfl rfl) rfl rfl rfl (K133_4 hI) (show _ = 54 from rfl) ?_
        rintro r4 w23 ⟨rfl, hI24, hE26⟩
        have hE25 := hE.tr (hE26.el)
        show sx_RP _ _ _ _ _ [.int (-1000000005)] _ _
        refine sx_RP.ret (r := (some (.int (-1000000005)))) rfl rfl ?_
        exact ⟨⟨_, rfl⟩, hI24, hE25⟩
      · replace q22 := of_decide_eq_false q22
        replace q22 := mt (nI_eq (a := x19) (b := 0) (by omega) (by omega)).mpr q22
        refine sx_RP.step (pc2 := 32) (ls2 := [(0, .ref 111), (1, .int (nI x3)), (2, .int (nI x12))]) (st2 := [.ref 111]) (w3 := w) rfl rfl ?_
        refine sx_RP.step (pc2 := 33) (ls2 := [(0, .ref 111), (1, .int (nI x3)), (2, .int (nI x12))]) (st2 := [.int (nI x12), .ref 111]) (w3 := w) rfl rfl ?_
        refine sx_RP.step (pc2 := 34) (ls2 := [(0, .ref 111), (1, .int (nI x3)), (2, .int (nI x12))]) (st2 := [.int 0, .int (nI x12), .ref 111]) (w3 := w) rfl rfl ?_
        obtain ⟨x27, hx28, c29⟩ := p181 hI (show x12 < 10 by omega) 0
        refine sx_RP.cu (as := [.ref 111, .int (nI x12), .int 0]) (rest2 := []) (st3 := [.int (nI x27)]) rfl rfl (sx_inv_v2 (mi := 180) (k := 165) (st := [.int 0, .int (nI x12), .ref 111]) (w := w) rfl rfl hI.1.o111 rfl rfl rfl) rfl rfl (c29) rfl ?_
        refine sx_RP.br (p1 := 49) (l1 := [(0, .ref 111), (1, .int (nI x3)), (2, .int (nI x12))]) (s1 := []) (v1 := w) (p2 := 40) (l2 := [(0, .ref 111), (1, .int (nI x3)), (2, .int (nI x12))]) (s2 := []) (v2 := w) rfl rfl (fun q30 => ?_) (fun q30 => ?_)
        · replace q30 := of_decide_eq_true q30
          replace q30 := (nI_eq (a := x27) (b := 0) (by omega) (by omega)).mp q30
          refine sx_RP.step (pc2 := 50) (ls2 := [(0, .ref 111), (1, .int (nI x3)), (2, .int (nI x12))]) (st2 := [.ref 111]) (w3 := w) rfl rfl ?_
          refine sx_RP.step (pc2 := 51) (ls2 := [(0, .ref 111), (1, .int (nI x3)), (2, .int (nI x12))]) (st2 := [.int 4, .ref 111]) (w3 := w) rfl rfl ?_
          refine sx_RP.callp (as2 := [.ref 111, .int 4]) (rest2 := []) rfl rfl (sx_inv_v2 (mi := 180) (k := 70) (st := [.int 4, .ref 111]) (w := w) rfl rfl hI.1.o111 rfl rfl rfl) rfl rfl rfl (K133_4 hI) (show _ = 54 from rfl) ?_
          rintro r4 w31 ⟨rfl, hI32, hE34⟩
          have hE33 := hE.tr (hE34.el)
          show sx_RP _ _ _ _ _ [.int (-1000000005)] _ _
          refine sx_RP.ret (r := (some (.int (-1000000005)))) rfl rfl ?_
          exact ⟨⟨_, rfl⟩, hI32, hE33⟩
        · replace q30 := of_decide_eq_false q30
          replace q30 := mt (nI_eq (a := x27) (b := 0) (by omega) (by omega)).mpr q30
          refine sx_RP.step (pc2 := 41) (ls2 := [(0, .ref 111), (1, .int (nI x3)), (2, .int (nI x12))]) (st2 := [.ref 111]) (w3 := w) rfl rfl ?_
          refine sx_RP.step (pc2 := 43) (ls2 := [(0, .ref 111), (1, .int (nI x3)), (2, .int (nI x12))]) (st2 := [.int 60, .ref 111]) (w3 := w) rfl rfl ?_
          obtain ⟨x35, hx36, c37⟩ := p165 hI 60
          refine sx_RP.cu (as := [.ref 111, .int 60]) (rest2 := []) (st3 := [.int (nI x35)]) rfl rfl (sx_inv_v2 (mi := 180) (k := 149) (st := [.int 60, .ref 111]) (w := w) rfl rfl hI.1.o111 rfl rfl rfl) rfl rfl (c37) rfl ?_
          refine sx_RP.br (p1 := 55) (l1 := [(0, .ref 111), (1, .int (nI x3)), (2, .int (nI x12))]) (s1 := []) (v1 := w) (p2 := 49) (l2 := [(0, .ref 111), (1, .int (nI x3)), (2, .int (nI x12))]) (s2 := []) (v2 := w) rfl rfl (fun q38 => ?_) (fun q38 => ?_)
          · replace q38 := of_decide_eq_true q38
            replace q38 := (nI_eq (a := x35) (b := 0) (by omega) (by omega)).mp q38
            refine sx_RP.step (pc2 := 56) (ls2 := [(0, .ref 111), (1, .int (nI x3)), (2, .int (nI x12))]) (st2 := [.ref 111]) (w3 := w) rfl rfl ?_
            refine sx_RP.step (pc2 := 57) (ls2 := [(0, .ref 111), (1, .int (nI x3)), (2, .int (nI x12))]) (st2 := [.int (nI x3), .ref 111]) (w3 := w) rfl rfl ?_
            refine sx_RP.step (pc2 := 58) (ls2 := [(0, .ref 111), (1, .int (nI x3)), (2, .int (nI x12))]) (st2 := [.int (nI x12), .int (nI x3), .ref 111]) (w3 := w) rfl rfl ?_
            refine sx_RP.callp (as2 := [.ref 111, .int (nI x3), .int (nI x12)]) (rest2 := []) rfl rfl (sx_inv_v2 (mi := 180) (k := 168) (st := [.int (nI x12), .int (nI x3), .ref 111]) (w := w) rfl rfl hI.1.o111 rfl rfl rfl) rfl rfl rfl (K182 hI (show x3 < 10 by omega) (show x12 < 10 by omega)) (show _ = 61 from rfl) ?_
            rintro r4 w40 ⟨⟨v39, rfl⟩, hI41, hE43⟩
            have hE42 := hE.tr (hE43)
            show sx_RP _ _ _ _ _ [.int v39] _ _
            refine sx_RP.step (pc2 := 62) (ls2 := [(3, .int v39), (0, .ref 111), (1, .int (nI x3)), (2, .int (nI x12))]) (st2 := []) (w3 := w40) rfl rfl ?_
            refine sx_RP.step (pc2 := 63) (ls2 := [(3, .int v39), (0, .ref 111), (1, .int (nI x3)), (2, .int (nI x12))]) (st2 := [.int v39]) (w3 := w40) rfl rfl ?_
            refine sx_RP.br (p1 := 74) (l1 := [(3, .int v39), (0, .ref 111), (1, .int (nI x3)), (2, .int (nI x12))]) (s1 := []) (v1 := w40) (p2 := 66) (l2 := [(3, .int v39), (0, .ref 111), (1, .int (nI x3)), (2, .int (nI x12))]) (s2 := []) (v2 := w40) rfl rfl (fun q44 => ?_) (fun q44 => ?_)
            · replace q44 := of_decide_eq_true q44
              refine sx_RP.step (pc2 := 75) (ls2 := [(3, .int v39), (0, .ref 111), (1, .int (nI x3)), (2, .int (nI x12))]) (st2 := [.int v39]) (w3 := w40) rfl rfl ?_
              refine sx_RP.ret (r := (some (.int v39))) rfl rfl ?_
              exact ⟨⟨_, rfl⟩, hI41, hE42⟩
            · replace q44 := of_decide_eq_false q44
              refine sx_RP.step (pc2 := 67) (ls2 := [(3, .int v39), (0, .ref 111), (1, .int (nI x3)), (2, .int (nI x12))]) (st2 := [.ref 111]) (w3 := w40) rfl rfl ?_
              refine sx_RP.step (pc2 := 68) (ls2 := [(3, .int v39), (0, .ref 111), (1, .int (nI x3)), (2, .int (nI x12))]) (st2 := [.int 3, .ref 111]) (w3 := w40) rfl rfl ?_
              refine sx_RP.callp (as2 := [.ref 111, .int 3]) (rest2 := []) rfl rfl (sx_inv_v2 (mi := 180) (k := 70) (st := [.int 3, .ref 111]) (w := w40) rfl rfl hI41.1.o111 rfl rfl rfl) rfl rfl rfl (K133_3 hI41) (show _ = 71 from rfl) ?_
              rintro r4 w45 ⟨rfl, hI46, hE48⟩
              have hE47 := hE42.tr (hE48.el)
              show sx_RP _ _ _ _ _ [.int (-1000000004)] _ _
              refine sx_RP.step (pc2 := 75) (ls2 := [(3, .int v39), (0, .ref 111), (1, .int (nI x3)), (2, .int (nI x12))]) (st2 := [.int (-1000000004)]) (w3 := w45) rfl rfl ?_
              refine sx_RP.ret (r := (some (.int (-1000000004)))) rfl rfl ?_
              exact ⟨⟨_, rfl⟩, hI46, hE47⟩
          · replace q38 := of_decide_eq_false q38
            replace q38 := mt (nI_eq (a := x35) (b := 0) (by omega) (by omega)).mpr q38
            refine sx_RP.step (pc2 := 50) (ls2 := [(0, .ref 111), (1, .int (nI x3)), (2, .int (nI x12))]) (st2 := [.ref 111]) (w3 := w) rfl rfl ?_
            refine sx_RP.step (pc2 := 51) (ls2 := [(0, .ref 111), (1, .int (nI x3)), (2, .int (nI x12))]) (st2 := [.int 4, .ref 111]) (w3 := w) rfl rfl ?_
            refine sx_RP.callp (as2 := [.ref 111, .int 4]) (rest2 := []) rfl rfl (sx_inv_v2 (mi := 180) (k := 70) (st := [.int 4, .ref 111]) (w := w) rfl rfl hI.1.o111 rfl rfl rfl) rfl rfl rfl (K133_4 hI) (show _ = 54 from rfl) ?_
            rintro r4 w49 ⟨rfl, hI50, hE52⟩
            have hE51 := hE.tr (hE52.el)
            show sx_RP _ _ _ _ _ [.int (-1000000005)] _ _
            refine sx_RP.ret (r := (some (.int (-1000000005)))) rfl rfl ?_
            exact ⟨⟨_, rfl⟩, hI50, hE51⟩
set_option maxRecDepth 20000 in
set_option maxHeartbeats 4000000 in
theorem K183B {xs : Option (List Int32)} {d : Nat} {w w0 : List sx_C} {t : Nat} (ht : t < 10) (hI : WI w) (hE : EL w0 w) {j : Nat} (hj : j ≤ 10) (m : Int32) (l : Int32) (kk : ∀ (w4 : List sx_C) (um : Int32) (ul : Int32), WI w4 → EL w0 w4 → j + 1 ≤ 10 → sx_RP xs (d + 7) 183 46 [(0, .ref 111), (1, .int (nI t)), (2, .int um), (3, .int ul), (4, .int (nI (j + 1)))] [] w4 (fun r w2 => (∃ v : Int32, r = some (.int v)) ∧ WI w2 ∧ EL w0 w2)) : sx_RP xs (d + 7) 183 46 [(0, .ref 111), (1, .int (nI t)), (2, .int m), (3, .int l), (4, .int (nI j))] [] w (fun r w2 => (∃ v : Int32, r = some (.int v)) ∧ WI w2 ∧ EL w0 w2) := by
  refine sx_RP.step (pc2 := 48) (ls2 := [(0, .ref 111), (1, .int (nI t)), (2, .int m), (3, .int l), (4, .int (nI j))]) (st2 := [.int (nI j)]) (w3 := w) rfl rfl ?_
  refine sx_RP.step (pc2 := 49) (ls2 := [(0, .ref 111), (1, .int (nI t)), (2, .int m), (3, .int l), (4, .int (nI j))]) (st2 := [.ref 111, .int (nI j)]) (w3 := w) rfl rfl ?_
  refine sx_RP.gf (v := .ref 112) rfl rfl hI.1.o111 rfl rfl (show _ = 52 from rfl) ?_
  refine sx_RP.step (pc2 := 53) (ls2 := [(0, .ref 111), (1, .int (nI t)), (2, .int m), (3, .int l), (4, .int (nI j))]) (st2 := [.int 1, .ref 112, .int (nI j)]) (w3 := w) rfl rfl ?_
  refine sx_RP.ild (c := 1) rfl hI.1.a112.1 hI.1.a112.2 (sx_in_nI (show 1 < 172 by omega) (by decide)) (show (nI 1).toNatClampNeg = 1 from nI_clamp (by omega)) (show _ = 54 from rfl) ?_
  obtain ⟨x1, hx2, ex3⟩ : inR ((ia w 112).getD 1 0) 10 := (hI.s (1) (by omega)).1 rfl
  rw [ex3]
  refine sx_RP.br (p1 := 103) (l1 := [(0, .ref 111), (1, .int (nI t)), (2, .int m), (3, .int l), (4, .int (nI j))]) (s1 := []) (v1 := w) (p2 := 57) (l2 := [(0, .ref 111), (1, .int (nI t)), (2, .int m), (3, .int l), (4, .int (nI j))]) (s2 := []) (v2 := w) rfl rfl (fun q4 => ?_) (fun q4 => ?_)
  · replace q4 := of_decide_eq_true q4
    replace q4 := (nI_leI (a := x1) (b := j) (by omega) (by omega)).mp q4
    refine sx_RP.step (pc2 := 104) (ls2 := [(0, .ref 111), (1, .int (nI t)), (2, .int m), (3, .int l), (4, .int (nI j))]) (st2 := [.int m]) (w3 := w) rfl rfl ?_
    refine sx_RP.br (p1 := 115) (l1 := [(0, .ref 111), (1, .int (nI t)), (2, .int m), (3, .int l), (4, .int (nI j))]) (s1 := []) (v1 := w) (p2 := 107) (l2 := [(0, .ref 111), (1, .int (nI t)), (2, .int m), (3, .int l), (4, .int (nI j))]) (s2 := []) (v2 := w) rfl rfl (fun q5 => ?_) (fun q5 => ?_)
    · replace q5 := of_decide_eq_true q5
      refine sx_RP.step (pc2 := 116) (ls2 := [(0, .ref 111), (1, .int (nI t)), (2, .int m), (3, .int l), (4, .int (nI j))]) (st2 := [.int m]) (w3 := w) rfl rfl ?_
      refine sx_RP.ret (r := (some (.int m))) rfl rfl ?_
      exact ⟨⟨_, rfl⟩, hI, hE⟩
    · replace q5 := of_decide_eq_false q5
      refine sx_RP.step (pc2 := 108) (ls2 := [(0, .ref 111), (1, .int (nI t)), (2, .int m), (3, .int l), (4, .int (nI j))]) (st2 := [.ref 111]) (w3 := w) rfl rfl ?_
      refine sx_RP.step (pc2 := 109) (ls2 := [(0, .ref 111), (1, .int (nI t)), (2, .int m), (3, .int l), (4, .int (nI j))]) (st2 := [.int 3, .ref 111]) (w3 := w) rfl rfl ?_
      refine sx_RP.callp (as2 := [.ref 111, .int 3]) (rest2 := []) rfl rfl (sx_inv_v2 (mi := 183) (k := 70) (st := [.int 3, .ref 111]) (w := w) rfl rfl hI.1.o111 rfl rfl rfl) rfl rfl rfl (K133_3 hI) (show _ = 112 from rfl) ?_
      rintro r4 w6 ⟨rfl, hI7, hE9⟩
      have hE8 := hE.tr (hE9.el)
      show sx_RP _ _ _ _ _ [.int (-1000000004)] _ _
      refine sx_RP.step (pc2 := 116) (ls2 := [(0, .ref 111), (1, .int (nI t)), (2, .int m), (3, .int l), (4, .int (nI j))]) (st2 := [.int (-1000000004)]) (w3 := w6) rfl rfl ?_
      refine sx_RP.ret (r := (some (.int (-1000000004)))) rfl rfl ?_
      exact ⟨⟨_, rfl⟩, hI7, hE8⟩
  · replace q4 := of_decide_eq_false q4
    replace q4 := mt (nI_leI (a := x1) (b := j) (by omega) (by omega)).mpr q4
    refine sx_RP.step (pc2 := 58) (ls2 := [(0, .ref 111), (1, .int (nI t)), (2, .int m), (3, .int l), (4, .int (nI j))]) (st2 := [.ref 111]) (w3 := w) rfl rfl ?_
    refine sx_RP.step (pc2 := 60) (ls2 := [(0, .ref 111), (1, .int (nI t)), (2, .int m), (3, .int l), (4, .int (nI j))]) (st2 := [.int (nI j), .ref 111]) (w3 := w) rfl rfl ?_
    refine sx_RP.step (pc2 := 61) (ls2 := [(0, .ref 111), (1, .int (nI t)), (2, .int m), (3, .int l), (4, .int (nI j))]) (st2 := [.int 1, .int (nI j), .ref 111]) (w3 := w) rfl rfl ?_
    obtain ⟨x10, hx11, c12⟩ := p181 hI (show j < 10 by omega) 1
    refine sx_RP.cu (as := [.ref 111, .int (nI j), .int 1]) (rest2 := []) (st3 := [.int (nI x10)]) rfl rfl (sx_inv_v2 (mi := 183) (k := 165) (st := [.int 1, .int (nI j), .ref 111]) (w := w) rfl rfl hI.1.o111 rfl rfl rfl) rfl rfl (c12) rfl ?_
    refine sx_RP.br (p1 := 77) (l1 := [(0, .ref 111), (1, .int (nI t)), (2, .int m), (3, .int l), (4, .int (nI j))]) (s1 := []) (v1 := w) (p2 := 67) (l2 := [(0, .ref 111), (1, .int (nI t)), (2, .int m), (3, .int l), (4, .int (nI j))]) (s2 := []) (v2 := w) rfl rfl (fun q13 => ?_) (fun q13 => ?_)
    · replace q13 := of_decide_eq_true q13
      replace q13 := (nI_eq (a := x10) (b := 0) (by omega) (by omega)).mp q13
      refine sx_RP.step (pc2 := 78) (ls2 := [(0, .ref 111), (1, .int (nI t)), (2, .int m), (3, .int l), (4, .int (nI j))]) (st2 := [.int (-1)]) (w3 := w) rfl rfl ?_
      refine sx_RP.step (pc2 := 80) (ls2 := [(5, .int (-1)), (0, .ref 111), (1, .int (nI t)), (2, .int m), (3, .int l), (4, .int (nI j))]) (st2 := []) (w3 := w) rfl rfl ?_
      refine sx_RP.step (pc2 := 82) (ls2 := [(5, .int (-1)), (0, .ref 111), (1, .int (nI t)), (2, .int m), (3, .int l), (4, .int (nI j))]) (st2 := [.int (-1)]) (w3 := w) rfl rfl ?_
      refine sx_RP.step (pc2 := 97) (ls2 := [(5, .int (-1)), (0, .ref 111), (1, .int (nI t)), (2, .int m), (3, .int l), (4, .int (nI j))]) (st2 := []) (w3 := w) rfl rfl ?_
      refine sx_RP.step (pc2 := 100) (ls2 := [(4, .int ((nI j) + 1)), (5, .int (-1)), (0, .ref 111), (1, .int (nI t)), (2, .int m), (3, .int l)]) (st2 := []) (w3 := w) rfl rfl ?_
      rw [nI_1 j]
      refine sx_RP.step (pc2 := 46) (ls2 := [(4, .int (nI (j + 1))), (5, .int (-1)), (0, .ref 111), (1, .int (nI t)), (2, .int m), (3, .int l)]) (st2 := []) (w3 := w) rfl rfl ?_
      exact sx_RP.ls (sx_lr.cons rfl (sx_lr.cons rfl (sx_lr.cons rfl (sx_lr.cons rfl (sx_lr.cons rfl sx_lr.nil))))) (kk w m l hI hE (by omega))
    · replace q13 := of_decide_eq_false q13
      replace q13 := mt (nI_eq (a := x10) (b := 0) (by omega) (by omega)).mpr q13
      refine sx_RP.step (pc2 := 68) (ls2 := [(0, .ref 111), (1, .int (nI t)), (2, .int m), (3, .int l), (4, .int (nI j))]) (st2 := [.ref 111]) (w3 := w) rfl rfl ?_
      refine sx_RP.step (pc2 := 70) (ls2 := [(0, .ref 111), (1, .int (nI t)), (2, .int m), (3, .int l), (4, .int (nI j))]) (st2 := [.int (nI j), .ref 111]) (w3 := w) rfl rfl ?_
      refine sx_RP.step (pc2 := 71) (ls2 := [(0, .ref 111), (1, .int (nI t)), (2, .int m), (3, .int l), (4, .int (nI j))]) (st2 := [.int (nI t), .int (nI j), .ref 111]) (w3 := w) rfl rfl ?_
      refine sx_RP.callp (as2 := [.ref 111, .int (nI j), .int (nI t)]) (rest2 := []) rfl rfl (sx_inv_v2 (mi := 183) (k := 168) (st := [.int (nI t), .int (nI j), .ref 111]) (w := w) rfl rfl hI.1.o111 rfl rfl rfl) rfl rfl rfl (K182 hI (show j < 10 by omega) (show t < 10 by omega)) (show _ = 74 from rfl) ?_
      rintro r4 w15 ⟨⟨v14, rfl⟩, hI16, hE18⟩
      have hE17 := hE.tr (hE18)
      show sx_RP _ _ _ _ _ [.int v14] _ _
      refine sx_RP.step (pc2 := 78) (ls2 := [(0, .ref 111), (1, .int (nI t)), (2, .int m), (3, .int l), (4, .int (nI j))]) (st2 := [.int v14]) (w3 := w15) rfl rfl ?_
      refine sx_RP.step (pc2 := 80) (ls2 := [(5, .int v14), (0, .ref 111), (1, .int (nI t)), (2, .int m), (3, .int l), (4, .int (nI j))]) (st2 := []) (w3 := w15) rfl rfl ?_
      refine sx_RP.step (pc2 := 82) (ls2 := [(5, .int v14), (0, .ref 111), (1, .int (nI t)), (2, .int m), (3, .int l), (4, .int (nI j))]) (st2 := [.int v14]) (w3 := w15) rfl rfl ?_
      refine sx_RP.br (p1 := 97) (l1 := [(5, .int v14), (0, .ref 111), (1, .int (nI t)), (2, .int m), (3, .int l), (4, .int (nI j))]) (s1 := []) (v1 := w15) (p2 := 85) (l2 := [(5, .int v14), (0, .ref 111), (1, .int (nI t)), (2, .int m), (3, .int l), (4, .int (nI j))]) (s2 := []) (v2 := w15) rfl rfl (fun q19 => ?_) (fun q19 => ?_)
      · replace q19 := of_decide_eq_true q19
        refine sx_RP.step (pc2 := 100) (ls2 := [(4, .int ((nI j) + 1)), (5, .int v14), (0, .ref 111), (1, .int (nI t)), (2, .int m), (3, .int l)]) (st2 := []) (w3 := w15) rfl rfl ?_
        rw [nI_1 j]
        refine sx_RP.step (pc2 := 46) (ls2 := [(4, .int (nI (j + 1))), (5, .int v14), (0, .ref 111), (1, .int (nI t)), (2, .int m), (3, .int l)]) (st2 := []) (w3 := w15) rfl rfl ?_
        exact sx_RP.ls (sx_lr.cons rfl (sx_lr.cons rfl (sx_lr.cons rfl (sx_lr.cons rfl (sx_lr.cons rfl sx_lr.nil))))) (kk w15 m l hI16 hE17 (by omega))
      · replace q19 := of_decide_eq_false q19
        refine sx_RP.step (pc2 := 87) (ls2 := [(5, .int v14), (0, .ref 111), (1, .int (nI t)), (2, .int m), (3, .int l), (4, .int (nI j))]) (st2 := [.int v14]) (w3 := w15) rfl rfl ?_
        refine sx_RP.step (pc2 := 88) (ls2 := [(5, .int v14), (0, .ref 111), (1, .int (nI t)), (2, .int m), (3, .int l), (4, .int (nI j))]) (st2 := [.int l, .int v14]) (w3 := w15) rfl rfl ?_
        refine sx_RP.br (p1 := 97) (l1 := [(5, .int v14), (0, .ref 111), (1, .int (nI t)), (2, .int m), (3, .int l), (4, .int (nI j))]) (s1 := []) (v1 := w15) (p2 := 91) (l2 := [(5, .int v14), (0, .ref 111), (1, .int (nI t)), (2, .int m), (3, .int l), (4, .int (nI j))]) (s2 := []) (v2 := w15) rfl rfl (fun q20 => ?_) (fun q20 => ?_)
        · replace q20 := of_decide_eq_true q20
          refine sx_RP.step (pc2 := 100) (ls2 := [(4, .int ((nI j) + 1)), (5, .int v14), (0, .ref 111), (1, .int (nI t)), (2, .int m), (3, .int l)]) (st2 := []) (w3 := w15) rfl rfl ?_
          rw [nI_1 j]
          refine sx_RP.step (pc2 := 46) (ls2 := [(4, .int (nI (j + 1))), (5, .int v14), (0, .ref 111), (1, .int (nI t)), (2, .int m), (3, .int l)]) (st2 := []) (w3 := w15) rfl rfl ?_
          exact sx_RP.ls (sx_lr.cons rfl (sx_lr.cons rfl (sx_lr.cons rfl (sx_lr.cons rfl (sx_lr.cons rfl sx_lr.nil))))) (kk w15 m l hI16 hE17 (by omega))
        · replace q20 := of_decide_eq_false q20
          refine sx_RP.step (pc2 := 93) (ls2 := [(5, .int v14), (0, .ref 111), (1, .int (nI t)), (2, .int m), (3, .int l), (4, .int (nI j))]) (st2 := [.int (nI j)]) (w3 := w15) rfl rfl ?_
          refine sx_RP.step (pc2 := 94) (ls2 := [(2, .int (nI j)), (5, .int v14), (0, .ref 111), (1, .int (nI t)), (3, .int l), (4, .int (nI j))]) (st2 := []) (w3 := w15) rfl rfl ?_
          refine sx_RP.step (pc2 := 96) (ls2 := [(2, .int (nI j)), (5, .int v14), (0, .ref 111), (1, .int (nI t)), (3, .int l), (4, .int (nI j))]) (st2 := [.int v14]) (w3 := w15) rfl rfl ?_
          refine sx_RP.step (pc2 := 97) (ls2 := [(3, .int v14), (2, .int (nI j)), (5, .int v14), (0, .ref 111), (1, .int (nI t)), (4, .int (nI j))]) (st2 := []) (w3 := w15) rfl rfl ?_
          refine sx_RP.step (pc2 := 100) (ls2 := [(4, .int ((nI j) + 1)), (3, .int v14), (2, .int (nI j)), (5, .int v14), (0, .ref 111), (1, .int (nI t))]) (st2 := []) (w3 := w15) rfl rfl ?_
          rw [nI_1 j]
          refine sx_RP.step (pc2 := 46) (ls2 := [(4, .int (nI (j + 1))), (3, .int v14), (2, .int (nI j)), (5, .int v14), (0, .ref 111), (1, .int (nI t))]) (st2 := []) (w3 := w15) rfl rfl ?_
          exact sx_RP.ls (sx_lr.cons rfl (sx_lr.cons rfl (sx_lr.cons rfl (sx_lr.cons rfl (sx_lr.cons rfl sx_lr.nil))))) (kk w15 (nI j) v14 hI16 hE17 (by omega))
set_option maxRecDepth 20000 in
set_option maxHeartbeats 4000000 in
theorem K183L {xs : Option (List Int32)} {d : Nat} {w0 : List sx_C} {t : Nat} (ht : t < 10) : ∀ (fz j : Nat) (w : List sx_C) (m : Int32) (l : Int32) , 10 ≤ j + fz * 1 → j ≤ 10 → WI w → EL w0 w → sx_RP xs (d + 7) 183 46 [(0, .ref 111), (1, .int (nI t)), (2, .int m), (3, .int l), (4, .int (nI j))] [] w (fun r w2 => (∃ v : Int32, r = some (.int v)) ∧ WI w2 ∧ EL w0 w2)
  | 0, j, w, m, l, h, hj, hI, hE => K183B ht hI hE hj m l  (fun w4 um ul hI4 hE4 hlt  => absurd hlt (by omega)) 
  | fz + 1, j, w, m, l, h, hj, hI, hE => K183B ht hI hE hj m l  (fun w4 um ul hI4 hE4 hlt  => K183L ht  fz (j + 1) w4 um ul (by omega) hlt hI4 hE4 ) 
set_option maxRecDepth 20000 in
set_option maxHeartbeats 4000000 in
theorem K183 {xs : Option (List Int32)} {d : Nat} {w : List sx_C} (hI : WI w) (a1 : Int32) : sx_RP xs (d + 7) 183 0 (lv_args 0 [.ref 111, .int a1]) [] w (fun r w2 => (∃ v : Int32, r = some (.int v)) ∧ WI w2 ∧ EL w w2) := by
  have hE : EL w w := EL.rf
  refine sx_RP.step (pc2 := 1) (ls2 := [(0, .ref 111), (1, .int a1)]) (st2 := [.ref 111]) (w3 := w) rfl rfl ?_
  refine sx_RP.step (pc2 := 2) (ls2 := [(0, .ref 111), (1, .int a1)]) (st2 := [.int a1, .ref 111]) (w3 := w) rfl rfl ?_
  rcases p156 (xs := xs) hI a1 with c2 | ⟨⟨x3, hx4, rfl⟩, c2⟩
  · refine sx_RP.cu (as := [.ref 111, .int a1]) (rest2 := []) (st3 := [.int 0]) rfl rfl (sx_inv_v2 (mi := 183) (k := 124) (st := [.int a1, .ref 111]) (w := w) rfl rfl hI.1.o111 rfl rfl rfl) rfl rfl (c2) rfl ?_
    refine sx_RP.step (pc2 := 8) (ls2 := [(0, .ref 111), (1, .int a1)]) (st2 := []) (w3 := w) rfl rfl ?_
    refine sx_RP.step (pc2 := 9) (ls2 := [(0, .ref 111), (1, .int a1)]) (st2 := [.ref 111]) (w3 := w) rfl rfl ?_
    refine sx_RP.step (pc2 := 10) (ls2 := [(0, .ref 111), (1, .int a1)]) (st2 := [.int 0, .ref 111]) (w3 := w) rfl rfl ?_
    refine sx_RP.callp (as2 := [.ref 111, .int 0]) (rest2 := []) rfl rfl (sx_inv_v2 (mi := 183) (k := 70) (st := [.int 0, .ref 111]) (w := w) rfl rfl hI.1.o111 rfl rfl rfl) rfl rfl rfl (K133_0 hI) (show _ = 13 from rfl) ?_
    rintro r4 w6 ⟨rfl, hI7, hE9⟩
    have hE8 := hE.tr (hE9.el)
    show sx_RP _ _ _ _ _ [.int (-1000000001)] _ _
    refine sx_RP.ret (r := (some (.int (-1000000001)))) rfl rfl ?_
    exact ⟨⟨_, rfl⟩, hI7, hE8⟩
  · refine sx_RP.cu (as := [.ref 111, .int (nI x3)]) (rest2 := []) (st3 := [.int 1]) rfl rfl (sx_inv_v2 (mi := 183) (k := 124) (st := [.int (nI x3), .ref 111]) (w := w) rfl rfl hI.1.o111 rfl rfl rfl) rfl rfl (c2) rfl ?_
    refine sx_RP.step (pc2 := 14) (ls2 := [(0, .ref 111), (1, .int (nI x3))]) (st2 := []) (w3 := w) rfl rfl ?_
    refine sx_RP.step (pc2 := 15) (ls2 := [(0, .ref 111), (1, .int (nI x3))]) (st2 := [.ref 111]) (w3 := w) rfl rfl ?_
    refine sx_RP.step (pc2 := 16) (ls2 := [(0, .ref 111), (1, .int (nI x3))]) (st2 := [.int (nI x3), .ref 111]) (w3 := w) rfl rfl ?_
    refine sx_RP.step (pc2 := 17) (ls2 := [(0, .ref 111), (1, .int (nI x3))]) (st2 := [.int 0, .int (nI x3), .ref 111]) (w3 := w) rfl rfl ?_
    obtain ⟨x10, hx11, c12⟩ := p181 hI (show x3 < 10 by omega) 0
    refine sx_RP.cu (as := [.ref 111, .int (nI x3), .int 0]) (rest2 := []) (st3 := [.int (nI x10)]) rfl rfl (sx_inv_v2 (mi := 183) (k := 165) (st := [.int 0, .int (nI x3), .ref 111]) (w := w) rfl rfl hI.1.o111 rfl rfl rfl) rfl rfl (c12) rfl ?_
    refine sx_RP.br (p1 := 32) (l1 := [(0, .ref 111), (1, .int (nI x3))]) (s1 := []) (v1 := w) (p2 := 23) (l2 := [(0, .ref 111), (1, .int (nI x3))]) (s2 := []) (v2 := w) rfl rfl (fun q13 => ?_) (fun q13 => ?_)
    · replace q13 := of_decide_eq_true q13
      replace q13 := (nI_eq (a := x10) (b := 0) (by omega) (by omega)).mp q13
      refine sx_RP.step (pc2 := 33) (ls2 := [(0, .ref 111), (1, .int (nI x3))]) (st2 := [.ref 111]) (w3 := w) rfl rfl ?_
      refine sx_RP.step (pc2 := 34) (ls2 := [(0, .ref 111), (1, .int (nI x3))]) (st2 := [.int 4, .ref 111]) (w3 := w) rfl rfl ?_
      refine sx_RP.callp (as2 := [.ref 111, .int 4]) (rest2 := []) rfl rfl (sx_inv_v2 (mi := 183) (k := 70) (st := [.int 4, .ref 111]) (w := w) rfl rfl hI.1.o111 rfl rfl rfl) rfl rfl rfl (K133_4 hI) (show _ = 37 from rfl) ?_
      rintro r4 w14 ⟨rfl, hI15, hE17⟩
      have hE16 := hE.tr (hE17.el)
      show sx_RP _ _ _ _ _ [.int (-1000000005)] _ _
      refine sx_RP.ret (r := (some (.int (-1000000005)))) rfl rfl ?_
      exact ⟨⟨_, rfl⟩, hI15, hE16⟩
    · replace q13 := of_decide_eq_false q13
      replace q13 := mt (nI_eq (a := x10) (b := 0) (by omega) (by omega)).mpr q13
      refine sx_RP.step (pc2 := 24) (ls2 := [(0, .ref 111), (1, .int (nI x3))]) (st2 := [.ref 111]) (w3 := w) rfl rfl ?_
      refine sx_RP.step (pc2 := 26) (ls2 := [(0, .ref 111), (1, .int (nI x3))]) (st2 := [.int 60, .ref 111]) (w3 := w) rfl rfl ?_
      obtain ⟨x18, hx19, c20⟩ := p165 hI 60
      refine sx_RP.cu (as := [.ref 111, .int 60]) (rest2 := []) (st3 := [.int (nI x18)]) rfl rfl (sx_inv_v2 (mi := 183) (k := 149) (st := [.int 60, .ref 111]) (w := w) rfl rfl hI.1.o111 rfl rfl rfl) rfl rfl (c20) rfl ?_
      refine sx_RP.br (p1 := 38) (l1 := [(0, .ref 111), (1, .int (nI x3))]) (s1 := []) (v1 := w) (p2 := 32) (l2 := [(0, .ref 111), (1, .int (nI x3))]) (s2 := []) (v2 := w) rfl rfl (fun q21 => ?_) (fun q21 => ?_)
      · replace q21 := of_decide_eq_true q21
        replace q21 := (nI_eq (a := x18) (b := 0) (by omega) (by omega)).mp q21
        refine sx_RP.step (pc2 := 39) (ls2 := [(0, .ref 111), (1, .int (nI x3))]) (st2 := [.int (-1)]) (w3 := w) rfl rfl ?_
        refine sx_RP.step (pc2 := 40) (ls2 := [(2, .int (-1)), (0, .ref 111), (1, .int (nI x3))]) (st2 := []) (w3 := w) rfl rfl ?_
        refine sx_RP.step (pc2 := 42) (ls2 := [(2, .int (-1)), (0, .ref 111), (1, .int (nI x3))]) (st2 := [.int 61]) (w3 := w) rfl rfl ?_
        refine sx_RP.step (pc2 := 43) (ls2 := [(3, .int 61), (2, .int (-1)), (0, .ref 111), (1, .int (nI x3))]) (st2 := []) (w3 := w) rfl rfl ?_
        refine sx_RP.step (pc2 := 44) (ls2 := [(3, .int 61), (2, .int (-1)), (0, .ref 111), (1, .int (nI x3))]) (st2 := [.int 0]) (w3 := w) rfl rfl ?_
        refine sx_RP.step (pc2 := 46) (ls2 := [(4, .int 0), (3, .int 61), (2, .int (-1)), (0, .ref 111), (1, .int (nI x3))]) (st2 := []) (w3 := w) rfl rfl ?_
        exact sx_RP.ls (sx_lr.cons rfl (sx_lr.cons rfl (sx_lr.cons rfl (sx_lr.cons rfl (sx_lr.cons rfl sx_lr.nil))))) (K183L (show x3 < 10 by omega) 10 0 w (-1) 61 (by omega) (by omega) hI hE )
      · replace q21 := of_decide_eq_false q21
        replace q21 := mt (nI_eq (a := x18) (b := 0) (by omega) (by omega)).mpr q21
        refine sx_RP.step (pc2 := 33) (ls2 := [(0, .ref 111), (1, .int (nI x3))]) (st2 := [.ref 111]) (w3 := w) rfl rfl ?_
        refine sx_RP.step (pc2 := 34) (ls2 := [(0, .ref 111), (1, .int (nI x3))]) (st2 := [.int 4, .ref 111]) (w3 := w) rfl rfl ?_
        refine sx_RP.callp (as2 := [.ref 111, .int 4]) (rest2 := []) rfl rfl (sx_inv_v2 (mi := 183) (k := 70) (st := [.int 4, .ref 111]) (w := w) rfl rfl hI.1.o111 rfl rfl rfl) rfl rfl rfl (K133_4 hI) (show _ = 37 from rfl) ?_
        rintro r4 w22 ⟨rfl, hI23, hE25⟩
        have hE24 := hE.tr (hE25.el)
        show sx_RP _ _ _ _ _ [.int (-1000000005)] _ _
        refine sx_RP.ret (r := (some (.int (-1000000005)))) rfl rfl ?_
        exact ⟨⟨_, rfl⟩, hI23, hE24⟩
def EVK (w w2 : List sx_C) : Prop := EK w w2 ∧ ia w2 117 = ia w 117
theorem EVK.rf {w : List sx_C} : EVK w w := ⟨EK.rf, rfl⟩
theorem sx_RP.mBVK {xs : Option (List Int32)} {d mi pc pc2 : Nat} {ls : sx_L} {r : List Value} {w w0 : List sx_C} {P : Option Value → List sx_C → Prop} {a : Nat} {i x : Int32} {n : Nat} (hI : WI w) (hE : EVK w0 w) (hi : sx_ins mi pc = some (.bastore, 1)) (hw : w[a]? = some (.inl (1, ia w a)) ∧ (ia w a).length = n) (hn : sx_in i n = true) (hf : a = 118 ∨ a = 120) (hp : pc + 1 = pc2) (kk : ∀ w2, WI w2 → EVK w0 w2 → (∀ j, (ia w2 112).getD j 0 = (ia w 112).getD j 0) → sx_RP xs d mi pc2 ls r w2 P) : sx_RP xs d mi pc ls (.int x :: .int i :: .ref a :: r) w P :=
  sx_RP.bst1 hi hw.1 hw.2 hn rfl rfl hp (kk _ (hI.set hw.1 sh_set (cOK.free (by omega))) ⟨hE.1.set hw.1 (by omega) trivial, by rw [ia_ne (by omega)]; exact hE.2⟩ (fun j => by rw [ia_ne (by omega)]))
theorem sx_RP.mBkK {xs : Option (List Int32)} {d mi pc pc2 : Nat} {ls : sx_L} {r : List Value} {w w0 : List sx_C} {P : Option Value → List sx_C → Prop} {i x : Int32} {n : Nat} (hI : WI w) (hE : EK w0 w) (hi : sx_ins mi pc = some (.bastore, 1)) (hw : w[120]? = some (.inl (1, ia w 120)) ∧ (ia w 120).length = n) (hn : sx_in i n = true) (hp : pc + 1 = pc2) (kk : ∀ w2, WI w2 → EK w0 w2 → ia w2 117 = ia w 117 → sx_RP xs d mi pc2 ls r w2 P) : sx_RP xs d mi pc ls (.int x :: .int i :: .ref 120 :: r) w P :=
  sx_RP.bst1 hi hw.1 hw.2 hn rfl rfl hp (kk _ (hI.set hw.1 sh_set (cOK.free (by omega))) (hE.set hw.1 (by omega) trivial) (by rw [ia_ne (by omega)]))
set_option maxRecDepth 20000 in
set_option maxHeartbeats 4000000 in
theorem K193aB {xs : Option (List Int32)} {d : Nat} {w w0 : List sx_C} {P : Option Value → List sx_C → Prop} {k : Int32} (hI : WI w) (hE : EK w0 w) {j : Nat} (hj : j ≤ 9) (kk : ∀ (w4 : List sx_C), WI w4 → EK w0 w4 → j + 1 ≤ 9 → sx_RP xs (d + 6) 193 2 [(0, .ref 111), (1, .int k), (2, .int (nI (j + 1)))] [] w4 P) (kx29 : ∀ (w4 : List sx_C), WI w4 → EK w0 w4 → sx_RP xs (d + 6) 193 29 [(0, .ref 111), (1, .int k)] [] w4 P) : sx_RP xs (d + 6) 193 2 [(0, .ref 111), (1, .int k), (2, .int (nI j))] [] w P := by
  refine sx_RP.step (pc2 := 3) (ls2 := [(0, .ref 111), (1, .int k), (2, .int (nI j))]) (st2 := [.int (nI j)]) (w3 := w) rfl rfl ?_
  refine sx_RP.step (pc2 := 4) (ls2 := [(0, .ref 111), (1, .int k), (2, .int (nI j))]) (st2 := [.ref 111, .int (nI j)]) (w3 := w) rfl rfl ?_
  refine sx_RP.gf (v := .ref 112) rfl rfl hI.1.o111 rfl rfl (show _ = 7 from rfl) ?_
  refine sx_RP.step (pc2 := 8) (ls2 := [(0, .ref 111), (1, .int k), (2, .int (nI j))]) (st2 := [.int 2, .ref 112, .int (nI j)]) (w3 := w) rfl rfl ?_
  refine sx_RP.ild (c := 2) rfl hI.1.a112.1 hI.1.a112.2 (sx_in_nI (show 2 < 172 by omega) (by decide)) (show (nI 2).toNatClampNeg = 2 from nI_clamp (by omega)) (show _ = 9 from rfl) ?_
  obtain ⟨x1, hx2, ex3⟩ : inR ((ia w 112).getD 2 0) 9 := (hI.s (2) (by omega)).2.1 rfl
  rw [ex3]
  refine sx_RP.br (p1 := 29) (l1 := [(0, .ref 111), (1, .int k), (2, .int (nI j))]) (s1 := []) (v1 := w) (p2 := 12) (l2 := [(0, .ref 111), (1, .int k), (2, .int (nI j))]) (s2 := []) (v2 := w) rfl rfl (fun q4 => ?_) (fun q4 => ?_)
  · replace q4 := of_decide_eq_true q4
    replace q4 := (nI_leI (a := x1) (b := j) (by omega) (by omega)).mp q4
    exact sx_RP.ls (sx_lr.cons rfl (sx_lr.cons rfl sx_lr.nil)) (kx29 w hI hE)
  · replace q4 := of_decide_eq_false q4
    replace q4 := mt (nI_leI (a := x1) (b := j) (by omega) (by omega)).mpr q4
    refine sx_RP.step (pc2 := 13) (ls2 := [(0, .ref 111), (1, .int k), (2, .int (nI j))]) (st2 := [.ref 111]) (w3 := w) rfl rfl ?_
    refine sx_RP.gf (v := .ref 119) rfl rfl hI.1.o111 rfl rfl (show _ = 16 from rfl) ?_
    refine sx_RP.step (pc2 := 17) (ls2 := [(0, .ref 111), (1, .int k), (2, .int (nI j))]) (st2 := [.int (nI j), .ref 119]) (w3 := w) rfl rfl ?_
    refine sx_RP.step (pc2 := 18) (ls2 := [(0, .ref 111), (1, .int k), (2, .int (nI j))]) (st2 := [.ref 111, .int (nI j), .ref 119]) (w3 := w) rfl rfl ?_
    refine sx_RP.step (pc2 := 19) (ls2 := [(0, .ref 111), (1, .int k), (2, .int (nI j))]) (st2 := [.int (nI j), .ref 111, .int (nI j), .ref 119]) (w3 := w) rfl rfl ?_
    refine sx_RP.callp (as2 := [.ref 111, .int (nI j)]) (rest2 := [.int (nI j), .ref 119]) rfl rfl (sx_inv_v2 (mi := 193) (k := 180) (st := [.int (nI j), .ref 111, .int (nI j), .ref 119]) (w := w) rfl rfl hI.1.o111 rfl rfl rfl) rfl rfl rfl (K188 hI (show j < 9 by omega)) (show _ = 22 from rfl) ?_
    rintro r4 w6 ⟨⟨v5, rfl⟩, hI7, hE9⟩
    have hE8 := hE.tr (hE9)
    show sx_RP _ _ _ _ _ [.int v5, .int (nI j), .ref 119] _ _
    refine sx_RP.mFK hI7 hE8 rfl hI7.1.a119 (sx_in_nI (show j < 9 by omega) (by decide)) (by decide) (show _ = 23 from rfl) (fun w10 hI11 hE12 hk13 => ?_)
    refine sx_RP.step (pc2 := 26) (ls2 := [(2, .int ((nI j) + 1)), (0, .ref 111), (1, .int k)]) (st2 := []) (w3 := w10) rfl rfl ?_
    rw [nI_1 j]
    refine sx_RP.step (pc2 := 2) (ls2 := [(2, .int (nI (j + 1))), (0, .ref 111), (1, .int k)]) (st2 := []) (w3 := w10) rfl rfl ?_
    exact sx_RP.ls (sx_lr.cons rfl (sx_lr.cons rfl (sx_lr.cons rfl sx_lr.nil))) (kk w10 hI11 hE12 (by omega))
set_option maxRecDepth 20000 in
set_option maxHeartbeats 4000000 in
theorem K193aL {xs : Option (List Int32)} {d : Nat} {w0 : List sx_C} {P : Option Value → List sx_C → Prop} {k : Int32} (kx29 : ∀ (w4 : List sx_C), WI w4 → EK w0 w4 → sx_RP xs (d + 6) 193 29 [(0, .ref 111), (1, .int k)] [] w4 P) : ∀ (fz j : Nat) (w : List sx_C) , 9 ≤ j + fz * 1 → j ≤ 9 → WI w → EK w0 w → sx_RP xs (d + 6) 193 2 [(0, .ref 111), (1, .int k), (2, .int (nI j))] [] w P
  | 0, j, w, h, hj, hI, hE => K193aB (k := k) hI hE hj   (fun w4  hI4 hE4 hlt  => absurd hlt (by omega)) kx29
  | fz + 1, j, w, h, hj, hI, hE => K193aB (k := k) hI hE hj   (fun w4  hI4 hE4 hlt  => K193aL (k := k) kx29 fz (j + 1) w4  (by omega) hlt hI4 hE4 ) kx29
set_option maxRecDepth 20000 in
set_option maxHeartbeats 4000000 in
theorem K193iB {xs : Option (List Int32)} {d : Nat} {w w0 : List sx_C} {P : Option Value → List sx_C → Prop} {k n l : Int32} {c : Nat} (hc : c < 48) (hw : ∀ c, c < 48 → inR ((ia w0 117).getD c 0) 1000) (hI : WI w) (hE : EVK w0 w) {j : Nat} (hj : j ≤ 9) (kk : ∀ (w4 : List sx_C), WI w4 → EVK w0 w4 → j + 1 ≤ 9 → sx_RP xs (d + 6) 193 63 [(0, .ref 111), (1, .int k), (2, .int n), (3, .int (nI c)), (4, .int l), (5, .int (nI (j + 1)))] [] w4 P) (kx131 : ∀ (w4 : List sx_C), WI w4 → EVK w0 w4 → sx_RP xs (d + 6) 193 131 [(0, .ref 111), (1, .int k), (2, .int n), (3, .int (nI c))] [] w4 P) : sx_RP xs (d + 6) 193 63 [(0, .ref 111), (1, .int k), (2, .int n), (3, .int (nI c)), (4, .int l), (5, .int (nI j))] [] w P := by
  refine sx_RP.step (pc2 := 65) (ls2 := [(0, .ref 111), (1, .int k), (2, .int n), (3, .int (nI c)), (4, .int l), (5, .int (nI j))]) (st2 := [.int (nI j)]) (w3 := w) rfl rfl ?_
  refine sx_RP.step (pc2 := 66) (ls2 := [(0, .ref 111), (1, .int k), (2, .int n), (3, .int (nI c)), (4, .int l), (5, .int (nI j))]) (st2 := [.ref 111, .int (nI j)]) (w3 := w) rfl rfl ?_
  refine sx_RP.gf (v := .ref 112) rfl rfl hI.1.o111 rfl rfl (show _ = 69 from rfl) ?_
  refine sx_RP.step (pc2 := 70) (ls2 := [(0, .ref 111), (1, .int k), (2, .int n), (3, .int (nI c)), (4, .int l), (5, .int (nI j))]) (st2 := [.int 2, .ref 112, .int (nI j)]) (w3 := w) rfl rfl ?_
  refine sx_RP.ild (c := 2) rfl hI.1.a112.1 hI.1.a112.2 (sx_in_nI (show 2 < 172 by omega) (by decide)) (show (nI 2).toNatClampNeg = 2 from nI_clamp (by omega)) (show _ = 71 from rfl) ?_
  obtain ⟨x1, hx2, ex3⟩ : inR ((ia w 112).getD 2 0) 9 := (hI.s (2) (by omega)).2.1 rfl
  rw [ex3]
  refine sx_RP.br (p1 := 131) (l1 := [(0, .ref 111), (1, .int k), (2, .int n), (3, .int (nI c)), (4, .int l), (5, .int (nI j))]) (s1 := []) (v1 := w) (p2 := 74) (l2 := [(0, .ref 111), (1, .int k), (2, .int n), (3, .int (nI c)), (4, .int l), (5, .int (nI j))]) (s2 := []) (v2 := w) rfl rfl (fun q4 => ?_) (fun q4 => ?_)
  · replace q4 := of_decide_eq_true q4
    replace q4 := (nI_leI (a := x1) (b := j) (by omega) (by omega)).mp q4
    exact sx_RP.ls (sx_lr.cons rfl (sx_lr.cons rfl (sx_lr.cons rfl (sx_lr.cons rfl sx_lr.nil)))) (kx131 w hI hE)
  · replace q4 := of_decide_eq_false q4
    replace q4 := mt (nI_leI (a := x1) (b := j) (by omega) (by omega)).mpr q4
    refine sx_RP.step (pc2 := 75) (ls2 := [(0, .ref 111), (1, .int k), (2, .int n), (3, .int (nI c)), (4, .int l), (5, .int (nI j))]) (st2 := [.ref 111]) (w3 := w) rfl rfl ?_
    refine sx_RP.gf (v := .ref 120) rfl rfl hI.1.o111 rfl rfl (show _ = 78 from rfl) ?_
    refine sx_RP.step (pc2 := 79) (ls2 := [(0, .ref 111), (1, .int k), (2, .int n), (3, .int (nI c)), (4, .int l), (5, .int (nI j))]) (st2 := [.int (nI c), .ref 120]) (w3 := w) rfl rfl ?_
    refine sx_RP.step (pc2 := 80) (ls2 := [(0, .ref 111), (1, .int k), (2, .int n), (3, .int (nI c)), (4, .int l), (5, .int (nI j))]) (st2 := [.ref 111, .int (nI c), .ref 120]) (w3 := w) rfl rfl ?_
    refine sx_RP.gf (v := .ref 120) rfl rfl hI.1.o111 rfl rfl (show _ = 83 from rfl) ?_
    refine sx_RP.step (pc2 := 84) (ls2 := [(0, .ref 111), (1, .int k), (2, .int n), (3, .int (nI c)), (4, .int l), (5, .int (nI j))]) (st2 := [.int (nI c), .ref 120, .int (nI c), .ref 120]) (w3 := w) rfl rfl ?_
    refine sx_RP.bld1 (c := c) rfl hI.1.a120.1 hI.1.a120.2 (sx_in_nI (show c < 48 by omega) (by decide)) (show (nI c).toNatClampNeg = c from nI_clamp (by omega)) (show _ = 85 from rfl) ?_
    refine sx_RP.br (p1 := 123) (l1 := [(0, .ref 111), (1, .int k), (2, .int n), (3, .int (nI c)), (4, .int l), (5, .int (nI j))]) (s1 := [.int (nI c), .ref 120]) (v1 := w) (p2 := 88) (l2 := [(0, .ref 111), (1, .int k), (2, .int n), (3, .int (nI c)), (4, .int l), (5, .int (nI j))]) (s2 := [.int (nI c), .ref 120]) (v2 := w) rfl rfl (fun q5 => ?_) (fun q5 => ?_)
    · replace q5 := of_decide_eq_true q5
      refine sx_RP.step (pc2 := 124) (ls2 := [(0, .ref 111), (1, .int k), (2, .int n), (3, .int (nI c)), (4, .int l), (5, .int (nI j))]) (st2 := [.int 0, .int (nI c), .ref 120]) (w3 := w) rfl rfl ?_
      refine sx_RP.mBVK hI hE rfl hI.1.a120 (sx_in_nI (show c < 48 by omega) (by decide)) (by decide) (show _ = 125 from rfl) (fun w6 hI7 hE8 hk9 => ?_)
      have ex10 := (hk9 2).trans ex3
      refine sx_RP.step (pc2 := 128) (ls2 := [(5, .int ((nI j) + 1)), (0, .ref 111), (1, .int k), (2, .int n), (3, .int (nI c)), (4, .int l)]) (st2 := []) (w3 := w6) rfl rfl ?_
      rw [nI_1 j]
      refine sx_RP.step (pc2 := 63) (ls2 := [(5, .int (nI (j + 1))), (0, .ref 111), (1, .int k), (2, .int n), (3, .int (nI c)), (4, .int l)]) (st2 := []) (w3 := w6) rfl rfl ?_
      exact sx_RP.ls (sx_lr.cons rfl (sx_lr.cons rfl (sx_lr.cons rfl (sx_lr.cons rfl (sx_lr.cons rfl (sx_lr.cons rfl sx_lr.nil)))))) (kk w6 hI7 hE8 (by omega))
    · replace q5 := of_decide_eq_false q5
      refine sx_RP.step (pc2 := 90) (ls2 := [(0, .ref 111), (1, .int k), (2, .int n), (3, .int (nI c)), (4, .int l), (5, .int (nI j))]) (st2 := [.int l, .int (nI c), .ref 120]) (w3 := w) rfl rfl ?_
      refine sx_RP.step (pc2 := 91) (ls2 := [(0, .ref 111), (1, .int k), (2, .int n), (3, .int (nI c)), (4, .int l), (5, .int (nI j))]) (st2 := [.int 1, .int l, .int (nI c), .ref 120]) (w3 := w) rfl rfl ?_
      refine sx_RP.step (pc2 := 92) (ls2 := [(0, .ref 111), (1, .int k), (2, .int n), (3, .int (nI c)), (4, .int l), (5, .int (nI j))]) (st2 := [.ref 111, .int 1, .int l, .int (nI c), .ref 120]) (w3 := w) rfl rfl ?_
      refine sx_RP.gf (v := .ref 117) rfl rfl hI.1.o111 rfl rfl (show _ = 95 from rfl) ?_
      refine sx_RP.step (pc2 := 96) (ls2 := [(0, .ref 111), (1, .int k), (2, .int n), (3, .int (nI c)), (4, .int l), (5, .int (nI j))]) (st2 := [.ref 111, .ref 117, .int 1, .int l, .int (nI c), .ref 120]) (w3 := w) rfl rfl ?_
      refine sx_RP.gf (v := .ref 112) rfl rfl hI.1.o111 rfl rfl (show _ = 99 from rfl) ?_
      refine sx_RP.step (pc2 := 102) (ls2 := [(0, .ref 111), (1, .int k), (2, .int n), (3, .int (nI c)), (4, .int l), (5, .int (nI j))]) (st2 := [.int 163, .ref 112, .ref 117, .int 1, .int l, .int (nI c), .ref 120]) (w3 := w) rfl rfl ?_
      refine sx_RP.step (pc2 := 104) (ls2 := [(0, .ref 111), (1, .int k), (2, .int n), (3, .int (nI c)), (4, .int l), (5, .int (nI j))]) (st2 := [.int (nI j), .int 163, .ref 112, .ref 117, .int 1, .int l, .int (nI c), .ref 120]) (w3 := w) rfl rfl ?_
      refine sx_RP.step (pc2 := 105) (ls2 := [(0, .ref 111), (1, .int k), (2, .int n), (3, .int (nI c)), (4, .int l), (5, .int (nI j))]) (st2 := [.int (163 + (nI j)), .ref 112, .ref 117, .int 1, .int l, .int (nI c), .ref 120]) (w3 := w) rfl rfl ?_
      rw [show (163 + (nI j) : Int32) = nI (163 + j) from nI_add 163 j]
      refine sx_RP.ild (c := (163 + j)) rfl hI.1.a112.1 hI.1.a112.2 (sx_in_nI (show (163 + j) < 172 by omega) (by decide)) (show (nI (163 + j)).toNatClampNeg = (163 + j) from nI_clamp (by omega)) (show _ = 106 from rfl) ?_
      obtain ⟨x11, hx12, ex13⟩ : inR ((ia w 112).getD (163 + j) 0) 47 := (hI.s ((163 + j)) (by omega)).2.2.2.2.2.2.2.2 (by omega)
      rw [ex13]
      refine sx_RP.ild (c := x11) rfl hI.1.a117.1 hI.1.a117.2 (sx_in_nI (show x11 < 48 by omega) (by decide)) (show (nI x11).toNatClampNeg = x11 from nI_clamp (by omega)) (show _ = 107 from rfl) ?_
      obtain ⟨x14, hx15, ex16⟩ : inR ((ia w 117).getD x11 0) 1000 := (by rw [hE.2]; exact hw _ (show x11 < 48 by omega))
      rw [ex16]
      refine sx_RP.step (pc2 := 108) (ls2 := [(0, .ref 111), (1, .int k), (2, .int n), (3, .int (nI c)), (4, .int l), (5, .int (nI j))]) (st2 := [.int (1 + (nI x14)), .int l, .int (nI c), .ref 120]) (w3 := w) rfl rfl ?_
      rw [show (1 + (nI x14) : Int32) = nI (1 + x14) from nI_add 1 x14]
      refine sx_RP.idiv (pc2 := 109) rfl (nI_n0 (by omega) (by omega)) rfl ?_
      refine sx_RP.step (pc2 := 110) (ls2 := [(0, .ref 111), (1, .int k), (2, .int n), (3, .int (nI c)), (4, .int l), (5, .int (nI j))]) (st2 := [.ref 111, .int (l / (nI (1 + x14))), .int (nI c), .ref 120]) (w3 := w) rfl rfl ?_
      refine sx_RP.gf (v := .ref 119) rfl rfl hI.1.o111 rfl rfl (show _ = 113 from rfl) ?_
      refine sx_RP.step (pc2 := 115) (ls2 := [(0, .ref 111), (1, .int k), (2, .int n), (3, .int (nI c)), (4, .int l), (5, .int (nI j))]) (st2 := [.int (nI j), .ref 119, .int (l / (nI (1 + x14))), .int (nI c), .ref 120]) (w3 := w) rfl rfl ?_
      refine sx_RP.ild (c := j) rfl hI.1.a119.1 hI.1.a119.2 (sx_in_nI (show j < 9 by omega) (by decide)) (show (nI j).toNatClampNeg = j from nI_clamp (by omega)) (show _ = 116 from rfl) ?_
      refine sx_RP.br (p1 := 123) (l1 := [(0, .ref 111), (1, .int k), (2, .int n), (3, .int (nI c)), (4, .int l), (5, .int (nI j))]) (s1 := [.int (nI c), .ref 120]) (v1 := w) (p2 := 119) (l2 := [(0, .ref 111), (1, .int k), (2, .int n), (3, .int (nI c)), (4, .int l), (5, .int (nI j))]) (s2 := [.int (nI c), .ref 120]) (v2 := w) rfl rfl (fun q17 => ?_) (fun q17 => ?_)
      · replace q17 := of_decide_eq_true q17
        refine sx_RP.step (pc2 := 124) (ls2 := [(0, .ref 111), (1, .int k), (2, .int n), (3, .int (nI c)), (4, .int l), (5, .int (nI j))]) (st2 := [.int 0, .int (nI c), .ref 120]) (w3 := w) rfl rfl ?_
        refine sx_RP.mBVK hI hE rfl hI.1.a120 (sx_in_nI (show c < 48 by omega) (by decide)) (by decide) (show _ = 125 from rfl) (fun w18 hI19 hE20 hk21 => ?_)
        have ex22 := (hk21 2).trans ex3
        have ex23 := (hk21 (163 + j)).trans ex13
        refine sx_RP.step (pc2 := 128) (ls2 := [(5, .int ((nI j) + 1)), (0, .ref 111), (1, .int k), (2, .int n), (3, .int (nI c)), (4, .int l)]) (st2 := []) (w3 := w18) rfl rfl ?_
        rw [nI_1 j]
        refine sx_RP.step (pc2 := 63) (ls2 := [(5, .int (nI (j + 1))), (0, .ref 111), (1, .int k), (2, .int n), (3, .int (nI c)), (4, .int l)]) (st2 := []) (w3 := w18) rfl rfl ?_
        exact sx_RP.ls (sx_lr.cons rfl (sx_lr.cons rfl (sx_lr.cons rfl (sx_lr.cons rfl (sx_lr.cons rfl (sx_lr.cons rfl sx_lr.nil)))))) (kk w18 hI19 hE20 (by omega))
      · replace q17 := Decidable.not_not.mp (of_decide_eq_false q17)
        refine sx_RP.step (pc2 := 120) (ls2 := [(0, .ref 111), (1, .int k), (2, .int n), (3, .int (nI c)), (4, .int l), (5, .int (nI j))]) (st2 := [.int 1, .int (nI c), .ref 120]) (w3 := w) rfl rfl ?_
        refine sx_RP.step (pc2 := 124) (ls2 := [(0, .ref 111), (1, .int k), (2, .int n), (3, .int (nI c)), (4, .int l), (5, .int (nI j))]) (st2 := [.int 1, .int (nI c), .ref 120]) (w3 := w) rfl rfl ?_
        refine sx_RP.mBVK hI hE rfl hI.1.a120 (sx_in_nI (show c < 48 by omega) (by decide)) (by decide) (show _ = 125 from rfl) (fun w24 hI25 hE26 hk27 => ?_)
        have ex28 := (hk27 2).trans ex3
        have ex29 := (hk27 (163 + j)).trans ex13
        refine sx_RP.step (pc2 := 128) (ls2 := [(5, .int ((nI j) + 1)), (0, .ref 111), (1, .int k), (2, .int n), (3, .int (nI c)), (4, .int l)]) (st2 := []) (w3 := w24) rfl rfl ?_
        rw [nI_1 j]
        refine sx_RP.step (pc2 := 63) (ls2 := [(5, .int (nI (j + 1))), (0, .ref 111), (1, .int k), (2, .int n), (3, .int (nI c)), (4, .int l)]) (st2 := []) (w3 := w24) rfl rfl ?_
        exact sx_RP.ls (sx_lr.cons rfl (sx_lr.cons rfl (sx_lr.cons rfl (sx_lr.cons rfl (sx_lr.cons rfl (sx_lr.cons rfl sx_lr.nil)))))) (kk w24 hI25 hE26 (by omega))
set_option maxRecDepth 20000 in
set_option maxHeartbeats 4000000 in
theorem K193iL {xs : Option (List Int32)} {d : Nat} {w0 : List sx_C} {P : Option Value → List sx_C → Prop} {k n l : Int32} {c : Nat} (hc : c < 48) (hw : ∀ c, c < 48 → inR ((ia w0 117).getD c 0) 1000) (kx131 : ∀ (w4 : List sx_C), WI w4 → EVK w0 w4 → sx_RP xs (d + 6) 193 131 [(0, .ref 111), (1, .int k), (2, .int n), (3, .int (nI c))] [] w4 P) : ∀ (fz j : Nat) (w : List sx_C) , 9 ≤ j + fz * 1 → j ≤ 9 → WI w → EVK w0 w → sx_RP xs (d + 6) 193 63 [(0, .ref 111), (1, .int k), (2, .int n), (3, .int (nI c)), (4, .int l), (5, .int (nI j))] [] w P
  | 0, j, w, h, hj, hI, hE => K193iB hc hw hI hE hj   (fun w4  hI4 hE4 hlt  => absurd hlt (by omega)) kx131
  | fz + 1, j, w, h, hj, hI, hE => K193iB hc hw hI hE hj   (fun w4  hI4 hE4 hlt  => K193iL hc hw kx131 fz (j + 1) w4  (by omega) hlt hI4 hE4 ) kx131
set_option maxRecDepth 20000 in
set_option maxHeartbeats 4000000 in
theorem K193bB {xs : Option (List Int32)} {d : Nat} {w w0 : List sx_C} {k : Int32} (hI : WI w) (hE : EK w0 w) {j : Nat} (hj : j ≤ 48) (n : Int32) (kk : ∀ (w4 : List sx_C) (un : Int32), WI w4 → EK w0 w4 → j + 1 ≤ 48 → sx_RP xs (d + 6) 193 33 [(0, .ref 111), (1, .int k), (2, .int un), (3, .int (nI (j + 1)))] [] w4 (fun r w2 => (∃ v : Int32, r = some (.int v)) ∧ WI w2 ∧ EK w0 w2)) : sx_RP xs (d + 6) 193 33 [(0, .ref 111), (1, .int k), (2, .int n), (3, .int (nI j))] [] w (fun r w2 => (∃ v : Int32, r = some (.int v)) ∧ WI w2 ∧ EK w0 w2) := by
  refine sx_RP.step (pc2 := 34) (ls2 := [(0, .ref 111), (1, .int k), (2, .int n), (3, .int (nI j))]) (st2 := [.int (nI j)]) (w3 := w) rfl rfl ?_
  refine sx_RP.step (pc2 := 36) (ls2 := [(0, .ref 111), (1, .int k), (2, .int n), (3, .int (nI j))]) (st2 := [.int 48, .int (nI j)]) (w3 := w) rfl rfl ?_
  refine sx_RP.br (p1 := 154) (l1 := [(0, .ref 111), (1, .int k), (2, .int n), (3, .int (nI j))]) (s1 := []) (v1 := w) (p2 := 39) (l2 := [(0, .ref 111), (1, .int k), (2, .int n), (3, .int (nI j))]) (s2 := []) (v2 := w) rfl rfl (fun q1 => ?_) (fun q1 => ?_)
  · replace q1 := of_decide_eq_true q1
    replace q1 := (nI_leI (a := 48) (b := j) (by omega) (by omega)).mp q1
    refine sx_RP.step (pc2 := 155) (ls2 := [(0, .ref 111), (1, .int k), (2, .int n), (3, .int (nI j))]) (st2 := [.int n]) (w3 := w) rfl rfl ?_
    refine sx_RP.ret (r := (some (.int n))) rfl rfl ?_
    exact ⟨⟨_, rfl⟩, hI, hE⟩
  · replace q1 := of_decide_eq_false q1
    replace q1 := mt (nI_leI (a := 48) (b := j) (by omega) (by omega)).mpr q1
    refine sx_RP.step (pc2 := 40) (ls2 := [(0, .ref 111), (1, .int k), (2, .int n), (3, .int (nI j))]) (st2 := [.ref 111]) (w3 := w) rfl rfl ?_
    refine sx_RP.step (pc2 := 41) (ls2 := [(0, .ref 111), (1, .int k), (2, .int n), (3, .int (nI j))]) (st2 := [.int (nI j), .ref 111]) (w3 := w) rfl rfl ?_
    refine sx_RP.step (pc2 := 42) (ls2 := [(0, .ref 111), (1, .int k), (2, .int n), (3, .int (nI j))]) (st2 := [.int (-1), .int (nI j), .ref 111]) (w3 := w) rfl rfl ?_
    refine sx_RP.callp (as2 := [.ref 111, .int (nI j), .int (-1)]) (rest2 := []) rfl rfl (sx_inv_v2 (mi := 193) (k := 94) (st := [.int (-1), .int (nI j), .ref 111]) (w := w) rfl rfl hI.1.o111 rfl rfl rfl) rfl rfl rfl (K141t hI (show j < 48 by omega)) (show _ = 45 from rfl) ?_
    rintro r4 w3 ⟨⟨rfl, hw2⟩, hI4, hE6⟩
    have hE5 := hE.tr (hE6)
    show sx_RP _ _ _ _ _ [] _ _
    refine sx_RP.step (pc2 := 46) (ls2 := [(0, .ref 111), (1, .int k), (2, .int n), (3, .int (nI j))]) (st2 := [.ref 111]) (w3 := w3) rfl rfl ?_
    refine sx_RP.step (pc2 := 47) (ls2 := [(0, .ref 111), (1, .int k), (2, .int n), (3, .int (nI j))]) (st2 := [.int k, .ref 111]) (w3 := w3) rfl rfl ?_
    refine sx_RP.step (pc2 := 48) (ls2 := [(0, .ref 111), (1, .int k), (2, .int n), (3, .int (nI j))]) (st2 := [.int (nI j), .int k, .ref 111]) (w3 := w3) rfl rfl ?_
    obtain ⟨v7, c8⟩ := p162 hI4 k (show j < 48 by omega)
    refine sx_RP.cu (as := [.ref 111, .int k, .int (nI j)]) (rest2 := []) (st3 := [.int v7]) rfl rfl (sx_inv_v2 (mi := 193) (k := 130) (st := [.int (nI j), .int k, .ref 111]) (w := w3) rfl rfl hI4.1.o111 rfl rfl rfl) rfl rfl (c8) rfl ?_
    refine sx_RP.step (pc2 := 53) (ls2 := [(4, .int v7), (0, .ref 111), (1, .int k), (2, .int n), (3, .int (nI j))]) (st2 := []) (w3 := w3) rfl rfl ?_
    refine sx_RP.step (pc2 := 54) (ls2 := [(4, .int v7), (0, .ref 111), (1, .int k), (2, .int n), (3, .int (nI j))]) (st2 := [.ref 111]) (w3 := w3) rfl rfl ?_
    refine sx_RP.gf (v := .ref 120) rfl rfl hI4.1.o111 rfl rfl (show _ = 57 from rfl) ?_
    refine sx_RP.step (pc2 := 58) (ls2 := [(4, .int v7), (0, .ref 111), (1, .int k), (2, .int n), (3, .int (nI j))]) (st2 := [.int (nI j), .ref 120]) (w3 := w3) rfl rfl ?_
    refine sx_RP.step (pc2 := 59) (ls2 := [(4, .int v7), (0, .ref 111), (1, .int k), (2, .int n), (3, .int (nI j))]) (st2 := [.int 1, .int (nI j), .ref 120]) (w3 := w3) rfl rfl ?_
    refine sx_RP.mBkK hI4 hE5 rfl hI4.1.a120 (sx_in_nI (show j < 48 by omega) (by decide)) (show _ = 60 from rfl) (fun w9 hI10 hE11 hk12 => ?_)
    refine sx_RP.step (pc2 := 61) (ls2 := [(4, .int v7), (0, .ref 111), (1, .int k), (2, .int n), (3, .int (nI j))]) (st2 := [.int 0]) (w3 := w9) rfl rfl ?_
    refine sx_RP.step (pc2 := 63) (ls2 := [(5, .int 0), (4, .int v7), (0, .ref 111), (1, .int k), (2, .int n), (3, .int (nI j))]) (st2 := []) (w3 := w9) rfl rfl ?_
    refine sx_RP.ls (sx_lr.cons rfl (sx_lr.cons rfl (sx_lr.cons rfl (sx_lr.cons rfl (sx_lr.cons rfl (sx_lr.cons rfl sx_lr.nil)))))) (K193iL (w0 := w9) (show j < 48 by omega) (fun c hc => by rw [hk12]; exact hw2.at hc) (fun w13 hI14 hE15 => ?_) 9 0 w9 (by omega) (by omega) hI10 EVK.rf)
    have hE16 := hE11.tr hE15.1
    refine sx_RP.step (pc2 := 132) (ls2 := [(0, .ref 111), (1, .int k), (2, .int n), (3, .int (nI j))]) (st2 := [.int n]) (w3 := w13) rfl rfl ?_
    refine sx_RP.step (pc2 := 133) (ls2 := [(0, .ref 111), (1, .int k), (2, .int n), (3, .int (nI j))]) (st2 := [.ref 111, .int n]) (w3 := w13) rfl rfl ?_
    refine sx_RP.gf (v := .ref 120) rfl rfl hI14.1.o111 rfl rfl (show _ = 136 from rfl) ?_
    refine sx_RP.step (pc2 := 137) (ls2 := [(0, .ref 111), (1, .int k), (2, .int n), (3, .int (nI j))]) (st2 := [.int (nI j), .ref 120, .int n]) (w3 := w13) rfl rfl ?_
    refine sx_RP.bld1 (c := j) rfl hI14.1.a120.1 hI14.1.a120.2 (sx_in_nI (show j < 48 by omega) (by decide)) (show (nI j).toNatClampNeg = j from nI_clamp (by omega)) (show _ = 138 from rfl) ?_
    refine sx_RP.br (p1 := 145) (l1 := [(0, .ref 111), (1, .int k), (2, .int n), (3, .int (nI j))]) (s1 := [.int n]) (v1 := w13) (p2 := 141) (l2 := [(0, .ref 111), (1, .int k), (2, .int n), (3, .int (nI j))]) (s2 := [.int n]) (v2 := w13) rfl rfl (fun q17 => ?_) (fun q17 => ?_)
    · replace q17 := of_decide_eq_true q17
      refine sx_RP.step (pc2 := 146) (ls2 := [(0, .ref 111), (1, .int k), (2, .int n), (3, .int (nI j))]) (st2 := [.int 0, .int n]) (w3 := w13) rfl rfl ?_
      refine sx_RP.step (pc2 := 147) (ls2 := [(0, .ref 111), (1, .int k), (2, .int n), (3, .int (nI j))]) (st2 := [.int (n + 0)]) (w3 := w13) rfl rfl ?_
      refine sx_RP.step (pc2 := 148) (ls2 := [(2, .int (n + 0)), (0, .ref 111), (1, .int k), (3, .int (nI j))]) (st2 := []) (w3 := w13) rfl rfl ?_
      refine sx_RP.step (pc2 := 151) (ls2 := [(3, .int ((nI j) + 1)), (2, .int (n + 0)), (0, .ref 111), (1, .int k)]) (st2 := []) (w3 := w13) rfl rfl ?_
      rw [nI_1 j]
      refine sx_RP.step (pc2 := 33) (ls2 := [(3, .int (nI (j + 1))), (2, .int (n + 0)), (0, .ref 111), (1, .int k)]) (st2 := []) (w3 := w13) rfl rfl ?_
      exact sx_RP.ls (sx_lr.cons rfl (sx_lr.cons rfl (sx_lr.cons rfl (sx_lr.cons rfl sx_lr.nil)))) (kk w13 (n + 0) hI14 hE16 (by omega))
    · replace q17 := of_decide_eq_false q17
      refine sx_RP.step (pc2 := 142) (ls2 := [(0, .ref 111), (1, .int k), (2, .int n), (3, .int (nI j))]) (st2 := [.int 1, .int n]) (w3 := w13) rfl rfl ?_
      refine sx_RP.step (pc2 := 146) (ls2 := [(0, .ref 111), (1, .int k), (2, .int n), (3, .int (nI j))]) (st2 := [.int 1, .int n]) (w3 := w13) rfl rfl ?_
      refine sx_RP.step (pc2 := 147) (ls2 := [(0, .ref 111), (1, .int k), (2, .int n), (3, .int (nI j))]) (st2 := [.int (n + 1)]) (w3 := w13) rfl rfl ?_
      refine sx_RP.step (pc2 := 148) (ls2 := [(2, .int (n + 1)), (0, .ref 111), (1, .int k), (3, .int (nI j))]) (st2 := []) (w3 := w13) rfl rfl ?_
      refine sx_RP.step (pc2 := 151) (ls2 := [(3, .int ((nI j) + 1)), (2, .int (n + 1)), (0, .ref 111), (1, .int k)]) (st2 := []) (w3 := w13) rfl rfl ?_
      rw [nI_1 j]
      refine sx_RP.step (pc2 := 33) (ls2 := [(3, .int (nI (j + 1))), (2, .int (n + 1)), (0, .ref 111), (1, .int k)]) (st2 := []) (w3 := w13) rfl rfl ?_
      exact sx_RP.ls (sx_lr.cons rfl (sx_lr.cons rfl (sx_lr.cons rfl (sx_lr.cons rfl sx_lr.nil)))) (kk w13 (n + 1) hI14 hE16 (by omega))
set_option maxRecDepth 20000 in
set_option maxHeartbeats 4000000 in
theorem K193bL {xs : Option (List Int32)} {d : Nat} {w0 : List sx_C} {k : Int32} : ∀ (fz j : Nat) (w : List sx_C) (n : Int32) , 48 ≤ j + fz * 1 → j ≤ 48 → WI w → EK w0 w → sx_RP xs (d + 6) 193 33 [(0, .ref 111), (1, .int k), (2, .int n), (3, .int (nI j))] [] w (fun r w2 => (∃ v : Int32, r = some (.int v)) ∧ WI w2 ∧ EK w0 w2)
  | 0, j, w, n, h, hj, hI, hE => K193bB (k := k) hI hE hj n  (fun w4 un hI4 hE4 hlt  => absurd hlt (by omega)) 
  | fz + 1, j, w, n, h, hj, hI, hE => K193bB (k := k) hI hE hj n  (fun w4 un hI4 hE4 hlt  => K193bL (k := k)  fz (j + 1) w4 un (by omega) hlt hI4 hE4 ) 
set_option maxRecDepth 20000 in
set_option maxHeartbeats 4000000 in
theorem K193 {xs : Option (List Int32)} {d : Nat} {w : List sx_C} (hI : WI w) (k : Int32) : sx_RP xs (d + 6) 193 0 (lv_args 0 [.ref 111, .int k]) [] w (fun r w2 => (∃ v : Int32, r = some (.int v)) ∧ WI w2 ∧ EK w w2) := by
  have hE : EK w w := EK.rf
  refine sx_RP.step (pc2 := 1) (ls2 := [(0, .ref 111), (1, .int k)]) (st2 := [.int 0]) (w3 := w) rfl rfl ?_
  refine sx_RP.step (pc2 := 2) (ls2 := [(2, .int 0), (0, .ref 111), (1, .int k)]) (st2 := []) (w3 := w) rfl rfl ?_
  refine sx_RP.ls (sx_lr.cons rfl (sx_lr.cons rfl (sx_lr.cons rfl sx_lr.nil))) (K193aL  (fun w1 hI2 hE3 => ?_) 9 0 w  (by omega) (by omega) hI hE )
  refine sx_RP.step (pc2 := 30) (ls2 := [(0, .ref 111), (1, .int k)]) (st2 := [.int 0]) (w3 := w1) rfl rfl ?_
  refine sx_RP.step (pc2 := 31) (ls2 := [(2, .int 0), (0, .ref 111), (1, .int k)]) (st2 := []) (w3 := w1) rfl rfl ?_
  refine sx_RP.step (pc2 := 32) (ls2 := [(2, .int 0), (0, .ref 111), (1, .int k)]) (st2 := [.int 0]) (w3 := w1) rfl rfl ?_
  refine sx_RP.step (pc2 := 33) (ls2 := [(3, .int 0), (2, .int 0), (0, .ref 111), (1, .int k)]) (st2 := []) (w3 := w1) rfl rfl ?_
  exact sx_RP.ls (sx_lr.cons rfl (sx_lr.cons rfl (sx_lr.cons rfl (sx_lr.cons rfl sx_lr.nil)))) (K193bL  48 0 w1 0 (by omega) (by omega) hI2 hE3 )
set_option maxRecDepth 20000 in
set_option maxHeartbeats 4000000 in
theorem K192B {xs : Option (List Int32)} {d : Nat} {w w0 : List sx_C} (m : Int32) (hI : WI w) (hE : EK w0 w) {j : Nat} (hj : j ≤ 48) (n : Int64) (kk : ∀ (w4 : List sx_C) (un : Int64), WI w4 → EK w0 w4 → j + 1 ≤ 48 → sx_RP xs (d + 7) 192 41 [(0, .ref 111), (2, .int m), (3, .long un), (5, .int (nI (j + 1)))] [] w4 (fun r w2 => (∃ v : Int64, r = some (.long v)) ∧ WI w2 ∧ EK w0 w2)) : sx_RP xs (d + 7) 192 41 [(0, .ref 111), (2, .int m), (3, .long n), (5, .int (nI j))] [] w (fun r w2 => (∃ v : Int64, r = some (.long v)) ∧ WI w2 ∧ EK w0 w2) := by
  refine sx_RP.step (pc2 := 43) (ls2 := [(0, .ref 111), (2, .int m), (3, .long n), (5, .int (nI j))]) (st2 := [.int (nI j)]) (w3 := w) rfl rfl ?_
  refine sx_RP.step (pc2 := 45) (ls2 := [(0, .ref 111), (2, .int m), (3, .long n), (5, .int (nI j))]) (st2 := [.int 48, .int (nI j)]) (w3 := w) rfl rfl ?_
  refine sx_RP.br (p1 := 79) (l1 := [(0, .ref 111), (2, .int m), (3, .long n), (5, .int (nI j))]) (s1 := []) (v1 := w) (p2 := 48) (l2 := [(0, .ref 111), (2, .int m), (3, .long n), (5, .int (nI j))]) (s2 := []) (v2 := w) rfl rfl (fun q1 => ?_) (fun q1 => ?_)
  · replace q1 := of_decide_eq_true q1
    replace q1 := (nI_leI (a := 48) (b := j) (by omega) (by omega)).mp q1
    refine sx_RP.step (pc2 := 80) (ls2 := [(0, .ref 111), (2, .int m), (3, .long n), (5, .int (nI j))]) (st2 := [.long n]) (w3 := w) rfl rfl ?_
    refine sx_RP.ret (r := (some (.long n))) rfl rfl ?_
    exact ⟨⟨_, rfl⟩, hI, hE⟩
  · replace q1 := of_decide_eq_false q1
    replace q1 := mt (nI_leI (a := 48) (b := j) (by omega) (by omega)).mpr q1
    refine sx_RP.step (pc2 := 49) (ls2 := [(0, .ref 111), (2, .int m), (3, .long n), (5, .int (nI j))]) (st2 := [.int m]) (w3 := w) rfl rfl ?_
    refine sx_RP.br (p1 := 79) (l1 := [(0, .ref 111), (2, .int m), (3, .long n), (5, .int (nI j))]) (s1 := []) (v1 := w) (p2 := 52) (l2 := [(0, .ref 111), (2, .int m), (3, .long n), (5, .int (nI j))]) (s2 := []) (v2 := w) rfl rfl (fun q2 => ?_) (fun q2 => ?_)
    · replace q2 := of_decide_eq_true q2
      refine sx_RP.step (pc2 := 80) (ls2 := [(0, .ref 111), (2, .int m), (3, .long n), (5, .int (nI j))]) (st2 := [.long n]) (w3 := w) rfl rfl ?_
      refine sx_RP.ret (r := (some (.long n))) rfl rfl ?_
      exact ⟨⟨_, rfl⟩, hI, hE⟩
    · replace q2 := of_decide_eq_false q2
      refine sx_RP.step (pc2 := 53) (ls2 := [(0, .ref 111), (2, .int m), (3, .long n), (5, .int (nI j))]) (st2 := [.long n]) (w3 := w) rfl rfl ?_
      refine sx_RP.step (pc2 := 54) (ls2 := [(0, .ref 111), (2, .int m), (3, .long n), (5, .int (nI j))]) (st2 := [.ref 111, .long n]) (w3 := w) rfl rfl ?_
      refine sx_RP.gf (v := .ref 120) rfl rfl hI.1.o111 rfl rfl (show _ = 57 from rfl) ?_
      refine sx_RP.step (pc2 := 59) (ls2 := [(0, .ref 111), (2, .int m), (3, .long n), (5, .int (nI j))]) (st2 := [.int (nI j), .ref 120, .long n]) (w3 := w) rfl rfl ?_
      refine sx_RP.bld1 (c := j) rfl hI.1.a120.1 hI.1.a120.2 (sx_in_nI (show j < 48 by omega) (by decide)) (show (nI j).toNatClampNeg = j from nI_clamp (by omega)) (show _ = 60 from rfl) ?_
      refine sx_RP.br (p1 := 70) (l1 := [(0, .ref 111), (2, .int m), (3, .long n), (5, .int (nI j))]) (s1 := [.long n]) (v1 := w) (p2 := 63) (l2 := [(0, .ref 111), (2, .int m), (3, .long n), (5, .int (nI j))]) (s2 := [.long n]) (v2 := w) rfl rfl (fun q3 => ?_) (fun q3 => ?_)
      · replace q3 := of_decide_eq_true q3
        refine sx_RP.step (pc2 := 71) (ls2 := [(0, .ref 111), (2, .int m), (3, .long n), (5, .int (nI j))]) (st2 := [.long 0, .long n]) (w3 := w) rfl rfl ?_
        refine sx_RP.step (pc2 := 72) (ls2 := [(0, .ref 111), (2, .int m), (3, .long n), (5, .int (nI j))]) (st2 := [.long (n ||| 0)]) (w3 := w) rfl rfl ?_
        refine sx_RP.step (pc2 := 73) (ls2 := [(3, .long (n ||| 0)), (0, .ref 111), (2, .int m), (5, .int (nI j))]) (st2 := []) (w3 := w) rfl rfl ?_
        refine sx_RP.step (pc2 := 76) (ls2 := [(5, .int ((nI j) + 1)), (3, .long (n ||| 0)), (0, .ref 111), (2, .int m)]) (st2 := []) (w3 := w) rfl rfl ?_
        rw [nI_1 j]
        refine sx_RP.step (pc2 := 41) (ls2 := [(5, .int (nI (j + 1))), (3, .long (n ||| 0)), (0, .ref 111), (2, .int m)]) (st2 := []) (w3 := w) rfl rfl ?_
        exact sx_RP.ls (sx_lr.cons rfl (sx_lr.cons rfl (sx_lr.cons rfl (sx_lr.cons rfl sx_lr.nil)))) (kk w (n ||| 0) hI hE (by omega))
      · replace q3 := of_decide_eq_false q3
        refine sx_RP.step (pc2 := 64) (ls2 := [(0, .ref 111), (2, .int m), (3, .long n), (5, .int (nI j))]) (st2 := [.long 1, .long n]) (w3 := w) rfl rfl ?_
        refine sx_RP.step (pc2 := 66) (ls2 := [(0, .ref 111), (2, .int m), (3, .long n), (5, .int (nI j))]) (st2 := [.int (nI j), .long 1, .long n]) (w3 := w) rfl rfl ?_
        refine sx_RP.step (pc2 := 67) (ls2 := [(0, .ref 111), (2, .int m), (3, .long n), (5, .int (nI j))]) (st2 := [.long ((1 : Int64) <<< ((nI j).toInt64 &&& 63)), .long n]) (w3 := w) rfl rfl ?_
        refine sx_RP.step (pc2 := 71) (ls2 := [(0, .ref 111), (2, .int m), (3, .long n), (5, .int (nI j))]) (st2 := [.long ((1 : Int64) <<< ((nI j).toInt64 &&& 63)), .long n]) (w3 := w) rfl rfl ?_
        refine sx_RP.step (pc2 := 72) (ls2 := [(0, .ref 111), (2, .int m), (3, .long n), (5, .int (nI j))]) (st2 := [.long (n ||| ((1 : Int64) <<< ((nI j).toInt64 &&& 63)))]) (w3 := w) rfl rfl ?_
        refine sx_RP.step (pc2 := 73) (ls2 := [(3, .long (n ||| ((1 : Int64) <<< ((nI j).toInt64 &&& 63)))), (0, .ref 111), (2, .int m), (5, .int (nI j))]) (st2 := []) (w3 := w) rfl rfl ?_
        refine sx_RP.step (pc2 := 76) (ls2 := [(5, .int ((nI j) + 1)), (3, .long (n ||| ((1 : Int64) <<< ((nI j).toInt64 &&& 63)))), (0, .ref 111), (2, .int m)]) (st2 := []) (w3 := w) rfl rfl ?_
        rw [nI_1 j]
        refine sx_RP.step (pc2 := 41) (ls2 := [(5, .int (nI (j + 1))), (3, .long (n ||| ((1 : Int64) <<< ((nI j).toInt64 &&& 63)))), (0, .ref 111), (2, .int m)]) (st2 := []) (w3 := w) rfl rfl ?_
        exact sx_RP.ls (sx_lr.cons rfl (sx_lr.cons rfl (sx_lr.cons rfl (sx_lr.cons rfl sx_lr.nil)))) (kk w (n ||| ((1 : Int64) <<< ((nI j).toInt64 &&& 63))) hI hE (by omega))
set_option maxRecDepth 20000 in
set_option maxHeartbeats 4000000 in
theorem K192L {xs : Option (List Int32)} {d : Nat} {w0 : List sx_C} (m : Int32) : ∀ (fz j : Nat) (w : List sx_C) (n : Int64) , 48 ≤ j + fz * 1 → j ≤ 48 → WI w → EK w0 w → sx_RP xs (d + 7) 192 41 [(0, .ref 111), (2, .int m), (3, .long n), (5, .int (nI j))] [] w (fun r w2 => (∃ v : Int64, r = some (.long v)) ∧ WI w2 ∧ EK w0 w2)
  | 0, j, w, n, h, hj, hI, hE => K192B m hI hE hj n  (fun w4 un hI4 hE4 hlt  => absurd hlt (by omega)) 
  | fz + 1, j, w, n, h, hj, hI, hE => K192B m hI hE hj n  (fun w4 un hI4 hE4 hlt  => K192L m  fz (j + 1) w4 un (by omega) hlt hI4 hE4 ) 
set_option maxRecDepth 20000 in
set_option maxHeartbeats 4000000 in
theorem K192 {xs : Option (List Int32)} {d : Nat} {w : List sx_C} (hI : WI w) (a1 : Int32) : sx_RP xs (d + 7) 192 0 (lv_args 0 [.ref 111, .int a1]) [] w (fun r w2 => (∃ v : Int64, r = some (.long v)) ∧ WI w2 ∧ EK w w2) := by
  have hE : EK w w := EK.rf
  refine sx_RP.step (pc2 := 1) (ls2 := [(0, .ref 111), (1, .int a1)]) (st2 := [.int a1]) (w3 := w) rfl rfl ?_
  rcases in_cases a1 0 5 (m := 0) (n := 5) rfl rfl (by decide) (by decide) with q1 | ⟨x2, hx3, hx4, rfl⟩
  · refine sx_RP.cu (as := [.int a1]) (rest2 := []) (st3 := [.int 0]) rfl rfl rfl rfl rfl (cx_151n q1) rfl ?_
    refine sx_RP.step (pc2 := 7) (ls2 := [(0, .ref 111), (1, .int a1)]) (st2 := []) (w3 := w) rfl rfl ?_
    refine sx_RP.step (pc2 := 8) (ls2 := [(0, .ref 111), (1, .int a1)]) (st2 := [.ref 111]) (w3 := w) rfl rfl ?_
    refine sx_RP.step (pc2 := 9) (ls2 := [(0, .ref 111), (1, .int a1)]) (st2 := [.int 0, .ref 111]) (w3 := w) rfl rfl ?_
    refine sx_RP.callp (as2 := [.ref 111, .int 0]) (rest2 := []) rfl rfl (sx_inv_v2 (mi := 192) (k := 70) (st := [.int 0, .ref 111]) (w := w) rfl rfl hI.1.o111 rfl rfl rfl) rfl rfl rfl (K133_0 hI) (show _ = 12 from rfl) ?_
    rintro r4 w6 ⟨rfl, hI7, hE9⟩
    have hE8 := hE.tr (hE9)
    show sx_RP _ _ _ _ _ [.int (-1000000001)] _ _
    refine sx_RP.step (pc2 := 13) (ls2 := [(0, .ref 111), (1, .int a1)]) (st2 := [.long (-1000000001)]) (w3 := w6) rfl rfl ?_
    refine sx_RP.ret (r := (some (.long (-1000000001)))) rfl rfl ?_
    exact ⟨⟨_, rfl⟩, hI7, hE8⟩
  · refine sx_RP.cu (as := [.int (nI x2)]) (rest2 := []) (st3 := [.int 1]) rfl rfl rfl rfl rfl (cx_151p ⟨nI_le (a := 0) hx3 (by omega), nI_le (b := 5) hx4 (by decide)⟩) rfl ?_
    refine sx_RP.step (pc2 := 14) (ls2 := [(0, .ref 111), (1, .int (nI x2))]) (st2 := []) (w3 := w) rfl rfl ?_
    refine sx_RP.step (pc2 := 15) (ls2 := [(0, .ref 111), (1, .int (nI x2))]) (st2 := [.ref 111]) (w3 := w) rfl rfl ?_
    refine sx_RP.gf (v := .ref 112) rfl rfl hI.1.o111 rfl rfl (show _ = 18 from rfl) ?_
    refine sx_RP.step (pc2 := 19) (ls2 := [(0, .ref 111), (1, .int (nI x2))]) (st2 := [.int 2, .ref 112]) (w3 := w) rfl rfl ?_
    refine sx_RP.ild (c := 2) rfl hI.1.a112.1 hI.1.a112.2 (sx_in_nI (show 2 < 172 by omega) (by decide)) (show (nI 2).toNatClampNeg = 2 from nI_clamp (by omega)) (show _ = 20 from rfl) ?_
    obtain ⟨x10, hx11, ex12⟩ : inR ((ia w 112).getD 2 0) 9 := (hI.s (2) (by omega)).2.1 rfl
    rw [ex12]
    refine sx_RP.br (p1 := 30) (l1 := [(0, .ref 111), (1, .int (nI x2))]) (s1 := []) (v1 := w) (p2 := 23) (l2 := [(0, .ref 111), (1, .int (nI x2))]) (s2 := []) (v2 := w) rfl rfl (fun q13 => ?_) (fun q13 => ?_)
    · replace q13 := of_decide_eq_true q13
      replace q13 := mt (nI_eq (a := x10) (b := 0) (by omega) (by omega)).mpr q13
      refine sx_RP.step (pc2 := 31) (ls2 := [(0, .ref 111), (1, .int (nI x2))]) (st2 := [.ref 111]) (w3 := w) rfl rfl ?_
      refine sx_RP.step (pc2 := 32) (ls2 := [(0, .ref 111), (1, .int (nI x2))]) (st2 := [.int (nI x2), .ref 111]) (w3 := w) rfl rfl ?_
      refine sx_RP.callp (as2 := [.ref 111, .int (nI x2)]) (rest2 := []) rfl rfl (sx_inv_v2 (mi := 192) (k := 183) (st := [.int (nI x2), .ref 111]) (w := w) rfl rfl hI.1.o111 rfl rfl rfl) rfl rfl rfl (K193 hI (nI x2)) (show _ = 35 from rfl) ?_
      rintro r4 w15 ⟨⟨v14, rfl⟩, hI16, hE18⟩
      have hE17 := hE.tr (hE18)
      show sx_RP _ _ _ _ _ [.int v14] _ _
      refine sx_RP.step (pc2 := 36) (ls2 := [(2, .int v14), (0, .ref 111), (1, .int (nI x2))]) (st2 := []) (w3 := w15) rfl rfl ?_
      refine sx_RP.step (pc2 := 37) (ls2 := [(2, .int v14), (0, .ref 111), (1, .int (nI x2))]) (st2 := [.long 0]) (w3 := w15) rfl rfl ?_
      refine sx_RP.step (pc2 := 38) (ls2 := [(3, .long 0), (2, .int v14), (0, .ref 111), (1, .int (nI x2))]) (st2 := []) (w3 := w15) rfl rfl ?_
      refine sx_RP.step (pc2 := 39) (ls2 := [(3, .long 0), (2, .int v14), (0, .ref 111), (1, .int (nI x2))]) (st2 := [.int 0]) (w3 := w15) rfl rfl ?_
      refine sx_RP.step (pc2 := 41) (ls2 := [(5, .int 0), (3, .long 0), (2, .int v14), (0, .ref 111), (1, .int (nI x2))]) (st2 := []) (w3 := w15) rfl rfl ?_
      exact sx_RP.ls (sx_lr.cons rfl (sx_lr.cons rfl (sx_lr.cons rfl (sx_lr.cons rfl sx_lr.nil)))) (K192L v14 48 0 w15 0 (by omega) (by omega) hI16 hE17 )
    · replace q13 := Decidable.not_not.mp (of_decide_eq_false q13)
      replace q13 := (nI_eq (a := x10) (b := 0) (by omega) (by omega)).mp q13
      refine sx_RP.step (pc2 := 24) (ls2 := [(0, .ref 111), (1, .int (nI x2))]) (st2 := [.ref 111]) (w3 := w) rfl rfl ?_
      refine sx_RP.step (pc2 := 25) (ls2 := [(0, .ref 111), (1, .int (nI x2))]) (st2 := [.int 3, .ref 111]) (w3 := w) rfl rfl ?_
      refine sx_RP.callp (as2 := [.ref 111, .int 3]) (rest2 := []) rfl rfl (sx_inv_v2 (mi := 192) (k := 70) (st := [.int 3, .ref 111]) (w := w) rfl rfl hI.1.o111 rfl rfl rfl) rfl rfl rfl (K133_3 hI) (show _ = 28 from rfl) ?_
      rintro r4 w19 ⟨rfl, hI20, hE22⟩
      have hE21 := hE.tr (hE22)
      show sx_RP _ _ _ _ _ [.int (-1000000004)] _ _
      refine sx_RP.step (pc2 := 29) (ls2 := [(0, .ref 111), (1, .int (nI x2))]) (st2 := [.long (-1000000004)]) (w3 := w19) rfl rfl ?_
      refine sx_RP.ret (r := (some (.long (-1000000004)))) rfl rfl ?_
      exact ⟨⟨_, rfl⟩, hI20, hE21⟩
set_option maxRecDepth 20000 in
set_option maxHeartbeats 4000000 in
theorem K195B {xs : Option (List Int32)} {d : Nat} {w : List sx_C} {wz : List sx_C} {c : Nat} (hc : c < 48) (hw : wOK wz c w) (k p : Int32) (hI : WI w) {j : Nat} (hj : j ≤ 48) (n : Int32) (kk : ∀ (un : Int32), j + 1 ≤ 48 → sx_RP xs (d + 6) 195 18 [(0, .ref 111), (1, .int (nI c)), (2, .int k), (3, .int p), (4, .int un), (5, .int (nI (j + 1)))] [] w (fun r w2 => (∃ v : Int32, r = some (.int v)) ∧ w2 = w)) : sx_RP xs (d + 6) 195 18 [(0, .ref 111), (1, .int (nI c)), (2, .int k), (3, .int p), (4, .int n), (5, .int (nI j))] [] w (fun r w2 => (∃ v : Int32, r = some (.int v)) ∧ w2 = w) := by
  refine sx_RP.step (pc2 := 20) (ls2 := [(0, .ref 111), (1, .int (nI c)), (2, .int k), (3, .int p), (4, .int n), (5, .int (nI j))]) (st2 := [.int (nI j)]) (w3 := w) rfl rfl ?_
  refine sx_RP.step (pc2 := 22) (ls2 := [(0, .ref 111), (1, .int (nI c)), (2, .int k), (3, .int p), (4, .int n), (5, .int (nI j))]) (st2 := [.int 48, .int (nI j)]) (w3 := w) rfl rfl ?_
  refine sx_RP.br (p1 := 103) (l1 := [(0, .ref 111), (1, .int (nI c)), (2, .int k), (3, .int p), (4, .int n), (5, .int (nI j))]) (s1 := []) (v1 := w) (p2 := 25) (l2 := [(0, .ref 111), (1, .int (nI c)), (2, .int k), (3, .int p), (4, .int n), (5, .int (nI j))]) (s2 := []) (v2 := w) rfl rfl (fun q1 => ?_) (fun q1 => ?_)
  · replace q1 := of_decide_eq_true q1
    replace q1 := (nI_leI (a := 48) (b := j) (by omega) (by omega)).mp q1
    refine sx_RP.step (pc2 := 105) (ls2 := [(0, .ref 111), (1, .int (nI c)), (2, .int k), (3, .int p), (4, .int n), (5, .int (nI j))]) (st2 := [.int n]) (w3 := w) rfl rfl ?_
    refine sx_RP.ret (r := (some (.int n))) rfl rfl ?_
    exact ⟨⟨_, rfl⟩, rfl⟩
  · replace q1 := of_decide_eq_false q1
    replace q1 := mt (nI_leI (a := 48) (b := j) (by omega) (by omega)).mpr q1
    refine sx_RP.step (pc2 := 26) (ls2 := [(0, .ref 111), (1, .int (nI c)), (2, .int k), (3, .int p), (4, .int n), (5, .int (nI j))]) (st2 := [.ref 111]) (w3 := w) rfl rfl ?_
    refine sx_RP.gf (v := .ref 120) rfl rfl hI.1.o111 rfl rfl (show _ = 29 from rfl) ?_
    refine sx_RP.step (pc2 := 31) (ls2 := [(0, .ref 111), (1, .int (nI c)), (2, .int k), (3, .int p), (4, .int n), (5, .int (nI j))]) (st2 := [.int (nI j), .ref 120]) (w3 := w) rfl rfl ?_
    refine sx_RP.bld1 (c := j) rfl hI.1.a120.1 hI.1.a120.2 (sx_in_nI (show j < 48 by omega) (by decide)) (show (nI j).toNatClampNeg = j from nI_clamp (by omega)) (show _ = 32 from rfl) ?_
    refine sx_RP.br (p1 := 97) (l1 := [(0, .ref 111), (1, .int (nI c)), (2, .int k), (3, .int p), (4, .int n), (5, .int (nI j))]) (s1 := []) (v1 := w) (p2 := 35) (l2 := [(0, .ref 111), (1, .int (nI c)), (2, .int k), (3, .int p), (4, .int n), (5, .int (nI j))]) (s2 := []) (v2 := w) rfl rfl (fun q2 => ?_) (fun q2 => ?_)
    · replace q2 := of_decide_eq_true q2
      refine sx_RP.step (pc2 := 100) (ls2 := [(5, .int ((nI j) + 1)), (0, .ref 111), (1, .int (nI c)), (2, .int k), (3, .int p), (4, .int n)]) (st2 := []) (w3 := w) rfl rfl ?_
      rw [nI_1 j]
      refine sx_RP.step (pc2 := 18) (ls2 := [(5, .int (nI (j + 1))), (0, .ref 111), (1, .int (nI c)), (2, .int k), (3, .int p), (4, .int n)]) (st2 := []) (w3 := w) rfl rfl ?_
      exact sx_RP.ls (sx_lr.cons rfl (sx_lr.cons rfl (sx_lr.cons rfl (sx_lr.cons rfl (sx_lr.cons rfl (sx_lr.cons rfl sx_lr.nil)))))) (kk n (by omega))
    · replace q2 := of_decide_eq_false q2
      refine sx_RP.step (pc2 := 36) (ls2 := [(0, .ref 111), (1, .int (nI c)), (2, .int k), (3, .int p), (4, .int n), (5, .int (nI j))]) (st2 := [.ref 111]) (w3 := w) rfl rfl ?_
      refine sx_RP.gf (v := .ref 117) rfl rfl hI.1.o111 rfl rfl (show _ = 39 from rfl) ?_
      refine sx_RP.step (pc2 := 41) (ls2 := [(0, .ref 111), (1, .int (nI c)), (2, .int k), (3, .int p), (4, .int n), (5, .int (nI j))]) (st2 := [.int (nI j), .ref 117]) (w3 := w) rfl rfl ?_
      refine sx_RP.ild (c := j) rfl hI.1.a117.1 hI.1.a117.2 (sx_in_nI (show j < 48 by omega) (by decide)) (show (nI j).toNatClampNeg = j from nI_clamp (by omega)) (show _ = 42 from rfl) ?_
      obtain ⟨x3, hx4, ex5⟩ : inR ((ia w 117).getD j 0) 1000 := hw.at (show j < 48 by omega)
      rw [ex5]
      refine sx_RP.step (pc2 := 43) (ls2 := [(0, .ref 111), (1, .int (nI c)), (2, .int k), (3, .int p), (4, .int n), (5, .int (nI j))]) (st2 := [.ref 111, .int (nI x3)]) (w3 := w) rfl rfl ?_
      refine sx_RP.step (pc2 := 45) (ls2 := [(0, .ref 111), (1, .int (nI c)), (2, .int k), (3, .int p), (4, .int n), (5, .int (nI j))]) (st2 := [.int (nI j), .ref 111, .int (nI x3)]) (w3 := w) rfl rfl ?_
      obtain ⟨x6, ⟨hx7, hx8, hx9⟩, c10⟩ := l146 (xs := xs) hI (show j < 48 by omega)
      refine sx_RP.cu (as := [.ref 111, .int (nI j)]) (rest2 := [.int (nI x3)]) (st3 := [.int (nI x6), .int (nI x3)]) rfl rfl (sx_inv_v2 (mi := 195) (k := 84) (st := [.int (nI j), .ref 111, .int (nI x3)]) (w := w) rfl rfl hI.1.o111 rfl rfl rfl) rfl rfl (c10) rfl ?_
      refine sx_RP.step (pc2 := 49) (ls2 := [(0, .ref 111), (1, .int (nI c)), (2, .int k), (3, .int p), (4, .int n), (5, .int (nI j))]) (st2 := [.int ((nI x3) - (nI x6))]) (w3 := w) rfl rfl ?_
      refine sx_RP.step (pc2 := 50) (ls2 := [(0, .ref 111), (1, .int (nI c)), (2, .int k), (3, .int p), (4, .int n), (5, .int (nI j))]) (st2 := [.ref 111, .int ((nI x3) - (nI x6))]) (w3 := w) rfl rfl ?_
      refine sx_RP.step (pc2 := 51) (ls2 := [(0, .ref 111), (1, .int (nI c)), (2, .int k), (3, .int p), (4, .int n), (5, .int (nI j))]) (st2 := [.int (nI c), .ref 111, .int ((nI x3) - (nI x6))]) (w3 := w) rfl rfl ?_
      obtain ⟨x11, ⟨hx12, hx13, hx14⟩, c15⟩ := l146 (xs := xs) hI (show c < 48 by omega)
      refine sx_RP.cu (as := [.ref 111, .int (nI c)]) (rest2 := [.int ((nI x3) - (nI x6))]) (st3 := [.int (nI x11), .int ((nI x3) - (nI x6))]) rfl rfl (sx_inv_v2 (mi := 195) (k := 84) (st := [.int (nI c), .ref 111, .int ((nI x3) - (nI x6))]) (w := w) rfl rfl hI.1.o111 rfl rfl rfl) rfl rfl (c15) rfl ?_
      refine sx_RP.step (pc2 := 55) (ls2 := [(0, .ref 111), (1, .int (nI c)), (2, .int k), (3, .int p), (4, .int n), (5, .int (nI j))]) (st2 := [.int (((nI x3) - (nI x6)) + (nI x11))]) (w3 := w) rfl rfl ?_
      refine sx_RP.step (pc2 := 57) (ls2 := [(6, .int (((nI x3) - (nI x6)) + (nI x11))), (0, .ref 111), (1, .int (nI c)), (2, .int k), (3, .int p), (4, .int n), (5, .int (nI j))]) (st2 := []) (w3 := w) rfl rfl ?_
      refine sx_RP.step (pc2 := 59) (ls2 := [(6, .int (((nI x3) - (nI x6)) + (nI x11))), (0, .ref 111), (1, .int (nI c)), (2, .int k), (3, .int p), (4, .int n), (5, .int (nI j))]) (st2 := [.int (nI j)]) (w3 := w) rfl rfl ?_
      refine sx_RP.step (pc2 := 60) (ls2 := [(6, .int (((nI x3) - (nI x6)) + (nI x11))), (0, .ref 111), (1, .int (nI c)), (2, .int k), (3, .int p), (4, .int n), (5, .int (nI j))]) (st2 := [.int (nI c), .int (nI j)]) (w3 := w) rfl rfl ?_
      refine sx_RP.br (p1 := 67) (l1 := [(6, .int (((nI x3) - (nI x6)) + (nI x11))), (0, .ref 111), (1, .int (nI c)), (2, .int k), (3, .int p), (4, .int n), (5, .int (nI j))]) (s1 := []) (v1 := w) (p2 := 63) (l2 := [(6, .int (((nI x3) - (nI x6)) + (nI x11))), (0, .ref 111), (1, .int (nI c)), (2, .int k), (3, .int p), (4, .int n), (5, .int (nI j))]) (s2 := []) (v2 := w) rfl rfl (fun q16 => ?_) (fun q16 => ?_)
      · replace q16 := of_decide_eq_true q16
        replace q16 := mt (nI_eq (a := j) (b := c) (by omega) (by omega)).mpr q16
        refine sx_RP.step (pc2 := 69) (ls2 := [(6, .int (((nI x3) - (nI x6)) + (nI x11))), (0, .ref 111), (1, .int (nI c)), (2, .int k), (3, .int p), (4, .int n), (5, .int (nI j))]) (st2 := [.int (((nI x3) - (nI x6)) + (nI x11))]) (w3 := w) rfl rfl ?_
        refine sx_RP.step (pc2 := 71) (ls2 := [(7, .int (((nI x3) - (nI x6)) + (nI x11))), (6, .int (((nI x3) - (nI x6)) + (nI x11))), (0, .ref 111), (1, .int (nI c)), (2, .int k), (3, .int p), (4, .int n), (5, .int (nI j))]) (st2 := []) (w3 := w) rfl rfl ?_
        refine sx_RP.step (pc2 := 73) (ls2 := [(7, .int (((nI x3) - (nI x6)) + (nI x11))), (6, .int (((nI x3) - (nI x6)) + (nI x11))), (0, .ref 111), (1, .int (nI c)), (2, .int k), (3, .int p), (4, .int n), (5, .int (nI j))]) (st2 := [.int n]) (w3 := w) rfl rfl ?_
        refine sx_RP.step (pc2 := 74) (ls2 := [(7, .int (((nI x3) - (nI x6)) + (nI x11))), (6, .int (((nI x3) - (nI x6)) + (nI x11))), (0, .ref 111), (1, .int (nI c)), (2, .int k), (3, .int p), (4, .int n), (5, .int (nI j))]) (st2 := [.ref 111, .int n]) (w3 := w) rfl rfl ?_
        refine sx_RP.step (pc2 := 75) (ls2 := [(7, .int (((nI x3) - (nI x6)) + (nI x11))), (6, .int (((nI x3) - (nI x6)) + (nI x11))), (0, .ref 111), (1, .int (nI c)), (2, .int k), (3, .int p), (4, .int n), (5, .int (nI j))]) (st2 := [.int k, .ref 111, .int n]) (w3 := w) rfl rfl ?_
        refine sx_RP.step (pc2 := 77) (ls2 := [(7, .int (((nI x3) - (nI x6)) + (nI x11))), (6, .int (((nI x3) - (nI x6)) + (nI x11))), (0, .ref 111), (1, .int (nI c)), (2, .int k), (3, .int p), (4, .int n), (5, .int (nI j))]) (st2 := [.int (nI j), .int k, .ref 111, .int n]) (w3 := w) rfl rfl ?_
        obtain ⟨v17, c18⟩ := p162 hI k (show j < 48 by omega)
        refine sx_RP.cu (as := [.ref 111, .int k, .int (nI j)]) (rest2 := [.int n]) (st3 := [.int v17, .int n]) rfl rfl (sx_inv_v2 (mi := 195) (k := 130) (st := [.int (nI j), .int k, .ref 111, .int n]) (w := w) rfl rfl hI.1.o111 rfl rfl rfl) rfl rfl (c18) rfl ?_
        refine sx_RP.step (pc2 := 81) (ls2 := [(7, .int (((nI x3) - (nI x6)) + (nI x11))), (6, .int (((nI x3) - (nI x6)) + (nI x11))), (0, .ref 111), (1, .int (nI c)), (2, .int k), (3, .int p), (4, .int n), (5, .int (nI j))]) (st2 := [.int 1, .int v17, .int n]) (w3 := w) rfl rfl ?_
        refine sx_RP.step (pc2 := 83) (ls2 := [(7, .int (((nI x3) - (nI x6)) + (nI x11))), (6, .int (((nI x3) - (nI x6)) + (nI x11))), (0, .ref 111), (1, .int (nI c)), (2, .int k), (3, .int p), (4, .int n), (5, .int (nI j))]) (st2 := [.int (((nI x3) - (nI x6)) + (nI x11)), .int 1, .int v17, .int n]) (w3 := w) rfl rfl ?_
        refine sx_RP.step (pc2 := 84) (ls2 := [(7, .int (((nI x3) - (nI x6)) + (nI x11))), (6, .int (((nI x3) - (nI x6)) + (nI x11))), (0, .ref 111), (1, .int (nI c)), (2, .int k), (3, .int p), (4, .int n), (5, .int (nI j))]) (st2 := [.int (1 + (((nI x3) - (nI x6)) + (nI x11))), .int v17, .int n]) (w3 := w) rfl rfl ?_
        refine sx_RP.idiv (pc2 := 85) rfl (lf_n0 hw (show j < 48 by omega) (by omega) (by omega) ex5 hx9 (by omega) (by omega)) rfl ?_
        refine sx_RP.step (pc2 := 86) (ls2 := [(7, .int (((nI x3) - (nI x6)) + (nI x11))), (6, .int (((nI x3) - (nI x6)) + (nI x11))), (0, .ref 111), (1, .int (nI c)), (2, .int k), (3, .int p), (4, .int n), (5, .int (nI j))]) (st2 := [.int p, .int (v17 / (1 + (((nI x3) - (nI x6)) + (nI x11)))), .int n]) (w3 := w) rfl rfl ?_
        refine sx_RP.br (p1 := 93) (l1 := [(7, .int (((nI x3) - (nI x6)) + (nI x11))), (6, .int (((nI x3) - (nI x6)) + (nI x11))), (0, .ref 111), (1, .int (nI c)), (2, .int k), (3, .int p), (4, .int n), (5, .int (nI j))]) (s1 := [.int n]) (v1 := w) (p2 := 89) (l2 := [(7, .int (((nI x3) - (nI x6)) + (nI x11))), (6, .int (((nI x3) - (nI x6)) + (nI x11))), (0, .ref 111), (1, .int (nI c)), (2, .int k), (3, .int p), (4, .int n), (5, .int (nI j))]) (s2 := [.int n]) (v2 := w) rfl rfl (fun q19 => ?_) (fun q19 => ?_)
        · replace q19 := of_decide_eq_true q19
          refine sx_RP.step (pc2 := 94) (ls2 := [(7, .int (((nI x3) - (nI x6)) + (nI x11))), (6, .int (((nI x3) - (nI x6)) + (nI x11))), (0, .ref 111), (1, .int (nI c)), (2, .int k), (3, .int p), (4, .int n), (5, .int (nI j))]) (st2 := [.int 0, .int n]) (w3 := w) rfl rfl ?_
          refine sx_RP.step (pc2 := 95) (ls2 := [(7, .int (((nI x3) - (nI x6)) + (nI x11))), (6, .int (((nI x3) - (nI x6)) + (nI x11))), (0, .ref 111), (1, .int (nI c)), (2, .int k), (3, .int p), (4, .int n), (5, .int (nI j))]) (st2 := [.int (n + 0)]) (w3 := w) rfl rfl ?_
          refine sx_RP.step (pc2 := 97) (ls2 := [(4, .int (n + 0)), (7, .int (((nI x3) - (nI x6)) + (nI x11))), (6, .int (((nI x3) - (nI x6)) + (nI x11))), (0, .ref 111), (1, .int (nI c)), (2, .int k), (3, .int p), (5, .int (nI j))]) (st2 := []) (w3 := w) rfl rfl ?_
          refine sx_RP.step (pc2 := 100) (ls2 := [(5, .int ((nI j) + 1)), (4, .int (n + 0)), (7, .int (((nI x3) - (nI x6)) + (nI x11))), (6, .int (((nI x3) - (nI x6)) + (nI x11))), (0, .ref 111), (1, .int (nI c)), (2, .int k), (3, .int p)]) (st2 := []) (w3 := w) rfl rfl ?_
          rw [nI_1 j]
          refine sx_RP.step (pc2 := 18) (ls2 := [(5, .int (nI (j + 1))), (4, .int (n + 0)), (7, .int (((nI x3) - (nI x6)) + (nI x11))), (6, .int (((nI x3) - (nI x6)) + (nI x11))), (0, .ref 111), (1, .int (nI c)), (2, .int k), (3, .int p)]) (st2 := []) (w3 := w) rfl rfl ?_
          exact sx_RP.ls (sx_lr.cons rfl (sx_lr.cons rfl (sx_lr.cons rfl (sx_lr.cons rfl (sx_lr.cons rfl (sx_lr.cons rfl sx_lr.nil)))))) (kk (n + 0) (by omega))
        · replace q19 := Decidable.not_not.mp (of_decide_eq_false q19)
          refine sx_RP.step (pc2 := 90) (ls2 := [(7, .int (((nI x3) - (nI x6)) + (nI x11))), (6, .int (((nI x3) - (nI x6)) + (nI x11))), (0, .ref 111), (1, .int (nI c)), (2, .int k), (3, .int p), (4, .int n), (5, .int (nI j))]) (st2 := [.int 1, .int n]) (w3 := w) rfl rfl ?_
          refine sx_RP.step (pc2 := 94) (ls2 := [(7, .int (((nI x3) - (nI x6)) + (nI x11))), (6, .int (((nI x3) - (nI x6)) + (nI x11))), (0, .ref 111), (1, .int (nI c)), (2, .int k), (3, .int p), (4, .int n), (5, .int (nI j))]) (st2 := [.int 1, .int n]) (w3 := w) rfl rfl ?_
          refine sx_RP.step (pc2 := 95) (ls2 := [(7, .int (((nI x3) - (nI x6)) + (nI x11))), (6, .int (((nI x3) - (nI x6)) + (nI x11))), (0, .ref 111), (1, .int (nI c)), (2, .int k), (3, .int p), (4, .int n), (5, .int (nI j))]) (st2 := [.int (n + 1)]) (w3 := w) rfl rfl ?_
          refine sx_RP.step (pc2 := 97) (ls2 := [(4, .int (n + 1)), (7, .int (((nI x3) - (nI x6)) + (nI x11))), (6, .int (((nI x3) - (nI x6)) + (nI x11))), (0, .ref 111), (1, .int (nI c)), (2, .int k), (3, .int p), (5, .int (nI j))]) (st2 := []) (w3 := w) rfl rfl ?_
          refine sx_RP.step (pc2 := 100) (ls2 := [(5, .int ((nI j) + 1)), (4, .int (n + 1)), (7, .int (((nI x3) - (nI x6)) + (nI x11))), (6, .int (((nI x3) - (nI x6)) + (nI x11))), (0, .ref 111), (1, .int (nI c)), (2, .int k), (3, .int p)]) (st2 := []) (w3 := w) rfl rfl ?_
          rw [nI_1 j]
          refine sx_RP.step (pc2 := 18) (ls2 := [(5, .int (nI (j + 1))), (4, .int (n + 1)), (7, .int (((nI x3) - (nI x6)) + (nI x11))), (6, .int (((nI x3) - (nI x6)) + (nI x11))), (0, .ref 111), (1, .int (nI c)), (2, .int k), (3, .int p)]) (st2 := []) (w3 := w) rfl rfl ?_
          exact sx_RP.ls (sx_lr.cons rfl (sx_lr.cons rfl (sx_lr.cons rfl (sx_lr.cons rfl (sx_lr.cons rfl (sx_lr.cons rfl sx_lr.nil)))))) (kk (n + 1) (by omega))
      · replace q16 := Decidable.not_not.mp (of_decide_eq_false q16)
        replace q16 := (nI_eq (a := j) (b := c) (by omega) (by omega)).mp q16
        refine sx_RP.step (pc2 := 64) (ls2 := [(6, .int (((nI x3) - (nI x6)) + (nI x11))), (0, .ref 111), (1, .int (nI c)), (2, .int k), (3, .int p), (4, .int n), (5, .int (nI j))]) (st2 := [.int 0]) (w3 := w) rfl rfl ?_
        refine sx_RP.step (pc2 := 69) (ls2 := [(6, .int (((nI x3) - (nI x6)) + (nI x11))), (0, .ref 111), (1, .int (nI c)), (2, .int k), (3, .int p), (4, .int n), (5, .int (nI j))]) (st2 := [.int 0]) (w3 := w) rfl rfl ?_
        refine sx_RP.step (pc2 := 71) (ls2 := [(7, .int 0), (6, .int (((nI x3) - (nI x6)) + (nI x11))), (0, .ref 111), (1, .int (nI c)), (2, .int k), (3, .int p), (4, .int n), (5, .int (nI j))]) (st2 := []) (w3 := w) rfl rfl ?_
        refine sx_RP.step (pc2 := 73) (ls2 := [(7, .int 0), (6, .int (((nI x3) - (nI x6)) + (nI x11))), (0, .ref 111), (1, .int (nI c)), (2, .int k), (3, .int p), (4, .int n), (5, .int (nI j))]) (st2 := [.int n]) (w3 := w) rfl rfl ?_
        refine sx_RP.step (pc2 := 74) (ls2 := [(7, .int 0), (6, .int (((nI x3) - (nI x6)) + (nI x11))), (0, .ref 111), (1, .int (nI c)), (2, .int k), (3, .int p), (4, .int n), (5, .int (nI j))]) (st2 := [.ref 111, .int n]) (w3 := w) rfl rfl ?_
        refine sx_RP.step (pc2 := 75) (ls2 := [(7, .int 0), (6, .int (((nI x3) - (nI x6)) + (nI x11))), (0, .ref 111), (1, .int (nI c)), (2, .int k), (3, .int p), (4, .int n), (5, .int (nI j))]) (st2 := [.int k, .ref 111, .int n]) (w3 := w) rfl rfl ?_
        refine sx_RP.step (pc2 := 77) (ls2 := [(7, .int 0), (6, .int (((nI x3) - (nI x6)) + (nI x11))), (0, .ref 111), (1, .int (nI c)), (2, .int k), (3, .int p), (4, .int n), (5, .int (nI j))]) (st2 := [.int (nI j), .int k, .ref 111, .int n]) (w3 := w) rfl rfl ?_
        obtain ⟨v20, c21⟩ := p162 hI k (show j < 48 by omega)
        refine sx_RP.cu (as := [.ref 111, .int k, .int (nI j)]) (rest2 := [.int n]) (st3 := [.int v20, .int n]) rfl rfl (sx_inv_v2 (mi := 195) (k := 130) (st := [.int (nI j), .int k, .ref 111, .int n]) (w := w) rfl rfl hI.1.o111 rfl rfl rfl) rfl rfl (c21) rfl ?_
        refine sx_RP.step (pc2 := 81) (ls2 := [(7, .int 0), (6, .int (((nI x3) - (nI x6)) + (nI x11))), (0, .ref 111), (1, .int (nI c)), (2, .int k), (3, .int p), (4, .int n), (5, .int (nI j))]) (st2 := [.int 1, .int v20, .int n]) (w3 := w) rfl rfl ?_
        refine sx_RP.step (pc2 := 83) (ls2 := [(7, .int 0), (6, .int (((nI x3) - (nI x6)) + (nI x11))), (0, .ref 111), (1, .int (nI c)), (2, .int k), (3, .int p), (4, .int n), (5, .int (nI j))]) (st2 := [.int 0, .int 1, .int v20, .int n]) (w3 := w) rfl rfl ?_
        refine sx_RP.step (pc2 := 84) (ls2 := [(7, .int 0), (6, .int (((nI x3) - (nI x6)) + (nI x11))), (0, .ref 111), (1, .int (nI c)), (2, .int k), (3, .int p), (4, .int n), (5, .int (nI j))]) (st2 := [.int 1, .int v20, .int n]) (w3 := w) rfl rfl ?_
        refine sx_RP.step (pc2 := 85) (ls2 := [(7, .int 0), (6, .int (((nI x3) - (nI x6)) + (nI x11))), (0, .ref 111), (1, .int (nI c)), (2, .int k), (3, .int p), (4, .int n), (5, .int (nI j))]) (st2 := [.int (v20 / 1), .int n]) (w3 := w) rfl rfl ?_
        refine sx_RP.step (pc2 := 86) (ls2 := [(7, .int 0), (6, .int (((nI x3) - (nI x6)) + (nI x11))), (0, .ref 111), (1, .int (nI c)), (2, .int k), (3, .int p), (4, .int n), (5, .int (nI j))]) (st2 := [.int p, .int (v20 / 1), .int n]) (w3 := w) rfl rfl ?_
        refine sx_RP.br (p1 := 93) (l1 := [(7, .int 0), (6, .int (((nI x3) - (nI x6)) + (nI x11))), (0, .ref 111), (1, .int (nI c)), (2, .int k), (3, .int p), (4, .int n), (5, .int (nI j))]) (s1 := [.int n]) (v1 := w) (p2 := 89) (l2 := [(7, .int 0), (6, .int (((nI x3) - (nI x6)) + (nI x11))), (0, .ref 111), (1, .int (nI c)), (2, .int k), (3, .int p), (4, .int n), (5, .int (nI j))]) (s2 := [.int n]) (v2 := w) rfl rfl (fun q22 => ?_) (fun q22 => ?_)
        · replace q22 := of_decide_eq_true q22
          refine sx_RP.step (pc2 := 94) (ls2 := [(7, .int 0), (6, .int (((nI x3) - (nI x6)) + (nI x11))), (0, .ref 111), (1, .int (nI c)), (2, .int k), (3, .int p), (4, .int n), (5, .int (nI j))]) (st2 := [.int 0, .int n]) (w3 := w) rfl rfl ?_
          refine sx_RP.step (pc2 := 95) (ls2 := [(7, .int 0), (6, .int (((nI x3) - (nI x6)) + (nI x11))), (0, .ref 111), (1, .int (nI c)), (2, .int k), (3, .int p), (4, .int n), (5, .int (nI j))]) (st2 := [.int (n + 0)]) (w3 := w) rfl rfl ?_
          refine sx_RP.step (pc2 := 97) (ls2 := [(4, .int (n + 0)), (7, .int 0), (6, .int (((nI x3) - (nI x6)) + (nI x11))), (0, .ref 111), (1, .int (nI c)), (2, .int k), (3, .int p), (5, .int (nI j))]) (st2 := []) (w3 := w) rfl rfl ?_
          refine sx_RP.step (pc2 := 100) (ls2 := [(5, .int ((nI j) + 1)), (4, .int (n + 0)), (7, .int 0), (6, .int (((nI x3) - (nI x6)) + (nI x11))), (0, .ref 111), (1, .int (nI c)), (2, .int k), (3, .int p)]) (st2 := []) (w3 := w) rfl rfl ?_
          rw [nI_1 j]
          refine sx_RP.step (pc2 := 18) (ls2 := [(5, .int (nI (j + 1))), (4, .int (n + 0)), (7, .int 0), (6, .int (((nI x3) - (nI x6)) + (nI x11))), (0, .ref 111), (1, .int (nI c)), (2, .int k), (3, .int p)]) (st2 := []) (w3 := w) rfl rfl ?_
          exact sx_RP.ls (sx_lr.cons rfl (sx_lr.cons rfl (sx_lr.cons rfl (sx_lr.cons rfl (sx_lr.cons rfl (sx_lr.cons rfl sx_lr.nil)))))) (kk (n + 0) (by omega))
        · replace q22 := Decidable.not_not.mp (of_decide_eq_false q22)
          refine sx_RP.step (pc2 := 90) (ls2 := [(7, .int 0), (6, .int (((nI x3) - (nI x6)) + (nI x11))), (0, .ref 111), (1, .int (nI c)), (2, .int k), (3, .int p), (4, .int n), (5, .int (nI j))]) (st2 := [.int 1, .int n]) (w3 := w) rfl rfl ?_
          refine sx_RP.step (pc2 := 94) (ls2 := [(7, .int 0), (6, .int (((nI x3) - (nI x6)) + (nI x11))), (0, .ref 111), (1, .int (nI c)), (2, .int k), (3, .int p), (4, .int n), (5, .int (nI j))]) (st2 := [.int 1, .int n]) (w3 := w) rfl rfl ?_
          refine sx_RP.step (pc2 := 95) (ls2 := [(7, .int 0), (6, .int (((nI x3) - (nI x6)) + (nI x11))), (0, .ref 111), (1, .int (nI c)), (2, .int k), (3, .int p), (4, .int n), (5, .int (nI j))]) (st2 := [.int (n + 1)]) (w3 := w) rfl rfl ?_
          refine sx_RP.step (pc2 := 97) (ls2 := [(4, .int (n + 1)), (7, .int 0), (6, .int (((nI x3) - (nI x6)) + (nI x11))), (0, .ref 111), (1, .int (nI c)), (2, .int k), (3, .int p), (5, .int (nI j))]) (st2 := []) (w3 := w) rfl rfl ?_
          refine sx_RP.step (pc2 := 100) (ls2 := [(5, .int ((nI j) + 1)), (4, .int (n + 1)), (7, .int 0), (6, .int (((nI x3) - (nI x6)) + (nI x11))), (0, .ref 111), (1, .int (nI c)), (2, .int k), (3, .int p)]) (st2 := []) (w3 := w) rfl rfl ?_
          rw [nI_1 j]
          refine sx_RP.step (pc2 := 18) (ls2 := [(5, .int (nI (j + 1))), (4, .int (n + 1)), (7, .int 0), (6, .int (((nI x3) - (nI x6)) + (nI x11))), (0, .ref 111), (1, .int (nI c)), (2, .int k), (3, .int p)]) (st2 := []) (w3 := w) rfl rfl ?_
          exact sx_RP.ls (sx_lr.cons rfl (sx_lr.cons rfl (sx_lr.cons rfl (sx_lr.cons rfl (sx_lr.cons rfl (sx_lr.cons rfl sx_lr.nil)))))) (kk (n + 1) (by omega))
set_option maxRecDepth 20000 in
set_option maxHeartbeats 4000000 in
theorem K195L {xs : Option (List Int32)} {d : Nat} {w : List sx_C} {wz : List sx_C} {c : Nat} (hc : c < 48) (hw : wOK wz c w) (k p : Int32) (hI : WI w) : ∀ (fz j : Nat) (n : Int32) , 48 ≤ j + fz * 1 → j ≤ 48 → sx_RP xs (d + 6) 195 18 [(0, .ref 111), (1, .int (nI c)), (2, .int k), (3, .int p), (4, .int n), (5, .int (nI j))] [] w (fun r w2 => (∃ v : Int32, r = some (.int v)) ∧ w2 = w)
  | 0, j, n, h, hj => K195B hc hw k p hI hj n  (fun un  hlt  => absurd hlt (by omega)) 
  | fz + 1, j, n, h, hj => K195B hc hw k p hI hj n  (fun un  hlt  => K195L hc hw k p hI  fz (j + 1) un (by omega) hlt ) 
set_option maxRecDepth 20000 in
set_option maxHeartbeats 4000000 in
theorem K195 {xs : Option (List Int32)} {d : Nat} {w : List sx_C} (hI : WI w) {c : Nat} (hc : c < 48) (k : Int32) : sx_RP xs (d + 6) 195 0 (lv_args 0 [.ref 111, .int (nI c), .int k]) [] w (fun r w2 => (∃ v : Int32, r = some (.int v)) ∧ WI w2 ∧ EK w w2) := by
  have hE : EK w w := EK.rf
  refine sx_RP.step (pc2 := 1) (ls2 := [(0, .ref 111), (1, .int (nI c)), (2, .int k)]) (st2 := [.ref 111]) (w3 := w) rfl rfl ?_
  refine sx_RP.step (pc2 := 2) (ls2 := [(0, .ref 111), (1, .int (nI c)), (2, .int k)]) (st2 := [.int (nI c), .ref 111]) (w3 := w) rfl rfl ?_
  refine sx_RP.callp (as2 := [.ref 111, .int (nI c)]) (rest2 := []) rfl rfl (sx_inv_v2 (mi := 195) (k := 177) (st := [.int (nI c), .ref 111]) (w := w) rfl rfl hI.1.o111 rfl rfl rfl) rfl rfl rfl (K189 hI (show c < 48 by omega)) (show _ = 5 from rfl) ?_
  rintro r4 w2 ⟨⟨v1, rfl⟩, hI3, hE5⟩
  have hE4 := hE.tr (hE5)
  show sx_RP _ _ _ _ _ [.int v1] _ _
  refine sx_RP.step (pc2 := 6) (ls2 := [(3, .int v1), (0, .ref 111), (1, .int (nI c)), (2, .int k)]) (st2 := []) (w3 := w2) rfl rfl ?_
  refine sx_RP.step (pc2 := 7) (ls2 := [(3, .int v1), (0, .ref 111), (1, .int (nI c)), (2, .int k)]) (st2 := [.int 0]) (w3 := w2) rfl rfl ?_
  refine sx_RP.step (pc2 := 9) (ls2 := [(4, .int 0), (3, .int v1), (0, .ref 111), (1, .int (nI c)), (2, .int k)]) (st2 := []) (w3 := w2) rfl rfl ?_
  refine sx_RP.step (pc2 := 10) (ls2 := [(4, .int 0), (3, .int v1), (0, .ref 111), (1, .int (nI c)), (2, .int k)]) (st2 := [.ref 111]) (w3 := w2) rfl rfl ?_
  refine sx_RP.step (pc2 := 11) (ls2 := [(4, .int 0), (3, .int v1), (0, .ref 111), (1, .int (nI c)), (2, .int k)]) (st2 := [.int (nI c), .ref 111]) (w3 := w2) rfl rfl ?_
  refine sx_RP.step (pc2 := 12) (ls2 := [(4, .int 0), (3, .int v1), (0, .ref 111), (1, .int (nI c)), (2, .int k)]) (st2 := [.int (-1), .int (nI c), .ref 111]) (w3 := w2) rfl rfl ?_
  refine sx_RP.callp (as2 := [.ref 111, .int (nI c), .int (-1)]) (rest2 := []) rfl rfl (sx_inv_v2 (mi := 195) (k := 94) (st := [.int (-1), .int (nI c), .ref 111]) (w := w2) rfl rfl hI3.1.o111 rfl rfl rfl) rfl rfl rfl (K141t hI3 (show c < 48 by omega)) (show _ = 15 from rfl) ?_
  rintro r4 w7 ⟨⟨rfl, hw6⟩, hI8, hE10⟩
  have hE9 := hE4.tr (hE10)
  show sx_RP _ _ _ _ _ [] _ _
  refine sx_RP.step (pc2 := 16) (ls2 := [(4, .int 0), (3, .int v1), (0, .ref 111), (1, .int (nI c)), (2, .int k)]) (st2 := [.int 0]) (w3 := w7) rfl rfl ?_
  refine sx_RP.step (pc2 := 18) (ls2 := [(5, .int 0), (4, .int 0), (3, .int v1), (0, .ref 111), (1, .int (nI c)), (2, .int k)]) (st2 := []) (w3 := w7) rfl rfl ?_
  exact sx_RP.ls (sx_lr.cons rfl (sx_lr.cons rfl (sx_lr.cons rfl (sx_lr.cons rfl (sx_lr.cons rfl (sx_lr.cons rfl sx_lr.nil)))))) ((K195L (show c < 48 by omega) hw6 k v1 hI8 48 0 0 (by omega) (by omega)).mono9 (fun r w2 h => ⟨h.1, by rw [h.2]; exact hI8, by rw [h.2]; exact hE9⟩))
set_option maxRecDepth 20000 in
set_option maxHeartbeats 4000000 in
theorem K194B {xs : Option (List Int32)} {d : Nat} {w w0 : List sx_C} (k : Int32) (hI : WI w) (hE : EK w0 w) {j : Nat} (hj : j ≤ 48) (m : Int32) (l : Int32) (kk : ∀ (w4 : List sx_C) (um : Int32) (ul : Int32), WI w4 → EK w0 w4 → j + 1 ≤ 48 → sx_RP xs (d + 7) 194 65 [(0, .ref 111), (1, .int k), (2, .int um), (3, .int ul), (4, .int (nI (j + 1)))] [] w4 (fun r w2 => (∃ v : Int32, r = some (.int v)) ∧ WI w2 ∧ EK w0 w2)) : sx_RP xs (d + 7) 194 65 [(0, .ref 111), (1, .int k), (2, .int m), (3, .int l), (4, .int (nI j))] [] w (fun r w2 => (∃ v : Int32, r = some (.int v)) ∧ WI w2 ∧ EK w0 w2) := by
  refine sx_RP.step (pc2 := 67) (ls2 := [(0, .ref 111), (1, .int k), (2, .int m), (3, .int l), (4, .int (nI j))]) (st2 := [.int (nI j)]) (w3 := w) rfl rfl ?_
  refine sx_RP.step (pc2 := 69) (ls2 := [(0, .ref 111), (1, .int k), (2, .int m), (3, .int l), (4, .int (nI j))]) (st2 := [.int 48, .int (nI j)]) (w3 := w) rfl rfl ?_
  refine sx_RP.br (p1 := 113) (l1 := [(0, .ref 111), (1, .int k), (2, .int m), (3, .int l), (4, .int (nI j))]) (s1 := []) (v1 := w) (p2 := 72) (l2 := [(0, .ref 111), (1, .int k), (2, .int m), (3, .int l), (4, .int (nI j))]) (s2 := []) (v2 := w) rfl rfl (fun q1 => ?_) (fun q1 => ?_)
  · replace q1 := of_decide_eq_true q1
    replace q1 := (nI_leI (a := 48) (b := j) (by omega) (by omega)).mp q1
    refine sx_RP.step (pc2 := 114) (ls2 := [(0, .ref 111), (1, .int k), (2, .int m), (3, .int l), (4, .int (nI j))]) (st2 := [.int m]) (w3 := w) rfl rfl ?_
    refine sx_RP.ret (r := (some (.int m))) rfl rfl ?_
    exact ⟨⟨_, rfl⟩, hI, hE⟩
  · replace q1 := of_decide_eq_false q1
    replace q1 := mt (nI_leI (a := 48) (b := j) (by omega) (by omega)).mpr q1
    refine sx_RP.step (pc2 := 73) (ls2 := [(0, .ref 111), (1, .int k), (2, .int m), (3, .int l), (4, .int (nI j))]) (st2 := [.ref 111]) (w3 := w) rfl rfl ?_
    refine sx_RP.step (pc2 := 75) (ls2 := [(0, .ref 111), (1, .int k), (2, .int m), (3, .int l), (4, .int (nI j))]) (st2 := [.int (nI j), .ref 111]) (w3 := w) rfl rfl ?_
    refine sx_RP.step (pc2 := 76) (ls2 := [(0, .ref 111), (1, .int k), (2, .int m), (3, .int l), (4, .int (nI j))]) (st2 := [.int k, .int (nI j), .ref 111]) (w3 := w) rfl rfl ?_
    refine sx_RP.callp (as2 := [.ref 111, .int (nI j), .int k]) (rest2 := []) rfl rfl (sx_inv_v2 (mi := 194) (k := 186) (st := [.int k, .int (nI j), .ref 111]) (w := w) rfl rfl hI.1.o111 rfl rfl rfl) rfl rfl rfl (K195 hI (show j < 48 by omega) k) (show _ = 79 from rfl) ?_
    rintro r4 w3 ⟨⟨v2, rfl⟩, hI4, hE6⟩
    have hE5 := hE.tr (hE6)
    show sx_RP _ _ _ _ _ [.int v2] _ _
    refine sx_RP.step (pc2 := 81) (ls2 := [(5, .int v2), (0, .ref 111), (1, .int k), (2, .int m), (3, .int l), (4, .int (nI j))]) (st2 := []) (w3 := w3) rfl rfl ?_
    refine sx_RP.step (pc2 := 83) (ls2 := [(5, .int v2), (0, .ref 111), (1, .int k), (2, .int m), (3, .int l), (4, .int (nI j))]) (st2 := [.int v2]) (w3 := w3) rfl rfl ?_
    refine sx_RP.step (pc2 := 84) (ls2 := [(5, .int v2), (0, .ref 111), (1, .int k), (2, .int m), (3, .int l), (4, .int (nI j))]) (st2 := [.int l, .int v2]) (w3 := w3) rfl rfl ?_
    refine sx_RP.br (p1 := 92) (l1 := [(5, .int v2), (0, .ref 111), (1, .int k), (2, .int m), (3, .int l), (4, .int (nI j))]) (s1 := []) (v1 := w3) (p2 := 87) (l2 := [(5, .int v2), (0, .ref 111), (1, .int k), (2, .int m), (3, .int l), (4, .int (nI j))]) (s2 := []) (v2 := w3) rfl rfl (fun q7 => ?_) (fun q7 => ?_)
    · replace q7 := of_decide_eq_true q7
      refine sx_RP.step (pc2 := 93) (ls2 := [(5, .int v2), (0, .ref 111), (1, .int k), (2, .int m), (3, .int l), (4, .int (nI j))]) (st2 := [.int m]) (w3 := w3) rfl rfl ?_
      refine sx_RP.step (pc2 := 94) (ls2 := [(2, .int m), (5, .int v2), (0, .ref 111), (1, .int k), (3, .int l), (4, .int (nI j))]) (st2 := []) (w3 := w3) rfl rfl ?_
      refine sx_RP.step (pc2 := 96) (ls2 := [(2, .int m), (5, .int v2), (0, .ref 111), (1, .int k), (3, .int l), (4, .int (nI j))]) (st2 := [.int v2]) (w3 := w3) rfl rfl ?_
      refine sx_RP.step (pc2 := 97) (ls2 := [(2, .int m), (5, .int v2), (0, .ref 111), (1, .int k), (3, .int l), (4, .int (nI j))]) (st2 := [.int l, .int v2]) (w3 := w3) rfl rfl ?_
      refine sx_RP.br (p1 := 105) (l1 := [(2, .int m), (5, .int v2), (0, .ref 111), (1, .int k), (3, .int l), (4, .int (nI j))]) (s1 := []) (v1 := w3) (p2 := 100) (l2 := [(2, .int m), (5, .int v2), (0, .ref 111), (1, .int k), (3, .int l), (4, .int (nI j))]) (s2 := []) (v2 := w3) rfl rfl (fun q8 => ?_) (fun q8 => ?_)
      · replace q8 := of_decide_eq_true q8
        refine sx_RP.step (pc2 := 106) (ls2 := [(2, .int m), (5, .int v2), (0, .ref 111), (1, .int k), (3, .int l), (4, .int (nI j))]) (st2 := [.int l]) (w3 := w3) rfl rfl ?_
        refine sx_RP.step (pc2 := 107) (ls2 := [(3, .int l), (2, .int m), (5, .int v2), (0, .ref 111), (1, .int k), (4, .int (nI j))]) (st2 := []) (w3 := w3) rfl rfl ?_
        refine sx_RP.step (pc2 := 110) (ls2 := [(4, .int ((nI j) + 1)), (3, .int l), (2, .int m), (5, .int v2), (0, .ref 111), (1, .int k)]) (st2 := []) (w3 := w3) rfl rfl ?_
        rw [nI_1 j]
        refine sx_RP.step (pc2 := 65) (ls2 := [(4, .int (nI (j + 1))), (3, .int l), (2, .int m), (5, .int v2), (0, .ref 111), (1, .int k)]) (st2 := []) (w3 := w3) rfl rfl ?_
        exact sx_RP.ls (sx_lr.cons rfl (sx_lr.cons rfl (sx_lr.cons rfl (sx_lr.cons rfl (sx_lr.cons rfl sx_lr.nil))))) (kk w3 m l hI4 hE5 (by omega))
      · replace q8 := of_decide_eq_false q8
        refine sx_RP.step (pc2 := 102) (ls2 := [(2, .int m), (5, .int v2), (0, .ref 111), (1, .int k), (3, .int l), (4, .int (nI j))]) (st2 := [.int v2]) (w3 := w3) rfl rfl ?_
        refine sx_RP.step (pc2 := 106) (ls2 := [(2, .int m), (5, .int v2), (0, .ref 111), (1, .int k), (3, .int l), (4, .int (nI j))]) (st2 := [.int v2]) (w3 := w3) rfl rfl ?_
        refine sx_RP.step (pc2 := 107) (ls2 := [(3, .int v2), (2, .int m), (5, .int v2), (0, .ref 111), (1, .int k), (4, .int (nI j))]) (st2 := []) (w3 := w3) rfl rfl ?_
        refine sx_RP.step (pc2 := 110) (ls2 := [(4, .int ((nI j) + 1)), (3, .int v2), (2, .int m), (5, .int v2), (0, .ref 111), (1, .int k)]) (st2 := []) (w3 := w3) rfl rfl ?_
        rw [nI_1 j]
        refine sx_RP.step (pc2 := 65) (ls2 := [(4, .int (nI (j + 1))), (3, .int v2), (2, .int m), (5, .int v2), (0, .ref 111), (1, .int k)]) (st2 := []) (w3 := w3) rfl rfl ?_
        exact sx_RP.ls (sx_lr.cons rfl (sx_lr.cons rfl (sx_lr.cons rfl (sx_lr.cons rfl (sx_lr.cons rfl sx_lr.nil))))) (kk w3 m v2 hI4 hE5 (by omega))
    · replace q7 := of_decide_eq_false q7
      refine sx_RP.step (pc2 := 89) (ls2 := [(5, .int v2), (0, .ref 111), (1, .int k), (2, .int m), (3, .int l), (4, .int (nI j))]) (st2 := [.int (nI j)]) (w3 := w3) rfl rfl ?_
      refine sx_RP.step (pc2 := 93) (ls2 := [(5, .int v2), (0, .ref 111), (1, .int k), (2, .int m), (3, .int l), (4, .int (nI j))]) (st2 := [.int (nI j)]) (w3 := w3) rfl rfl ?_
      refine sx_RP.step (pc2 := 94) (ls2 := [(2, .int (nI j)), (5, .int v2), (0, .ref 111), (1, .int k), (3, .int l), (4, .int (nI j))]) (st2 := []) (w3 := w3) rfl rfl ?_
      refine sx_RP.step (pc2 := 96) (ls2 := [(2, .int (nI j)), (5, .int v2), (0, .ref 111), (1, .int k), (3, .int l), (4, .int (nI j))]) (st2 := [.int v2]) (w3 := w3) rfl rfl ?_
      refine sx_RP.step (pc2 := 97) (ls2 := [(2, .int (nI j)), (5, .int v2), (0, .ref 111), (1, .int k), (3, .int l), (4, .int (nI j))]) (st2 := [.int l, .int v2]) (w3 := w3) rfl rfl ?_
      refine sx_RP.br (p1 := 105) (l1 := [(2, .int (nI j)), (5, .int v2), (0, .ref 111), (1, .int k), (3, .int l), (4, .int (nI j))]) (s1 := []) (v1 := w3) (p2 := 100) (l2 := [(2, .int (nI j)), (5, .int v2), (0, .ref 111), (1, .int k), (3, .int l), (4, .int (nI j))]) (s2 := []) (v2 := w3) rfl rfl (fun q9 => ?_) (fun q9 => ?_)
      · replace q9 := of_decide_eq_true q9
        refine sx_RP.step (pc2 := 106) (ls2 := [(2, .int (nI j)), (5, .int v2), (0, .ref 111), (1, .int k), (3, .int l), (4, .int (nI j))]) (st2 := [.int l]) (w3 := w3) rfl rfl ?_
        refine sx_RP.step (pc2 := 107) (ls2 := [(3, .int l), (2, .int (nI j)), (5, .int v2), (0, .ref 111), (1, .int k), (4, .int (nI j))]) (st2 := []) (w3 := w3) rfl rfl ?_
        refine sx_RP.step (pc2 := 110) (ls2 := [(4, .int ((nI j) + 1)), (3, .int l), (2, .int (nI j)), (5, .int v2), (0, .ref 111), (1, .int k)]) (st2 := []) (w3 := w3) rfl rfl ?_
        rw [nI_1 j]
        refine sx_RP.step (pc2 := 65) (ls2 := [(4, .int (nI (j + 1))), (3, .int l), (2, .int (nI j)), (5, .int v2), (0, .ref 111), (1, .int k)]) (st2 := []) (w3 := w3) rfl rfl ?_
        exact sx_RP.ls (sx_lr.cons rfl (sx_lr.cons rfl (sx_lr.cons rfl (sx_lr.cons rfl (sx_lr.cons rfl sx_lr.nil))))) (kk w3 (nI j) l hI4 hE5 (by omega))
      · replace q9 := of_decide_eq_false q9
        refine sx_RP.step (pc2 := 102) (ls2 := [(2, .int (nI j)), (5, .int v2), (0, .ref 111), (1, .int k), (3, .int l), (4, .int (nI j))]) (st2 := [.int v2]) (w3 := w3) rfl rfl ?_
        refine sx_RP.step (pc2 := 106) (ls2 := [(2, .int (nI j)), (5, .int v2), (0, .ref 111), (1, .int k), (3, .int l), (4, .int (nI j))]) (st2 := [.int v2]) (w3 := w3) rfl rfl ?_
        refine sx_RP.step (pc2 := 107) (ls2 := [(3, .int v2), (2, .int (nI j)), (5, .int v2), (0, .ref 111), (1, .int k), (4, .int (nI j))]) (st2 := []) (w3 := w3) rfl rfl ?_
        refine sx_RP.step (pc2 := 110) (ls2 := [(4, .int ((nI j) + 1)), (3, .int v2), (2, .int (nI j)), (5, .int v2), (0, .ref 111), (1, .int k)]) (st2 := []) (w3 := w3) rfl rfl ?_
        rw [nI_1 j]
        refine sx_RP.step (pc2 := 65) (ls2 := [(4, .int (nI (j + 1))), (3, .int v2), (2, .int (nI j)), (5, .int v2), (0, .ref 111), (1, .int k)]) (st2 := []) (w3 := w3) rfl rfl ?_
        exact sx_RP.ls (sx_lr.cons rfl (sx_lr.cons rfl (sx_lr.cons rfl (sx_lr.cons rfl (sx_lr.cons rfl sx_lr.nil))))) (kk w3 (nI j) v2 hI4 hE5 (by omega))
set_option maxRecDepth 20000 in
set_option maxHeartbeats 4000000 in
theorem K194L {xs : Option (List Int32)} {d : Nat} {w0 : List sx_C} (k : Int32) : ∀ (fz j : Nat) (w : List sx_C) (m : Int32) (l : Int32) , 48 ≤ j + fz * 1 → j ≤ 48 → WI w → EK w0 w → sx_RP xs (d + 7) 194 65 [(0, .ref 111), (1, .int k), (2, .int m), (3, .int l), (4, .int (nI j))] [] w (fun r w2 => (∃ v : Int32, r = some (.int v)) ∧ WI w2 ∧ EK w0 w2)
  | 0, j, w, m, l, h, hj, hI, hE => K194B k hI hE hj m l  (fun w4 um ul hI4 hE4 hlt  => absurd hlt (by omega)) 
  | fz + 1, j, w, m, l, h, hj, hI, hE => K194B k hI hE hj m l  (fun w4 um ul hI4 hE4 hlt  => K194L k  fz (j + 1) w4 um ul (by omega) hlt hI4 hE4 ) 
set_option maxRecDepth 20000 in
set_option maxHeartbeats 4000000 in
theorem K194 {xs : Option (List Int32)} {d : Nat} {w : List sx_C} (hI : WI w) (a1 : Int32) : sx_RP xs (d + 7) 194 0 (lv_args 0 [.ref 111, .int a1]) [] w (fun r w2 => (∃ v : Int32, r = some (.int v)) ∧ WI w2 ∧ EK w w2) := by
  have hE : EK w w := EK.rf
  refine sx_RP.step (pc2 := 1) (ls2 := [(0, .ref 111), (1, .int a1)]) (st2 := [.int a1]) (w3 := w) rfl rfl ?_
  rcases in_cases a1 0 5 (m := 0) (n := 5) rfl rfl (by decide) (by decide) with q1 | ⟨x2, hx3, hx4, rfl⟩
  · refine sx_RP.cu (as := [.int a1]) (rest2 := []) (st3 := [.int 0]) rfl rfl rfl rfl rfl (cx_151n q1) rfl ?_
    refine sx_RP.step (pc2 := 7) (ls2 := [(0, .ref 111), (1, .int a1)]) (st2 := []) (w3 := w) rfl rfl ?_
    refine sx_RP.step (pc2 := 8) (ls2 := [(0, .ref 111), (1, .int a1)]) (st2 := [.ref 111]) (w3 := w) rfl rfl ?_
    refine sx_RP.step (pc2 := 9) (ls2 := [(0, .ref 111), (1, .int a1)]) (st2 := [.int 0, .ref 111]) (w3 := w) rfl rfl ?_
    refine sx_RP.callp (as2 := [.ref 111, .int 0]) (rest2 := []) rfl rfl (sx_inv_v2 (mi := 194) (k := 70) (st := [.int 0, .ref 111]) (w := w) rfl rfl hI.1.o111 rfl rfl rfl) rfl rfl rfl (K133_0 hI) (show _ = 12 from rfl) ?_
    rintro r4 w6 ⟨rfl, hI7, hE9⟩
    have hE8 := hE.tr (hE9)
    show sx_RP _ _ _ _ _ [.int (-1000000001)] _ _
    refine sx_RP.ret (r := (some (.int (-1000000001)))) rfl rfl ?_
    exact ⟨⟨_, rfl⟩, hI7, hE8⟩
  · refine sx_RP.cu (as := [.int (nI x2)]) (rest2 := []) (st3 := [.int 1]) rfl rfl rfl rfl rfl (cx_151p ⟨nI_le (a := 0) hx3 (by omega), nI_le (b := 5) hx4 (by decide)⟩) rfl ?_
    refine sx_RP.step (pc2 := 13) (ls2 := [(0, .ref 111), (1, .int (nI x2))]) (st2 := []) (w3 := w) rfl rfl ?_
    refine sx_RP.step (pc2 := 14) (ls2 := [(0, .ref 111), (1, .int (nI x2))]) (st2 := [.ref 111]) (w3 := w) rfl rfl ?_
    refine sx_RP.gf (v := .ref 112) rfl rfl hI.1.o111 rfl rfl (show _ = 17 from rfl) ?_
    refine sx_RP.step (pc2 := 18) (ls2 := [(0, .ref 111), (1, .int (nI x2))]) (st2 := [.int 2, .ref 112]) (w3 := w) rfl rfl ?_
    refine sx_RP.ild (c := 2) rfl hI.1.a112.1 hI.1.a112.2 (sx_in_nI (show 2 < 172 by omega) (by decide)) (show (nI 2).toNatClampNeg = 2 from nI_clamp (by omega)) (show _ = 19 from rfl) ?_
    obtain ⟨x10, hx11, ex12⟩ : inR ((ia w 112).getD 2 0) 9 := (hI.s (2) (by omega)).2.1 rfl
    rw [ex12]
    refine sx_RP.br (p1 := 30) (l1 := [(0, .ref 111), (1, .int (nI x2))]) (s1 := []) (v1 := w) (p2 := 22) (l2 := [(0, .ref 111), (1, .int (nI x2))]) (s2 := []) (v2 := w) rfl rfl (fun q13 => ?_) (fun q13 => ?_)
    · replace q13 := of_decide_eq_true q13
      replace q13 := (nI_eq (a := x10) (b := 0) (by omega) (by omega)).mp q13
      refine sx_RP.step (pc2 := 31) (ls2 := [(0, .ref 111), (1, .int (nI x2))]) (st2 := [.ref 111]) (w3 := w) rfl rfl ?_
      refine sx_RP.step (pc2 := 32) (ls2 := [(0, .ref 111), (1, .int (nI x2))]) (st2 := [.int 3, .ref 111]) (w3 := w) rfl rfl ?_
      refine sx_RP.callp (as2 := [.ref 111, .int 3]) (rest2 := []) rfl rfl (sx_inv_v2 (mi := 194) (k := 70) (st := [.int 3, .ref 111]) (w := w) rfl rfl hI.1.o111 rfl rfl rfl) rfl rfl rfl (K133_3 hI) (show _ = 35 from rfl) ?_
      rintro r4 w14 ⟨rfl, hI15, hE17⟩
      have hE16 := hE.tr (hE17)
      show sx_RP _ _ _ _ _ [.int (-1000000004)] _ _
      refine sx_RP.ret (r := (some (.int (-1000000004)))) rfl rfl ?_
      exact ⟨⟨_, rfl⟩, hI15, hE16⟩
    · replace q13 := of_decide_eq_false q13
      replace q13 := mt (nI_eq (a := x10) (b := 0) (by omega) (by omega)).mpr q13
      refine sx_RP.step (pc2 := 23) (ls2 := [(0, .ref 111), (1, .int (nI x2))]) (st2 := [.ref 111]) (w3 := w) rfl rfl ?_
      refine sx_RP.step (pc2 := 24) (ls2 := [(0, .ref 111), (1, .int (nI x2))]) (st2 := [.int (nI x2), .ref 111]) (w3 := w) rfl rfl ?_
      refine sx_RP.callp (as2 := [.ref 111, .int (nI x2)]) (rest2 := []) rfl rfl (sx_inv_v2 (mi := 194) (k := 183) (st := [.int (nI x2), .ref 111]) (w := w) rfl rfl hI.1.o111 rfl rfl rfl) rfl rfl rfl (K193 hI (nI x2)) (show _ = 27 from rfl) ?_
      rintro r4 w19 ⟨⟨v18, rfl⟩, hI20, hE22⟩
      have hE21 := hE.tr (hE22)
      show sx_RP _ _ _ _ _ [.int v18] _ _
      refine sx_RP.br (p1 := 36) (l1 := [(0, .ref 111), (1, .int (nI x2))]) (s1 := []) (v1 := w19) (p2 := 30) (l2 := [(0, .ref 111), (1, .int (nI x2))]) (s2 := []) (v2 := w19) rfl rfl (fun q23 => ?_) (fun q23 => ?_)
      · replace q23 := of_decide_eq_true q23
        refine sx_RP.step (pc2 := 37) (ls2 := [(0, .ref 111), (1, .int (nI x2))]) (st2 := [.ref 111]) (w3 := w19) rfl rfl ?_
        refine sx_RP.gf (v := .ref 112) rfl rfl hI20.1.o111 rfl rfl (show _ = 40 from rfl) ?_
        refine sx_RP.step (pc2 := 41) (ls2 := [(0, .ref 111), (1, .int (nI x2))]) (st2 := [.int 2, .ref 112]) (w3 := w19) rfl rfl ?_
        refine sx_RP.ild (c := 2) rfl hI20.1.a112.1 hI20.1.a112.2 (sx_in_nI (show 2 < 172 by omega) (by decide)) (show (nI 2).toNatClampNeg = 2 from nI_clamp (by omega)) (show _ = 42 from rfl) ?_
        obtain ⟨x24, hx25, ex26⟩ : inR ((ia w19 112).getD 2 0) 9 := (hI20.s (2) (by omega)).2.1 rfl
        rw [ex26]
        refine sx_RP.step (pc2 := 44) (ls2 := [(0, .ref 111), (1, .int (nI x2))]) (st2 := [.int 9, .int (nI x24)]) (w3 := w19) rfl rfl ?_
        refine sx_RP.br (p1 := 53) (l1 := [(0, .ref 111), (1, .int (nI x2))]) (s1 := []) (v1 := w19) (p2 := 47) (l2 := [(0, .ref 111), (1, .int (nI x2))]) (s2 := []) (v2 := w19) rfl rfl (fun q27 => ?_) (fun q27 => ?_)
        · replace q27 := of_decide_eq_true q27
          replace q27 := mt (nI_eq (a := x24) (b := 9) (by omega) (by omega)).mpr q27
          refine sx_RP.step (pc2 := 54) (ls2 := [(0, .ref 111), (1, .int (nI x2))]) (st2 := [.int 0]) (w3 := w19) rfl rfl ?_
          refine sx_RP.step (pc2 := 55) (ls2 := [(2, .int 0), (0, .ref 111), (1, .int (nI x2))]) (st2 := []) (w3 := w19) rfl rfl ?_
          refine sx_RP.step (pc2 := 56) (ls2 := [(2, .int 0), (0, .ref 111), (1, .int (nI x2))]) (st2 := [.ref 111]) (w3 := w19) rfl rfl ?_
          refine sx_RP.step (pc2 := 57) (ls2 := [(2, .int 0), (0, .ref 111), (1, .int (nI x2))]) (st2 := [.int 0, .ref 111]) (w3 := w19) rfl rfl ?_
          refine sx_RP.step (pc2 := 58) (ls2 := [(2, .int 0), (0, .ref 111), (1, .int (nI x2))]) (st2 := [.int (nI x2), .int 0, .ref 111]) (w3 := w19) rfl rfl ?_
          refine sx_RP.callp (as2 := [.ref 111, .int 0, .int (nI x2)]) (rest2 := []) rfl rfl (sx_inv_v2 (mi := 194) (k := 186) (st := [.int (nI x2), .int 0, .ref 111]) (w := w19) rfl rfl hI20.1.o111 rfl rfl rfl) rfl rfl rfl (K195 hI20 (show 0 < 48 by omega) (nI x2)) (show _ = 61 from rfl) ?_
          rintro r4 w29 ⟨⟨v28, rfl⟩, hI30, hE32⟩
          have hE31 := hE21.tr (hE32)
          show sx_RP _ _ _ _ _ [.int v28] _ _
          refine sx_RP.step (pc2 := 62) (ls2 := [(3, .int v28), (2, .int 0), (0, .ref 111), (1, .int (nI x2))]) (st2 := []) (w3 := w29) rfl rfl ?_
          refine sx_RP.step (pc2 := 63) (ls2 := [(3, .int v28), (2, .int 0), (0, .ref 111), (1, .int (nI x2))]) (st2 := [.int 1]) (w3 := w29) rfl rfl ?_
          refine sx_RP.step (pc2 := 65) (ls2 := [(4, .int 1), (3, .int v28), (2, .int 0), (0, .ref 111), (1, .int (nI x2))]) (st2 := []) (w3 := w29) rfl rfl ?_
          exact sx_RP.ls (sx_lr.cons rfl (sx_lr.cons rfl (sx_lr.cons rfl (sx_lr.cons rfl (sx_lr.cons rfl sx_lr.nil))))) (K194L (nI x2) 48 1 w29 0 v28 (by omega) (by omega) hI30 hE31 )
        · replace q27 := Decidable.not_not.mp (of_decide_eq_false q27)
          replace q27 := (nI_eq (a := x24) (b := 9) (by omega) (by omega)).mp q27
          refine sx_RP.step (pc2 := 48) (ls2 := [(0, .ref 111), (1, .int (nI x2))]) (st2 := [.ref 111]) (w3 := w19) rfl rfl ?_
          refine sx_RP.step (pc2 := 49) (ls2 := [(0, .ref 111), (1, .int (nI x2))]) (st2 := [.int 1, .ref 111]) (w3 := w19) rfl rfl ?_
          refine sx_RP.callp (as2 := [.ref 111, .int 1]) (rest2 := []) rfl rfl (sx_inv_v2 (mi := 194) (k := 70) (st := [.int 1, .ref 111]) (w := w19) rfl rfl hI20.1.o111 rfl rfl rfl) rfl rfl rfl (K133_1 hI20) (show _ = 52 from rfl) ?_
          rintro r4 w33 ⟨rfl, hI34, hE36⟩
          have hE35 := hE21.tr (hE36)
          show sx_RP _ _ _ _ _ [.int (-1000000002)] _ _
          refine sx_RP.ret (r := (some (.int (-1000000002)))) rfl rfl ?_
          exact ⟨⟨_, rfl⟩, hI34, hE35⟩
      · replace q23 := Decidable.not_not.mp (of_decide_eq_false q23)
        refine sx_RP.step (pc2 := 31) (ls2 := [(0, .ref 111), (1, .int (nI x2))]) (st2 := [.ref 111]) (w3 := w19) rfl rfl ?_
        refine sx_RP.step (pc2 := 32) (ls2 := [(0, .ref 111), (1, .int (nI x2))]) (st2 := [.int 3, .ref 111]) (w3 := w19) rfl rfl ?_
        refine sx_RP.callp (as2 := [.ref 111, .int 3]) (rest2 := []) rfl rfl (sx_inv_v2 (mi := 194) (k := 70) (st := [.int 3, .ref 111]) (w := w19) rfl rfl hI20.1.o111 rfl rfl rfl) rfl rfl rfl (K133_3 hI20) (show _ = 35 from rfl) ?_
        rintro r4 w37 ⟨rfl, hI38, hE40⟩
        have hE39 := hE21.tr (hE40)
        show sx_RP _ _ _ _ _ [.int (-1000000004)] _ _
        refine sx_RP.ret (r := (some (.int (-1000000004)))) rfl rfl ?_
        exact ⟨⟨_, rfl⟩, hI38, hE39⟩
set_option maxRecDepth 20000 in
set_option maxHeartbeats 4000000 in
theorem K236B {xs : Option (List Int32)} {d : Nat} {w w0 : List sx_C} {k : Nat} (hk : k < 4) (hI : WI w) (hE : EK w0 w) {j : Nat} (hj : j ≤ 9) (kk : ∀ (w4 : List sx_C), WI w4 → EK w0 w4 → j + 1 ≤ 9 → sx_RP xs (d + 7) 236 30 [(0, .ref 111), (1, .int (nI k)), (2, .int (nI (j + 1)))] [] w4 (fun r w2 => (∃ v : Int32, r = some (.int v)) ∧ WI w2 ∧ EK w0 w2)) : sx_RP xs (d + 7) 236 30 [(0, .ref 111), (1, .int (nI k)), (2, .int (nI j))] [] w (fun r w2 => (∃ v : Int32, r = some (.int v)) ∧ WI w2 ∧ EK w0 w2) := by
  refine sx_RP.step (pc2 := 31) (ls2 := [(0, .ref 111), (1, .int (nI k)), (2, .int (nI j))]) (st2 := [.int (nI j)]) (w3 := w) rfl rfl ?_
  refine sx_RP.step (pc2 := 32) (ls2 := [(0, .ref 111), (1, .int (nI k)), (2, .int (nI j))]) (st2 := [.ref 111, .int (nI j)]) (w3 := w) rfl rfl ?_
  refine sx_RP.step (pc2 := 33) (ls2 := [(0, .ref 111), (1, .int (nI k)), (2, .int (nI j))]) (st2 := [.int (nI k), .ref 111, .int (nI j)]) (w3 := w) rfl rfl ?_
  obtain ⟨x1, hx2, c3⟩ := p237 hI (show k < 4 by omega)
  refine sx_RP.cu (as := [.ref 111, .int (nI k)]) (rest2 := [.int (nI j)]) (st3 := [.int (nI x1), .int (nI j)]) rfl rfl (sx_inv_v2 (mi := 236) (k := 345) (st := [.int (nI k), .ref 111, .int (nI j)]) (w := w) rfl rfl hI.1.o111 rfl rfl rfl) rfl rfl (c3) rfl ?_
  refine sx_RP.br (p1 := 57) (l1 := [(0, .ref 111), (1, .int (nI k)), (2, .int (nI j))]) (s1 := []) (v1 := w) (p2 := 39) (l2 := [(0, .ref 111), (1, .int (nI k)), (2, .int (nI j))]) (s2 := []) (v2 := w) rfl rfl (fun q4 => ?_) (fun q4 => ?_)
  · replace q4 := of_decide_eq_true q4
    replace q4 := (nI_leI (a := x1) (b := j) (by omega) (by omega)).mp q4
    refine sx_RP.step (pc2 := 58) (ls2 := [(0, .ref 111), (1, .int (nI k)), (2, .int (nI j))]) (st2 := [.ref 111]) (w3 := w) rfl rfl ?_
    refine sx_RP.step (pc2 := 59) (ls2 := [(0, .ref 111), (1, .int (nI k)), (2, .int (nI j))]) (st2 := [.int (nI k), .ref 111]) (w3 := w) rfl rfl ?_
    obtain ⟨x5, hx6, c7⟩ := p237 hI (show k < 4 by omega)
    refine sx_RP.cu (as := [.ref 111, .int (nI k)]) (rest2 := []) (st3 := [.int (nI x5)]) rfl rfl (sx_inv_v2 (mi := 236) (k := 345) (st := [.int (nI k), .ref 111]) (w := w) rfl rfl hI.1.o111 rfl rfl rfl) rfl rfl (c7) rfl ?_
    refine sx_RP.ret (r := (some (.int (nI x5)))) rfl rfl ?_
    exact ⟨⟨_, rfl⟩, hI, hE⟩
  · replace q4 := of_decide_eq_false q4
    replace q4 := mt (nI_leI (a := x1) (b := j) (by omega) (by omega)).mpr q4
    refine sx_RP.step (pc2 := 40) (ls2 := [(0, .ref 111), (1, .int (nI k)), (2, .int (nI j))]) (st2 := [.ref 111]) (w3 := w) rfl rfl ?_
    refine sx_RP.step (pc2 := 41) (ls2 := [(0, .ref 111), (1, .int (nI k)), (2, .int (nI j))]) (st2 := [.int (nI k), .ref 111]) (w3 := w) rfl rfl ?_
    refine sx_RP.step (pc2 := 42) (ls2 := [(0, .ref 111), (1, .int (nI k)), (2, .int (nI j))]) (st2 := [.int (nI j), .int (nI k), .ref 111]) (w3 := w) rfl rfl ?_
    refine sx_RP.step (pc2 := 43) (ls2 := [(0, .ref 111), (1, .int (nI k)), (2, .int (nI j))]) (st2 := [.ref 111, .int (nI j), .int (nI k), .ref 111]) (w3 := w) rfl rfl ?_
    refine sx_RP.step (pc2 := 44) (ls2 := [(0, .ref 111), (1, .int (nI k)), (2, .int (nI j))]) (st2 := [.int (nI j), .ref 111, .int (nI j), .int (nI k), .ref 111]) (w3 := w) rfl rfl ?_
    refine sx_RP.callp (as2 := [.ref 111, .int (nI j)]) (rest2 := [.int (nI j), .int (nI k), .ref 111]) rfl rfl (sx_inv_v2 (mi := 236) (k := 180) (st := [.int (nI j), .ref 111, .int (nI j), .int (nI k), .ref 111]) (w := w) rfl rfl hI.1.o111 rfl rfl rfl) rfl rfl rfl (K188 hI (show j < 9 by omega)) (show _ = 47 from rfl) ?_
    rintro r4 w9 ⟨⟨v8, rfl⟩, hI10, hE12⟩
    have hE11 := hE.tr (hE12)
    show sx_RP _ _ _ _ _ [.int v8, .int (nI j), .int (nI k), .ref 111] _ _
    refine sx_RP.step (pc2 := 48) (ls2 := [(0, .ref 111), (1, .int (nI k)), (2, .int (nI j))]) (st2 := [.long v8.toInt64, .int (nI j), .int (nI k), .ref 111]) (w3 := w9) rfl rfl ?_
    refine sx_RP.callp (as2 := [.ref 111, .int (nI k), .int (nI j), .long v8.toInt64]) (rest2 := []) rfl rfl (sx_inv_v2 (mi := 236) (k := 339) (st := [.long v8.toInt64, .int (nI j), .int (nI k), .ref 111]) (w := w9) rfl rfl hI10.1.o111 rfl rfl rfl) rfl rfl rfl (K233 hI10 (show k < 4 by omega) (show j < 40 by omega) v8.toInt64) (show _ = 51 from rfl) ?_
    rintro r4 w13 ⟨rfl, hI14, hE16⟩
    have hE15 := hE11.tr (hE16)
    show sx_RP _ _ _ _ _ [] _ _
    refine sx_RP.step (pc2 := 54) (ls2 := [(2, .int ((nI j) + 1)), (0, .ref 111), (1, .int (nI k))]) (st2 := []) (w3 := w13) rfl rfl ?_
    rw [nI_1 j]
    refine sx_RP.step (pc2 := 30) (ls2 := [(2, .int (nI (j + 1))), (0, .ref 111), (1, .int (nI k))]) (st2 := []) (w3 := w13) rfl rfl ?_
    exact sx_RP.ls (sx_lr.cons rfl (sx_lr.cons rfl (sx_lr.cons rfl sx_lr.nil))) (kk w13 hI14 hE15 (by omega))
set_option maxRecDepth 20000 in
set_option maxHeartbeats 4000000 in
theorem K236L {xs : Option (List Int32)} {d : Nat} {w0 : List sx_C} {k : Nat} (hk : k < 4) : ∀ (fz j : Nat) (w : List sx_C) , 9 ≤ j + fz * 1 → j ≤ 9 → WI w → EK w0 w → sx_RP xs (d + 7) 236 30 [(0, .ref 111), (1, .int (nI k)), (2, .int (nI j))] [] w (fun r w2 => (∃ v : Int32, r = some (.int v)) ∧ WI w2 ∧ EK w0 w2)
  | 0, j, w, h, hj, hI, hE => K236B hk hI hE hj   (fun w4  hI4 hE4 hlt  => absurd hlt (by omega)) 
  | fz + 1, j, w, h, hj, hI, hE => K236B hk hI hE hj   (fun w4  hI4 hE4 hlt  => K236L hk  fz (j + 1) w4  (by omega) hlt hI4 hE4 ) 
set_option maxRecDepth 20000 in
set_option maxHeartbeats 4000000 in
theorem K236 {xs : Option (List Int32)} {d : Nat} {w : List sx_C} (hI : WI w) (a1 : Int32) : sx_RP xs (d + 7) 236 0 (lv_args 0 [.ref 111, .int a1]) [] w (fun r w2 => (∃ v : Int32, r = some (.int v)) ∧ WI w2 ∧ EK w w2) := by
  have hE : EK w w := EK.rf
  refine sx_RP.step (pc2 := 1) (ls2 := [(0, .ref 111), (1, .int a1)]) (st2 := [.int a1]) (w3 := w) rfl rfl ?_
  rcases in_cases a1 0 3 (m := 0) (n := 3) rfl rfl (by decide) (by decide) with q1 | ⟨x2, hx3, hx4, rfl⟩
  · refine sx_RP.cu (as := [.int a1]) (rest2 := []) (st3 := [.int 0]) rfl rfl rfl rfl rfl (cx_231n q1) rfl ?_
    refine sx_RP.step (pc2 := 7) (ls2 := [(0, .ref 111), (1, .int a1)]) (st2 := []) (w3 := w) rfl rfl ?_
    refine sx_RP.step (pc2 := 8) (ls2 := [(0, .ref 111), (1, .int a1)]) (st2 := [.ref 111]) (w3 := w) rfl rfl ?_
    refine sx_RP.step (pc2 := 9) (ls2 := [(0, .ref 111), (1, .int a1)]) (st2 := [.int 0, .ref 111]) (w3 := w) rfl rfl ?_
    refine sx_RP.callp (as2 := [.ref 111, .int 0]) (rest2 := []) rfl rfl (sx_inv_v2 (mi := 236) (k := 70) (st := [.int 0, .ref 111]) (w := w) rfl rfl hI.1.o111 rfl rfl rfl) rfl rfl rfl (K133_0 hI) (show _ = 12 from rfl) ?_
    rintro r4 w6 ⟨rfl, hI7, hE9⟩
    have hE8 := hE.tr (hE9)
    show sx_RP _ _ _ _ _ [.int (-1000000001)] _ _
    refine sx_RP.ret (r := (some (.int (-1000000001)))) rfl rfl ?_
    exact ⟨⟨_, rfl⟩, hI7, hE8⟩
  · refine sx_RP.cu (as := [.int (nI x2)]) (rest2 := []) (st3 := [.int 1]) rfl rfl rfl rfl rfl (cx_231p ⟨nI_le (a := 0) hx3 (by omega), nI_le (b := 3) hx4 (by decide)⟩) rfl ?_
    refine sx_RP.step (pc2 := 13) (ls2 := [(0, .ref 111), (1, .int (nI x2))]) (st2 := []) (w3 := w) rfl rfl ?_
    refine sx_RP.step (pc2 := 14) (ls2 := [(0, .ref 111), (1, .int (nI x2))]) (st2 := [.ref 111]) (w3 := w) rfl rfl ?_
    refine sx_RP.gf (v := .ref 122) rfl rfl hI.1.o111 rfl rfl (show _ = 17 from rfl) ?_
    refine sx_RP.step (pc2 := 18) (ls2 := [(0, .ref 111), (1, .int (nI x2))]) (st2 := [.int (nI x2), .ref 122]) (w3 := w) rfl rfl ?_
    refine sx_RP.ild (c := x2) rfl hI.1.a122.1 hI.1.a122.2 (sx_in_nI (show x2 < 4 by omega) (by decide)) (show (nI x2).toNatClampNeg = x2 from nI_clamp (by omega)) (show _ = 19 from rfl) ?_
    refine sx_RP.br (p1 := 28) (l1 := [(0, .ref 111), (1, .int (nI x2))]) (s1 := []) (v1 := w) (p2 := 22) (l2 := [(0, .ref 111), (1, .int (nI x2))]) (s2 := []) (v2 := w) rfl rfl (fun q10 => ?_) (fun q10 => ?_)
    · replace q10 := of_decide_eq_true q10
      refine sx_RP.step (pc2 := 29) (ls2 := [(0, .ref 111), (1, .int (nI x2))]) (st2 := [.int 0]) (w3 := w) rfl rfl ?_
      refine sx_RP.step (pc2 := 30) (ls2 := [(2, .int 0), (0, .ref 111), (1, .int (nI x2))]) (st2 := []) (w3 := w) rfl rfl ?_
      exact sx_RP.ls (sx_lr.cons rfl (sx_lr.cons rfl (sx_lr.cons rfl sx_lr.nil))) (K236L (show x2 < 4 by omega) 9 0 w  (by omega) (by omega) hI hE )
    · replace q10 := Decidable.not_not.mp (of_decide_eq_false q10)
      refine sx_RP.step (pc2 := 23) (ls2 := [(0, .ref 111), (1, .int (nI x2))]) (st2 := [.ref 111]) (w3 := w) rfl rfl ?_
      refine sx_RP.step (pc2 := 24) (ls2 := [(0, .ref 111), (1, .int (nI x2))]) (st2 := [.int 5, .ref 111]) (w3 := w) rfl rfl ?_
      refine sx_RP.callp (as2 := [.ref 111, .int 5]) (rest2 := []) rfl rfl (sx_inv_v2 (mi := 236) (k := 70) (st := [.int 5, .ref 111]) (w := w) rfl rfl hI.1.o111 rfl rfl rfl) rfl rfl rfl (K133_5 hI) (show _ = 27 from rfl) ?_
      rintro r4 w11 ⟨rfl, hI12, hE14⟩
      have hE13 := hE.tr (hE14)
      show sx_RP _ _ _ _ _ [.int (-1000000006)] _ _
      refine sx_RP.ret (r := (some (.int (-1000000006)))) rfl rfl ?_
      exact ⟨⟨_, rfl⟩, hI12, hE13⟩
set_option maxRecDepth 20000 in
set_option maxHeartbeats 4000000 in
theorem K239B {xs : Option (List Int32)} {d : Nat} {w w0 : List sx_C} {k : Nat} (hk : k < 4) (hI : WI w) (hE : EK w0 w) {j : Nat} (hj : j ≤ 9) (i : Nat) (hi : i ≤ 1) (kk : ∀ (w4 : List sx_C) (ui : Nat), WI w4 → EK w0 w4 → j + 1 ≤ 9 → ui ≤ 1 → sx_RP xs (d + 6) 239 4 [(0, .ref 111), (1, .int (nI k)), (2, .int (nI ui)), (3, .int (nI (j + 1)))] [] w4 (fun r w2 => (∃ j, j ≤ 1 ∧ r = some (.int (nI j))) ∧ WI w2 ∧ EK w0 w2)) : sx_RP xs (d + 6) 239 4 [(0, .ref 111), (1, .int (nI k)), (2, .int (nI i)), (3, .int (nI j))] [] w (fun r w2 => (∃ j, j ≤ 1 ∧ r = some (.int (nI j))) ∧ WI w2 ∧ EK w0 w2) := by
  refine sx_RP.step (pc2 := 5) (ls2 := [(0, .ref 111), (1, .int (nI k)), (2, .int (nI i)), (3, .int (nI j))]) (st2 := [.int (nI j)]) (w3 := w) rfl rfl ?_
  refine sx_RP.step (pc2 := 6) (ls2 := [(0, .ref 111), (1, .int (nI k)), (2, .int (nI i)), (3, .int (nI j))]) (st2 := [.ref 111, .int (nI j)]) (w3 := w) rfl rfl ?_
  refine sx_RP.step (pc2 := 7) (ls2 := [(0, .ref 111), (1, .int (nI k)), (2, .int (nI i)), (3, .int (nI j))]) (st2 := [.int (nI k), .ref 111, .int (nI j)]) (w3 := w) rfl rfl ?_
  obtain ⟨x1, hx2, c3⟩ := p237 hI (show k < 4 by omega)
  refine sx_RP.cu (as := [.ref 111, .int (nI k)]) (rest2 := [.int (nI j)]) (st3 := [.int (nI x1), .int (nI j)]) rfl rfl (sx_inv_v2 (mi := 239) (k := 345) (st := [.int (nI k), .ref 111, .int (nI j)]) (w := w) rfl rfl hI.1.o111 rfl rfl rfl) rfl rfl (c3) rfl ?_
  refine sx_RP.br (p1 := 50) (l1 := [(0, .ref 111), (1, .int (nI k)), (2, .int (nI i)), (3, .int (nI j))]) (s1 := []) (v1 := w) (p2 := 13) (l2 := [(0, .ref 111), (1, .int (nI k)), (2, .int (nI i)), (3, .int (nI j))]) (s2 := []) (v2 := w) rfl rfl (fun q4 => ?_) (fun q4 => ?_)
  · replace q4 := of_decide_eq_true q4
    replace q4 := (nI_leI (a := x1) (b := j) (by omega) (by omega)).mp q4
    refine sx_RP.step (pc2 := 51) (ls2 := [(0, .ref 111), (1, .int (nI k)), (2, .int (nI i)), (3, .int (nI j))]) (st2 := [.int (nI i)]) (w3 := w) rfl rfl ?_
    refine sx_RP.ret (r := (some (.int (nI i)))) rfl (bo_ret rfl (inR.n (show i ≤ 1 by omega))) ?_
    exact ⟨⟨i, by omega, rfl⟩, hI, hE⟩
  · replace q4 := of_decide_eq_false q4
    replace q4 := mt (nI_leI (a := x1) (b := j) (by omega) (by omega)).mpr q4
    refine sx_RP.step (pc2 := 14) (ls2 := [(0, .ref 111), (1, .int (nI k)), (2, .int (nI i)), (3, .int (nI j))]) (st2 := [.int (nI i)]) (w3 := w) rfl rfl ?_
    refine sx_RP.br (p1 := 50) (l1 := [(0, .ref 111), (1, .int (nI k)), (2, .int (nI i)), (3, .int (nI j))]) (s1 := []) (v1 := w) (p2 := 17) (l2 := [(0, .ref 111), (1, .int (nI k)), (2, .int (nI i)), (3, .int (nI j))]) (s2 := []) (v2 := w) rfl rfl (fun q5 => ?_) (fun q5 => ?_)
    · replace q5 := of_decide_eq_true q5
      replace q5 := (nI_eq (a := i) (b := 0) (by omega) (by omega)).mp q5
      refine sx_RP.step (pc2 := 51) (ls2 := [(0, .ref 111), (1, .int (nI k)), (2, .int (nI i)), (3, .int (nI j))]) (st2 := [.int (nI i)]) (w3 := w) rfl rfl ?_
      refine sx_RP.ret (r := (some (.int (nI i)))) rfl (bo_ret rfl (inR.n (show i ≤ 1 by omega))) ?_
      exact ⟨⟨i, by omega, rfl⟩, hI, hE⟩
    · replace q5 := of_decide_eq_false q5
      replace q5 := mt (nI_eq (a := i) (b := 0) (by omega) (by omega)).mpr q5
      refine sx_RP.step (pc2 := 18) (ls2 := [(0, .ref 111), (1, .int (nI k)), (2, .int (nI i)), (3, .int (nI j))]) (st2 := [.ref 111]) (w3 := w) rfl rfl ?_
      refine sx_RP.gf (v := .ref 124) rfl rfl hI.1.o111 rfl rfl (show _ = 21 from rfl) ?_
      refine sx_RP.step (pc2 := 23) (ls2 := [(0, .ref 111), (1, .int (nI k)), (2, .int (nI i)), (3, .int (nI j))]) (st2 := [.int 40, .ref 124]) (w3 := w) rfl rfl ?_
      refine sx_RP.step (pc2 := 24) (ls2 := [(0, .ref 111), (1, .int (nI k)), (2, .int (nI i)), (3, .int (nI j))]) (st2 := [.int (nI k), .int 40, .ref 124]) (w3 := w) rfl rfl ?_
      refine sx_RP.step (pc2 := 25) (ls2 := [(0, .ref 111), (1, .int (nI k)), (2, .int (nI i)), (3, .int (nI j))]) (st2 := [.int (40 * (nI k)), .ref 124]) (w3 := w) rfl rfl ?_
      rw [show (40 * (nI k) : Int32) = nI (40 * k) from nI_mul 40 k]
      refine sx_RP.step (pc2 := 26) (ls2 := [(0, .ref 111), (1, .int (nI k)), (2, .int (nI i)), (3, .int (nI j))]) (st2 := [.int (nI j), .int (nI (40 * k)), .ref 124]) (w3 := w) rfl rfl ?_
      refine sx_RP.step (pc2 := 27) (ls2 := [(0, .ref 111), (1, .int (nI k)), (2, .int (nI i)), (3, .int (nI j))]) (st2 := [.int ((nI (40 * k)) + (nI j)), .ref 124]) (w3 := w) rfl rfl ?_
      rw [show ((nI (40 * k)) + (nI j) : Int32) = nI ((40 * k) + j) from nI_add (40 * k) j]
      refine sx_RP.lld (c := ((40 * k) + j)) rfl hI.1.a124.1 hI.1.a124.2 (sx_in_nI (show ((40 * k) + j) < 160 by omega) (by decide)) (show (nI ((40 * k) + j)).toNatClampNeg = ((40 * k) + j) from nI_clamp (by omega)) (show _ = 28 from rfl) ?_
      refine sx_RP.step (pc2 := 29) (ls2 := [(0, .ref 111), (1, .int (nI k)), (2, .int (nI i)), (3, .int (nI j))]) (st2 := [.ref 111, .long ((ja w 124).getD ((40 * k) + j) 0)]) (w3 := w) rfl rfl ?_
      refine sx_RP.step (pc2 := 30) (ls2 := [(0, .ref 111), (1, .int (nI k)), (2, .int (nI i)), (3, .int (nI j))]) (st2 := [.int (nI j), .ref 111, .long ((ja w 124).getD ((40 * k) + j) 0)]) (w3 := w) rfl rfl ?_
      refine sx_RP.callp (as2 := [.ref 111, .int (nI j)]) (rest2 := [.long ((ja w 124).getD ((40 * k) + j) 0)]) rfl rfl (sx_inv_v2 (mi := 239) (k := 180) (st := [.int (nI j), .ref 111, .long ((ja w 124).getD ((40 * k) + j) 0)]) (w := w) rfl rfl hI.1.o111 rfl rfl rfl) rfl rfl rfl (K188 hI (show j < 9 by omega)) (show _ = 33 from rfl) ?_
      rintro r4 w7 ⟨⟨v6, rfl⟩, hI8, hE10⟩
      have hE9 := hE.tr (hE10)
      show sx_RP _ _ _ _ _ [.int v6, .long ((ja w 124).getD ((40 * k) + j) 0)] _ _
      refine sx_RP.step (pc2 := 34) (ls2 := [(0, .ref 111), (1, .int (nI k)), (2, .int (nI i)), (3, .int (nI j))]) (st2 := [.long v6.toInt64, .long ((ja w 124).getD ((40 * k) + j) 0)]) (w3 := w7) rfl rfl ?_
      refine sx_RP.step (pc2 := 35) (ls2 := [(0, .ref 111), (1, .int (nI k)), (2, .int (nI i)), (3, .int (nI j))]) (st2 := [.int (lg_cmp ((ja w 124).getD ((40 * k) + j) 0) v6.toInt64)]) (w3 := w7) rfl rfl ?_
      refine sx_RP.br (p1 := 42) (l1 := [(0, .ref 111), (1, .int (nI k)), (2, .int (nI i)), (3, .int (nI j))]) (s1 := []) (v1 := w7) (p2 := 38) (l2 := [(0, .ref 111), (1, .int (nI k)), (2, .int (nI i)), (3, .int (nI j))]) (s2 := []) (v2 := w7) rfl rfl (fun q11 => ?_) (fun q11 => ?_)
      · replace q11 := of_decide_eq_true q11
        refine sx_RP.step (pc2 := 43) (ls2 := [(0, .ref 111), (1, .int (nI k)), (2, .int (nI i)), (3, .int (nI j))]) (st2 := [.int 0]) (w3 := w7) rfl rfl ?_
        refine sx_RP.step (pc2 := 44) (ls2 := [(2, .int 0), (0, .ref 111), (1, .int (nI k)), (3, .int (nI j))]) (st2 := []) (w3 := w7) rfl rfl ?_
        refine sx_RP.step (pc2 := 47) (ls2 := [(3, .int ((nI j) + 1)), (2, .int 0), (0, .ref 111), (1, .int (nI k))]) (st2 := []) (w3 := w7) rfl rfl ?_
        rw [nI_1 j]
        refine sx_RP.step (pc2 := 4) (ls2 := [(3, .int (nI (j + 1))), (2, .int 0), (0, .ref 111), (1, .int (nI k))]) (st2 := []) (w3 := w7) rfl rfl ?_
        exact sx_RP.ls (sx_lr.cons rfl (sx_lr.cons rfl (sx_lr.cons rfl (sx_lr.cons rfl sx_lr.nil)))) (kk w7 0 hI8 hE9 (by omega) (by omega))
      · replace q11 := Decidable.not_not.mp (of_decide_eq_false q11)
        refine sx_RP.step (pc2 := 39) (ls2 := [(0, .ref 111), (1, .int (nI k)), (2, .int (nI i)), (3, .int (nI j))]) (st2 := [.int 1]) (w3 := w7) rfl rfl ?_
        refine sx_RP.step (pc2 := 43) (ls2 := [(0, .ref 111), (1, .int (nI k)), (2, .int (nI i)), (3, .int (nI j))]) (st2 := [.int 1]) (w3 := w7) rfl rfl ?_
        refine sx_RP.step (pc2 := 44) (ls2 := [(2, .int 1), (0, .ref 111), (1, .int (nI k)), (3, .int (nI j))]) (st2 := []) (w3 := w7) rfl rfl ?_
        refine sx_RP.step (pc2 := 47) (ls2 := [(3, .int ((nI j) + 1)), (2, .int 1), (0, .ref 111), (1, .int (nI k))]) (st2 := []) (w3 := w7) rfl rfl ?_
        rw [nI_1 j]
        refine sx_RP.step (pc2 := 4) (ls2 := [(3, .int (nI (j + 1))), (2, .int 1), (0, .ref 111), (1, .int (nI k))]) (st2 := []) (w3 := w7) rfl rfl ?_
        exact sx_RP.ls (sx_lr.cons rfl (sx_lr.cons rfl (sx_lr.cons rfl (sx_lr.cons rfl sx_lr.nil)))) (kk w7 1 hI8 hE9 (by omega) (by omega))
set_option maxRecDepth 20000 in
set_option maxHeartbeats 4000000 in
theorem K239L {xs : Option (List Int32)} {d : Nat} {w0 : List sx_C} {k : Nat} (hk : k < 4) : ∀ (fz j : Nat) (w : List sx_C) (i : Nat) , 9 ≤ j + fz * 1 → j ≤ 9 → WI w → EK w0 w → i ≤ 1 → sx_RP xs (d + 6) 239 4 [(0, .ref 111), (1, .int (nI k)), (2, .int (nI i)), (3, .int (nI j))] [] w (fun r w2 => (∃ j, j ≤ 1 ∧ r = some (.int (nI j))) ∧ WI w2 ∧ EK w0 w2)
  | 0, j, w, i, h, hj, hI, hE, hi => K239B hk hI hE hj i hi (fun w4 ui hI4 hE4 hlt hui => absurd hlt (by omega)) 
  | fz + 1, j, w, i, h, hj, hI, hE, hi => K239B hk hI hE hj i hi (fun w4 ui hI4 hE4 hlt hui => K239L hk  fz (j + 1) w4 ui (by omega) hlt hI4 hE4 hui) 
set_option maxRecDepth 20000 in
set_option maxHeartbeats 4000000 in
theorem K239 {xs : Option (List Int32)} {d : Nat} {w : List sx_C} (hI : WI w) {k : Nat} (hk : k < 4) : sx_RP xs (d + 6) 239 0 (lv_args 0 [.ref 111, .int (nI k)]) [] w (fun r w2 => (∃ j, j ≤ 1 ∧ r = some (.int (nI j))) ∧ WI w2 ∧ EK w w2) := by
  have hE : EK w w := EK.rf
  refine sx_RP.step (pc2 := 1) (ls2 := [(0, .ref 111), (1, .int (nI k))]) (st2 := [.int 1]) (w3 := w) rfl rfl ?_
  refine sx_RP.step (pc2 := 2) (ls2 := [(2, .int 1), (0, .ref 111), (1, .int (nI k))]) (st2 := []) (w3 := w) rfl rfl ?_
  refine sx_RP.step (pc2 := 3) (ls2 := [(2, .int 1), (0, .ref 111), (1, .int (nI k))]) (st2 := [.int 0]) (w3 := w) rfl rfl ?_
  refine sx_RP.step (pc2 := 4) (ls2 := [(3, .int 0), (2, .int 1), (0, .ref 111), (1, .int (nI k))]) (st2 := []) (w3 := w) rfl rfl ?_
  exact sx_RP.ls (sx_lr.cons rfl (sx_lr.cons rfl (sx_lr.cons rfl (sx_lr.cons rfl sx_lr.nil)))) (K239L hk 9 0 w 1 (by omega) (by omega) hI hE (by omega))
set_option maxRecDepth 20000 in
set_option maxHeartbeats 4000000 in
theorem K238B {xs : Option (List Int32)} {d : Nat} {w w0 : List sx_C} {k : Nat} (hk : k < 4) (hI : WI w) (hE : EK w0 w) {j : Nat} (hj : j ≤ 60) (i : Nat) (hi : i ≤ 1) (kk : ∀ (w4 : List sx_C) (ui : Nat), WI w4 → EK w0 w4 → j + 1 ≤ 60 → ui ≤ 1 → sx_RP xs (d + 7) 238 62 [(0, .ref 111), (1, .int (nI k)), (3, .int (nI ui)), (2, .int (nI (j + 1)))] [] w4 (fun r w2 => (∃ v : Int32, r = some (.int v)) ∧ WI w2 ∧ ER w0 w2)) : sx_RP xs (d + 7) 238 62 [(0, .ref 111), (1, .int (nI k)), (3, .int (nI i)), (2, .int (nI j))] [] w (fun r w2 => (∃ v : Int32, r = some (.int v)) ∧ WI w2 ∧ ER w0 w2) := by
  refine sx_RP.step (pc2 := 63) (ls2 := [(0, .ref 111), (1, .int (nI k)), (3, .int (nI i)), (2, .int (nI j))]) (st2 := [.int (nI j)]) (w3 := w) rfl rfl ?_
  refine sx_RP.step (pc2 := 65) (ls2 := [(0, .ref 111), (1, .int (nI k)), (3, .int (nI i)), (2, .int (nI j))]) (st2 := [.int 60, .int (nI j)]) (w3 := w) rfl rfl ?_
  refine sx_RP.br (p1 := 88) (l1 := [(0, .ref 111), (1, .int (nI k)), (3, .int (nI i)), (2, .int (nI j))]) (s1 := []) (v1 := w) (p2 := 68) (l2 := [(0, .ref 111), (1, .int (nI k)), (3, .int (nI i)), (2, .int (nI j))]) (s2 := []) (v2 := w) rfl rfl (fun q1 => ?_) (fun q1 => ?_)
  · replace q1 := of_decide_eq_true q1
    replace q1 := (nI_leI (a := 60) (b := j) (by omega) (by omega)).mp q1
    refine sx_RP.step (pc2 := 89) (ls2 := [(0, .ref 111), (1, .int (nI k)), (3, .int (nI i)), (2, .int (nI j))]) (st2 := [.ref 111]) (w3 := w) rfl rfl ?_
    refine sx_RP.gf (v := .ref 114) rfl rfl hI.1.o111 rfl rfl (show _ = 92 from rfl) ?_
    refine sx_RP.step (pc2 := 93) (ls2 := [(0, .ref 111), (1, .int (nI k)), (3, .int (nI i)), (2, .int (nI j))]) (st2 := [.ref 111, .ref 114]) (w3 := w) rfl rfl ?_
    refine sx_RP.gf (v := .ref 112) rfl rfl hI.1.o111 rfl rfl (show _ = 96 from rfl) ?_
    refine sx_RP.callp (as2 := [.ref 114, .ref 112]) (rest2 := []) rfl rfl rfl rfl rfl rfl (K175 hI (a := 114) (b := 112) (by decide) (by decide) (by decide)) (show _ = 99 from rfl) ?_
    rintro r4 w2 ⟨rfl, hI3, hE5⟩
    have hE4 := ER.of hE hE5
    show sx_RP _ _ _ _ _ [] _ _
    refine sx_RP.step (pc2 := 100) (ls2 := [(0, .ref 111), (1, .int (nI k)), (3, .int (nI i)), (2, .int (nI j))]) (st2 := [.int (nI i)]) (w3 := w2) rfl rfl ?_
    refine sx_RP.br (p1 := 107) (l1 := [(0, .ref 111), (1, .int (nI k)), (3, .int (nI i)), (2, .int (nI j))]) (s1 := []) (v1 := w2) (p2 := 103) (l2 := [(0, .ref 111), (1, .int (nI k)), (3, .int (nI i)), (2, .int (nI j))]) (s2 := []) (v2 := w2) rfl rfl (fun q6 => ?_) (fun q6 => ?_)
    · replace q6 := of_decide_eq_true q6
      replace q6 := (nI_eq (a := i) (b := 0) (by omega) (by omega)).mp q6
      refine sx_RP.step (pc2 := 108) (ls2 := [(0, .ref 111), (1, .int (nI k)), (3, .int (nI i)), (2, .int (nI j))]) (st2 := [.ref 111]) (w3 := w2) rfl rfl ?_
      refine sx_RP.step (pc2 := 109) (ls2 := [(0, .ref 111), (1, .int (nI k)), (3, .int (nI i)), (2, .int (nI j))]) (st2 := [.int 3, .ref 111]) (w3 := w2) rfl rfl ?_
      refine sx_RP.callp (as2 := [.ref 111, .int 3]) (rest2 := []) rfl rfl (sx_inv_v2 (mi := 238) (k := 70) (st := [.int 3, .ref 111]) (w := w2) rfl rfl hI3.1.o111 rfl rfl rfl) rfl rfl rfl (K133_3 hI3) (show _ = 112 from rfl) ?_
      rintro r4 w7 ⟨rfl, hI8, hE10⟩
      have hE9 := hE4.tr (hE10)
      show sx_RP _ _ _ _ _ [.int (-1000000004)] _ _
      refine sx_RP.ret (r := (some (.int (-1000000004)))) rfl rfl ?_
      exact ⟨⟨_, rfl⟩, hI8, hE9⟩
    · replace q6 := of_decide_eq_false q6
      replace q6 := mt (nI_eq (a := i) (b := 0) (by omega) (by omega)).mpr q6
      refine sx_RP.step (pc2 := 104) (ls2 := [(0, .ref 111), (1, .int (nI k)), (3, .int (nI i)), (2, .int (nI j))]) (st2 := [.int (nI j)]) (w3 := w2) rfl rfl ?_
      refine sx_RP.step (pc2 := 112) (ls2 := [(0, .ref 111), (1, .int (nI k)), (3, .int (nI i)), (2, .int (nI j))]) (st2 := [.int (nI j)]) (w3 := w2) rfl rfl ?_
      refine sx_RP.ret (r := (some (.int (nI j)))) rfl rfl ?_
      exact ⟨⟨_, rfl⟩, hI3, hE4⟩
  · replace q1 := of_decide_eq_false q1
    replace q1 := mt (nI_leI (a := 60) (b := j) (by omega) (by omega)).mpr q1
    refine sx_RP.step (pc2 := 69) (ls2 := [(0, .ref 111), (1, .int (nI k)), (3, .int (nI i)), (2, .int (nI j))]) (st2 := [.int (nI i)]) (w3 := w) rfl rfl ?_
    refine sx_RP.br (p1 := 88) (l1 := [(0, .ref 111), (1, .int (nI k)), (3, .int (nI i)), (2, .int (nI j))]) (s1 := []) (v1 := w) (p2 := 72) (l2 := [(0, .ref 111), (1, .int (nI k)), (3, .int (nI i)), (2, .int (nI j))]) (s2 := []) (v2 := w) rfl rfl (fun q11 => ?_) (fun q11 => ?_)
    · replace q11 := of_decide_eq_true q11
      replace q11 := mt (nI_eq (a := i) (b := 0) (by omega) (by omega)).mpr q11
      refine sx_RP.step (pc2 := 89) (ls2 := [(0, .ref 111), (1, .int (nI k)), (3, .int (nI i)), (2, .int (nI j))]) (st2 := [.ref 111]) (w3 := w) rfl rfl ?_
      refine sx_RP.gf (v := .ref 114) rfl rfl hI.1.o111 rfl rfl (show _ = 92 from rfl) ?_
      refine sx_RP.step (pc2 := 93) (ls2 := [(0, .ref 111), (1, .int (nI k)), (3, .int (nI i)), (2, .int (nI j))]) (st2 := [.ref 111, .ref 114]) (w3 := w) rfl rfl ?_
      refine sx_RP.gf (v := .ref 112) rfl rfl hI.1.o111 rfl rfl (show _ = 96 from rfl) ?_
      refine sx_RP.callp (as2 := [.ref 114, .ref 112]) (rest2 := []) rfl rfl rfl rfl rfl rfl (K175 hI (a := 114) (b := 112) (by decide) (by decide) (by decide)) (show _ = 99 from rfl) ?_
      rintro r4 w12 ⟨rfl, hI13, hE15⟩
      have hE14 := ER.of hE hE15
      show sx_RP _ _ _ _ _ [] _ _
      refine sx_RP.step (pc2 := 100) (ls2 := [(0, .ref 111), (1, .int (nI k)), (3, .int (nI i)), (2, .int (nI j))]) (st2 := [.int (nI i)]) (w3 := w12) rfl rfl ?_
      refine sx_RP.br (p1 := 107) (l1 := [(0, .ref 111), (1, .int (nI k)), (3, .int (nI i)), (2, .int (nI j))]) (s1 := []) (v1 := w12) (p2 := 103) (l2 := [(0, .ref 111), (1, .int (nI k)), (3, .int (nI i)), (2, .int (nI j))]) (s2 := []) (v2 := w12) rfl rfl (fun q16 => ?_) (fun q16 => ?_)
      · replace q16 := of_decide_eq_true q16
        replace q16 := (nI_eq (a := i) (b := 0) (by omega) (by omega)).mp q16
        refine sx_RP.step (pc2 := 108) (ls2 := [(0, .ref 111), (1, .int (nI k)), (3, .int (nI i)), (2, .int (nI j))]) (st2 := [.ref 111]) (w3 := w12) rfl rfl ?_
        refine sx_RP.step (pc2 := 109) (ls2 := [(0, .ref 111), (1, .int (nI k)), (3, .int (nI i)), (2, .int (nI j))]) (st2 := [.int 3, .ref 111]) (w3 := w12) rfl rfl ?_
        refine sx_RP.callp (as2 := [.ref 111, .int 3]) (rest2 := []) rfl rfl (sx_inv_v2 (mi := 238) (k := 70) (st := [.int 3, .ref 111]) (w := w12) rfl rfl hI13.1.o111 rfl rfl rfl) rfl rfl rfl (K133_3 hI13) (show _ = 112 from rfl) ?_
        rintro r4 w17 ⟨rfl, hI18, hE20⟩
        have hE19 := hE14.tr (hE20)
        show sx_RP _ _ _ _ _ [.int (-1000000004)] _ _
        refine sx_RP.ret (r := (some (.int (-1000000004)))) rfl rfl ?_
        exact ⟨⟨_, rfl⟩, hI18, hE19⟩
      · replace q16 := of_decide_eq_false q16
        replace q16 := mt (nI_eq (a := i) (b := 0) (by omega) (by omega)).mpr q16
        refine sx_RP.step (pc2 := 104) (ls2 := [(0, .ref 111), (1, .int (nI k)), (3, .int (nI i)), (2, .int (nI j))]) (st2 := [.int (nI j)]) (w3 := w12) rfl rfl ?_
        refine sx_RP.step (pc2 := 112) (ls2 := [(0, .ref 111), (1, .int (nI k)), (3, .int (nI i)), (2, .int (nI j))]) (st2 := [.int (nI j)]) (w3 := w12) rfl rfl ?_
        refine sx_RP.ret (r := (some (.int (nI j)))) rfl rfl ?_
        exact ⟨⟨_, rfl⟩, hI13, hE14⟩
    · replace q11 := Decidable.not_not.mp (of_decide_eq_false q11)
      replace q11 := (nI_eq (a := i) (b := 0) (by omega) (by omega)).mp q11
      refine sx_RP.step (pc2 := 73) (ls2 := [(0, .ref 111), (1, .int (nI k)), (3, .int (nI i)), (2, .int (nI j))]) (st2 := [.ref 111]) (w3 := w) rfl rfl ?_
      refine sx_RP.callp (as2 := [.ref 111]) (rest2 := []) rfl rfl (sx_inv_v2 (mi := 238) (k := 143) (st := [.ref 111]) (w := w) rfl rfl hI.1.o111 rfl rfl rfl) rfl rfl rfl (K169 hI ) (show _ = 76 from rfl) ?_
      rintro r4 w21 ⟨rfl, hI22, hE24⟩
      have hE23 := hE.tr (hE24)
      show sx_RP _ _ _ _ _ [] _ _
      refine sx_RP.step (pc2 := 79) (ls2 := [(2, .int ((nI j) + 1)), (0, .ref 111), (1, .int (nI k)), (3, .int (nI i))]) (st2 := []) (w3 := w21) rfl rfl ?_
      rw [nI_1 j]
      refine sx_RP.step (pc2 := 80) (ls2 := [(2, .int (nI (j + 1))), (0, .ref 111), (1, .int (nI k)), (3, .int (nI i))]) (st2 := [.ref 111]) (w3 := w21) rfl rfl ?_
      refine sx_RP.step (pc2 := 81) (ls2 := [(2, .int (nI (j + 1))), (0, .ref 111), (1, .int (nI k)), (3, .int (nI i))]) (st2 := [.int (nI k), .ref 111]) (w3 := w21) rfl rfl ?_
      refine sx_RP.callp (as2 := [.ref 111, .int (nI k)]) (rest2 := []) rfl rfl (sx_inv_v2 (mi := 238) (k := 348) (st := [.int (nI k), .ref 111]) (w := w21) rfl rfl hI22.1.o111 rfl rfl rfl) rfl rfl rfl (K239 hI22 (show k < 4 by omega)) (show _ = 84 from rfl) ?_
      rintro r4 w27 ⟨⟨x25, hx26, rfl⟩, hI28, hE30⟩
      have hE29 := hE23.tr (hE30)
      show sx_RP _ _ _ _ _ [.int (nI x25)] _ _
      refine sx_RP.step (pc2 := 85) (ls2 := [(3, .int (nI x25)), (2, .int (nI (j + 1))), (0, .ref 111), (1, .int (nI k))]) (st2 := []) (w3 := w27) rfl rfl ?_
      refine sx_RP.step (pc2 := 62) (ls2 := [(3, .int (nI x25)), (2, .int (nI (j + 1))), (0, .ref 111), (1, .int (nI k))]) (st2 := []) (w3 := w27) rfl rfl ?_
      exact sx_RP.ls (sx_lr.cons rfl (sx_lr.cons rfl (sx_lr.cons rfl (sx_lr.cons rfl sx_lr.nil)))) (kk w27 x25 hI28 hE29 (by omega) (by omega))
set_option maxRecDepth 20000 in
set_option maxHeartbeats 4000000 in
theorem K238L {xs : Option (List Int32)} {d : Nat} {w0 : List sx_C} {k : Nat} (hk : k < 4) : ∀ (fz j : Nat) (w : List sx_C) (i : Nat) , 60 ≤ j + fz * 1 → j ≤ 60 → WI w → EK w0 w → i ≤ 1 → sx_RP xs (d + 7) 238 62 [(0, .ref 111), (1, .int (nI k)), (3, .int (nI i)), (2, .int (nI j))] [] w (fun r w2 => (∃ v : Int32, r = some (.int v)) ∧ WI w2 ∧ ER w0 w2)
  | 0, j, w, i, h, hj, hI, hE, hi => K238B hk hI hE hj i hi (fun w4 ui hI4 hE4 hlt hui => absurd hlt (by omega)) 
  | fz + 1, j, w, i, h, hj, hI, hE, hi => K238B hk hI hE hj i hi (fun w4 ui hI4 hE4 hlt hui => K238L hk  fz (j + 1) w4 ui (by omega) hlt hI4 hE4 hui) 
set_option maxRecDepth 20000 in
set_option maxHeartbeats 4000000 in
theorem K238 {xs : Option (List Int32)} {d : Nat} {w : List sx_C} (hI : WI w) (a1 : Int32) : sx_RP xs (d + 7) 238 0 (lv_args 0 [.ref 111, .int a1]) [] w (fun r w2 => (∃ v : Int32, r = some (.int v)) ∧ WI w2 ∧ EL w w2) := by
  have hE : EK w w := EK.rf
  refine sx_RP.step (pc2 := 1) (ls2 := [(0, .ref 111), (1, .int a1)]) (st2 := [.int a1]) (w3 := w) rfl rfl ?_
  rcases in_cases a1 0 3 (m := 0) (n := 3) rfl rfl (by decide) (by decide) with q1 | ⟨x2, hx3, hx4, rfl⟩
  · refine sx_RP.cu (as := [.int a1]) (rest2 := []) (st3 := [.int 0]) rfl rfl rfl rfl rfl (cx_231n q1) rfl ?_
    refine sx_RP.step (pc2 := 7) (ls2 := [(0, .ref 111), (1, .int a1)]) (st2 := []) (w3 := w) rfl rfl ?_
    refine sx_RP.step (pc2 := 8) (ls2 := [(0, .ref 111), (1, .int a1)]) (st2 := [.ref 111]) (w3 := w) rfl rfl ?_
    refine sx_RP.step (pc2 := 9) (ls2 := [(0, .ref 111), (1, .int a1)]) (st2 := [.int 0, .ref 111]) (w3 := w) rfl rfl ?_
    refine sx_RP.callp (as2 := [.ref 111, .int 0]) (rest2 := []) rfl rfl (sx_inv_v2 (mi := 238) (k := 70) (st := [.int 0, .ref 111]) (w := w) rfl rfl hI.1.o111 rfl rfl rfl) rfl rfl rfl (K133_0 hI) (show _ = 12 from rfl) ?_
    rintro r4 w6 ⟨rfl, hI7, hE9⟩
    have hE8 := hE.tr (hE9)
    show sx_RP _ _ _ _ _ [.int (-1000000001)] _ _
    refine sx_RP.ret (r := (some (.int (-1000000001)))) rfl rfl ?_
    exact ⟨⟨_, rfl⟩, hI7, hE8.el⟩
  · refine sx_RP.cu (as := [.int (nI x2)]) (rest2 := []) (st3 := [.int 1]) rfl rfl rfl rfl rfl (cx_231p ⟨nI_le (a := 0) hx3 (by omega), nI_le (b := 3) hx4 (by decide)⟩) rfl ?_
    refine sx_RP.step (pc2 := 13) (ls2 := [(0, .ref 111), (1, .int (nI x2))]) (st2 := []) (w3 := w) rfl rfl ?_
    refine sx_RP.step (pc2 := 14) (ls2 := [(0, .ref 111), (1, .int (nI x2))]) (st2 := [.ref 111]) (w3 := w) rfl rfl ?_
    refine sx_RP.gf (v := .ref 122) rfl rfl hI.1.o111 rfl rfl (show _ = 17 from rfl) ?_
    refine sx_RP.step (pc2 := 18) (ls2 := [(0, .ref 111), (1, .int (nI x2))]) (st2 := [.int (nI x2), .ref 122]) (w3 := w) rfl rfl ?_
    refine sx_RP.ild (c := x2) rfl hI.1.a122.1 hI.1.a122.2 (sx_in_nI (show x2 < 4 by omega) (by decide)) (show (nI x2).toNatClampNeg = x2 from nI_clamp (by omega)) (show _ = 19 from rfl) ?_
    refine sx_RP.br (p1 := 28) (l1 := [(0, .ref 111), (1, .int (nI x2))]) (s1 := []) (v1 := w) (p2 := 22) (l2 := [(0, .ref 111), (1, .int (nI x2))]) (s2 := []) (v2 := w) rfl rfl (fun q10 => ?_) (fun q10 => ?_)
    · replace q10 := of_decide_eq_true q10
      refine sx_RP.step (pc2 := 29) (ls2 := [(0, .ref 111), (1, .int (nI x2))]) (st2 := [.ref 111]) (w3 := w) rfl rfl ?_
      refine sx_RP.step (pc2 := 31) (ls2 := [(0, .ref 111), (1, .int (nI x2))]) (st2 := [.int 60, .ref 111]) (w3 := w) rfl rfl ?_
      obtain ⟨x11, hx12, c13⟩ := p165 hI 60
      refine sx_RP.cu (as := [.ref 111, .int 60]) (rest2 := []) (st3 := [.int (nI x11)]) rfl rfl (sx_inv_v2 (mi := 238) (k := 149) (st := [.int 60, .ref 111]) (w := w) rfl rfl hI.1.o111 rfl rfl rfl) rfl rfl (c13) rfl ?_
      refine sx_RP.br (p1 := 43) (l1 := [(0, .ref 111), (1, .int (nI x2))]) (s1 := []) (v1 := w) (p2 := 37) (l2 := [(0, .ref 111), (1, .int (nI x2))]) (s2 := []) (v2 := w) rfl rfl (fun q14 => ?_) (fun q14 => ?_)
      · replace q14 := of_decide_eq_true q14
        replace q14 := (nI_eq (a := x11) (b := 0) (by omega) (by omega)).mp q14
        refine sx_RP.step (pc2 := 44) (ls2 := [(0, .ref 111), (1, .int (nI x2))]) (st2 := [.ref 111]) (w3 := w) rfl rfl ?_
        refine sx_RP.gf (v := .ref 112) rfl rfl hI.1.o111 rfl rfl (show _ = 47 from rfl) ?_
        refine sx_RP.step (pc2 := 48) (ls2 := [(0, .ref 111), (1, .int (nI x2))]) (st2 := [.ref 111, .ref 112]) (w3 := w) rfl rfl ?_
        refine sx_RP.gf (v := .ref 114) rfl rfl hI.1.o111 rfl rfl (show _ = 51 from rfl) ?_
        refine sx_RP.callp (as2 := [.ref 112, .ref 114]) (rest2 := []) rfl rfl rfl rfl rfl rfl (K175 hI (a := 112) (b := 114) (by decide) (by decide) (by decide)) (show _ = 54 from rfl) ?_
        rintro r4 w15 ⟨rfl, hI16, hE18⟩
        have hE17 : EK w15 w15 := EK.rf
        show sx_RP _ _ _ _ _ [] _ _
        refine sx_RP.step (pc2 := 55) (ls2 := [(0, .ref 111), (1, .int (nI x2))]) (st2 := [.int 0]) (w3 := w15) rfl rfl ?_
        refine sx_RP.step (pc2 := 56) (ls2 := [(2, .int 0), (0, .ref 111), (1, .int (nI x2))]) (st2 := []) (w3 := w15) rfl rfl ?_
        refine sx_RP.step (pc2 := 57) (ls2 := [(2, .int 0), (0, .ref 111), (1, .int (nI x2))]) (st2 := [.ref 111]) (w3 := w15) rfl rfl ?_
        refine sx_RP.step (pc2 := 58) (ls2 := [(2, .int 0), (0, .ref 111), (1, .int (nI x2))]) (st2 := [.int (nI x2), .ref 111]) (w3 := w15) rfl rfl ?_
        refine sx_RP.callp (as2 := [.ref 111, .int (nI x2)]) (rest2 := []) rfl rfl (sx_inv_v2 (mi := 238) (k := 348) (st := [.int (nI x2), .ref 111]) (w := w15) rfl rfl hI16.1.o111 rfl rfl rfl) rfl rfl rfl (K239 hI16 (show x2 < 4 by omega)) (show _ = 61 from rfl) ?_
        rintro r4 w21 ⟨⟨x19, hx20, rfl⟩, hI22, hE24⟩
        have hE23 := hE17.tr (hE24)
        show sx_RP _ _ _ _ _ [.int (nI x19)] _ _
        refine sx_RP.step (pc2 := 62) (ls2 := [(3, .int (nI x19)), (2, .int 0), (0, .ref 111), (1, .int (nI x2))]) (st2 := []) (w3 := w21) rfl rfl ?_
        exact (sx_RP.ls (sx_lr.cons rfl (sx_lr.cons rfl (sx_lr.cons rfl (sx_lr.cons rfl sx_lr.nil)))) (K238L (show x2 < 4 by omega) 60 0 w21 x19 (by omega) (by omega) hI22 hE23 (by omega))).mono (fun r w2 q => ⟨q.1, q.2.1, EL.of hE hE18 q.2.2⟩)
      · replace q14 := of_decide_eq_false q14
        replace q14 := mt (nI_eq (a := x11) (b := 0) (by omega) (by omega)).mpr q14
        refine sx_RP.step (pc2 := 38) (ls2 := [(0, .ref 111), (1, .int (nI x2))]) (st2 := [.ref 111]) (w3 := w) rfl rfl ?_
        refine sx_RP.step (pc2 := 39) (ls2 := [(0, .ref 111), (1, .int (nI x2))]) (st2 := [.int 4, .ref 111]) (w3 := w) rfl rfl ?_
        refine sx_RP.callp (as2 := [.ref 111, .int 4]) (rest2 := []) rfl rfl (sx_inv_v2 (mi := 238) (k := 70) (st := [.int 4, .ref 111]) (w := w) rfl rfl hI.1.o111 rfl rfl rfl) rfl rfl rfl (K133_4 hI) (show _ = 42 from rfl) ?_
        rintro r4 w25 ⟨rfl, hI26, hE28⟩
        have hE27 := hE.tr (hE28)
        show sx_RP _ _ _ _ _ [.int (-1000000005)] _ _
        refine sx_RP.ret (r := (some (.int (-1000000005)))) rfl rfl ?_
        exact ⟨⟨_, rfl⟩, hI26, hE27.el⟩
    · replace q10 := Decidable.not_not.mp (of_decide_eq_false q10)
      refine sx_RP.step (pc2 := 23) (ls2 := [(0, .ref 111), (1, .int (nI x2))]) (st2 := [.ref 111]) (w3 := w) rfl rfl ?_
      refine sx_RP.step (pc2 := 24) (ls2 := [(0, .ref 111), (1, .int (nI x2))]) (st2 := [.int 5, .ref 111]) (w3 := w) rfl rfl ?_
      refine sx_RP.callp (as2 := [.ref 111, .int 5]) (rest2 := []) rfl rfl (sx_inv_v2 (mi := 238) (k := 70) (st := [.int 5, .ref 111]) (w := w) rfl rfl hI.1.o111 rfl rfl rfl) rfl rfl rfl (K133_5 hI) (show _ = 27 from rfl) ?_
      rintro r4 w29 ⟨rfl, hI30, hE32⟩
      have hE31 := hE.tr (hE32)
      show sx_RP _ _ _ _ _ [.int (-1000000006)] _ _
      refine sx_RP.ret (r := (some (.int (-1000000006)))) rfl rfl ?_
      exact ⟨⟨_, rfl⟩, hI30, hE31.el⟩
set_option maxRecDepth 20000 in
set_option maxHeartbeats 4000000 in
theorem K230B {xs : Option (List Int32)} {d : Nat} {w w0 : List sx_C} {k : Nat} (hk : k < 4) (hI : WI w) (hE : EK w0 w) {j : Nat} (hj : j ≤ 40) (kk : ∀ (w4 : List sx_C), WI w4 → EK w0 w4 → j + 1 ≤ 40 → sx_RP xs (d + 7) 230 83 [(0, .ref 111), (1, .int (nI k)), (4, .int (nI (j + 1)))] [] w4 (fun r w2 => (∃ v : Int32, r = some (.int v)) ∧ WI w2 ∧ EK w0 w2)) : sx_RP xs (d + 7) 230 83 [(0, .ref 111), (1, .int (nI k)), (4, .int (nI j))] [] w (fun r w2 => (∃ v : Int32, r = some (.int v)) ∧ WI w2 ∧ EK w0 w2) := by
  refine sx_RP.step (pc2 := 85) (ls2 := [(0, .ref 111), (1, .int (nI k)), (4, .int (nI j))]) (st2 := [.int (nI j)]) (w3 := w) rfl rfl ?_
  refine sx_RP.step (pc2 := 87) (ls2 := [(0, .ref 111), (1, .int (nI k)), (4, .int (nI j))]) (st2 := [.int 40, .int (nI j)]) (w3 := w) rfl rfl ?_
  refine sx_RP.br (p1 := 109) (l1 := [(0, .ref 111), (1, .int (nI k)), (4, .int (nI j))]) (s1 := []) (v1 := w) (p2 := 90) (l2 := [(0, .ref 111), (1, .int (nI k)), (4, .int (nI j))]) (s2 := []) (v2 := w) rfl rfl (fun q1 => ?_) (fun q1 => ?_)
  · replace q1 := of_decide_eq_true q1
    replace q1 := (nI_leI (a := 40) (b := j) (by omega) (by omega)).mp q1
    refine sx_RP.step (pc2 := 110) (ls2 := [(0, .ref 111), (1, .int (nI k)), (4, .int (nI j))]) (st2 := [.ref 111]) (w3 := w) rfl rfl ?_
    refine sx_RP.gf (v := .ref 123) rfl rfl hI.1.o111 rfl rfl (show _ = 113 from rfl) ?_
    refine sx_RP.step (pc2 := 114) (ls2 := [(0, .ref 111), (1, .int (nI k)), (4, .int (nI j))]) (st2 := [.int (nI k), .ref 123]) (w3 := w) rfl rfl ?_
    refine sx_RP.ild (c := k) rfl hI.1.a123.1 hI.1.a123.2 (sx_in_nI (show k < 4 by omega) (by decide)) (show (nI k).toNatClampNeg = k from nI_clamp (by omega)) (show _ = 115 from rfl) ?_
    obtain ⟨x2, hx3, ex4⟩ : inR ((ia w 123).getD k 0) 40 := hI.l (show k < 4 by omega)
    rw [ex4]
    refine sx_RP.ret (r := (some (.int (nI x2)))) rfl rfl ?_
    exact ⟨⟨_, rfl⟩, hI, hE⟩
  · replace q1 := of_decide_eq_false q1
    replace q1 := mt (nI_leI (a := 40) (b := j) (by omega) (by omega)).mpr q1
    refine sx_RP.step (pc2 := 91) (ls2 := [(0, .ref 111), (1, .int (nI k)), (4, .int (nI j))]) (st2 := [.ref 111]) (w3 := w) rfl rfl ?_
    refine sx_RP.gf (v := .ref 124) rfl rfl hI.1.o111 rfl rfl (show _ = 94 from rfl) ?_
    refine sx_RP.step (pc2 := 96) (ls2 := [(0, .ref 111), (1, .int (nI k)), (4, .int (nI j))]) (st2 := [.int 40, .ref 124]) (w3 := w) rfl rfl ?_
    refine sx_RP.step (pc2 := 97) (ls2 := [(0, .ref 111), (1, .int (nI k)), (4, .int (nI j))]) (st2 := [.int (nI k), .int 40, .ref 124]) (w3 := w) rfl rfl ?_
    refine sx_RP.step (pc2 := 98) (ls2 := [(0, .ref 111), (1, .int (nI k)), (4, .int (nI j))]) (st2 := [.int (40 * (nI k)), .ref 124]) (w3 := w) rfl rfl ?_
    rw [show (40 * (nI k) : Int32) = nI (40 * k) from nI_mul 40 k]
    refine sx_RP.step (pc2 := 100) (ls2 := [(0, .ref 111), (1, .int (nI k)), (4, .int (nI j))]) (st2 := [.int (nI j), .int (nI (40 * k)), .ref 124]) (w3 := w) rfl rfl ?_
    refine sx_RP.step (pc2 := 101) (ls2 := [(0, .ref 111), (1, .int (nI k)), (4, .int (nI j))]) (st2 := [.int ((nI (40 * k)) + (nI j)), .ref 124]) (w3 := w) rfl rfl ?_
    rw [show ((nI (40 * k)) + (nI j) : Int32) = nI ((40 * k) + j) from nI_add (40 * k) j]
    refine sx_RP.step (pc2 := 102) (ls2 := [(0, .ref 111), (1, .int (nI k)), (4, .int (nI j))]) (st2 := [.long 0, .int (nI ((40 * k) + j)), .ref 124]) (w3 := w) rfl rfl ?_
    refine sx_RP.mNFK hI hE rfl hI.1.a124 (sx_in_nI (show ((40 * k) + j) < 160 by omega) (by decide)) (by decide) (show _ = 103 from rfl) (fun w5 hI6 hE7 hk8 => ?_)
    refine sx_RP.step (pc2 := 106) (ls2 := [(4, .int ((nI j) + 1)), (0, .ref 111), (1, .int (nI k))]) (st2 := []) (w3 := w5) rfl rfl ?_
    rw [nI_1 j]
    refine sx_RP.step (pc2 := 83) (ls2 := [(4, .int (nI (j + 1))), (0, .ref 111), (1, .int (nI k))]) (st2 := []) (w3 := w5) rfl rfl ?_
    exact sx_RP.ls (sx_lr.cons rfl (sx_lr.cons rfl (sx_lr.cons rfl sx_lr.nil))) (kk w5 hI6 hE7 (by omega))
set_option maxRecDepth 20000 in
set_option maxHeartbeats 4000000 in
theorem K230L {xs : Option (List Int32)} {d : Nat} {w0 : List sx_C} {k : Nat} (hk : k < 4) : ∀ (fz j : Nat) (w : List sx_C) , 40 ≤ j + fz * 1 → j ≤ 40 → WI w → EK w0 w → sx_RP xs (d + 7) 230 83 [(0, .ref 111), (1, .int (nI k)), (4, .int (nI j))] [] w (fun r w2 => (∃ v : Int32, r = some (.int v)) ∧ WI w2 ∧ EK w0 w2)
  | 0, j, w, h, hj, hI, hE => K230B hk hI hE hj   (fun w4  hI4 hE4 hlt  => absurd hlt (by omega)) 
  | fz + 1, j, w, h, hj, hI, hE => K230B hk hI hE hj   (fun w4  hI4 hE4 hlt  => K230L hk  fz (j + 1) w4  (by omega) hlt hI4 hE4 ) 
set_option maxRecDepth 20000 in
set_option maxHeartbeats 4000000 in
theorem K230 {xs : Option (List Int32)} {d : Nat} {w : List sx_C} (hI : WI w) (a1 a2 a3 : Int32) : sx_RP xs (d + 7) 230 0 (lv_args 0 [.ref 111, .int a1, .int a2, .int a3]) [] w (fun r w2 => (∃ v : Int32, r = some (.int v)) ∧ WI w2 ∧ EK w w2) := by
  have hE : EK w w := EK.rf
  refine sx_RP.step (pc2 := 1) (ls2 := [(0, .ref 111), (1, .int a1), (2, .int a2), (3, .int a3)]) (st2 := [.int a1]) (w3 := w) rfl rfl ?_
  rcases in_cases a1 0 3 (m := 0) (n := 3) rfl rfl (by decide) (by decide) with q1 | ⟨x2, hx3, hx4, rfl⟩
  · refine sx_RP.cu (as := [.int a1]) (rest2 := []) (st3 := [.int 0]) rfl rfl rfl rfl rfl (cx_231n q1) rfl ?_
    refine sx_RP.step (pc2 := 29) (ls2 := [(0, .ref 111), (1, .int a1), (2, .int a2), (3, .int a3)]) (st2 := []) (w3 := w) rfl rfl ?_
    refine sx_RP.step (pc2 := 30) (ls2 := [(0, .ref 111), (1, .int a1), (2, .int a2), (3, .int a3)]) (st2 := [.ref 111]) (w3 := w) rfl rfl ?_
    refine sx_RP.step (pc2 := 31) (ls2 := [(0, .ref 111), (1, .int a1), (2, .int a2), (3, .int a3)]) (st2 := [.int 0, .ref 111]) (w3 := w) rfl rfl ?_
    refine sx_RP.callp (as2 := [.ref 111, .int 0]) (rest2 := []) rfl rfl (sx_inv_v2 (mi := 230) (k := 70) (st := [.int 0, .ref 111]) (w := w) rfl rfl hI.1.o111 rfl rfl rfl) rfl rfl rfl (K133_0 hI) (show _ = 34 from rfl) ?_
    rintro r4 w6 ⟨rfl, hI7, hE9⟩
    have hE8 := hE.tr (hE9)
    show sx_RP _ _ _ _ _ [.int (-1000000001)] _ _
    refine sx_RP.ret (r := (some (.int (-1000000001)))) rfl rfl ?_
    exact ⟨⟨_, rfl⟩, hI7, hE8⟩
  · refine sx_RP.cu (as := [.int (nI x2)]) (rest2 := []) (st3 := [.int 1]) rfl rfl rfl rfl rfl (cx_231p ⟨nI_le (a := 0) hx3 (by omega), nI_le (b := 3) hx4 (by decide)⟩) rfl ?_
    refine sx_RP.step (pc2 := 7) (ls2 := [(0, .ref 111), (1, .int (nI x2)), (2, .int a2), (3, .int a3)]) (st2 := []) (w3 := w) rfl rfl ?_
    refine sx_RP.step (pc2 := 8) (ls2 := [(0, .ref 111), (1, .int (nI x2)), (2, .int a2), (3, .int a3)]) (st2 := [.int a2]) (w3 := w) rfl rfl ?_
    refine sx_RP.br (p1 := 35) (l1 := [(0, .ref 111), (1, .int (nI x2)), (2, .int a2), (3, .int a3)]) (s1 := []) (v1 := w) (p2 := 11) (l2 := [(0, .ref 111), (1, .int (nI x2)), (2, .int a2), (3, .int a3)]) (s2 := []) (v2 := w) rfl rfl (fun q10 => ?_) (fun q10 => ?_)
    · replace q10 := of_decide_eq_true q10
      refine sx_RP.step (pc2 := 36) (ls2 := [(0, .ref 111), (1, .int (nI x2)), (2, .int a2), (3, .int a3)]) (st2 := [.int a3]) (w3 := w) rfl rfl ?_
      refine sx_RP.br (p1 := 46) (l1 := [(0, .ref 111), (1, .int (nI x2)), (2, .int a2), (3, .int a3)]) (s1 := []) (v1 := w) (p2 := 39) (l2 := [(0, .ref 111), (1, .int (nI x2)), (2, .int a2), (3, .int a3)]) (s2 := []) (v2 := w) rfl rfl (fun q11 => ?_) (fun q11 => ?_)
      · replace q11 := of_decide_eq_true q11
        refine sx_RP.step (pc2 := 47) (ls2 := [(0, .ref 111), (1, .int (nI x2)), (2, .int a2), (3, .int a3)]) (st2 := [.int a3]) (w3 := w) rfl rfl ?_
        refine sx_RP.step (pc2 := 49) (ls2 := [(0, .ref 111), (1, .int (nI x2)), (2, .int a2), (3, .int a3)]) (st2 := [.int 40, .int a3]) (w3 := w) rfl rfl ?_
        refine sx_RP.br (p1 := 58) (l1 := [(0, .ref 111), (1, .int (nI x2)), (2, .int a2), (3, .int a3)]) (s1 := []) (v1 := w) (p2 := 52) (l2 := [(0, .ref 111), (1, .int (nI x2)), (2, .int a2), (3, .int a3)]) (s2 := []) (v2 := w) rfl rfl (fun q12 => ?_) (fun q12 => ?_)
        · replace q12 := of_decide_eq_true q12
          refine sx_RP.step (pc2 := 59) (ls2 := [(0, .ref 111), (1, .int (nI x2)), (2, .int a2), (3, .int a3)]) (st2 := [.ref 111]) (w3 := w) rfl rfl ?_
          refine sx_RP.gf (v := .ref 122) rfl rfl hI.1.o111 rfl rfl (show _ = 62 from rfl) ?_
          refine sx_RP.step (pc2 := 63) (ls2 := [(0, .ref 111), (1, .int (nI x2)), (2, .int a2), (3, .int a3)]) (st2 := [.int (nI x2), .ref 122]) (w3 := w) rfl rfl ?_
          refine sx_RP.step (pc2 := 64) (ls2 := [(0, .ref 111), (1, .int (nI x2)), (2, .int a2), (3, .int a3)]) (st2 := [.int a2, .int (nI x2), .ref 122]) (w3 := w) rfl rfl ?_
          refine sx_RP.mFFK (a := 122) hI hE rfl hI.1.a122 (sx_in_nI (show x2 < 4 by omega) (by decide)) (by decide) (show _ = 65 from rfl) (fun w13 hI14 hE15 _ => ?_)
          refine sx_RP.step (pc2 := 66) (ls2 := [(0, .ref 111), (1, .int (nI x2)), (2, .int a2), (3, .int a3)]) (st2 := [.ref 111]) (w3 := w13) rfl rfl ?_
          refine sx_RP.gf (v := .ref 123) rfl rfl hI14.1.o111 rfl rfl (show _ = 69 from rfl) ?_
          refine sx_RP.step (pc2 := 70) (ls2 := [(0, .ref 111), (1, .int (nI x2)), (2, .int a2), (3, .int a3)]) (st2 := [.int (nI x2), .ref 123]) (w3 := w13) rfl rfl ?_
          refine sx_RP.step (pc2 := 71) (ls2 := [(0, .ref 111), (1, .int (nI x2)), (2, .int a2), (3, .int a3)]) (st2 := [.int a2, .int (nI x2), .ref 123]) (w3 := w13) rfl rfl ?_
          refine sx_RP.br (p1 := 78) (l1 := [(0, .ref 111), (1, .int (nI x2)), (2, .int a2), (3, .int a3)]) (s1 := [.int (nI x2), .ref 123]) (v1 := w13) (p2 := 74) (l2 := [(0, .ref 111), (1, .int (nI x2)), (2, .int a2), (3, .int a3)]) (s2 := [.int (nI x2), .ref 123]) (v2 := w13) rfl rfl (fun q16 => ?_) (fun q16 => ?_)
          · replace q16 := of_decide_eq_true q16
            refine sx_RP.step (pc2 := 79) (ls2 := [(0, .ref 111), (1, .int (nI x2)), (2, .int a2), (3, .int a3)]) (st2 := [.int a3, .int (nI x2), .ref 123]) (w3 := w13) rfl rfl ?_
            refine sx_RP.mSzK (k := x2) hI14 hE15 rfl (show x2 < 4 by omega) (sz_of (Int32.not_lt.mpr q11) q12) (show _ = 80 from rfl) (fun w17 hI18 hE19 => ?_)
            refine sx_RP.step (pc2 := 81) (ls2 := [(0, .ref 111), (1, .int (nI x2)), (2, .int a2), (3, .int a3)]) (st2 := [.int 0]) (w3 := w17) rfl rfl ?_
            refine sx_RP.step (pc2 := 83) (ls2 := [(4, .int 0), (0, .ref 111), (1, .int (nI x2)), (2, .int a2), (3, .int a3)]) (st2 := []) (w3 := w17) rfl rfl ?_
            exact sx_RP.ls (sx_lr.cons rfl (sx_lr.cons rfl (sx_lr.cons rfl sx_lr.nil))) (K230L (show x2 < 4 by omega) 40 0 w17  (by omega) (by omega) hI18 hE19 )
          · replace q16 := Decidable.not_not.mp (of_decide_eq_false q16)
            refine sx_RP.step (pc2 := 75) (ls2 := [(0, .ref 111), (1, .int (nI x2)), (2, .int a2), (3, .int a3)]) (st2 := [.int 0, .int (nI x2), .ref 123]) (w3 := w13) rfl rfl ?_
            refine sx_RP.step (pc2 := 79) (ls2 := [(0, .ref 111), (1, .int (nI x2)), (2, .int a2), (3, .int a3)]) (st2 := [.int 0, .int (nI x2), .ref 123]) (w3 := w13) rfl rfl ?_
            refine sx_RP.mSzK (k := x2) hI14 hE15 rfl (show x2 < 4 by omega) ⟨0, by decide, rfl⟩ (show _ = 80 from rfl) (fun w20 hI21 hE22 => ?_)
            refine sx_RP.step (pc2 := 81) (ls2 := [(0, .ref 111), (1, .int (nI x2)), (2, .int a2), (3, .int a3)]) (st2 := [.int 0]) (w3 := w20) rfl rfl ?_
            refine sx_RP.step (pc2 := 83) (ls2 := [(4, .int 0), (0, .ref 111), (1, .int (nI x2)), (2, .int a2), (3, .int a3)]) (st2 := []) (w3 := w20) rfl rfl ?_
            exact sx_RP.ls (sx_lr.cons rfl (sx_lr.cons rfl (sx_lr.cons rfl sx_lr.nil))) (K230L (show x2 < 4 by omega) 40 0 w20  (by omega) (by omega) hI21 hE22 )
        · replace q12 := of_decide_eq_false q12
          refine sx_RP.step (pc2 := 53) (ls2 := [(0, .ref 111), (1, .int (nI x2)), (2, .int a2), (3, .int a3)]) (st2 := [.ref 111]) (w3 := w) rfl rfl ?_
          refine sx_RP.step (pc2 := 54) (ls2 := [(0, .ref 111), (1, .int (nI x2)), (2, .int a2), (3, .int a3)]) (st2 := [.int 0, .ref 111]) (w3 := w) rfl rfl ?_
          refine sx_RP.callp (as2 := [.ref 111, .int 0]) (rest2 := []) rfl rfl (sx_inv_v2 (mi := 230) (k := 70) (st := [.int 0, .ref 111]) (w := w) rfl rfl hI.1.o111 rfl rfl rfl) rfl rfl rfl (K133_0 hI) (show _ = 57 from rfl) ?_
          rintro r4 w23 ⟨rfl, hI24, hE26⟩
          have hE25 := hE.tr (hE26)
          show sx_RP _ _ _ _ _ [.int (-1000000001)] _ _
          refine sx_RP.ret (r := (some (.int (-1000000001)))) rfl rfl ?_
          exact ⟨⟨_, rfl⟩, hI24, hE25⟩
      · replace q11 := of_decide_eq_false q11
        refine sx_RP.step (pc2 := 40) (ls2 := [(0, .ref 111), (1, .int (nI x2)), (2, .int a2), (3, .int a3)]) (st2 := [.ref 111]) (w3 := w) rfl rfl ?_
        refine sx_RP.step (pc2 := 42) (ls2 := [(0, .ref 111), (1, .int (nI x2)), (2, .int a2), (3, .int a3)]) (st2 := [.int 6, .ref 111]) (w3 := w) rfl rfl ?_
        refine sx_RP.callp (as2 := [.ref 111, .int 6]) (rest2 := []) rfl rfl (sx_inv_v2 (mi := 230) (k := 70) (st := [.int 6, .ref 111]) (w := w) rfl rfl hI.1.o111 rfl rfl rfl) rfl rfl rfl (K133_6 hI) (show _ = 45 from rfl) ?_
        rintro r4 w27 ⟨rfl, hI28, hE30⟩
        have hE29 := hE.tr (hE30)
        show sx_RP _ _ _ _ _ [.int (-1000000007)] _ _
        refine sx_RP.ret (r := (some (.int (-1000000007)))) rfl rfl ?_
        exact ⟨⟨_, rfl⟩, hI28, hE29⟩
    · replace q10 := of_decide_eq_false q10
      refine sx_RP.step (pc2 := 12) (ls2 := [(0, .ref 111), (1, .int (nI x2)), (2, .int a2), (3, .int a3)]) (st2 := [.int a2]) (w3 := w) rfl rfl ?_
      refine sx_RP.step (pc2 := 14) (ls2 := [(0, .ref 111), (1, .int (nI x2)), (2, .int a2), (3, .int a3)]) (st2 := [.int 8, .int a2]) (w3 := w) rfl rfl ?_
      refine sx_RP.br (p1 := 35) (l1 := [(0, .ref 111), (1, .int (nI x2)), (2, .int a2), (3, .int a3)]) (s1 := []) (v1 := w) (p2 := 17) (l2 := [(0, .ref 111), (1, .int (nI x2)), (2, .int a2), (3, .int a3)]) (s2 := []) (v2 := w) rfl rfl (fun q31 => ?_) (fun q31 => ?_)
      · replace q31 := of_decide_eq_true q31
        refine sx_RP.step (pc2 := 36) (ls2 := [(0, .ref 111), (1, .int (nI x2)), (2, .int a2), (3, .int a3)]) (st2 := [.int a3]) (w3 := w) rfl rfl ?_
        refine sx_RP.br (p1 := 46) (l1 := [(0, .ref 111), (1, .int (nI x2)), (2, .int a2), (3, .int a3)]) (s1 := []) (v1 := w) (p2 := 39) (l2 := [(0, .ref 111), (1, .int (nI x2)), (2, .int a2), (3, .int a3)]) (s2 := []) (v2 := w) rfl rfl (fun q32 => ?_) (fun q32 => ?_)
        · replace q32 := of_decide_eq_true q32
          refine sx_RP.step (pc2 := 47) (ls2 := [(0, .ref 111), (1, .int (nI x2)), (2, .int a2), (3, .int a3)]) (st2 := [.int a3]) (w3 := w) rfl rfl ?_
          refine sx_RP.step (pc2 := 49) (ls2 := [(0, .ref 111), (1, .int (nI x2)), (2, .int a2), (3, .int a3)]) (st2 := [.int 40, .int a3]) (w3 := w) rfl rfl ?_
          refine sx_RP.br (p1 := 58) (l1 := [(0, .ref 111), (1, .int (nI x2)), (2, .int a2), (3, .int a3)]) (s1 := []) (v1 := w) (p2 := 52) (l2 := [(0, .ref 111), (1, .int (nI x2)), (2, .int a2), (3, .int a3)]) (s2 := []) (v2 := w) rfl rfl (fun q33 => ?_) (fun q33 => ?_)
          · replace q33 := of_decide_eq_true q33
            refine sx_RP.step (pc2 := 59) (ls2 := [(0, .ref 111), (1, .int (nI x2)), (2, .int a2), (3, .int a3)]) (st2 := [.ref 111]) (w3 := w) rfl rfl ?_
            refine sx_RP.gf (v := .ref 122) rfl rfl hI.1.o111 rfl rfl (show _ = 62 from rfl) ?_
            refine sx_RP.step (pc2 := 63) (ls2 := [(0, .ref 111), (1, .int (nI x2)), (2, .int a2), (3, .int a3)]) (st2 := [.int (nI x2), .ref 122]) (w3 := w) rfl rfl ?_
            refine sx_RP.step (pc2 := 64) (ls2 := [(0, .ref 111), (1, .int (nI x2)), (2, .int a2), (3, .int a3)]) (st2 := [.int a2, .int (nI x2), .ref 122]) (w3 := w) rfl rfl ?_
            refine sx_RP.mFFK (a := 122) hI hE rfl hI.1.a122 (sx_in_nI (show x2 < 4 by omega) (by decide)) (by decide) (show _ = 65 from rfl) (fun w34 hI35 hE36 _ => ?_)
            refine sx_RP.step (pc2 := 66) (ls2 := [(0, .ref 111), (1, .int (nI x2)), (2, .int a2), (3, .int a3)]) (st2 := [.ref 111]) (w3 := w34) rfl rfl ?_
            refine sx_RP.gf (v := .ref 123) rfl rfl hI35.1.o111 rfl rfl (show _ = 69 from rfl) ?_
            refine sx_RP.step (pc2 := 70) (ls2 := [(0, .ref 111), (1, .int (nI x2)), (2, .int a2), (3, .int a3)]) (st2 := [.int (nI x2), .ref 123]) (w3 := w34) rfl rfl ?_
            refine sx_RP.step (pc2 := 71) (ls2 := [(0, .ref 111), (1, .int (nI x2)), (2, .int a2), (3, .int a3)]) (st2 := [.int a2, .int (nI x2), .ref 123]) (w3 := w34) rfl rfl ?_
            refine sx_RP.br (p1 := 78) (l1 := [(0, .ref 111), (1, .int (nI x2)), (2, .int a2), (3, .int a3)]) (s1 := [.int (nI x2), .ref 123]) (v1 := w34) (p2 := 74) (l2 := [(0, .ref 111), (1, .int (nI x2)), (2, .int a2), (3, .int a3)]) (s2 := [.int (nI x2), .ref 123]) (v2 := w34) rfl rfl (fun q37 => ?_) (fun q37 => ?_)
            · replace q37 := of_decide_eq_true q37
              refine sx_RP.step (pc2 := 79) (ls2 := [(0, .ref 111), (1, .int (nI x2)), (2, .int a2), (3, .int a3)]) (st2 := [.int a3, .int (nI x2), .ref 123]) (w3 := w34) rfl rfl ?_
              refine sx_RP.mSzK (k := x2) hI35 hE36 rfl (show x2 < 4 by omega) (sz_of (Int32.not_lt.mpr q32) q33) (show _ = 80 from rfl) (fun w38 hI39 hE40 => ?_)
              refine sx_RP.step (pc2 := 81) (ls2 := [(0, .ref 111), (1, .int (nI x2)), (2, .int a2), (3, .int a3)]) (st2 := [.int 0]) (w3 := w38) rfl rfl ?_
              refine sx_RP.step (pc2 := 83) (ls2 := [(4, .int 0), (0, .ref 111), (1, .int (nI x2)), (2, .int a2), (3, .int a3)]) (st2 := []) (w3 := w38) rfl rfl ?_
              exact sx_RP.ls (sx_lr.cons rfl (sx_lr.cons rfl (sx_lr.cons rfl sx_lr.nil))) (K230L (show x2 < 4 by omega) 40 0 w38  (by omega) (by omega) hI39 hE40 )
            · replace q37 := Decidable.not_not.mp (of_decide_eq_false q37)
              refine sx_RP.step (pc2 := 75) (ls2 := [(0, .ref 111), (1, .int (nI x2)), (2, .int a2), (3, .int a3)]) (st2 := [.int 0, .int (nI x2), .ref 123]) (w3 := w34) rfl rfl ?_
              refine sx_RP.step (pc2 := 79) (ls2 := [(0, .ref 111), (1, .int (nI x2)), (2, .int a2), (3, .int a3)]) (st2 := [.int 0, .int (nI x2), .ref 123]) (w3 := w34) rfl rfl ?_
              refine sx_RP.mSzK (k := x2) hI35 hE36 rfl (show x2 < 4 by omega) ⟨0, by decide, rfl⟩ (show _ = 80 from rfl) (fun w41 hI42 hE43 => ?_)
              refine sx_RP.step (pc2 := 81) (ls2 := [(0, .ref 111), (1, .int (nI x2)), (2, .int a2), (3, .int a3)]) (st2 := [.int 0]) (w3 := w41) rfl rfl ?_
              refine sx_RP.step (pc2 := 83) (ls2 := [(4, .int 0), (0, .ref 111), (1, .int (nI x2)), (2, .int a2), (3, .int a3)]) (st2 := []) (w3 := w41) rfl rfl ?_
              exact sx_RP.ls (sx_lr.cons rfl (sx_lr.cons rfl (sx_lr.cons rfl sx_lr.nil))) (K230L (show x2 < 4 by omega) 40 0 w41  (by omega) (by omega) hI42 hE43 )
          · replace q33 := of_decide_eq_false q33
            refine sx_RP.step (pc2 := 53) (ls2 := [(0, .ref 111), (1, .int (nI x2)), (2, .int a2), (3, .int a3)]) (st2 := [.ref 111]) (w3 := w) rfl rfl ?_
            refine sx_RP.step (pc2 := 54) (ls2 := [(0, .ref 111), (1, .int (nI x2)), (2, .int a2), (3, .int a3)]) (st2 := [.int 0, .ref 111]) (w3 := w) rfl rfl ?_
            refine sx_RP.callp (as2 := [.ref 111, .int 0]) (rest2 := []) rfl rfl (sx_inv_v2 (mi := 230) (k := 70) (st := [.int 0, .ref 111]) (w := w) rfl rfl hI.1.o111 rfl rfl rfl) rfl rfl rfl (K133_0 hI) (show _ = 57 from rfl) ?_
            rintro r4 w44 ⟨rfl, hI45, hE47⟩
            have hE46 := hE.tr (hE47)
            show sx_RP _ _ _ _ _ [.int (-1000000001)] _ _
            refine sx_RP.ret (r := (some (.int (-1000000001)))) rfl rfl ?_
            exact ⟨⟨_, rfl⟩, hI45, hE46⟩
        · replace q32 := of_decide_eq_false q32
          refine sx_RP.step (pc2 := 40) (ls2 := [(0, .ref 111), (1, .int (nI x2)), (2, .int a2), (3, .int a3)]) (st2 := [.ref 111]) (w3 := w) rfl rfl ?_
          refine sx_RP.step (pc2 := 42) (ls2 := [(0, .ref 111), (1, .int (nI x2)), (2, .int a2), (3, .int a3)]) (st2 := [.int 6, .ref 111]) (w3 := w) rfl rfl ?_
          refine sx_RP.callp (as2 := [.ref 111, .int 6]) (rest2 := []) rfl rfl (sx_inv_v2 (mi := 230) (k := 70) (st := [.int 6, .ref 111]) (w := w) rfl rfl hI.1.o111 rfl rfl rfl) rfl rfl rfl (K133_6 hI) (show _ = 45 from rfl) ?_
          rintro r4 w48 ⟨rfl, hI49, hE51⟩
          have hE50 := hE.tr (hE51)
          show sx_RP _ _ _ _ _ [.int (-1000000007)] _ _
          refine sx_RP.ret (r := (some (.int (-1000000007)))) rfl rfl ?_
          exact ⟨⟨_, rfl⟩, hI49, hE50⟩
      · replace q31 := of_decide_eq_false q31
        refine sx_RP.step (pc2 := 18) (ls2 := [(0, .ref 111), (1, .int (nI x2)), (2, .int a2), (3, .int a3)]) (st2 := [.int a2]) (w3 := w) rfl rfl ?_
        refine sx_RP.step (pc2 := 20) (ls2 := [(0, .ref 111), (1, .int (nI x2)), (2, .int a2), (3, .int a3)]) (st2 := [.int 16, .int a2]) (w3 := w) rfl rfl ?_
        refine sx_RP.br (p1 := 35) (l1 := [(0, .ref 111), (1, .int (nI x2)), (2, .int a2), (3, .int a3)]) (s1 := []) (v1 := w) (p2 := 23) (l2 := [(0, .ref 111), (1, .int (nI x2)), (2, .int a2), (3, .int a3)]) (s2 := []) (v2 := w) rfl rfl (fun q52 => ?_) (fun q52 => ?_)
        · replace q52 := of_decide_eq_true q52
          refine sx_RP.step (pc2 := 36) (ls2 := [(0, .ref 111), (1, .int (nI x2)), (2, .int a2), (3, .int a3)]) (st2 := [.int a3]) (w3 := w) rfl rfl ?_
          refine sx_RP.br (p1 := 46) (l1 := [(0, .ref 111), (1, .int (nI x2)), (2, .int a2), (3, .int a3)]) (s1 := []) (v1 := w) (p2 := 39) (l2 := [(0, .ref 111), (1, .int (nI x2)), (2, .int a2), (3, .int a3)]) (s2 := []) (v2 := w) rfl rfl (fun q53 => ?_) (fun q53 => ?_)
          · replace q53 := of_decide_eq_true q53
            refine sx_RP.step (pc2 := 47) (ls2 := [(0, .ref 111), (1, .int (nI x2)), (2, .int a2), (3, .int a3)]) (st2 := [.int a3]) (w3 := w) rfl rfl ?_
            refine sx_RP.step (pc2 := 49) (ls2 := [(0, .ref 111), (1, .int (nI x2)), (2, .int a2), (3, .int a3)]) (st2 := [.int 40, .int a3]) (w3 := w) rfl rfl ?_
            refine sx_RP.br (p1 := 58) (l1 := [(0, .ref 111), (1, .int (nI x2)), (2, .int a2), (3, .int a3)]) (s1 := []) (v1 := w) (p2 := 52) (l2 := [(0, .ref 111), (1, .int (nI x2)), (2, .int a2), (3, .int a3)]) (s2 := []) (v2 := w) rfl rfl (fun q54 => ?_) (fun q54 => ?_)
            · replace q54 := of_decide_eq_true q54
              refine sx_RP.step (pc2 := 59) (ls2 := [(0, .ref 111), (1, .int (nI x2)), (2, .int a2), (3, .int a3)]) (st2 := [.ref 111]) (w3 := w) rfl rfl ?_
              refine sx_RP.gf (v := .ref 122) rfl rfl hI.1.o111 rfl rfl (show _ = 62 from rfl) ?_
              refine sx_RP.step (pc2 := 63) (ls2 := [(0, .ref 111), (1, .int (nI x2)), (2, .int a2), (3, .int a3)]) (st2 := [.int (nI x2), .ref 122]) (w3 := w) rfl rfl ?_
              refine sx_RP.step (pc2 := 64) (ls2 := [(0, .ref 111), (1, .int (nI x2)), (2, .int a2), (3, .int a3)]) (st2 := [.int a2, .int (nI x2), .ref 122]) (w3 := w) rfl rfl ?_
              refine sx_RP.mFFK (a := 122) hI hE rfl hI.1.a122 (sx_in_nI (show x2 < 4 by omega) (by decide)) (by decide) (show _ = 65 from rfl) (fun w55 hI56 hE57 _ => ?_)
              refine sx_RP.step (pc2 := 66) (ls2 := [(0, .ref 111), (1, .int (nI x2)), (2, .int a2), (3, .int a3)]) (st2 := [.ref 111]) (w3 := w55) rfl rfl ?_
              refine sx_RP.gf (v := .ref 123) rfl rfl hI56.1.o111 rfl rfl (show _ = 69 from rfl) ?_
              refine sx_RP.step (pc2 := 70) (ls2 := [(0, .ref 111), (1, .int (nI x2)), (2, .int a2), (3, .int a3)]) (st2 := [.int (nI x2), .ref 123]) (w3 := w55) rfl rfl ?_
              refine sx_RP.step (pc2 := 71) (ls2 := [(0, .ref 111), (1, .int (nI x2)), (2, .int a2), (3, .int a3)]) (st2 := [.int a2, .int (nI x2), .ref 123]) (w3 := w55) rfl rfl ?_
              refine sx_RP.br (p1 := 78) (l1 := [(0, .ref 111), (1, .int (nI x2)), (2, .int a2), (3, .int a3)]) (s1 := [.int (nI x2), .ref 123]) (v1 := w55) (p2 := 74) (l2 := [(0, .ref 111), (1, .int (nI x2)), (2, .int a2), (3, .int a3)]) (s2 := [.int (nI x2), .ref 123]) (v2 := w55) rfl rfl (fun q58 => ?_) (fun q58 => ?_)
              · replace q58 := of_decide_eq_true q58
                refine sx_RP.step (pc2 := 79) (ls2 := [(0, .ref 111), (1, .int (nI x2)), (2, .int a2), (3, .int a3)]) (st2 := [.int a3, .int (nI x2), .ref 123]) (w3 := w55) rfl rfl ?_
                refine sx_RP.mSzK (k := x2) hI56 hE57 rfl (show x2 < 4 by omega) (sz_of (Int32.not_lt.mpr q53) q54) (show _ = 80 from rfl) (fun w59 hI60 hE61 => ?_)
                refine sx_RP.step (pc2 := 81) (ls2 := [(0, .ref 111), (1, .int (nI x2)), (2, .int a2), (3, .int a3)]) (st2 := [.int 0]) (w3 := w59) rfl rfl ?_
                refine sx_RP.step (pc2 := 83) (ls2 := [(4, .int 0), (0, .ref 111), (1, .int (nI x2)), (2, .int a2), (3, .int a3)]) (st2 := []) (w3 := w59) rfl rfl ?_
                exact sx_RP.ls (sx_lr.cons rfl (sx_lr.cons rfl (sx_lr.cons rfl sx_lr.nil))) (K230L (show x2 < 4 by omega) 40 0 w59  (by omega) (by omega) hI60 hE61 )
              · replace q58 := Decidable.not_not.mp (of_decide_eq_false q58)
                refine sx_RP.step (pc2 := 75) (ls2 := [(0, .ref 111), (1, .int (nI x2)), (2, .int a2), (3, .int a3)]) (st2 := [.int 0, .int (nI x2), .ref 123]) (w3 := w55) rfl rfl ?_
                refine sx_RP.step (pc2 := 79) (ls2 := [(0, .ref 111), (1, .int (nI x2)), (2, .int a2), (3, .int a3)]) (st2 := [.int 0, .int (nI x2), .ref 123]) (w3 := w55) rfl rfl ?_
                refine sx_RP.mSzK (k := x2) hI56 hE57 rfl (show x2 < 4 by omega) ⟨0, by decide, rfl⟩ (show _ = 80 from rfl) (fun w62 hI63 hE64 => ?_)
                refine sx_RP.step (pc2 := 81) (ls2 := [(0, .ref 111), (1, .int (nI x2)), (2, .int a2), (3, .int a3)]) (st2 := [.int 0]) (w3 := w62) rfl rfl ?_
                refine sx_RP.step (pc2 := 83) (ls2 := [(4, .int 0), (0, .ref 111), (1, .int (nI x2)), (2, .int a2), (3, .int a3)]) (st2 := []) (w3 := w62) rfl rfl ?_
                exact sx_RP.ls (sx_lr.cons rfl (sx_lr.cons rfl (sx_lr.cons rfl sx_lr.nil))) (K230L (show x2 < 4 by omega) 40 0 w62  (by omega) (by omega) hI63 hE64 )
            · replace q54 := of_decide_eq_false q54
              refine sx_RP.step (pc2 := 53) (ls2 := [(0, .ref 111), (1, .int (nI x2)), (2, .int a2), (3, .int a3)]) (st2 := [.ref 111]) (w3 := w) rfl rfl ?_
              refine sx_RP.step (pc2 := 54) (ls2 := [(0, .ref 111), (1, .int (nI x2)), (2, .int a2), (3, .int a3)]) (st2 := [.int 0, .ref 111]) (w3 := w) rfl rfl ?_
              refine sx_RP.callp (as2 := [.ref 111, .int 0]) (rest2 := []) rfl rfl (sx_inv_v2 (mi := 230) (k := 70) (st := [.int 0, .ref 111]) (w := w) rfl rfl hI.1.o111 rfl rfl rfl) rfl rfl rfl (K133_0 hI) (show _ = 57 from rfl) ?_
              rintro r4 w65 ⟨rfl, hI66, hE68⟩
              have hE67 := hE.tr (hE68)
              show sx_RP _ _ _ _ _ [.int (-1000000001)] _ _
              refine sx_RP.ret (r := (some (.int (-1000000001)))) rfl rfl ?_
              exact ⟨⟨_, rfl⟩, hI66, hE67⟩
          · replace q53 := of_decide_eq_false q53
            refine sx_RP.step (pc2 := 40) (ls2 := [(0, .ref 111), (1, .int (nI x2)), (2, .int a2), (3, .int a3)]) (st2 := [.ref 111]) (w3 := w) rfl rfl ?_
            refine sx_RP.step (pc2 := 42) (ls2 := [(0, .ref 111), (1, .int (nI x2)), (2, .int a2), (3, .int a3)]) (st2 := [.int 6, .ref 111]) (w3 := w) rfl rfl ?_
            refine sx_RP.callp (as2 := [.ref 111, .int 6]) (rest2 := []) rfl rfl (sx_inv_v2 (mi := 230) (k := 70) (st := [.int 6, .ref 111]) (w := w) rfl rfl hI.1.o111 rfl rfl rfl) rfl rfl rfl (K133_6 hI) (show _ = 45 from rfl) ?_
            rintro r4 w69 ⟨rfl, hI70, hE72⟩
            have hE71 := hE.tr (hE72)
            show sx_RP _ _ _ _ _ [.int (-1000000007)] _ _
            refine sx_RP.ret (r := (some (.int (-1000000007)))) rfl rfl ?_
            exact ⟨⟨_, rfl⟩, hI70, hE71⟩
        · replace q52 := of_decide_eq_false q52
          refine sx_RP.step (pc2 := 24) (ls2 := [(0, .ref 111), (1, .int (nI x2)), (2, .int a2), (3, .int a3)]) (st2 := [.int a2]) (w3 := w) rfl rfl ?_
          refine sx_RP.step (pc2 := 26) (ls2 := [(0, .ref 111), (1, .int (nI x2)), (2, .int a2), (3, .int a3)]) (st2 := [.int 64, .int a2]) (w3 := w) rfl rfl ?_
          refine sx_RP.br (p1 := 35) (l1 := [(0, .ref 111), (1, .int (nI x2)), (2, .int a2), (3, .int a3)]) (s1 := []) (v1 := w) (p2 := 29) (l2 := [(0, .ref 111), (1, .int (nI x2)), (2, .int a2), (3, .int a3)]) (s2 := []) (v2 := w) rfl rfl (fun q73 => ?_) (fun q73 => ?_)
          · replace q73 := of_decide_eq_true q73
            refine sx_RP.step (pc2 := 36) (ls2 := [(0, .ref 111), (1, .int (nI x2)), (2, .int a2), (3, .int a3)]) (st2 := [.int a3]) (w3 := w) rfl rfl ?_
            refine sx_RP.br (p1 := 46) (l1 := [(0, .ref 111), (1, .int (nI x2)), (2, .int a2), (3, .int a3)]) (s1 := []) (v1 := w) (p2 := 39) (l2 := [(0, .ref 111), (1, .int (nI x2)), (2, .int a2), (3, .int a3)]) (s2 := []) (v2 := w) rfl rfl (fun q74 => ?_) (fun q74 => ?_)
            · replace q74 := of_decide_eq_true q74
              refine sx_RP.step (pc2 := 47) (ls2 := [(0, .ref 111), (1, .int (nI x2)), (2, .int a2), (3, .int a3)]) (st2 := [.int a3]) (w3 := w) rfl rfl ?_
              refine sx_RP.step (pc2 := 49) (ls2 := [(0, .ref 111), (1, .int (nI x2)), (2, .int a2), (3, .int a3)]) (st2 := [.int 40, .int a3]) (w3 := w) rfl rfl ?_
              refine sx_RP.br (p1 := 58) (l1 := [(0, .ref 111), (1, .int (nI x2)), (2, .int a2), (3, .int a3)]) (s1 := []) (v1 := w) (p2 := 52) (l2 := [(0, .ref 111), (1, .int (nI x2)), (2, .int a2), (3, .int a3)]) (s2 := []) (v2 := w) rfl rfl (fun q75 => ?_) (fun q75 => ?_)
              · replace q75 := of_decide_eq_true q75
                refine sx_RP.step (pc2 := 59) (ls2 := [(0, .ref 111), (1, .int (nI x2)), (2, .int a2), (3, .int a3)]) (st2 := [.ref 111]) (w3 := w) rfl rfl ?_
                refine sx_RP.gf (v := .ref 122) rfl rfl hI.1.o111 rfl rfl (show _ = 62 from rfl) ?_
                refine sx_RP.step (pc2 := 63) (ls2 := [(0, .ref 111), (1, .int (nI x2)), (2, .int a2), (3, .int a3)]) (st2 := [.int (nI x2), .ref 122]) (w3 := w) rfl rfl ?_
                refine sx_RP.step (pc2 := 64) (ls2 := [(0, .ref 111), (1, .int (nI x2)), (2, .int a2), (3, .int a3)]) (st2 := [.int a2, .int (nI x2), .ref 122]) (w3 := w) rfl rfl ?_
                refine sx_RP.mFFK (a := 122) hI hE rfl hI.1.a122 (sx_in_nI (show x2 < 4 by omega) (by decide)) (by decide) (show _ = 65 from rfl) (fun w76 hI77 hE78 _ => ?_)
                refine sx_RP.step (pc2 := 66) (ls2 := [(0, .ref 111), (1, .int (nI x2)), (2, .int a2), (3, .int a3)]) (st2 := [.ref 111]) (w3 := w76) rfl rfl ?_
                refine sx_RP.gf (v := .ref 123) rfl rfl hI77.1.o111 rfl rfl (show _ = 69 from rfl) ?_
                refine sx_RP.step (pc2 := 70) (ls2 := [(0, .ref 111), (1, .int (nI x2)), (2, .int a2), (3, .int a3)]) (st2 := [.int (nI x2), .ref 123]) (w3 := w76) rfl rfl ?_
                refine sx_RP.step (pc2 := 71) (ls2 := [(0, .ref 111), (1, .int (nI x2)), (2, .int a2), (3, .int a3)]) (st2 := [.int a2, .int (nI x2), .ref 123]) (w3 := w76) rfl rfl ?_
                refine sx_RP.br (p1 := 78) (l1 := [(0, .ref 111), (1, .int (nI x2)), (2, .int a2), (3, .int a3)]) (s1 := [.int (nI x2), .ref 123]) (v1 := w76) (p2 := 74) (l2 := [(0, .ref 111), (1, .int (nI x2)), (2, .int a2), (3, .int a3)]) (s2 := [.int (nI x2), .ref 123]) (v2 := w76) rfl rfl (fun q79 => ?_) (fun q79 => ?_)
                · replace q79 := of_decide_eq_true q79
                  refine sx_RP.step (pc2 := 79) (ls2 := [(0, .ref 111), (1, .int (nI x2)), (2, .int a2), (3, .int a3)]) (st2 := [.int a3, .int (nI x2), .ref 123]) (w3 := w76) rfl rfl ?_
                  refine sx_RP.mSzK (k := x2) hI77 hE78 rfl (show x2 < 4 by omega) (sz_of (Int32.not_lt.mpr q74) q75) (show _ = 80 from rfl) (fun w80 hI81 hE82 => ?_)
                  refine sx_RP.step (pc2 := 81) (ls2 := [(0, .ref 111), (1, .int (nI x2)), (2, .int a2), (3, .int a3)]) (st2 := [.int 0]) (w3 := w80) rfl rfl ?_
                  refine sx_RP.step (pc2 := 83) (ls2 := [(4, .int 0), (0, .ref 111), (1, .int (nI x2)), (2, .int a2), (3, .int a3)]) (st2 := []) (w3 := w80) rfl rfl ?_
                  exact sx_RP.ls (sx_lr.cons rfl (sx_lr.cons rfl (sx_lr.cons rfl sx_lr.nil))) (K230L (show x2 < 4 by omega) 40 0 w80  (by omega) (by omega) hI81 hE82 )
                · replace q79 := Decidable.not_not.mp (of_decide_eq_false q79)
                  refine sx_RP.step (pc2 := 75) (ls2 := [(0, .ref 111), (1, .int (nI x2)), (2, .int a2), (3, .int a3)]) (st2 := [.int 0, .int (nI x2), .ref 123]) (w3 := w76) rfl rfl ?_
                  refine sx_RP.step (pc2 := 79) (ls2 := [(0, .ref 111), (1, .int (nI x2)), (2, .int a2), (3, .int a3)]) (st2 := [.int 0, .int (nI x2), .ref 123]) (w3 := w76) rfl rfl ?_
                  refine sx_RP.mSzK (k := x2) hI77 hE78 rfl (show x2 < 4 by omega) ⟨0, by decide, rfl⟩ (show _ = 80 from rfl) (fun w83 hI84 hE85 => ?_)
                  refine sx_RP.step (pc2 := 81) (ls2 := [(0, .ref 111), (1, .int (nI x2)), (2, .int a2), (3, .int a3)]) (st2 := [.int 0]) (w3 := w83) rfl rfl ?_
                  refine sx_RP.step (pc2 := 83) (ls2 := [(4, .int 0), (0, .ref 111), (1, .int (nI x2)), (2, .int a2), (3, .int a3)]) (st2 := []) (w3 := w83) rfl rfl ?_
                  exact sx_RP.ls (sx_lr.cons rfl (sx_lr.cons rfl (sx_lr.cons rfl sx_lr.nil))) (K230L (show x2 < 4 by omega) 40 0 w83  (by omega) (by omega) hI84 hE85 )
              · replace q75 := of_decide_eq_false q75
                refine sx_RP.step (pc2 := 53) (ls2 := [(0, .ref 111), (1, .int (nI x2)), (2, .int a2), (3, .int a3)]) (st2 := [.ref 111]) (w3 := w) rfl rfl ?_
                refine sx_RP.step (pc2 := 54) (ls2 := [(0, .ref 111), (1, .int (nI x2)), (2, .int a2), (3, .int a3)]) (st2 := [.int 0, .ref 111]) (w3 := w) rfl rfl ?_
                refine sx_RP.callp (as2 := [.ref 111, .int 0]) (rest2 := []) rfl rfl (sx_inv_v2 (mi := 230) (k := 70) (st := [.int 0, .ref 111]) (w := w) rfl rfl hI.1.o111 rfl rfl rfl) rfl rfl rfl (K133_0 hI) (show _ = 57 from rfl) ?_
                rintro r4 w86 ⟨rfl, hI87, hE89⟩
                have hE88 := hE.tr (hE89)
                show sx_RP _ _ _ _ _ [.int (-1000000001)] _ _
                refine sx_RP.ret (r := (some (.int (-1000000001)))) rfl rfl ?_
                exact ⟨⟨_, rfl⟩, hI87, hE88⟩
            · replace q74 := of_decide_eq_false q74
              refine sx_RP.step (pc2 := 40) (ls2 := [(0, .ref 111), (1, .int (nI x2)), (2, .int a2), (3, .int a3)]) (st2 := [.ref 111]) (w3 := w) rfl rfl ?_
              refine sx_RP.step (pc2 := 42) (ls2 := [(0, .ref 111), (1, .int (nI x2)), (2, .int a2), (3, .int a3)]) (st2 := [.int 6, .ref 111]) (w3 := w) rfl rfl ?_
              refine sx_RP.callp (as2 := [.ref 111, .int 6]) (rest2 := []) rfl rfl (sx_inv_v2 (mi := 230) (k := 70) (st := [.int 6, .ref 111]) (w := w) rfl rfl hI.1.o111 rfl rfl rfl) rfl rfl rfl (K133_6 hI) (show _ = 45 from rfl) ?_
              rintro r4 w90 ⟨rfl, hI91, hE93⟩
              have hE92 := hE.tr (hE93)
              show sx_RP _ _ _ _ _ [.int (-1000000007)] _ _
              refine sx_RP.ret (r := (some (.int (-1000000007)))) rfl rfl ?_
              exact ⟨⟨_, rfl⟩, hI91, hE92⟩
          · replace q73 := of_decide_eq_false q73
            refine sx_RP.step (pc2 := 30) (ls2 := [(0, .ref 111), (1, .int (nI x2)), (2, .int a2), (3, .int a3)]) (st2 := [.ref 111]) (w3 := w) rfl rfl ?_
            refine sx_RP.step (pc2 := 31) (ls2 := [(0, .ref 111), (1, .int (nI x2)), (2, .int a2), (3, .int a3)]) (st2 := [.int 0, .ref 111]) (w3 := w) rfl rfl ?_
            refine sx_RP.callp (as2 := [.ref 111, .int 0]) (rest2 := []) rfl rfl (sx_inv_v2 (mi := 230) (k := 70) (st := [.int 0, .ref 111]) (w := w) rfl rfl hI.1.o111 rfl rfl rfl) rfl rfl rfl (K133_0 hI) (show _ = 34 from rfl) ?_
            rintro r4 w94 ⟨rfl, hI95, hE97⟩
            have hE96 := hE.tr (hE97)
            show sx_RP _ _ _ _ _ [.int (-1000000001)] _ _
            refine sx_RP.ret (r := (some (.int (-1000000001)))) rfl rfl ?_
            exact ⟨⟨_, rfl⟩, hI95, hE96⟩
