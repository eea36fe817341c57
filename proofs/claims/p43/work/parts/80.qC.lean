theorem Q16 {xs : Option (List Int32)} {d : Nat} {w : List sx_C} (hI : WI w) {A : Nat} (hA : isA A) : sx_RP xs d 16 0 (lv_args 0 [.ref 44, .ref (A + 1)]) [] w (fun r w2 => r = none ∧ WI w2 ∧ EQ w w2) := by
  have h45 := hI.1.a45
  have h95 := hI.1.a95
  have hS := hI.1.aS hA
  have h1 : A + 1 ≠ 45 ∧ A + 1 ≠ 95 := by unfold isA at hA; omega
  have c := cp_16 (xs := xs) (d := d) hI.1.o44 h45.1 h95.1 hS.1 h1.1 h1.2 hS.2 (hI.st4 hA) h45.2 h95.2
  have e1 : (ftF (ia w (A + 1)) 48 0 (ia w 45, 1)).1.length = 48 := ftF_len 48 0 (ia w 45, 1) h45.2
  refine c.rp ⟨rfl, ?_, ?_⟩
  · refine (hI.fr h45.1 (by rw [e1, h45.2]) (by decide)).fr (sx_gn2 (by decide) h95.1) (by rw [knF_len h95.2, h95.2]) (by decide)
  · exact (EQ.rf.fr h45.1 (by decide)).fr (sx_gn2 (by decide) h95.1) (by decide)
theorem Q17 {xs : Option (List Int32)} {d : Nat} {w : List sx_C} (hI : WI w) {t : Nat} (ht : t < 48) : sx_RP xs (d + 3) 17 0 (lv_args 0 [.ref 44, .int (nI t)]) [] w (fun r w2 => r = some (.ref (47 + t)) ∧ WI w2 ∧ EQ w w2) := by
  have h45 := hI.1.a45
  have h95 := hI.1.a95
  have hR := hI.1.aR ht
  by_cases hk : (ia w 95).getD t 0 = 0
  · have c := cp_17 (xs := xs) (d := d) hI.1.o44 h45.1 hI.1.a46 h95.1 hR.1 h45.2 h95.2 ht hR.2 hk
    refine c.rp ⟨rfl, ?_, ?_⟩
    · exact (hI.fr h95.1 (List.length_set ..) (by decide)).fr (sx_gn2 (by omega) hR.1) (by rw [adF_len 48 0 _ (spF_len hR.2), hR.2]) (by omega)
    · exact (EQ.rf.fr h95.1 (by decide)).fr (sx_gn2 (by omega) hR.1) (by omega)
  · have c := cp_17k (xs := xs) (d := d + 3) hI.1.o44 h45.1 hI.1.a46 h95.1 hR.1 h45.2 h95.2 ht hk
    exact c.rp ⟨rfl, hI, EQ.rf⟩
theorem Q18 {xs : Option (List Int32)} {d : Nat} {w : List sx_C} (hI : WI w) {t : Nat} (ht : t < 48) : sx_RP xs (d + 2) 18 0 (lv_args 0 [.int (nI t), .ref 100, .ref 101]) [] w (fun r w2 => r = none ∧ WI w2 ∧ EQ w w2) := by
  have h1 := hI.1.a100
  have h2 := hI.1.a101
  have c := cp_18 (xs := xs) (d := d) h1.1 h2.1 (by decide) h1.2 h2.2 ht
  refine c.rp ⟨rfl, ?_, ?_⟩
  · exact hI.fr h2.1 (by rw [spF_len h2.2, h2.2]) (by decide)
  · exact EQ.rf.fr h2.1 (by decide)
set_option maxRecDepth 20000 in
set_option maxHeartbeats 4000000 in
theorem Q9_0 {xs : Option (List Int32)} {d : Nat} {w : List sx_C} (hI : WI w) : sx_RP xs (d + 1) 9 0 (lv_args 0 [.ref 0, .int (-1000000001)]) [] w (fun r w2 => (r = some (.int (-1000000001))) ∧ WI w2 ∧ EQ w w2) := by
  have hE : EQ w w := EQ.rf
  refine sx_RP.step (pc2 := 2) (ls2 := [(0, .ref 0), (1, .int (-1000000001))]) (st2 := [.int (-1000000001)]) (w3 := w) rfl rfl ?_
  refine sx_RP.step (pc2 := 3) (ls2 := [(0, .ref 0), (1, .int (-1000000001))]) (st2 := [.int (-1000000001), .int (-1000000001)]) (w3 := w) rfl rfl ?_
  refine sx_RP.step (pc2 := 4) (ls2 := [(0, .ref 0), (1, .int (-1000000001))]) (st2 := [.int 0]) (w3 := w) rfl rfl ?_
  refine sx_RP.step (pc2 := 5) (ls2 := [(2, .int 0), (0, .ref 0), (1, .int (-1000000001))]) (st2 := []) (w3 := w) rfl rfl ?_
  refine sx_RP.step (pc2 := 6) (ls2 := [(2, .int 0), (0, .ref 0), (1, .int (-1000000001))]) (st2 := [.int 0]) (w3 := w) rfl rfl ?_
  refine sx_RP.step (pc2 := 7) (ls2 := [(2, .int 0), (0, .ref 0), (1, .int (-1000000001))]) (st2 := [.int 0, .int 0]) (w3 := w) rfl rfl ?_
  refine sx_RP.step (pc2 := 9) (ls2 := [(2, .int 0), (0, .ref 0), (1, .int (-1000000001))]) (st2 := [.int 6, .int 0, .int 0]) (w3 := w) rfl rfl ?_
  refine sx_RP.cu (as := [.int 0, .int 0, .int 6]) (rest2 := []) (st3 := [.int 1]) rfl rfl rfl rfl rfl (cx_8p (by decide)) rfl ?_
  refine sx_RP.step (pc2 := 15) (ls2 := [(2, .int 0), (0, .ref 0), (1, .int (-1000000001))]) (st2 := []) (w3 := w) rfl rfl ?_
  refine sx_RP.step (pc2 := 16) (ls2 := [(2, .int 0), (0, .ref 0), (1, .int (-1000000001))]) (st2 := [.ref 0]) (w3 := w) rfl rfl ?_
  refine sx_RP.gf (v := .ref 99) rfl rfl hI.1.o0 rfl rfl (show _ = 19 from rfl) ?_
  refine sx_RP.step (pc2 := 20) (ls2 := [(2, .int 0), (0, .ref 0), (1, .int (-1000000001))]) (st2 := [.int 0, .ref 99]) (w3 := w) rfl rfl ?_
  refine sx_RP.step (pc2 := 21) (ls2 := [(2, .int 0), (0, .ref 0), (1, .int (-1000000001))]) (st2 := [.int 0, .ref 99, .int 0, .ref 99]) (w3 := w) rfl rfl ?_
  refine sx_RP.ild (c := 0) rfl hI.1.a99.1 hI.1.a99.2 (sx_in_nI (show 0 < 7 by omega) (by decide)) (show (nI 0).toNatClampNeg = 0 from nI_clamp (by omega)) (show _ = 22 from rfl) ?_
  refine sx_RP.step (pc2 := 23) (ls2 := [(2, .int 0), (0, .ref 0), (1, .int (-1000000001))]) (st2 := [.int 1, .int ((ia w 99).getD 0 0), .int 0, .ref 99]) (w3 := w) rfl rfl ?_
  refine sx_RP.step (pc2 := 24) (ls2 := [(2, .int 0), (0, .ref 0), (1, .int (-1000000001))]) (st2 := [.int (((ia w 99).getD 0 0) + 1), .int 0, .ref 99]) (w3 := w) rfl rfl ?_
  refine sx_RP.stFQ hI hE (by omega) rfl hI.1.a99 (sx_in_nI (show 0 < 7 by omega) (by decide)) (by omega) (show _ = 25 from rfl) (fun w1 hI2 hE3 => ?_)
  refine sx_RP.step (pc2 := 26) (ls2 := [(2, .int 0), (0, .ref 0), (1, .int (-1000000001))]) (st2 := [.int (-1000000001)]) (w3 := w1) rfl rfl ?_
  refine sx_RP.ret (r := (some (.int (-1000000001)))) rfl rfl ?_
  exact ⟨rfl, hI2, hE3⟩
set_option maxRecDepth 20000 in
set_option maxHeartbeats 4000000 in
theorem Q9_1 {xs : Option (List Int32)} {d : Nat} {w : List sx_C} (hI : WI w) : sx_RP xs (d + 1) 9 0 (lv_args 0 [.ref 0, .int (-1000000002)]) [] w (fun r w2 => (r = some (.int (-1000000002))) ∧ WI w2 ∧ EQ w w2) := by
  have hE : EQ w w := EQ.rf
  refine sx_RP.step (pc2 := 2) (ls2 := [(0, .ref 0), (1, .int (-1000000002))]) (st2 := [.int (-1000000001)]) (w3 := w) rfl rfl ?_
  refine sx_RP.step (pc2 := 3) (ls2 := [(0, .ref 0), (1, .int (-1000000002))]) (st2 := [.int (-1000000002), .int (-1000000001)]) (w3 := w) rfl rfl ?_
  refine sx_RP.step (pc2 := 4) (ls2 := [(0, .ref 0), (1, .int (-1000000002))]) (st2 := [.int 1]) (w3 := w) rfl rfl ?_
  refine sx_RP.step (pc2 := 5) (ls2 := [(2, .int 1), (0, .ref 0), (1, .int (-1000000002))]) (st2 := []) (w3 := w) rfl rfl ?_
  refine sx_RP.step (pc2 := 6) (ls2 := [(2, .int 1), (0, .ref 0), (1, .int (-1000000002))]) (st2 := [.int 1]) (w3 := w) rfl rfl ?_
  refine sx_RP.step (pc2 := 7) (ls2 := [(2, .int 1), (0, .ref 0), (1, .int (-1000000002))]) (st2 := [.int 0, .int 1]) (w3 := w) rfl rfl ?_
  refine sx_RP.step (pc2 := 9) (ls2 := [(2, .int 1), (0, .ref 0), (1, .int (-1000000002))]) (st2 := [.int 6, .int 0, .int 1]) (w3 := w) rfl rfl ?_
  refine sx_RP.cu (as := [.int 1, .int 0, .int 6]) (rest2 := []) (st3 := [.int 1]) rfl rfl rfl rfl rfl (cx_8p (by decide)) rfl ?_
  refine sx_RP.step (pc2 := 15) (ls2 := [(2, .int 1), (0, .ref 0), (1, .int (-1000000002))]) (st2 := []) (w3 := w) rfl rfl ?_
  refine sx_RP.step (pc2 := 16) (ls2 := [(2, .int 1), (0, .ref 0), (1, .int (-1000000002))]) (st2 := [.ref 0]) (w3 := w) rfl rfl ?_
  refine sx_RP.gf (v := .ref 99) rfl rfl hI.1.o0 rfl rfl (show _ = 19 from rfl) ?_
  refine sx_RP.step (pc2 := 20) (ls2 := [(2, .int 1), (0, .ref 0), (1, .int (-1000000002))]) (st2 := [.int 1, .ref 99]) (w3 := w) rfl rfl ?_
  refine sx_RP.step (pc2 := 21) (ls2 := [(2, .int 1), (0, .ref 0), (1, .int (-1000000002))]) (st2 := [.int 1, .ref 99, .int 1, .ref 99]) (w3 := w) rfl rfl ?_
  refine sx_RP.ild (c := 1) rfl hI.1.a99.1 hI.1.a99.2 (sx_in_nI (show 1 < 7 by omega) (by decide)) (show (nI 1).toNatClampNeg = 1 from nI_clamp (by omega)) (show _ = 22 from rfl) ?_
  refine sx_RP.step (pc2 := 23) (ls2 := [(2, .int 1), (0, .ref 0), (1, .int (-1000000002))]) (st2 := [.int 1, .int ((ia w 99).getD 1 0), .int 1, .ref 99]) (w3 := w) rfl rfl ?_
  refine sx_RP.step (pc2 := 24) (ls2 := [(2, .int 1), (0, .ref 0), (1, .int (-1000000002))]) (st2 := [.int (((ia w 99).getD 1 0) + 1), .int 1, .ref 99]) (w3 := w) rfl rfl ?_
  refine sx_RP.stFQ hI hE (by omega) rfl hI.1.a99 (sx_in_nI (show 1 < 7 by omega) (by decide)) (by omega) (show _ = 25 from rfl) (fun w1 hI2 hE3 => ?_)
  refine sx_RP.step (pc2 := 26) (ls2 := [(2, .int 1), (0, .ref 0), (1, .int (-1000000002))]) (st2 := [.int (-1000000002)]) (w3 := w1) rfl rfl ?_
  refine sx_RP.ret (r := (some (.int (-1000000002)))) rfl rfl ?_
  exact ⟨rfl, hI2, hE3⟩
set_option maxRecDepth 20000 in
set_option maxHeartbeats 4000000 in
theorem Q9_2 {xs : Option (List Int32)} {d : Nat} {w : List sx_C} (hI : WI w) : sx_RP xs (d + 1) 9 0 (lv_args 0 [.ref 0, .int (-1000000003)]) [] w (fun r w2 => (r = some (.int (-1000000003))) ∧ WI w2 ∧ EQ w w2) := by
  have hE : EQ w w := EQ.rf
  refine sx_RP.step (pc2 := 2) (ls2 := [(0, .ref 0), (1, .int (-1000000003))]) (st2 := [.int (-1000000001)]) (w3 := w) rfl rfl ?_
  refine sx_RP.step (pc2 := 3) (ls2 := [(0, .ref 0), (1, .int (-1000000003))]) (st2 := [.int (-1000000003), .int (-1000000001)]) (w3 := w) rfl rfl ?_
  refine sx_RP.step (pc2 := 4) (ls2 := [(0, .ref 0), (1, .int (-1000000003))]) (st2 := [.int 2]) (w3 := w) rfl rfl ?_
  refine sx_RP.step (pc2 := 5) (ls2 := [(2, .int 2), (0, .ref 0), (1, .int (-1000000003))]) (st2 := []) (w3 := w) rfl rfl ?_
  refine sx_RP.step (pc2 := 6) (ls2 := [(2, .int 2), (0, .ref 0), (1, .int (-1000000003))]) (st2 := [.int 2]) (w3 := w) rfl rfl ?_
  refine sx_RP.step (pc2 := 7) (ls2 := [(2, .int 2), (0, .ref 0), (1, .int (-1000000003))]) (st2 := [.int 0, .int 2]) (w3 := w) rfl rfl ?_
  refine sx_RP.step (pc2 := 9) (ls2 := [(2, .int 2), (0, .ref 0), (1, .int (-1000000003))]) (st2 := [.int 6, .int 0, .int 2]) (w3 := w) rfl rfl ?_
  refine sx_RP.cu (as := [.int 2, .int 0, .int 6]) (rest2 := []) (st3 := [.int 1]) rfl rfl rfl rfl rfl (cx_8p (by decide)) rfl ?_
  refine sx_RP.step (pc2 := 15) (ls2 := [(2, .int 2), (0, .ref 0), (1, .int (-1000000003))]) (st2 := []) (w3 := w) rfl rfl ?_
  refine sx_RP.step (pc2 := 16) (ls2 := [(2, .int 2), (0, .ref 0), (1, .int (-1000000003))]) (st2 := [.ref 0]) (w3 := w) rfl rfl ?_
  refine sx_RP.gf (v := .ref 99) rfl rfl hI.1.o0 rfl rfl (show _ = 19 from rfl) ?_
  refine sx_RP.step (pc2 := 20) (ls2 := [(2, .int 2), (0, .ref 0), (1, .int (-1000000003))]) (st2 := [.int 2, .ref 99]) (w3 := w) rfl rfl ?_
  refine sx_RP.step (pc2 := 21) (ls2 := [(2, .int 2), (0, .ref 0), (1, .int (-1000000003))]) (st2 := [.int 2, .ref 99, .int 2, .ref 99]) (w3 := w) rfl rfl ?_
  refine sx_RP.ild (c := 2) rfl hI.1.a99.1 hI.1.a99.2 (sx_in_nI (show 2 < 7 by omega) (by decide)) (show (nI 2).toNatClampNeg = 2 from nI_clamp (by omega)) (show _ = 22 from rfl) ?_
  refine sx_RP.step (pc2 := 23) (ls2 := [(2, .int 2), (0, .ref 0), (1, .int (-1000000003))]) (st2 := [.int 1, .int ((ia w 99).getD 2 0), .int 2, .ref 99]) (w3 := w) rfl rfl ?_
  refine sx_RP.step (pc2 := 24) (ls2 := [(2, .int 2), (0, .ref 0), (1, .int (-1000000003))]) (st2 := [.int (((ia w 99).getD 2 0) + 1), .int 2, .ref 99]) (w3 := w) rfl rfl ?_
  refine sx_RP.stFQ hI hE (by omega) rfl hI.1.a99 (sx_in_nI (show 2 < 7 by omega) (by decide)) (by omega) (show _ = 25 from rfl) (fun w1 hI2 hE3 => ?_)
  refine sx_RP.step (pc2 := 26) (ls2 := [(2, .int 2), (0, .ref 0), (1, .int (-1000000003))]) (st2 := [.int (-1000000003)]) (w3 := w1) rfl rfl ?_
  refine sx_RP.ret (r := (some (.int (-1000000003)))) rfl rfl ?_
  exact ⟨rfl, hI2, hE3⟩
set_option maxRecDepth 20000 in
set_option maxHeartbeats 4000000 in
theorem Q9_3 {xs : Option (List Int32)} {d : Nat} {w : List sx_C} (hI : WI w) : sx_RP xs (d + 1) 9 0 (lv_args 0 [.ref 0, .int (-1000000004)]) [] w (fun r w2 => (r = some (.int (-1000000004))) ∧ WI w2 ∧ EQ w w2) := by
  have hE : EQ w w := EQ.rf
  refine sx_RP.step (pc2 := 2) (ls2 := [(0, .ref 0), (1, .int (-1000000004))]) (st2 := [.int (-1000000001)]) (w3 := w) rfl rfl ?_
  refine sx_RP.step (pc2 := 3) (ls2 := [(0, .ref 0), (1, .int (-1000000004))]) (st2 := [.int (-1000000004), .int (-1000000001)]) (w3 := w) rfl rfl ?_
  refine sx_RP.step (pc2 := 4) (ls2 := [(0, .ref 0), (1, .int (-1000000004))]) (st2 := [.int 3]) (w3 := w) rfl rfl ?_
  refine sx_RP.step (pc2 := 5) (ls2 := [(2, .int 3), (0, .ref 0), (1, .int (-1000000004))]) (st2 := []) (w3 := w) rfl rfl ?_
  refine sx_RP.step (pc2 := 6) (ls2 := [(2, .int 3), (0, .ref 0), (1, .int (-1000000004))]) (st2 := [.int 3]) (w3 := w) rfl rfl ?_
  refine sx_RP.step (pc2 := 7) (ls2 := [(2, .int 3), (0, .ref 0), (1, .int (-1000000004))]) (st2 := [.int 0, .int 3]) (w3 := w) rfl rfl ?_
  refine sx_RP.step (pc2 := 9) (ls2 := [(2, .int 3), (0, .ref 0), (1, .int (-1000000004))]) (st2 := [.int 6, .int 0, .int 3]) (w3 := w) rfl rfl ?_
  refine sx_RP.cu (as := [.int 3, .int 0, .int 6]) (rest2 := []) (st3 := [.int 1]) rfl rfl rfl rfl rfl (cx_8p (by decide)) rfl ?_
  refine sx_RP.step (pc2 := 15) (ls2 := [(2, .int 3), (0, .ref 0), (1, .int (-1000000004))]) (st2 := []) (w3 := w) rfl rfl ?_
  refine sx_RP.step (pc2 := 16) (ls2 := [(2, .int 3), (0, .ref 0), (1, .int (-1000000004))]) (st2 := [.ref 0]) (w3 := w) rfl rfl ?_
  refine sx_RP.gf (v := .ref 99) rfl rfl hI.1.o0 rfl rfl (show _ = 19 from rfl) ?_
  refine sx_RP.step (pc2 := 20) (ls2 := [(2, .int 3), (0, .ref 0), (1, .int (-1000000004))]) (st2 := [.int 3, .ref 99]) (w3 := w) rfl rfl ?_
  refine sx_RP.step (pc2 := 21) (ls2 := [(2, .int 3), (0, .ref 0), (1, .int (-1000000004))]) (st2 := [.int 3, .ref 99, .int 3, .ref 99]) (w3 := w) rfl rfl ?_
  refine sx_RP.ild (c := 3) rfl hI.1.a99.1 hI.1.a99.2 (sx_in_nI (show 3 < 7 by omega) (by decide)) (show (nI 3).toNatClampNeg = 3 from nI_clamp (by omega)) (show _ = 22 from rfl) ?_
  refine sx_RP.step (pc2 := 23) (ls2 := [(2, .int 3), (0, .ref 0), (1, .int (-1000000004))]) (st2 := [.int 1, .int ((ia w 99).getD 3 0), .int 3, .ref 99]) (w3 := w) rfl rfl ?_
  refine sx_RP.step (pc2 := 24) (ls2 := [(2, .int 3), (0, .ref 0), (1, .int (-1000000004))]) (st2 := [.int (((ia w 99).getD 3 0) + 1), .int 3, .ref 99]) (w3 := w) rfl rfl ?_
  refine sx_RP.stFQ hI hE (by omega) rfl hI.1.a99 (sx_in_nI (show 3 < 7 by omega) (by decide)) (by omega) (show _ = 25 from rfl) (fun w1 hI2 hE3 => ?_)
  refine sx_RP.step (pc2 := 26) (ls2 := [(2, .int 3), (0, .ref 0), (1, .int (-1000000004))]) (st2 := [.int (-1000000004)]) (w3 := w1) rfl rfl ?_
  refine sx_RP.ret (r := (some (.int (-1000000004)))) rfl rfl ?_
  exact ⟨rfl, hI2, hE3⟩
set_option maxRecDepth 20000 in
set_option maxHeartbeats 4000000 in
theorem Q9_4 {xs : Option (List Int32)} {d : Nat} {w : List sx_C} (hI : WI w) : sx_RP xs (d + 1) 9 0 (lv_args 0 [.ref 0, .int (-1000000005)]) [] w (fun r w2 => (r = some (.int (-1000000005))) ∧ WI w2 ∧ EQ w w2) := by
  have hE : EQ w w := EQ.rf
  refine sx_RP.step (pc2 := 2) (ls2 := [(0, .ref 0), (1, .int (-1000000005))]) (st2 := [.int (-1000000001)]) (w3 := w) rfl rfl ?_
  refine sx_RP.step (pc2 := 3) (ls2 := [(0, .ref 0), (1, .int (-1000000005))]) (st2 := [.int (-1000000005), .int (-1000000001)]) (w3 := w) rfl rfl ?_
  refine sx_RP.step (pc2 := 4) (ls2 := [(0, .ref 0), (1, .int (-1000000005))]) (st2 := [.int 4]) (w3 := w) rfl rfl ?_
  refine sx_RP.step (pc2 := 5) (ls2 := [(2, .int 4), (0, .ref 0), (1, .int (-1000000005))]) (st2 := []) (w3 := w) rfl rfl ?_
  refine sx_RP.step (pc2 := 6) (ls2 := [(2, .int 4), (0, .ref 0), (1, .int (-1000000005))]) (st2 := [.int 4]) (w3 := w) rfl rfl ?_
  refine sx_RP.step (pc2 := 7) (ls2 := [(2, .int 4), (0, .ref 0), (1, .int (-1000000005))]) (st2 := [.int 0, .int 4]) (w3 := w) rfl rfl ?_
  refine sx_RP.step (pc2 := 9) (ls2 := [(2, .int 4), (0, .ref 0), (1, .int (-1000000005))]) (st2 := [.int 6, .int 0, .int 4]) (w3 := w) rfl rfl ?_
  refine sx_RP.cu (as := [.int 4, .int 0, .int 6]) (rest2 := []) (st3 := [.int 1]) rfl rfl rfl rfl rfl (cx_8p (by decide)) rfl ?_
  refine sx_RP.step (pc2 := 15) (ls2 := [(2, .int 4), (0, .ref 0), (1, .int (-1000000005))]) (st2 := []) (w3 := w) rfl rfl ?_
  refine sx_RP.step (pc2 := 16) (ls2 := [(2, .int 4), (0, .ref 0), (1, .int (-1000000005))]) (st2 := [.ref 0]) (w3 := w) rfl rfl ?_
  refine sx_RP.gf (v := .ref 99) rfl rfl hI.1.o0 rfl rfl (show _ = 19 from rfl) ?_
  refine sx_RP.step (pc2 := 20) (ls2 := [(2, .int 4), (0, .ref 0), (1, .int (-1000000005))]) (st2 := [.int 4, .ref 99]) (w3 := w) rfl rfl ?_
  refine sx_RP.step (pc2 := 21) (ls2 := [(2, .int 4), (0, .ref 0), (1, .int (-1000000005))]) (st2 := [.int 4, .ref 99, .int 4, .ref 99]) (w3 := w) rfl rfl ?_
  refine sx_RP.ild (c := 4) rfl hI.1.a99.1 hI.1.a99.2 (sx_in_nI (show 4 < 7 by omega) (by decide)) (show (nI 4).toNatClampNeg = 4 from nI_clamp (by omega)) (show _ = 22 from rfl) ?_
  refine sx_RP.step (pc2 := 23) (ls2 := [(2, .int 4), (0, .ref 0), (1, .int (-1000000005))]) (st2 := [.int 1, .int ((ia w 99).getD 4 0), .int 4, .ref 99]) (w3 := w) rfl rfl ?_
  refine sx_RP.step (pc2 := 24) (ls2 := [(2, .int 4), (0, .ref 0), (1, .int (-1000000005))]) (st2 := [.int (((ia w 99).getD 4 0) + 1), .int 4, .ref 99]) (w3 := w) rfl rfl ?_
  refine sx_RP.stFQ hI hE (by omega) rfl hI.1.a99 (sx_in_nI (show 4 < 7 by omega) (by decide)) (by omega) (show _ = 25 from rfl) (fun w1 hI2 hE3 => ?_)
  refine sx_RP.step (pc2 := 26) (ls2 := [(2, .int 4), (0, .ref 0), (1, .int (-1000000005))]) (st2 := [.int (-1000000005)]) (w3 := w1) rfl rfl ?_
  refine sx_RP.ret (r := (some (.int (-1000000005)))) rfl rfl ?_
  exact ⟨rfl, hI2, hE3⟩
set_option maxRecDepth 20000 in
set_option maxHeartbeats 4000000 in
theorem Q9_5 {xs : Option (List Int32)} {d : Nat} {w : List sx_C} (hI : WI w) : sx_RP xs (d + 1) 9 0 (lv_args 0 [.ref 0, .int (-1000000006)]) [] w (fun r w2 => (r = some (.int (-1000000006))) ∧ WI w2 ∧ EQ w w2) := by
  have hE : EQ w w := EQ.rf
  refine sx_RP.step (pc2 := 2) (ls2 := [(0, .ref 0), (1, .int (-1000000006))]) (st2 := [.int (-1000000001)]) (w3 := w) rfl rfl ?_
  refine sx_RP.step (pc2 := 3) (ls2 := [(0, .ref 0), (1, .int (-1000000006))]) (st2 := [.int (-1000000006), .int (-1000000001)]) (w3 := w) rfl rfl ?_
  refine sx_RP.step (pc2 := 4) (ls2 := [(0, .ref 0), (1, .int (-1000000006))]) (st2 := [.int 5]) (w3 := w) rfl rfl ?_
  refine sx_RP.step (pc2 := 5) (ls2 := [(2, .int 5), (0, .ref 0), (1, .int (-1000000006))]) (st2 := []) (w3 := w) rfl rfl ?_
  refine sx_RP.step (pc2 := 6) (ls2 := [(2, .int 5), (0, .ref 0), (1, .int (-1000000006))]) (st2 := [.int 5]) (w3 := w) rfl rfl ?_
  refine sx_RP.step (pc2 := 7) (ls2 := [(2, .int 5), (0, .ref 0), (1, .int (-1000000006))]) (st2 := [.int 0, .int 5]) (w3 := w) rfl rfl ?_
  refine sx_RP.step (pc2 := 9) (ls2 := [(2, .int 5), (0, .ref 0), (1, .int (-1000000006))]) (st2 := [.int 6, .int 0, .int 5]) (w3 := w) rfl rfl ?_
  refine sx_RP.cu (as := [.int 5, .int 0, .int 6]) (rest2 := []) (st3 := [.int 1]) rfl rfl rfl rfl rfl (cx_8p (by decide)) rfl ?_
  refine sx_RP.step (pc2 := 15) (ls2 := [(2, .int 5), (0, .ref 0), (1, .int (-1000000006))]) (st2 := []) (w3 := w) rfl rfl ?_
  refine sx_RP.step (pc2 := 16) (ls2 := [(2, .int 5), (0, .ref 0), (1, .int (-1000000006))]) (st2 := [.ref 0]) (w3 := w) rfl rfl ?_
  refine sx_RP.gf (v := .ref 99) rfl rfl hI.1.o0 rfl rfl (show _ = 19 from rfl) ?_
  refine sx_RP.step (pc2 := 20) (ls2 := [(2, .int 5), (0, .ref 0), (1, .int (-1000000006))]) (st2 := [.int 5, .ref 99]) (w3 := w) rfl rfl ?_
  refine sx_RP.step (pc2 := 21) (ls2 := [(2, .int 5), (0, .ref 0), (1, .int (-1000000006))]) (st2 := [.int 5, .ref 99, .int 5, .ref 99]) (w3 := w) rfl rfl ?_
  refine sx_RP.ild (c := 5) rfl hI.1.a99.1 hI.1.a99.2 (sx_in_nI (show 5 < 7 by omega) (by decide)) (show (nI 5).toNatClampNeg = 5 from nI_clamp (by omega)) (show _ = 22 from rfl) ?_
  refine sx_RP.step (pc2 := 23) (ls2 := [(2, .int 5), (0, .ref 0), (1, .int (-1000000006))]) (st2 := [.int 1, .int ((ia w 99).getD 5 0), .int 5, .ref 99]) (w3 := w) rfl rfl ?_
  refine sx_RP.step (pc2 := 24) (ls2 := [(2, .int 5), (0, .ref 0), (1, .int (-1000000006))]) (st2 := [.int (((ia w 99).getD 5 0) + 1), .int 5, .ref 99]) (w3 := w) rfl rfl ?_
  refine sx_RP.stFQ hI hE (by omega) rfl hI.1.a99 (sx_in_nI (show 5 < 7 by omega) (by decide)) (by omega) (show _ = 25 from rfl) (fun w1 hI2 hE3 => ?_)
  refine sx_RP.step (pc2 := 26) (ls2 := [(2, .int 5), (0, .ref 0), (1, .int (-1000000006))]) (st2 := [.int (-1000000006)]) (w3 := w1) rfl rfl ?_
  refine sx_RP.ret (r := (some (.int (-1000000006)))) rfl rfl ?_
  exact ⟨rfl, hI2, hE3⟩
set_option maxRecDepth 20000 in
set_option maxHeartbeats 4000000 in
theorem Q9_6 {xs : Option (List Int32)} {d : Nat} {w : List sx_C} (hI : WI w) : sx_RP xs (d + 1) 9 0 (lv_args 0 [.ref 0, .int (-1000000007)]) [] w (fun r w2 => (r = some (.int (-1000000007))) ∧ WI w2 ∧ EQ w w2) := by
  have hE : EQ w w := EQ.rf
  refine sx_RP.step (pc2 := 2) (ls2 := [(0, .ref 0), (1, .int (-1000000007))]) (st2 := [.int (-1000000001)]) (w3 := w) rfl rfl ?_
  refine sx_RP.step (pc2 := 3) (ls2 := [(0, .ref 0), (1, .int (-1000000007))]) (st2 := [.int (-1000000007), .int (-1000000001)]) (w3 := w) rfl rfl ?_
  refine sx_RP.step (pc2 := 4) (ls2 := [(0, .ref 0), (1, .int (-1000000007))]) (st2 := [.int 6]) (w3 := w) rfl rfl ?_
  refine sx_RP.step (pc2 := 5) (ls2 := [(2, .int 6), (0, .ref 0), (1, .int (-1000000007))]) (st2 := []) (w3 := w) rfl rfl ?_
  refine sx_RP.step (pc2 := 6) (ls2 := [(2, .int 6), (0, .ref 0), (1, .int (-1000000007))]) (st2 := [.int 6]) (w3 := w) rfl rfl ?_
  refine sx_RP.step (pc2 := 7) (ls2 := [(2, .int 6), (0, .ref 0), (1, .int (-1000000007))]) (st2 := [.int 0, .int 6]) (w3 := w) rfl rfl ?_
  refine sx_RP.step (pc2 := 9) (ls2 := [(2, .int 6), (0, .ref 0), (1, .int (-1000000007))]) (st2 := [.int 6, .int 0, .int 6]) (w3 := w) rfl rfl ?_
  refine sx_RP.cu (as := [.int 6, .int 0, .int 6]) (rest2 := []) (st3 := [.int 1]) rfl rfl rfl rfl rfl (cx_8p (by decide)) rfl ?_
  refine sx_RP.step (pc2 := 15) (ls2 := [(2, .int 6), (0, .ref 0), (1, .int (-1000000007))]) (st2 := []) (w3 := w) rfl rfl ?_
  refine sx_RP.step (pc2 := 16) (ls2 := [(2, .int 6), (0, .ref 0), (1, .int (-1000000007))]) (st2 := [.ref 0]) (w3 := w) rfl rfl ?_
  refine sx_RP.gf (v := .ref 99) rfl rfl hI.1.o0 rfl rfl (show _ = 19 from rfl) ?_
  refine sx_RP.step (pc2 := 20) (ls2 := [(2, .int 6), (0, .ref 0), (1, .int (-1000000007))]) (st2 := [.int 6, .ref 99]) (w3 := w) rfl rfl ?_
  refine sx_RP.step (pc2 := 21) (ls2 := [(2, .int 6), (0, .ref 0), (1, .int (-1000000007))]) (st2 := [.int 6, .ref 99, .int 6, .ref 99]) (w3 := w) rfl rfl ?_
  refine sx_RP.ild (c := 6) rfl hI.1.a99.1 hI.1.a99.2 (sx_in_nI (show 6 < 7 by omega) (by decide)) (show (nI 6).toNatClampNeg = 6 from nI_clamp (by omega)) (show _ = 22 from rfl) ?_
  refine sx_RP.step (pc2 := 23) (ls2 := [(2, .int 6), (0, .ref 0), (1, .int (-1000000007))]) (st2 := [.int 1, .int ((ia w 99).getD 6 0), .int 6, .ref 99]) (w3 := w) rfl rfl ?_
  refine sx_RP.step (pc2 := 24) (ls2 := [(2, .int 6), (0, .ref 0), (1, .int (-1000000007))]) (st2 := [.int (((ia w 99).getD 6 0) + 1), .int 6, .ref 99]) (w3 := w) rfl rfl ?_
  refine sx_RP.stFQ hI hE (by omega) rfl hI.1.a99 (sx_in_nI (show 6 < 7 by omega) (by decide)) (by omega) (show _ = 25 from rfl) (fun w1 hI2 hE3 => ?_)
  refine sx_RP.step (pc2 := 26) (ls2 := [(2, .int 6), (0, .ref 0), (1, .int (-1000000007))]) (st2 := [.int (-1000000007)]) (w3 := w1) rfl rfl ?_
  refine sx_RP.ret (r := (some (.int (-1000000007)))) rfl rfl ?_
  exact ⟨rfl, hI2, hE3⟩
set_option maxRecDepth 20000 in
set_option maxHeartbeats 4000000 in
theorem Q51 {xs : Option (List Int32)} {d : Nat} {w : List sx_C} (hI : WI w) {ga gb : Nat} (hg : gAd ga) (hb : gAd gb) (hz : 29 ≤ ga) : sx_RP xs d 51 0 (lv_args 0 [.ref ga, .ref gb]) [] w (fun r w2 => (r = none) ∧ WI w2 ∧ EQ w w2) := by
  have hE : EQ w w := EQ.rf
  refine sx_RP.step (pc2 := 1) (ls2 := [(0, .ref ga), (1, .ref gb)]) (st2 := [.ref ga]) (w3 := w) rfl rfl ?_
  refine sx_RP.step (pc2 := 2) (ls2 := [(0, .ref ga), (1, .ref gb)]) (st2 := [.ref gb, .ref ga]) (w3 := w) rfl rfl ?_
  refine sx_RP.gg (k := 0) hI hb rfl rfl (by decide) (show _ = 5 from rfl) ?_
  obtain ⟨x1, hx2, ex3⟩ : inR (fi w gb 0) 5 := hI.gk (k := 0) hb (by decide)
  rw [ex3]
  refine sx_RP.pgQ (k := 0) hI hE (by omega) hg rfl rfl (by decide) rfl (inR.n (show x1 ≤ 5 by omega)) (show _ = 8 from rfl) (fun w4 hI5 hE6 hk7 => ?_)
  refine sx_RP.step (pc2 := 9) (ls2 := [(0, .ref ga), (1, .ref gb)]) (st2 := [.ref ga]) (w3 := w4) rfl rfl ?_
  refine sx_RP.step (pc2 := 10) (ls2 := [(0, .ref ga), (1, .ref gb)]) (st2 := [.ref gb, .ref ga]) (w3 := w4) rfl rfl ?_
  refine sx_RP.gg (k := 1) hI5 hb rfl rfl (by decide) (show _ = 13 from rfl) ?_
  obtain ⟨x8, hx9, ex10⟩ : inR (fi w4 gb 1) 1 := hI5.gk (k := 1) hb (by decide)
  rw [ex10]
  refine sx_RP.pgQ (k := 1) hI5 hE6 (by omega) hg rfl rfl (by decide) rfl (inR.n (show x8 ≤ 1 by omega)) (show _ = 16 from rfl) (fun w11 hI12 hE13 hk14 => ?_)
  refine sx_RP.step (pc2 := 17) (ls2 := [(0, .ref ga), (1, .ref gb)]) (st2 := [.ref ga]) (w3 := w11) rfl rfl ?_
  refine sx_RP.step (pc2 := 18) (ls2 := [(0, .ref ga), (1, .ref gb)]) (st2 := [.ref gb, .ref ga]) (w3 := w11) rfl rfl ?_
  refine sx_RP.gg (k := 2) hI12 hb rfl rfl (by decide) (show _ = 21 from rfl) ?_
  obtain ⟨x15, hx16, ex17⟩ : inR (fi w11 gb 2) 47 := hI12.gk (k := 2) hb (by decide)
  rw [ex17]
  refine sx_RP.pgQ (k := 2) hI12 hE13 (by omega) hg rfl rfl (by decide) rfl (inR.n (show x15 ≤ 47 by omega)) (show _ = 24 from rfl) (fun w18 hI19 hE20 hk21 => ?_)
  refine sx_RP.step (pc2 := 25) (ls2 := [(0, .ref ga), (1, .ref gb)]) (st2 := [.ref ga]) (w3 := w18) rfl rfl ?_
  refine sx_RP.step (pc2 := 26) (ls2 := [(0, .ref ga), (1, .ref gb)]) (st2 := [.ref gb, .ref ga]) (w3 := w18) rfl rfl ?_
  refine sx_RP.gg (k := 3) hI19 hb rfl rfl (by decide) (show _ = 29 from rfl) ?_
  obtain ⟨x22, hx23, ex24⟩ : inR (fi w18 gb 3) 3 := hI19.gk (k := 3) hb (by decide)
  rw [ex24]
  refine sx_RP.pgQ (k := 3) hI19 hE20 (by omega) hg rfl rfl (by decide) rfl (inR.n (show x22 ≤ 3 by omega)) (show _ = 32 from rfl) (fun w25 hI26 hE27 hk28 => ?_)
  refine sx_RP.step (pc2 := 33) (ls2 := [(0, .ref ga), (1, .ref gb)]) (st2 := [.ref ga]) (w3 := w25) rfl rfl ?_
  refine sx_RP.step (pc2 := 34) (ls2 := [(0, .ref ga), (1, .ref gb)]) (st2 := [.ref gb, .ref ga]) (w3 := w25) rfl rfl ?_
  refine sx_RP.gg (k := 4) hI26 hb rfl rfl (by decide) (show _ = 37 from rfl) ?_
  refine sx_RP.pgQ (k := 4) hI26 hE27 (by omega) hg rfl rfl (by decide) rfl trivial (show _ = 40 from rfl) (fun w29 hI30 hE31 hk32 => ?_)
  refine sx_RP.step (pc2 := 41) (ls2 := [(0, .ref ga), (1, .ref gb)]) (st2 := [.ref ga]) (w3 := w29) rfl rfl ?_
  refine sx_RP.step (pc2 := 42) (ls2 := [(0, .ref ga), (1, .ref gb)]) (st2 := [.ref gb, .ref ga]) (w3 := w29) rfl rfl ?_
  refine sx_RP.gg (k := 5) hI30 hb rfl rfl (by decide) (show _ = 45 from rfl) ?_
  obtain ⟨x33, hx34, ex35⟩ : inR (fi w29 gb 5) 1 := hI30.gk (k := 5) hb (by decide)
  rw [ex35]
  refine sx_RP.pgQ (k := 5) hI30 hE31 (by omega) hg rfl rfl (by decide) rfl (inR.n (show x33 ≤ 1 by omega)) (show _ = 48 from rfl) (fun w36 hI37 hE38 hk39 => ?_)
  refine sx_RP.ret (r := none) rfl rfl ?_
  exact ⟨rfl, hI37, hE38⟩
set_option maxRecDepth 20000 in
set_option maxHeartbeats 4000000 in
theorem Q44 {xs : Option (List Int32)} {d : Nat} {w : List sx_C} (hI : WI w) {A : Nat} (hA : isA A) {ga : Nat} (hg : gAd ga) (hz : 29 ≤ ga) : sx_RP xs (d + 4) 44 0 (lv_args 0 [.ref A, .ref ga]) [] w (fun r w2 => (r = none) ∧ WI w2 ∧ EQ w w2) := by
  have hE : EQ w w := EQ.rf
  refine sx_RP.step (pc2 := 1) (ls2 := [(0, .ref A), (1, .ref ga)]) (st2 := [.ref ga]) (w3 := w) rfl rfl ?_
  refine sx_RP.gg (k := 2) hI hg rfl rfl (by decide) (show _ = 4 from rfl) ?_
  obtain ⟨x1, hx2, ex3⟩ : inR (fi w ga 2) 47 := hI.gk (k := 2) hg (by decide)
  rw [ex3]
  refine sx_RP.step (pc2 := 5) (ls2 := [(0, .ref A), (1, .ref ga)]) (st2 := [.ref ga, .int (nI x1)]) (w3 := w) rfl rfl ?_
  refine sx_RP.gg (k := 3) hI hg rfl rfl (by decide) (show _ = 8 from rfl) ?_
  obtain ⟨x4, hx5, ex6⟩ : inR (fi w ga 3) 3 := hI.gk (k := 3) hg (by decide)
  rw [ex6]
  rcases bes_cases (c := x1) (j := x4) (by omega) (by omega) with q7 | ⟨x8, hx9, q7⟩
  · refine sx_RP.cu (as := [.int (nI x1), .int (nI x4)]) (rest2 := []) (st3 := [.int (-1)]) rfl rfl rfl rfl rfl (cb_20e (by omega) (by omega) q7) rfl ?_
    refine sx_RP.step (pc2 := 12) (ls2 := [(2, .int (-1)), (0, .ref A), (1, .ref ga)]) (st2 := []) (w3 := w) rfl rfl ?_
    refine sx_RP.step (pc2 := 13) (ls2 := [(2, .int (-1)), (0, .ref A), (1, .ref ga)]) (st2 := [.int (-1)]) (w3 := w) rfl rfl ?_
    refine sx_RP.step (pc2 := 14) (ls2 := [(2, .int (-1)), (0, .ref A), (1, .ref ga)]) (st2 := [.int (-1), .int (-1)]) (w3 := w) rfl rfl ?_
    refine sx_RP.step (pc2 := 17) (ls2 := [(2, .int (-1)), (0, .ref A), (1, .ref ga)]) (st2 := []) (w3 := w) rfl rfl ?_
    refine sx_RP.ret (r := none) rfl rfl ?_
    exact ⟨rfl, hI, hE⟩
  · refine sx_RP.cu (as := [.int (nI x1), .int (nI x4)]) (rest2 := []) (st3 := [.int (nI x8)]) rfl rfl rfl rfl rfl (cb_20e (by omega) (by omega) q7) rfl ?_
    refine sx_RP.step (pc2 := 12) (ls2 := [(2, .int (nI x8)), (0, .ref A), (1, .ref ga)]) (st2 := []) (w3 := w) rfl rfl ?_
    refine sx_RP.step (pc2 := 13) (ls2 := [(2, .int (nI x8)), (0, .ref A), (1, .ref ga)]) (st2 := [.int (nI x8)]) (w3 := w) rfl rfl ?_
    refine sx_RP.step (pc2 := 14) (ls2 := [(2, .int (nI x8)), (0, .ref A), (1, .ref ga)]) (st2 := [.int (-1), .int (nI x8)]) (w3 := w) rfl rfl ?_
    refine sx_RP.br (p1 := 18) (l1 := [(2, .int (nI x8)), (0, .ref A), (1, .ref ga)]) (s1 := []) (v1 := w) rfl rfl (fun _ => ?_) (fun q => absurd (nI_ne1 (by omega)) (of_decide_eq_false q))
    refine sx_RP.step (pc2 := 19) (ls2 := [(2, .int (nI x8)), (0, .ref A), (1, .ref ga)]) (st2 := [.ref A]) (w3 := w) rfl rfl ?_
    refine sx_RP.gref (k := 0) (b := A + 1) hI hA rfl rfl (by omega) (show _ = 22 from rfl) ?_
    refine sx_RP.step (pc2 := 23) (ls2 := [(2, .int (nI x8)), (0, .ref A), (1, .ref ga)]) (st2 := [.int (nI x8), .ref (A + 1)]) (w3 := w) rfl rfl ?_
    refine sx_RP.ild (c := x8) rfl (hI.1.aS hA).1 (hI.1.aS hA).2 (sx_in_nI (show x8 < 48 by omega) (by decide)) (show (nI x8).toNatClampNeg = x8 from nI_clamp (by omega)) (show _ = 24 from rfl) ?_
    obtain ⟨x10, hx11, ex12⟩ : inR ((ia w (A + 1)).getD x8 0) 3 := hI.st hA (show x8 < 48 by omega)
    rw [ex12]
    refine sx_RP.step (pc2 := 25) (ls2 := [(2, .int (nI x8)), (0, .ref A), (1, .ref ga)]) (st2 := [.int 3, .int (nI x10)]) (w3 := w) rfl rfl ?_
    refine sx_RP.br (p1 := 34) (l1 := [(2, .int (nI x8)), (0, .ref A), (1, .ref ga)]) (s1 := []) (v1 := w) (p2 := 28) (l2 := [(2, .int (nI x8)), (0, .ref A), (1, .ref ga)]) (s2 := []) (v2 := w) rfl rfl (fun q13 => ?_) (fun q13 => ?_)
    · replace q13 := of_decide_eq_true q13
      replace q13 := mt (nI_eq (a := x10) (b := 3) (by omega) (by omega)).mpr q13
      refine sx_RP.step (pc2 := 35) (ls2 := [(2, .int (nI x8)), (0, .ref A), (1, .ref ga)]) (st2 := [.ref ga]) (w3 := w) rfl rfl ?_
      refine sx_RP.step (pc2 := 36) (ls2 := [(2, .int (nI x8)), (0, .ref A), (1, .ref ga)]) (st2 := [.ref ga, .ref ga]) (w3 := w) rfl rfl ?_
      refine sx_RP.gg (k := 4) hI hg rfl rfl (by decide) (show _ = 39 from rfl) ?_
      refine sx_RP.step (pc2 := 40) (ls2 := [(2, .int (nI x8)), (0, .ref A), (1, .ref ga)]) (st2 := [.int 1, .int (fi w ga 4), .ref ga]) (w3 := w) rfl rfl ?_
      refine sx_RP.step (pc2 := 41) (ls2 := [(2, .int (nI x8)), (0, .ref A), (1, .ref ga)]) (st2 := [.int ((fi w ga 4) + 1), .ref ga]) (w3 := w) rfl rfl ?_
      refine sx_RP.pgQ (k := 4) hI hE (by omega) hg rfl rfl (by decide) rfl trivial (show _ = 44 from rfl) (fun w14 hI15 hE16 hk17 => ?_)
      refine sx_RP.step (pc2 := 45) (ls2 := [(2, .int (nI x8)), (0, .ref A), (1, .ref ga)]) (st2 := [.ref ga]) (w3 := w14) rfl rfl ?_
      refine sx_RP.gg (k := 4) hI15 hg rfl rfl (by decide) (show _ = 48 from rfl) ?_
      refine sx_RP.step (pc2 := 49) (ls2 := [(2, .int (nI x8)), (0, .ref A), (1, .ref ga)]) (st2 := [.ref A, .int (fi w14 ga 4)]) (w3 := w14) rfl rfl ?_
      refine sx_RP.step (pc2 := 50) (ls2 := [(2, .int (nI x8)), (0, .ref A), (1, .ref ga)]) (st2 := [.ref ga, .ref A, .int (fi w14 ga 4)]) (w3 := w14) rfl rfl ?_
      refine sx_RP.gg (k := 0) hI15 hg rfl rfl (by decide) (show _ = 53 from rfl) ?_
      obtain ⟨x18, hx19, ex20⟩ : inR (fi w14 ga 0) 5 := hI15.gk (k := 0) hg (by decide)
      rw [ex20]
      refine sx_RP.step (pc2 := 54) (ls2 := [(2, .int (nI x8)), (0, .ref A), (1, .ref ga)]) (st2 := [.int (nI x8), .int (nI x18), .ref A, .int (fi w14 ga 4)]) (w3 := w14) rfl rfl ?_
      obtain ⟨v21, c22⟩ := p33 hI15 hA (show x18 ≤ 5 by omega) (show x8 < 48 by omega)
      refine sx_RP.cu (as := [.ref A, .int (nI x18), .int (nI x8)]) (rest2 := [.int (fi w14 ga 4)]) (st3 := [.int v21, .int (fi w14 ga 4)]) rfl rfl (sx_inv_v2 (mi := 44) (k := 119) (st := [.int (nI x8), .int (nI x18), .ref A, .int (fi w14 ga 4)]) (w := w14) rfl rfl (hI15.1.oC hA) rfl rfl rfl) rfl rfl (c22) rfl ?_
      refine sx_RP.br (p1 := 91) (l1 := [(2, .int (nI x8)), (0, .ref A), (1, .ref ga)]) (s1 := []) (v1 := w14) (p2 := 60) (l2 := [(2, .int (nI x8)), (0, .ref A), (1, .ref ga)]) (s2 := []) (v2 := w14) rfl rfl (fun q23 => ?_) (fun q23 => ?_)
      · replace q23 := of_decide_eq_true q23
        refine sx_RP.ret (r := none) rfl rfl ?_
        exact ⟨rfl, hI15, hE16⟩
      · replace q23 := of_decide_eq_false q23
        refine sx_RP.step (pc2 := 61) (ls2 := [(2, .int (nI x8)), (0, .ref A), (1, .ref ga)]) (st2 := [.ref ga]) (w3 := w14) rfl rfl ?_
        refine sx_RP.step (pc2 := 62) (ls2 := [(2, .int (nI x8)), (0, .ref A), (1, .ref ga)]) (st2 := [.int (nI x8), .ref ga]) (w3 := w14) rfl rfl ?_
        refine sx_RP.pgQ (k := 2) hI15 hE16 (by omega) hg rfl rfl (by decide) rfl (inR.n (show x8 ≤ 47 by omega)) (show _ = 65 from rfl) (fun w24 hI25 hE26 hk27 => ?_)
        refine sx_RP.step (pc2 := 66) (ls2 := [(2, .int (nI x8)), (0, .ref A), (1, .ref ga)]) (st2 := [.ref ga]) (w3 := w24) rfl rfl ?_
        refine sx_RP.step (pc2 := 67) (ls2 := [(2, .int (nI x8)), (0, .ref A), (1, .ref ga)]) (st2 := [.int 0, .ref ga]) (w3 := w24) rfl rfl ?_
        refine sx_RP.pgQ (k := 4) hI25 hE26 (by omega) hg rfl rfl (by decide) rfl trivial (show _ = 70 from rfl) (fun w28 hI29 hE30 hk31 => ?_)
        refine sx_RP.step (pc2 := 71) (ls2 := [(2, .int (nI x8)), (0, .ref A), (1, .ref ga)]) (st2 := [.ref ga]) (w3 := w28) rfl rfl ?_
        refine sx_RP.step (pc2 := 72) (ls2 := [(2, .int (nI x8)), (0, .ref A), (1, .ref ga)]) (st2 := [.ref A, .ref ga]) (w3 := w28) rfl rfl ?_
        refine sx_RP.step (pc2 := 73) (ls2 := [(2, .int (nI x8)), (0, .ref A), (1, .ref ga)]) (st2 := [.ref ga, .ref A, .ref ga]) (w3 := w28) rfl rfl ?_
        refine sx_RP.gg (k := 0) hI29 hg rfl rfl (by decide) (show _ = 76 from rfl) ?_
        obtain ⟨x32, hx33, ex34⟩ : inR (fi w28 ga 0) 5 := hI29.gk (k := 0) hg (by decide)
        rw [ex34]
        refine sx_RP.step (pc2 := 77) (ls2 := [(2, .int (nI x8)), (0, .ref A), (1, .ref ga)]) (st2 := [.int (nI x8), .int (nI x32), .ref A, .ref ga]) (w3 := w28) rfl rfl ?_
        obtain ⟨x35, hx36, c37⟩ := p37 hI29 hA (show x32 ≤ 5 by omega) (show x8 < 48 by omega)
        refine sx_RP.cu (as := [.ref A, .int (nI x32), .int (nI x8)]) (rest2 := [.ref ga]) (st3 := [.int (nI x35), .ref ga]) rfl rfl (sx_inv_v2 (mi := 44) (k := 103) (st := [.int (nI x8), .int (nI x32), .ref A, .ref ga]) (w := w28) rfl rfl (hI29.1.oC hA) rfl rfl rfl) rfl rfl (c37) rfl ?_
        refine sx_RP.br (p1 := 87) (l1 := [(2, .int (nI x8)), (0, .ref A), (1, .ref ga)]) (s1 := [.ref ga]) (v1 := w28) (p2 := 83) (l2 := [(2, .int (nI x8)), (0, .ref A), (1, .ref ga)]) (s2 := [.ref ga]) (v2 := w28) rfl rfl (fun q38 => ?_) (fun q38 => ?_)
        · replace q38 := of_decide_eq_true q38
          replace q38 := mt (nI_eq (a := x35) (b := 0) (by omega) (by omega)).mpr q38
          refine sx_RP.step (pc2 := 88) (ls2 := [(2, .int (nI x8)), (0, .ref A), (1, .ref ga)]) (st2 := [.int 0, .ref ga]) (w3 := w28) rfl rfl ?_
          refine sx_RP.pgQ (k := 5) hI29 hE30 (by omega) hg rfl rfl (by decide) rfl (show inR 0 1 from ⟨0, by decide, rfl⟩) (show _ = 91 from rfl) (fun w39 hI40 hE41 hk42 => ?_)
          refine sx_RP.ret (r := none) rfl rfl ?_
          exact ⟨rfl, hI40, hE41⟩
        · replace q38 := Decidable.not_not.mp (of_decide_eq_false q38)
          replace q38 := (nI_eq (a := x35) (b := 0) (by omega) (by omega)).mp q38
          refine sx_RP.step (pc2 := 84) (ls2 := [(2, .int (nI x8)), (0, .ref A), (1, .ref ga)]) (st2 := [.int 1, .ref ga]) (w3 := w28) rfl rfl ?_
          refine sx_RP.step (pc2 := 88) (ls2 := [(2, .int (nI x8)), (0, .ref A), (1, .ref ga)]) (st2 := [.int 1, .ref ga]) (w3 := w28) rfl rfl ?_
          refine sx_RP.pgQ (k := 5) hI29 hE30 (by omega) hg rfl rfl (by decide) rfl (show inR 1 1 from ⟨1, by decide, rfl⟩) (show _ = 91 from rfl) (fun w43 hI44 hE45 hk46 => ?_)
          refine sx_RP.ret (r := none) rfl rfl ?_
          exact ⟨rfl, hI44, hE45⟩
    · replace q13 := Decidable.not_not.mp (of_decide_eq_false q13)
      replace q13 := (nI_eq (a := x10) (b := 3) (by omega) (by omega)).mp q13
      refine sx_RP.step (pc2 := 29) (ls2 := [(2, .int (nI x8)), (0, .ref A), (1, .ref ga)]) (st2 := [.ref ga]) (w3 := w) rfl rfl ?_
      refine sx_RP.step (pc2 := 30) (ls2 := [(2, .int (nI x8)), (0, .ref A), (1, .ref ga)]) (st2 := [.int 1, .ref ga]) (w3 := w) rfl rfl ?_
      refine sx_RP.pgQ (k := 5) hI hE (by omega) hg rfl rfl (by decide) rfl (show inR 1 1 from ⟨1, by decide, rfl⟩) (show _ = 33 from rfl) (fun w47 hI48 hE49 hk50 => ?_)
      refine sx_RP.ret (r := none) rfl rfl ?_
      exact ⟨rfl, hI48, hE49⟩
set_option maxRecDepth 20000 in
set_option maxHeartbeats 4000000 in
theorem Q50B {xs : Option (List Int32)} {d : Nat} {w w0 : List sx_C} {A B : Nat} (hA : isA A) (hB : isA B) (hz : 29 ≤ A) (hI : WI w) (hE : EQ w0 w) {j : Nat} (hj : j ≤ 10) (kk : ∀ (w4 : List sx_C), WI w4 → EQ w0 w4 → j + 1 ≤ 10 → sx_RP xs (d + 1) 50 33 [(0, .ref A), (1, .ref B), (2, .int (nI (j + 1)))] [] w4 (fun r w2 => (r = none) ∧ WI w2 ∧ EQ w0 w2)) : sx_RP xs (d + 1) 50 33 [(0, .ref A), (1, .ref B), (2, .int (nI j))] [] w (fun r w2 => (r = none) ∧ WI w2 ∧ EQ w0 w2) := by
  refine sx_RP.step (pc2 := 34) (ls2 := [(0, .ref A), (1, .ref B), (2, .int (nI j))]) (st2 := [.int (nI j)]) (w3 := w) rfl rfl ?_
  refine sx_RP.step (pc2 := 35) (ls2 := [(0, .ref A), (1, .ref B), (2, .int (nI j))]) (st2 := [.ref A, .int (nI j)]) (w3 := w) rfl rfl ?_
  refine sx_RP.gc (k := 3) hI hA rfl rfl (by omega) (show _ = 38 from rfl) ?_
  obtain ⟨x1, hx2, ex3⟩ : inR (fi w A 3) 10 := (hI.c hA).1
  rw [ex3]
  refine sx_RP.br (p1 := 62) (l1 := [(0, .ref A), (1, .ref B), (2, .int (nI j))]) (s1 := []) (v1 := w) (p2 := 41) (l2 := [(0, .ref A), (1, .ref B), (2, .int (nI j))]) (s2 := []) (v2 := w) rfl rfl (fun q4 => ?_) (fun q4 => ?_)
  · replace q4 := of_decide_eq_true q4
    replace q4 := (nI_leI (a := x1) (b := j) (by omega) (by omega)).mp q4
    refine sx_RP.step (pc2 := 63) (ls2 := [(0, .ref A), (1, .ref B), (2, .int (nI j))]) (st2 := [.ref B]) (w3 := w) rfl rfl ?_
    refine sx_RP.gref (k := 4) (b := B + 3) hI hB rfl rfl (by omega) (show _ = 66 from rfl) ?_
    refine sx_RP.step (pc2 := 67) (ls2 := [(0, .ref A), (1, .ref B), (2, .int (nI j))]) (st2 := [.int 0, .ref (B + 3)]) (w3 := w) rfl rfl ?_
    refine sx_RP.step (pc2 := 68) (ls2 := [(0, .ref A), (1, .ref B), (2, .int (nI j))]) (st2 := [.ref A, .int 0, .ref (B + 3)]) (w3 := w) rfl rfl ?_
    refine sx_RP.gref (k := 4) (b := A + 3) hI hA rfl rfl (by omega) (show _ = 71 from rfl) ?_
    refine sx_RP.step (pc2 := 72) (ls2 := [(0, .ref A), (1, .ref B), (2, .int (nI j))]) (st2 := [.int 0, .ref (A + 3), .int 0, .ref (B + 3)]) (w3 := w) rfl rfl ?_
    refine sx_RP.step (pc2 := 74) (ls2 := [(0, .ref A), (1, .ref B), (2, .int (nI j))]) (st2 := [.int 9, .int 0, .ref (A + 3), .int 0, .ref (B + 3)]) (w3 := w) rfl rfl ?_
    refine sx_RP.acDQ hI hE (by omega) hA hB rfl rfl rfl (show _ = 77 from rfl) (fun w5 hI6 hE7 => ?_)
    refine sx_RP.step (pc2 := 78) (ls2 := [(0, .ref A), (1, .ref B), (2, .int (nI j))]) (st2 := [.ref A]) (w3 := w5) rfl rfl ?_
    refine sx_RP.step (pc2 := 79) (ls2 := [(0, .ref A), (1, .ref B), (2, .int (nI j))]) (st2 := [.ref B, .ref A]) (w3 := w5) rfl rfl ?_
    refine sx_RP.gc (k := 5) hI6 hB rfl rfl (by omega) (show _ = 82 from rfl) ?_
    obtain ⟨x8, hx9, ex10⟩ : inR (fi w5 B 5) 9 := (hI6.c hB).2
    rw [ex10]
    refine sx_RP.putcQ (k := 5) hI6 hE7 (by omega) hA rfl rfl (by omega) rfl (inR.n (show x8 ≤ 9 by omega)) (show _ = 85 from rfl) (fun w11 hI12 hE13 => ?_)
    refine sx_RP.step (pc2 := 86) (ls2 := [(0, .ref A), (1, .ref B), (2, .int (nI j))]) (st2 := [.ref A]) (w3 := w11) rfl rfl ?_
    refine sx_RP.step (pc2 := 87) (ls2 := [(0, .ref A), (1, .ref B), (2, .int (nI j))]) (st2 := [.ref B, .ref A]) (w3 := w11) rfl rfl ?_
    refine sx_RP.gc (k := 6) hI12 hB rfl rfl (by omega) (show _ = 90 from rfl) ?_
    refine sx_RP.putcQ (k := 6) hI12 hE13 (by omega) hA rfl rfl (by omega) rfl trivial (show _ = 93 from rfl) (fun w14 hI15 hE16 => ?_)
    refine sx_RP.step (pc2 := 94) (ls2 := [(0, .ref A), (1, .ref B), (2, .int (nI j))]) (st2 := [.ref A]) (w3 := w14) rfl rfl ?_
    refine sx_RP.step (pc2 := 95) (ls2 := [(0, .ref A), (1, .ref B), (2, .int (nI j))]) (st2 := [.ref B, .ref A]) (w3 := w14) rfl rfl ?_
    refine sx_RP.gc (k := 7) hI15 hB rfl rfl (by omega) (show _ = 98 from rfl) ?_
    refine sx_RP.putcQ (k := 7) hI15 hE16 (by omega) hA rfl rfl (by omega) rfl trivial (show _ = 101 from rfl) (fun w17 hI18 hE19 => ?_)
    refine sx_RP.step (pc2 := 102) (ls2 := [(0, .ref A), (1, .ref B), (2, .int (nI j))]) (st2 := [.ref A]) (w3 := w17) rfl rfl ?_
    refine sx_RP.step (pc2 := 103) (ls2 := [(0, .ref A), (1, .ref B), (2, .int (nI j))]) (st2 := [.ref B, .ref A]) (w3 := w17) rfl rfl ?_
    refine sx_RP.gc (k := 8) hI18 hB rfl rfl (by omega) (show _ = 106 from rfl) ?_
    refine sx_RP.putcQ (k := 8) hI18 hE19 (by omega) hA rfl rfl (by omega) rfl trivial (show _ = 109 from rfl) (fun w20 hI21 hE22 => ?_)
    refine sx_RP.step (pc2 := 110) (ls2 := [(0, .ref A), (1, .ref B), (2, .int (nI j))]) (st2 := [.ref A]) (w3 := w20) rfl rfl ?_
    refine sx_RP.step (pc2 := 111) (ls2 := [(0, .ref A), (1, .ref B), (2, .int (nI j))]) (st2 := [.ref B, .ref A]) (w3 := w20) rfl rfl ?_
    refine sx_RP.gc (k := 9) hI21 hB rfl rfl (by omega) (show _ = 114 from rfl) ?_
    refine sx_RP.putcQ (k := 9) hI21 hE22 (by omega) hA rfl rfl (by omega) rfl trivial (show _ = 117 from rfl) (fun w23 hI24 hE25 => ?_)
    refine sx_RP.step (pc2 := 118) (ls2 := [(0, .ref A), (1, .ref B), (2, .int (nI j))]) (st2 := [.ref A]) (w3 := w23) rfl rfl ?_
    refine sx_RP.step (pc2 := 119) (ls2 := [(0, .ref A), (1, .ref B), (2, .int (nI j))]) (st2 := [.ref B, .ref A]) (w3 := w23) rfl rfl ?_
    refine sx_RP.gc (k := 10) hI24 hB rfl rfl (by omega) (show _ = 122 from rfl) ?_
    refine sx_RP.putcQ (k := 10) hI24 hE25 (by omega) hA rfl rfl (by omega) rfl trivial (show _ = 125 from rfl) (fun w26 hI27 hE28 => ?_)
    refine sx_RP.ret (r := none) rfl rfl ?_
    exact ⟨rfl, hI27, hE28⟩
  · replace q4 := of_decide_eq_false q4
    replace q4 := mt (nI_leI (a := x1) (b := j) (by omega) (by omega)).mpr q4
    refine sx_RP.step (pc2 := 42) (ls2 := [(0, .ref A), (1, .ref B), (2, .int (nI j))]) (st2 := [.ref A]) (w3 := w) rfl rfl ?_
    refine sx_RP.gref (k := 2) (b := A + 2) hI hA rfl rfl (by omega) (show _ = 45 from rfl) ?_
    refine sx_RP.step (pc2 := 46) (ls2 := [(0, .ref A), (1, .ref B), (2, .int (nI j))]) (st2 := [.int (nI j), .ref (A + 2)]) (w3 := w) rfl rfl ?_
    refine sx_RP.ald (v := .ref (A + 4 + j)) rfl (hI.1.aG hA) rfl (grA_at (show j < 10 by omega)) (show _ = 47 from rfl) ?_
    refine sx_RP.step (pc2 := 48) (ls2 := [(0, .ref A), (1, .ref B), (2, .int (nI j))]) (st2 := [.ref B, .ref (A + 4 + j)]) (w3 := w) rfl rfl ?_
    refine sx_RP.gref (k := 2) (b := B + 2) hI hB rfl rfl (by omega) (show _ = 51 from rfl) ?_
    refine sx_RP.step (pc2 := 52) (ls2 := [(0, .ref A), (1, .ref B), (2, .int (nI j))]) (st2 := [.int (nI j), .ref (B + 2), .ref (A + 4 + j)]) (w3 := w) rfl rfl ?_
    refine sx_RP.ald (v := .ref (B + 4 + j)) rfl (hI.1.aG hB) rfl (grA_at (show j < 10 by omega)) (show _ = 53 from rfl) ?_
    refine sx_RP.callp (as2 := [.ref (A + 4 + j), .ref (B + 4 + j)]) (rest2 := []) rfl rfl (sx_inv_v2 (mi := 50) (k := 59) (st := [.ref (B + 4 + j), .ref (A + 4 + j)]) (w := w) rfl rfl (hI.1.oG (gAd.of hA (show j < 10 by omega))) rfl rfl rfl) rfl rfl rfl (Q51 hI (gAd.of hA (show j < 10 by omega)) (gAd.of hB (show j < 10 by omega)) (by omega)) (show _ = 56 from rfl) ?_
    rintro r4 w29 ⟨rfl, hI30, hE32⟩
    have hE31 := hE.tr (hE32)
    show sx_RP _ _ _ _ _ [] _ _
    refine sx_RP.step (pc2 := 59) (ls2 := [(2, .int ((nI j) + 1)), (0, .ref A), (1, .ref B)]) (st2 := []) (w3 := w29) rfl rfl ?_
    rw [nI_1 j]
    refine sx_RP.step (pc2 := 33) (ls2 := [(2, .int (nI (j + 1))), (0, .ref A), (1, .ref B)]) (st2 := []) (w3 := w29) rfl rfl ?_
    exact sx_RP.ls (sx_lr.cons rfl (sx_lr.cons rfl (sx_lr.cons rfl sx_lr.nil))) (kk w29 hI30 hE31 (by omega))
set_option maxRecDepth 20000 in
set_option maxHeartbeats 4000000 in
theorem Q50L {xs : Option (List Int32)} {d : Nat} {w0 : List sx_C} {A B : Nat} (hA : isA A) (hB : isA B) (hz : 29 ≤ A) : ∀ (fz j : Nat) (w : List sx_C) , 10 ≤ j + fz * 1 → j ≤ 10 → WI w → EQ w0 w → sx_RP xs (d + 1) 50 33 [(0, .ref A), (1, .ref B), (2, .int (nI j))] [] w (fun r w2 => (r = none) ∧ WI w2 ∧ EQ w0 w2)
  | 0, j, w, h, hj, hI, hE => Q50B hA hB hz hI hE hj   (fun w4  hI4 hE4 hlt  => absurd hlt (by omega)) 
  | fz + 1, j, w, h, hj, hI, hE => Q50B hA hB hz hI hE hj   (fun w4  hI4 hE4 hlt  => Q50L hA hB hz  fz (j + 1) w4  (by omega) hlt hI4 hE4 ) 
set_option maxRecDepth 20000 in
set_option maxHeartbeats 4000000 in
theorem Q50 {xs : Option (List Int32)} {d : Nat} {w : List sx_C} (hI : WI w) {A B : Nat} (hA : isA A) (hB : isA B) (hz : 29 ≤ A) : sx_RP xs (d + 1) 50 0 (lv_args 0 [.ref A, .ref B]) [] w (fun r w2 => (r = none) ∧ WI w2 ∧ EQ w w2) := by
  have hE : EQ w w := EQ.rf
  refine sx_RP.step (pc2 := 1) (ls2 := [(0, .ref A), (1, .ref B)]) (st2 := [.ref B]) (w3 := w) rfl rfl ?_
  refine sx_RP.gref (k := 0) (b := B + 1) hI hB rfl rfl (by omega) (show _ = 4 from rfl) ?_
  refine sx_RP.step (pc2 := 5) (ls2 := [(0, .ref A), (1, .ref B)]) (st2 := [.int 0, .ref (B + 1)]) (w3 := w) rfl rfl ?_
  refine sx_RP.step (pc2 := 6) (ls2 := [(0, .ref A), (1, .ref B)]) (st2 := [.ref A, .int 0, .ref (B + 1)]) (w3 := w) rfl rfl ?_
  refine sx_RP.gref (k := 0) (b := A + 1) hI hA rfl rfl (by omega) (show _ = 9 from rfl) ?_
  refine sx_RP.step (pc2 := 10) (ls2 := [(0, .ref A), (1, .ref B)]) (st2 := [.int 0, .ref (A + 1), .int 0, .ref (B + 1)]) (w3 := w) rfl rfl ?_
  refine sx_RP.step (pc2 := 12) (ls2 := [(0, .ref A), (1, .ref B)]) (st2 := [.int 48, .int 0, .ref (A + 1), .int 0, .ref (B + 1)]) (w3 := w) rfl rfl ?_
  refine sx_RP.acSQ hI hE (by omega) hA hB rfl rfl rfl (show _ = 15 from rfl) (fun w1 hI2 hE3 => ?_)
  refine sx_RP.step (pc2 := 16) (ls2 := [(0, .ref A), (1, .ref B)]) (st2 := [.ref A]) (w3 := w1) rfl rfl ?_
  refine sx_RP.step (pc2 := 17) (ls2 := [(0, .ref A), (1, .ref B)]) (st2 := [.ref B, .ref A]) (w3 := w1) rfl rfl ?_
  refine sx_RP.gw hI2 hB rfl rfl (show _ = 20 from rfl) ?_
  refine sx_RP.pwQ hI2 hE3 (by omega) hA rfl rfl rfl (show _ = 23 from rfl) (fun w4 hI5 hE6 => ?_)
  refine sx_RP.step (pc2 := 24) (ls2 := [(0, .ref A), (1, .ref B)]) (st2 := [.ref A]) (w3 := w4) rfl rfl ?_
  refine sx_RP.step (pc2 := 25) (ls2 := [(0, .ref A), (1, .ref B)]) (st2 := [.ref B, .ref A]) (w3 := w4) rfl rfl ?_
  refine sx_RP.gc (k := 3) hI5 hB rfl rfl (by omega) (show _ = 28 from rfl) ?_
  obtain ⟨x7, hx8, ex9⟩ : inR (fi w4 B 3) 10 := (hI5.c hB).1
  rw [ex9]
  refine sx_RP.putcQ (k := 3) hI5 hE6 (by omega) hA rfl rfl (by omega) rfl (inR.n (show x7 ≤ 10 by omega)) (show _ = 31 from rfl) (fun w10 hI11 hE12 => ?_)
  refine sx_RP.step (pc2 := 32) (ls2 := [(0, .ref A), (1, .ref B)]) (st2 := [.int 0]) (w3 := w10) rfl rfl ?_
  refine sx_RP.step (pc2 := 33) (ls2 := [(2, .int 0), (0, .ref A), (1, .ref B)]) (st2 := []) (w3 := w10) rfl rfl ?_
  exact sx_RP.ls (sx_lr.cons rfl (sx_lr.cons rfl (sx_lr.cons rfl sx_lr.nil))) (Q50L hA hB hz 10 0 w10  (by omega) (by omega) hI11 hE12 )
set_option maxRecDepth 20000 in
set_option maxHeartbeats 4000000 in
theorem Q41bB {xs : Option (List Int32)} {d : Nat} {w w0 : List sx_C} {A : Nat} (hA : isA A) (hz : 29 ≤ A) (hI : WI w) (hE : EQ w0 w) {j : Nat} (hj : j ≤ 10) (l : Int32) (kk : ∀ (w4 : List sx_C) (ul : Int32), WI w4 → EQ w0 w4 → j + 1 ≤ 10 → sx_RP xs (d + 5) 41 52 [(0, .ref A), (1, .int ul), (2, .int (nI (j + 1)))] [] w4 (fun r w2 => (∃ v : Int32, r = some (.int v)) ∧ WI w2 ∧ EQ w0 w2)) : sx_RP xs (d + 5) 41 52 [(0, .ref A), (1, .int l), (2, .int (nI j))] [] w (fun r w2 => (∃ v : Int32, r = some (.int v)) ∧ WI w2 ∧ EQ w0 w2) := by
  refine sx_RP.step (pc2 := 53) (ls2 := [(0, .ref A), (1, .int l), (2, .int (nI j))]) (st2 := [.int (nI j)]) (w3 := w) rfl rfl ?_
  refine sx_RP.step (pc2 := 54) (ls2 := [(0, .ref A), (1, .int l), (2, .int (nI j))]) (st2 := [.ref A, .int (nI j)]) (w3 := w) rfl rfl ?_
  refine sx_RP.gc (k := 3) hI hA rfl rfl (by omega) (show _ = 57 from rfl) ?_
  obtain ⟨x1, hx2, ex3⟩ : inR (fi w A 3) 10 := (hI.c hA).1
  rw [ex3]
  refine sx_RP.br (p1 := 115) (l1 := [(0, .ref A), (1, .int l), (2, .int (nI j))]) (s1 := []) (v1 := w) (p2 := 60) (l2 := [(0, .ref A), (1, .int l), (2, .int (nI j))]) (s2 := []) (v2 := w) rfl rfl (fun q4 => ?_) (fun q4 => ?_)
  · replace q4 := of_decide_eq_true q4
    replace q4 := (nI_leI (a := x1) (b := j) (by omega) (by omega)).mp q4
    refine sx_RP.step (pc2 := 116) (ls2 := [(0, .ref A), (1, .int l), (2, .int (nI j))]) (st2 := [.ref A]) (w3 := w) rfl rfl ?_
    refine sx_RP.step (pc2 := 117) (ls2 := [(0, .ref A), (1, .int l), (2, .int (nI j))]) (st2 := [.ref A, .ref A]) (w3 := w) rfl rfl ?_
    refine sx_RP.gc (k := 6) hI hA rfl rfl (by omega) (show _ = 120 from rfl) ?_
    refine sx_RP.step (pc2 := 121) (ls2 := [(0, .ref A), (1, .int l), (2, .int (nI j))]) (st2 := [.int 1, .int (fi w A 6), .ref A]) (w3 := w) rfl rfl ?_
    refine sx_RP.step (pc2 := 122) (ls2 := [(0, .ref A), (1, .int l), (2, .int (nI j))]) (st2 := [.int ((fi w A 6) + 1), .ref A]) (w3 := w) rfl rfl ?_
    refine sx_RP.putcQ (k := 6) hI hE (by omega) hA rfl rfl (by omega) rfl trivial (show _ = 125 from rfl) (fun w5 hI6 hE7 => ?_)
    refine sx_RP.step (pc2 := 126) (ls2 := [(0, .ref A), (1, .int l), (2, .int (nI j))]) (st2 := [.int l]) (w3 := w5) rfl rfl ?_
    refine sx_RP.step (pc2 := 127) (ls2 := [(0, .ref A), (1, .int l), (2, .int (nI j))]) (st2 := [.ref A, .int l]) (w3 := w5) rfl rfl ?_
    refine sx_RP.step (pc2 := 128) (ls2 := [(0, .ref A), (1, .int l), (2, .int (nI j))]) (st2 := [.int 0, .ref A, .int l]) (w3 := w5) rfl rfl ?_
    obtain ⟨v8, c9⟩ := p42 hI6 hA 0
    refine sx_RP.cu (as := [.ref A, .int 0]) (rest2 := [.int l]) (st3 := [.int v8, .int l]) rfl rfl (sx_inv_v2 (mi := 41) (k := 106) (st := [.int 0, .ref A, .int l]) (w := w5) rfl rfl (hI6.1.oC hA) rfl rfl rfl) rfl rfl (c9) rfl ?_
    refine sx_RP.step (pc2 := 132) (ls2 := [(0, .ref A), (1, .int l), (2, .int (nI j))]) (st2 := [.int (l - v8)]) (w3 := w5) rfl rfl ?_
    refine sx_RP.step (pc2 := 133) (ls2 := [(0, .ref A), (1, .int l), (2, .int (nI j))]) (st2 := [.ref A, .int (l - v8)]) (w3 := w5) rfl rfl ?_
    refine sx_RP.step (pc2 := 134) (ls2 := [(0, .ref A), (1, .int l), (2, .int (nI j))]) (st2 := [.int 1, .ref A, .int (l - v8)]) (w3 := w5) rfl rfl ?_
    obtain ⟨v10, c11⟩ := p42 hI6 hA 1
    refine sx_RP.cu (as := [.ref A, .int 1]) (rest2 := [.int (l - v8)]) (st3 := [.int v10, .int (l - v8)]) rfl rfl (sx_inv_v2 (mi := 41) (k := 106) (st := [.int 1, .ref A, .int (l - v8)]) (w := w5) rfl rfl (hI6.1.oC hA) rfl rfl rfl) rfl rfl (c11) rfl ?_
    refine sx_RP.step (pc2 := 138) (ls2 := [(0, .ref A), (1, .int l), (2, .int (nI j))]) (st2 := [.int ((l - v8) - v10)]) (w3 := w5) rfl rfl ?_
    refine sx_RP.ret (r := (some (.int ((l - v8) - v10)))) rfl rfl ?_
    exact ⟨⟨_, rfl⟩, hI6, hE7⟩
  · replace q4 := of_decide_eq_false q4
    replace q4 := mt (nI_leI (a := x1) (b := j) (by omega) (by omega)).mpr q4
    refine sx_RP.step (pc2 := 61) (ls2 := [(0, .ref A), (1, .int l), (2, .int (nI j))]) (st2 := [.ref A]) (w3 := w) rfl rfl ?_
    refine sx_RP.gref (k := 2) (b := A + 2) hI hA rfl rfl (by omega) (show _ = 64 from rfl) ?_
    refine sx_RP.step (pc2 := 65) (ls2 := [(0, .ref A), (1, .int l), (2, .int (nI j))]) (st2 := [.int (nI j), .ref (A + 2)]) (w3 := w) rfl rfl ?_
    refine sx_RP.ald (v := .ref (A + 4 + j)) rfl (hI.1.aG hA) rfl (grA_at (show j < 10 by omega)) (show _ = 66 from rfl) ?_
    refine sx_RP.step (pc2 := 67) (ls2 := [(0, .ref A), (1, .int l), (2, .int (nI j))]) (st2 := [.int 0, .ref (A + 4 + j)]) (w3 := w) rfl rfl ?_
    obtain ⟨x12, hx13, c14⟩ := p43 hI (gAd.of hA (show j < 10 by omega)) 0
    refine sx_RP.cu (as := [.ref (A + 4 + j), .int 0]) (rest2 := []) (st3 := [.int (nI x12)]) rfl rfl (sx_inv_v2 (mi := 41) (k := 82) (st := [.int 0, .ref (A + 4 + j)]) (w := w) rfl rfl (hI.1.oG (gAd.of hA (show j < 10 by omega))) rfl rfl rfl) rfl rfl (c14) rfl ?_
    refine sx_RP.br (p1 := 109) (l1 := [(0, .ref A), (1, .int l), (2, .int (nI j))]) (s1 := []) (v1 := w) (p2 := 73) (l2 := [(0, .ref A), (1, .int l), (2, .int (nI j))]) (s2 := []) (v2 := w) rfl rfl (fun q15 => ?_) (fun q15 => ?_)
    · replace q15 := of_decide_eq_true q15
      replace q15 := (nI_eq (a := x12) (b := 0) (by omega) (by omega)).mp q15
      refine sx_RP.step (pc2 := 112) (ls2 := [(2, .int ((nI j) + 1)), (0, .ref A), (1, .int l)]) (st2 := []) (w3 := w) rfl rfl ?_
      rw [nI_1 j]
      refine sx_RP.step (pc2 := 52) (ls2 := [(2, .int (nI (j + 1))), (0, .ref A), (1, .int l)]) (st2 := []) (w3 := w) rfl rfl ?_
      exact sx_RP.ls (sx_lr.cons rfl (sx_lr.cons rfl (sx_lr.cons rfl sx_lr.nil))) (kk w l hI hE (by omega))
    · replace q15 := of_decide_eq_false q15
      replace q15 := mt (nI_eq (a := x12) (b := 0) (by omega) (by omega)).mpr q15
      refine sx_RP.step (pc2 := 74) (ls2 := [(0, .ref A), (1, .int l), (2, .int (nI j))]) (st2 := [.ref A]) (w3 := w) rfl rfl ?_
      refine sx_RP.step (pc2 := 75) (ls2 := [(0, .ref A), (1, .int l), (2, .int (nI j))]) (st2 := [.ref A, .ref A]) (w3 := w) rfl rfl ?_
      refine sx_RP.gref (k := 2) (b := A + 2) hI hA rfl rfl (by omega) (show _ = 78 from rfl) ?_
      refine sx_RP.step (pc2 := 79) (ls2 := [(0, .ref A), (1, .int l), (2, .int (nI j))]) (st2 := [.int (nI j), .ref (A + 2), .ref A]) (w3 := w) rfl rfl ?_
      refine sx_RP.ald (v := .ref (A + 4 + j)) rfl (hI.1.aG hA) rfl (grA_at (show j < 10 by omega)) (show _ = 80 from rfl) ?_
      refine sx_RP.gg (k := 2) hI (gAd.of hA (show j < 10 by omega)) rfl rfl (by decide) (show _ = 83 from rfl) ?_
      obtain ⟨x16, hx17, ex18⟩ : inR (fi w (A + 4 + j) 2) 47 := hI.gk (k := 2) (gAd.of hA (show j < 10 by omega)) (by decide)
      rw [ex18]
      obtain ⟨x19, hx20, c21⟩ := p45 hI hA (nI x16)
      refine sx_RP.cu (as := [.ref A, .int (nI x16)]) (rest2 := []) (st3 := [.int (nI x19)]) rfl rfl (sx_inv_v2 (mi := 41) (k := 113) (st := [.int (nI x16), .ref A]) (w := w) rfl rfl (hI.1.oC hA) rfl rfl rfl) rfl rfl (c21) rfl ?_
      refine sx_RP.br (p1 := 109) (l1 := [(0, .ref A), (1, .int l), (2, .int (nI j))]) (s1 := []) (v1 := w) (p2 := 89) (l2 := [(0, .ref A), (1, .int l), (2, .int (nI j))]) (s2 := []) (v2 := w) rfl rfl (fun q22 => ?_) (fun q22 => ?_)
      · replace q22 := of_decide_eq_true q22
        replace q22 := (nI_eq (a := x19) (b := 0) (by omega) (by omega)).mp q22
        refine sx_RP.step (pc2 := 112) (ls2 := [(2, .int ((nI j) + 1)), (0, .ref A), (1, .int l)]) (st2 := []) (w3 := w) rfl rfl ?_
        rw [nI_1 j]
        refine sx_RP.step (pc2 := 52) (ls2 := [(2, .int (nI (j + 1))), (0, .ref A), (1, .int l)]) (st2 := []) (w3 := w) rfl rfl ?_
        exact sx_RP.ls (sx_lr.cons rfl (sx_lr.cons rfl (sx_lr.cons rfl sx_lr.nil))) (kk w l hI hE (by omega))
      · replace q22 := of_decide_eq_false q22
        replace q22 := mt (nI_eq (a := x19) (b := 0) (by omega) (by omega)).mpr q22
        refine sx_RP.step (pc2 := 90) (ls2 := [(0, .ref A), (1, .int l), (2, .int (nI j))]) (st2 := [.ref A]) (w3 := w) rfl rfl ?_
        refine sx_RP.gref (k := 2) (b := A + 2) hI hA rfl rfl (by omega) (show _ = 93 from rfl) ?_
        refine sx_RP.step (pc2 := 94) (ls2 := [(0, .ref A), (1, .int l), (2, .int (nI j))]) (st2 := [.int (nI j), .ref (A + 2)]) (w3 := w) rfl rfl ?_
        refine sx_RP.ald (v := .ref (A + 4 + j)) rfl (hI.1.aG hA) rfl (grA_at (show j < 10 by omega)) (show _ = 95 from rfl) ?_
        refine sx_RP.step (pc2 := 96) (ls2 := [(0, .ref A), (1, .int l), (2, .int (nI j))]) (st2 := [.int 1, .ref (A + 4 + j)]) (w3 := w) rfl rfl ?_
        refine sx_RP.pgQ (k := 5) hI hE (by omega) (gAd.of hA (show j < 10 by omega)) rfl rfl (by decide) rfl (show inR 1 1 from ⟨1, by decide, rfl⟩) (show _ = 99 from rfl) (fun w23 hI24 hE25 hk26 => ?_)
        have ex27 := (hk26 A 3 hA).trans ex3
        refine sx_RP.step (pc2 := 100) (ls2 := [(0, .ref A), (1, .int l), (2, .int (nI j))]) (st2 := [.ref A]) (w3 := w23) rfl rfl ?_
        refine sx_RP.step (pc2 := 101) (ls2 := [(0, .ref A), (1, .int l), (2, .int (nI j))]) (st2 := [.ref A, .ref A]) (w3 := w23) rfl rfl ?_
        refine sx_RP.gc (k := 7) hI24 hA rfl rfl (by omega) (show _ = 104 from rfl) ?_
        refine sx_RP.step (pc2 := 105) (ls2 := [(0, .ref A), (1, .int l), (2, .int (nI j))]) (st2 := [.int 1, .int (fi w23 A 7), .ref A]) (w3 := w23) rfl rfl ?_
        refine sx_RP.step (pc2 := 106) (ls2 := [(0, .ref A), (1, .int l), (2, .int (nI j))]) (st2 := [.int ((fi w23 A 7) + 1), .ref A]) (w3 := w23) rfl rfl ?_
        refine sx_RP.putcQ (k := 7) hI24 hE25 (by omega) hA rfl rfl (by omega) rfl trivial (show _ = 109 from rfl) (fun w28 hI29 hE30 => ?_)
        refine sx_RP.step (pc2 := 112) (ls2 := [(2, .int ((nI j) + 1)), (0, .ref A), (1, .int l)]) (st2 := []) (w3 := w28) rfl rfl ?_
        rw [nI_1 j]
        refine sx_RP.step (pc2 := 52) (ls2 := [(2, .int (nI (j + 1))), (0, .ref A), (1, .int l)]) (st2 := []) (w3 := w28) rfl rfl ?_
        exact sx_RP.ls (sx_lr.cons rfl (sx_lr.cons rfl (sx_lr.cons rfl sx_lr.nil))) (kk w28 l hI29 hE30 (by omega))
set_option maxRecDepth 20000 in
set_option maxHeartbeats 4000000 in
theorem Q41bL {xs : Option (List Int32)} {d : Nat} {w0 : List sx_C} {A : Nat} (hA : isA A) (hz : 29 ≤ A) : ∀ (fz j : Nat) (w : List sx_C) (l : Int32) , 10 ≤ j + fz * 1 → j ≤ 10 → WI w → EQ w0 w → sx_RP xs (d + 5) 41 52 [(0, .ref A), (1, .int l), (2, .int (nI j))] [] w (fun r w2 => (∃ v : Int32, r = some (.int v)) ∧ WI w2 ∧ EQ w0 w2)
  | 0, j, w, l, h, hj, hI, hE => Q41bB hA hz hI hE hj l  (fun w4 ul hI4 hE4 hlt  => absurd hlt (by omega)) 
  | fz + 1, j, w, l, h, hj, hI, hE => Q41bB hA hz hI hE hj l  (fun w4 ul hI4 hE4 hlt  => Q41bL hA hz  fz (j + 1) w4 ul (by omega) hlt hI4 hE4 ) 
set_option maxRecDepth 20000 in
set_option maxHeartbeats 4000000 in
theorem Q41aB {xs : Option (List Int32)} {d : Nat} {w w0 : List sx_C} {A : Nat} (hA : isA A) (hz : 29 ≤ A) (hI : WI w) (hE : EQ w0 w) {j : Nat} (hj : j ≤ 10) (l : Int32) (kk : ∀ (w4 : List sx_C) (ul : Int32), WI w4 → EQ w0 w4 → j + 1 ≤ 10 → sx_RP xs (d + 5) 41 14 [(0, .ref A), (1, .int ul), (2, .int (nI (j + 1)))] [] w4 (fun r w2 => (∃ v : Int32, r = some (.int v)) ∧ WI w2 ∧ EQ w0 w2)) (kx50 : ∀ (w4 : List sx_C) (ul : Int32), WI w4 → EQ w0 w4 → sx_RP xs (d + 5) 41 50 [(0, .ref A), (1, .int ul)] [] w4 (fun r w2 => (∃ v : Int32, r = some (.int v)) ∧ WI w2 ∧ EQ w0 w2)) : sx_RP xs (d + 5) 41 14 [(0, .ref A), (1, .int l), (2, .int (nI j))] [] w (fun r w2 => (∃ v : Int32, r = some (.int v)) ∧ WI w2 ∧ EQ w0 w2) := by
  refine sx_RP.step (pc2 := 15) (ls2 := [(0, .ref A), (1, .int l), (2, .int (nI j))]) (st2 := [.int (nI j)]) (w3 := w) rfl rfl ?_
  refine sx_RP.step (pc2 := 16) (ls2 := [(0, .ref A), (1, .int l), (2, .int (nI j))]) (st2 := [.ref A, .int (nI j)]) (w3 := w) rfl rfl ?_
  refine sx_RP.gc (k := 3) hI hA rfl rfl (by omega) (show _ = 19 from rfl) ?_
  obtain ⟨x1, hx2, ex3⟩ : inR (fi w A 3) 10 := (hI.c hA).1
  rw [ex3]
  refine sx_RP.br (p1 := 50) (l1 := [(0, .ref A), (1, .int l), (2, .int (nI j))]) (s1 := []) (v1 := w) (p2 := 22) (l2 := [(0, .ref A), (1, .int l), (2, .int (nI j))]) (s2 := []) (v2 := w) rfl rfl (fun q4 => ?_) (fun q4 => ?_)
  · replace q4 := of_decide_eq_true q4
    replace q4 := (nI_leI (a := x1) (b := j) (by omega) (by omega)).mp q4
    exact sx_RP.ls (sx_lr.cons rfl (sx_lr.cons rfl sx_lr.nil)) (kx50 w l hI hE)
  · replace q4 := of_decide_eq_false q4
    replace q4 := mt (nI_leI (a := x1) (b := j) (by omega) (by omega)).mpr q4
    refine sx_RP.step (pc2 := 23) (ls2 := [(0, .ref A), (1, .int l), (2, .int (nI j))]) (st2 := [.ref A]) (w3 := w) rfl rfl ?_
    refine sx_RP.gref (k := 2) (b := A + 2) hI hA rfl rfl (by omega) (show _ = 26 from rfl) ?_
    refine sx_RP.step (pc2 := 27) (ls2 := [(0, .ref A), (1, .int l), (2, .int (nI j))]) (st2 := [.int (nI j), .ref (A + 2)]) (w3 := w) rfl rfl ?_
    refine sx_RP.ald (v := .ref (A + 4 + j)) rfl (hI.1.aG hA) rfl (grA_at (show j < 10 by omega)) (show _ = 28 from rfl) ?_
    refine sx_RP.gg (k := 5) hI (gAd.of hA (show j < 10 by omega)) rfl rfl (by decide) (show _ = 31 from rfl) ?_
    obtain ⟨x5, hx6, ex7⟩ : inR (fi w (A + 4 + j) 5) 1 := hI.gk (k := 5) (gAd.of hA (show j < 10 by omega)) (by decide)
    rw [ex7]
    refine sx_RP.br (p1 := 44) (l1 := [(0, .ref A), (1, .int l), (2, .int (nI j))]) (s1 := []) (v1 := w) (p2 := 34) (l2 := [(0, .ref A), (1, .int l), (2, .int (nI j))]) (s2 := []) (v2 := w) rfl rfl (fun q8 => ?_) (fun q8 => ?_)
    · replace q8 := of_decide_eq_true q8
      replace q8 := mt (nI_eq (a := x5) (b := 0) (by omega) (by omega)).mpr q8
      refine sx_RP.step (pc2 := 47) (ls2 := [(2, .int ((nI j) + 1)), (0, .ref A), (1, .int l)]) (st2 := []) (w3 := w) rfl rfl ?_
      rw [nI_1 j]
      refine sx_RP.step (pc2 := 14) (ls2 := [(2, .int (nI (j + 1))), (0, .ref A), (1, .int l)]) (st2 := []) (w3 := w) rfl rfl ?_
      exact sx_RP.ls (sx_lr.cons rfl (sx_lr.cons rfl (sx_lr.cons rfl sx_lr.nil))) (kk w l hI hE (by omega))
    · replace q8 := Decidable.not_not.mp (of_decide_eq_false q8)
      replace q8 := (nI_eq (a := x5) (b := 0) (by omega) (by omega)).mp q8
      refine sx_RP.step (pc2 := 35) (ls2 := [(0, .ref A), (1, .int l), (2, .int (nI j))]) (st2 := [.ref A]) (w3 := w) rfl rfl ?_
      refine sx_RP.step (pc2 := 36) (ls2 := [(0, .ref A), (1, .int l), (2, .int (nI j))]) (st2 := [.ref A, .ref A]) (w3 := w) rfl rfl ?_
      refine sx_RP.gref (k := 2) (b := A + 2) hI hA rfl rfl (by omega) (show _ = 39 from rfl) ?_
      refine sx_RP.step (pc2 := 40) (ls2 := [(0, .ref A), (1, .int l), (2, .int (nI j))]) (st2 := [.int (nI j), .ref (A + 2), .ref A]) (w3 := w) rfl rfl ?_
      refine sx_RP.ald (v := .ref (A + 4 + j)) rfl (hI.1.aG hA) rfl (grA_at (show j < 10 by omega)) (show _ = 41 from rfl) ?_
      refine sx_RP.callp (as2 := [.ref A, .ref (A + 4 + j)]) (rest2 := []) rfl rfl (sx_inv_v2 (mi := 41) (k := 110) (st := [.ref (A + 4 + j), .ref A]) (w := w) rfl rfl (hI.1.oC hA) rfl rfl rfl) rfl rfl rfl (Q44 hI hA (gAd.of hA (show j < 10 by omega)) (by omega)) (show _ = 44 from rfl) ?_
      rintro r4 w9 ⟨rfl, hI10, hE12⟩
      have hE11 := hE.tr (hE12)
      show sx_RP _ _ _ _ _ [] _ _
      refine sx_RP.step (pc2 := 47) (ls2 := [(2, .int ((nI j) + 1)), (0, .ref A), (1, .int l)]) (st2 := []) (w3 := w9) rfl rfl ?_
      rw [nI_1 j]
      refine sx_RP.step (pc2 := 14) (ls2 := [(2, .int (nI (j + 1))), (0, .ref A), (1, .int l)]) (st2 := []) (w3 := w9) rfl rfl ?_
      exact sx_RP.ls (sx_lr.cons rfl (sx_lr.cons rfl (sx_lr.cons rfl sx_lr.nil))) (kk w9 l hI10 hE11 (by omega))
set_option maxRecDepth 20000 in
set_option maxHeartbeats 4000000 in
theorem Q41aL {xs : Option (List Int32)} {d : Nat} {w0 : List sx_C} {A : Nat} (hA : isA A) (hz : 29 ≤ A) (kx50 : ∀ (w4 : List sx_C) (ul : Int32), WI w4 → EQ w0 w4 → sx_RP xs (d + 5) 41 50 [(0, .ref A), (1, .int ul)] [] w4 (fun r w2 => (∃ v : Int32, r = some (.int v)) ∧ WI w2 ∧ EQ w0 w2)) : ∀ (fz j : Nat) (w : List sx_C) (l : Int32) , 10 ≤ j + fz * 1 → j ≤ 10 → WI w → EQ w0 w → sx_RP xs (d + 5) 41 14 [(0, .ref A), (1, .int l), (2, .int (nI j))] [] w (fun r w2 => (∃ v : Int32, r = some (.int v)) ∧ WI w2 ∧ EQ w0 w2)
  | 0, j, w, l, h, hj, hI, hE => Q41aB hA hz hI hE hj l  (fun w4 ul hI4 hE4 hlt  => absurd hlt (by omega)) kx50
  | fz + 1, j, w, l, h, hj, hI, hE => Q41aB hA hz hI hE hj l  (fun w4 ul hI4 hE4 hlt  => Q41aL hA hz kx50 fz (j + 1) w4 ul (by omega) hlt hI4 hE4 ) kx50
set_option maxRecDepth 20000 in
set_option maxHeartbeats 4000000 in
theorem Q41 {xs : Option (List Int32)} {d : Nat} {w : List sx_C} (hI : WI w) {A : Nat} (hA : isA A) (hz : 29 ≤ A) : sx_RP xs (d + 5) 41 0 (lv_args 0 [.ref A]) [] w (fun r w2 => (∃ v : Int32, r = some (.int v)) ∧ WI w2 ∧ EQ w w2) := by
  have hE : EQ w w := EQ.rf
  refine sx_RP.step (pc2 := 1) (ls2 := [(0, .ref A)]) (st2 := [.ref A]) (w3 := w) rfl rfl ?_
  refine sx_RP.step (pc2 := 2) (ls2 := [(0, .ref A)]) (st2 := [.int 0, .ref A]) (w3 := w) rfl rfl ?_
  obtain ⟨v1, c2⟩ := p42 hI hA 0
  refine sx_RP.cu (as := [.ref A, .int 0]) (rest2 := []) (st3 := [.int v1]) rfl rfl (sx_inv_v2 (mi := 41) (k := 106) (st := [.int 0, .ref A]) (w := w) rfl rfl (hI.1.oC hA) rfl rfl rfl) rfl rfl (c2) rfl ?_
  refine sx_RP.step (pc2 := 6) (ls2 := [(0, .ref A)]) (st2 := [.ref A, .int v1]) (w3 := w) rfl rfl ?_
  refine sx_RP.step (pc2 := 7) (ls2 := [(0, .ref A)]) (st2 := [.int 1, .ref A, .int v1]) (w3 := w) rfl rfl ?_
  obtain ⟨v3, c4⟩ := p42 hI hA 1
  refine sx_RP.cu (as := [.ref A, .int 1]) (rest2 := [.int v1]) (st3 := [.int v3, .int v1]) rfl rfl (sx_inv_v2 (mi := 41) (k := 106) (st := [.int 1, .ref A, .int v1]) (w := w) rfl rfl (hI.1.oC hA) rfl rfl rfl) rfl rfl (c4) rfl ?_
  refine sx_RP.step (pc2 := 11) (ls2 := [(0, .ref A)]) (st2 := [.int (v1 + v3)]) (w3 := w) rfl rfl ?_
  refine sx_RP.step (pc2 := 12) (ls2 := [(1, .int (v1 + v3)), (0, .ref A)]) (st2 := []) (w3 := w) rfl rfl ?_
  refine sx_RP.step (pc2 := 13) (ls2 := [(1, .int (v1 + v3)), (0, .ref A)]) (st2 := [.int 0]) (w3 := w) rfl rfl ?_
  refine sx_RP.step (pc2 := 14) (ls2 := [(2, .int 0), (1, .int (v1 + v3)), (0, .ref A)]) (st2 := []) (w3 := w) rfl rfl ?_
  refine sx_RP.ls (sx_lr.cons rfl (sx_lr.cons rfl (sx_lr.cons rfl sx_lr.nil))) (Q41aL hA hz (fun w5 u8 hI6 hE7 => ?_) 10 0 w (v1 + v3) (by omega) (by omega) hI hE )
  refine sx_RP.step (pc2 := 51) (ls2 := [(0, .ref A), (1, .int u8)]) (st2 := [.int 0]) (w3 := w5) rfl rfl ?_
  refine sx_RP.step (pc2 := 52) (ls2 := [(2, .int 0), (0, .ref A), (1, .int u8)]) (st2 := []) (w3 := w5) rfl rfl ?_
  exact sx_RP.ls (sx_lr.cons rfl (sx_lr.cons rfl (sx_lr.cons rfl sx_lr.nil))) (Q41bL hA hz 10 0 w5 u8 (by omega) (by omega) hI6 hE7 )
set_option maxRecDepth 20000 in
set_option maxHeartbeats 4000000 in
theorem Q56B {xs : Option (List Int32)} {d : Nat} {w w0 : List sx_C} {ga : Nat} (hg : gAd ga) (hI : WI w) (hE : EQ w0 w) {j : Nat} (hj : j ≤ 48) (kk : ∀ (w4 : List sx_C), WI w4 → EQ w0 w4 → j + 1 ≤ 48 → sx_RP xs (d + 4) 56 2 [(0, .ref 0), (1, .ref ga), (2, .int (nI (j + 1)))] [] w4 (fun r w2 => (r = none) ∧ WI w2 ∧ EQ w0 w2)) : sx_RP xs (d + 4) 56 2 [(0, .ref 0), (1, .ref ga), (2, .int (nI j))] [] w (fun r w2 => (r = none) ∧ WI w2 ∧ EQ w0 w2) := by
  refine sx_RP.step (pc2 := 3) (ls2 := [(0, .ref 0), (1, .ref ga), (2, .int (nI j))]) (st2 := [.int (nI j)]) (w3 := w) rfl rfl ?_
  refine sx_RP.step (pc2 := 5) (ls2 := [(0, .ref 0), (1, .ref ga), (2, .int (nI j))]) (st2 := [.int 48, .int (nI j)]) (w3 := w) rfl rfl ?_
  refine sx_RP.br (p1 := 51) (l1 := [(0, .ref 0), (1, .ref ga), (2, .int (nI j))]) (s1 := []) (v1 := w) (p2 := 8) (l2 := [(0, .ref 0), (1, .ref ga), (2, .int (nI j))]) (s2 := []) (v2 := w) rfl rfl (fun q1 => ?_) (fun q1 => ?_)
  · replace q1 := of_decide_eq_true q1
    replace q1 := (nI_leI (a := 48) (b := j) (by omega) (by omega)).mp q1
    refine sx_RP.step (pc2 := 52) (ls2 := [(0, .ref 0), (1, .ref ga), (2, .int (nI j))]) (st2 := [.ref ga]) (w3 := w) rfl rfl ?_
    refine sx_RP.gg (k := 2) hI hg rfl rfl (by decide) (show _ = 55 from rfl) ?_
    obtain ⟨x2, hx3, ex4⟩ : inR (fi w ga 2) 47 := hI.gk (k := 2) hg (by decide)
    rw [ex4]
    refine sx_RP.step (pc2 := 56) (ls2 := [(0, .ref 0), (1, .ref ga), (2, .int (nI j))]) (st2 := [.ref 0, .int (nI x2)]) (w3 := w) rfl rfl ?_
    refine sx_RP.gf (v := .ref 100) rfl rfl hI.1.o0 rfl rfl (show _ = 59 from rfl) ?_
    refine sx_RP.step (pc2 := 60) (ls2 := [(0, .ref 0), (1, .ref ga), (2, .int (nI j))]) (st2 := [.ref 0, .ref 100, .int (nI x2)]) (w3 := w) rfl rfl ?_
    refine sx_RP.gf (v := .ref 101) rfl rfl hI.1.o0 rfl rfl (show _ = 63 from rfl) ?_
    refine sx_RP.callp (as2 := [.int (nI x2), .ref 100, .ref 101]) (rest2 := []) rfl rfl rfl rfl rfl rfl (Q18 hI (show x2 < 48 by omega)) (show _ = 66 from rfl) ?_
    rintro r4 w5 ⟨rfl, hI6, hE8⟩
    have hE7 := hE.tr (hE8)
    show sx_RP _ _ _ _ _ [] _ _
    refine sx_RP.ret (r := none) rfl rfl ?_
    exact ⟨rfl, hI6, hE7⟩
  · replace q1 := of_decide_eq_false q1
    replace q1 := mt (nI_leI (a := 48) (b := j) (by omega) (by omega)).mpr q1
    refine sx_RP.step (pc2 := 9) (ls2 := [(0, .ref 0), (1, .ref ga), (2, .int (nI j))]) (st2 := [.ref 0]) (w3 := w) rfl rfl ?_
    refine sx_RP.gf (v := .ref 100) rfl rfl hI.1.o0 rfl rfl (show _ = 12 from rfl) ?_
    refine sx_RP.step (pc2 := 13) (ls2 := [(0, .ref 0), (1, .ref ga), (2, .int (nI j))]) (st2 := [.int (nI j), .ref 100]) (w3 := w) rfl rfl ?_
    refine sx_RP.step (pc2 := 14) (ls2 := [(0, .ref 0), (1, .ref ga), (2, .int (nI j))]) (st2 := [.ref 0, .int (nI j), .ref 100]) (w3 := w) rfl rfl ?_
    refine sx_RP.gf (v := .ref 1) rfl rfl hI.1.o0 rfl rfl (show _ = 17 from rfl) ?_
    refine sx_RP.step (pc2 := 18) (ls2 := [(0, .ref 0), (1, .ref ga), (2, .int (nI j))]) (st2 := [.ref ga, .ref 1, .int (nI j), .ref 100]) (w3 := w) rfl rfl ?_
    refine sx_RP.gg (k := 0) hI hg rfl rfl (by decide) (show _ = 21 from rfl) ?_
    obtain ⟨x9, hx10, ex11⟩ : inR (fi w ga 0) 5 := hI.gk (k := 0) hg (by decide)
    rw [ex11]
    refine sx_RP.step (pc2 := 22) (ls2 := [(0, .ref 0), (1, .ref ga), (2, .int (nI j))]) (st2 := [.int (nI j), .int (nI x9), .ref 1, .int (nI j), .ref 100]) (w3 := w) rfl rfl ?_
    obtain ⟨x12, hx13, c14⟩ := p57 hI (Or.inl rfl) (show x9 ≤ 5 by omega) (show j < 48 by omega)
    refine sx_RP.cu (as := [.ref 1, .int (nI x9), .int (nI j)]) (rest2 := [.int (nI j), .ref 100]) (st3 := [.int (nI x12), .int (nI j), .ref 100]) rfl rfl (sx_inv_v2 (mi := 56) (k := 201) (st := [.int (nI j), .int (nI x9), .ref 1, .int (nI j), .ref 100]) (w := w) rfl rfl (hI.1.oC (Or.inl rfl)) rfl rfl rfl) rfl rfl (c14) rfl ?_
    refine sx_RP.br (p1 := 43) (l1 := [(0, .ref 0), (1, .ref ga), (2, .int (nI j))]) (s1 := [.int (nI j), .ref 100]) (v1 := w) (p2 := 28) (l2 := [(0, .ref 0), (1, .ref ga), (2, .int (nI j))]) (s2 := [.int (nI j), .ref 100]) (v2 := w) rfl rfl (fun q15 => ?_) (fun q15 => ?_)
    · replace q15 := of_decide_eq_true q15
      replace q15 := (nI_eq (a := x12) (b := 0) (by omega) (by omega)).mp q15
      refine sx_RP.step (pc2 := 44) (ls2 := [(0, .ref 0), (1, .ref ga), (2, .int (nI j))]) (st2 := [.int (-1), .int (nI j), .ref 100]) (w3 := w) rfl rfl ?_
      refine sx_RP.stFQ hI hE (by omega) rfl hI.1.a100 (sx_in_nI (show j < 48 by omega) (by decide)) (by omega) (show _ = 45 from rfl) (fun w16 hI17 hE18 => ?_)
      refine sx_RP.step (pc2 := 48) (ls2 := [(2, .int ((nI j) + 1)), (0, .ref 0), (1, .ref ga)]) (st2 := []) (w3 := w16) rfl rfl ?_
      rw [nI_1 j]
      refine sx_RP.step (pc2 := 2) (ls2 := [(2, .int (nI (j + 1))), (0, .ref 0), (1, .ref ga)]) (st2 := []) (w3 := w16) rfl rfl ?_
      exact sx_RP.ls (sx_lr.cons rfl (sx_lr.cons rfl (sx_lr.cons rfl sx_lr.nil))) (kk w16 hI17 hE18 (by omega))
    · replace q15 := of_decide_eq_false q15
      replace q15 := mt (nI_eq (a := x12) (b := 0) (by omega) (by omega)).mpr q15
      refine sx_RP.step (pc2 := 29) (ls2 := [(0, .ref 0), (1, .ref ga), (2, .int (nI j))]) (st2 := [.ref 0, .int (nI j), .ref 100]) (w3 := w) rfl rfl ?_
      refine sx_RP.gf (v := .ref 1) rfl rfl hI.1.o0 rfl rfl (show _ = 32 from rfl) ?_
      refine sx_RP.step (pc2 := 33) (ls2 := [(0, .ref 0), (1, .ref ga), (2, .int (nI j))]) (st2 := [.ref ga, .ref 1, .int (nI j), .ref 100]) (w3 := w) rfl rfl ?_
      refine sx_RP.gg (k := 0) hI hg rfl rfl (by decide) (show _ = 36 from rfl) ?_
      rw [ex11]
      refine sx_RP.step (pc2 := 37) (ls2 := [(0, .ref 0), (1, .ref ga), (2, .int (nI j))]) (st2 := [.int (nI j), .int (nI x9), .ref 1, .int (nI j), .ref 100]) (w3 := w) rfl rfl ?_
      obtain ⟨v19, c20⟩ := p33 hI (Or.inl rfl) (show x9 ≤ 5 by omega) (show j < 48 by omega)
      refine sx_RP.cu (as := [.ref 1, .int (nI x9), .int (nI j)]) (rest2 := [.int (nI j), .ref 100]) (st3 := [.int v19, .int (nI j), .ref 100]) rfl rfl (sx_inv_v2 (mi := 56) (k := 153) (st := [.int (nI j), .int (nI x9), .ref 1, .int (nI j), .ref 100]) (w := w) rfl rfl (hI.1.oC (Or.inl rfl)) rfl rfl rfl) rfl rfl (c20) rfl ?_
      refine sx_RP.step (pc2 := 44) (ls2 := [(0, .ref 0), (1, .ref ga), (2, .int (nI j))]) (st2 := [.int v19, .int (nI j), .ref 100]) (w3 := w) rfl rfl ?_
      refine sx_RP.stFQ hI hE (by omega) rfl hI.1.a100 (sx_in_nI (show j < 48 by omega) (by decide)) (by omega) (show _ = 45 from rfl) (fun w21 hI22 hE23 => ?_)
      refine sx_RP.step (pc2 := 48) (ls2 := [(2, .int ((nI j) + 1)), (0, .ref 0), (1, .ref ga)]) (st2 := []) (w3 := w21) rfl rfl ?_
      rw [nI_1 j]
      refine sx_RP.step (pc2 := 2) (ls2 := [(2, .int (nI (j + 1))), (0, .ref 0), (1, .ref ga)]) (st2 := []) (w3 := w21) rfl rfl ?_
      exact sx_RP.ls (sx_lr.cons rfl (sx_lr.cons rfl (sx_lr.cons rfl sx_lr.nil))) (kk w21 hI22 hE23 (by omega))
set_option maxRecDepth 20000 in
set_option maxHeartbeats 4000000 in
theorem Q56L {xs : Option (List Int32)} {d : Nat} {w0 : List sx_C} {ga : Nat} (hg : gAd ga) : ∀ (fz j : Nat) (w : List sx_C) , 48 ≤ j + fz * 1 → j ≤ 48 → WI w → EQ w0 w → sx_RP xs (d + 4) 56 2 [(0, .ref 0), (1, .ref ga), (2, .int (nI j))] [] w (fun r w2 => (r = none) ∧ WI w2 ∧ EQ w0 w2)
  | 0, j, w, h, hj, hI, hE => Q56B hg hI hE hj   (fun w4  hI4 hE4 hlt  => absurd hlt (by omega)) 
  | fz + 1, j, w, h, hj, hI, hE => Q56B hg hI hE hj   (fun w4  hI4 hE4 hlt  => Q56L hg  fz (j + 1) w4  (by omega) hlt hI4 hE4 ) 
set_option maxRecDepth 20000 in
set_option maxHeartbeats 4000000 in
theorem Q56 {xs : Option (List Int32)} {d : Nat} {w : List sx_C} (hI : WI w) {ga : Nat} (hg : gAd ga) : sx_RP xs (d + 4) 56 0 (lv_args 0 [.ref 0, .ref ga]) [] w (fun r w2 => (r = none) ∧ WI w2 ∧ EQ w w2) := by
  have hE : EQ w w := EQ.rf
  refine sx_RP.step (pc2 := 1) (ls2 := [(0, .ref 0), (1, .ref ga)]) (st2 := [.int 0]) (w3 := w) rfl rfl ?_
  refine sx_RP.step (pc2 := 2) (ls2 := [(2, .int 0), (0, .ref 0), (1, .ref ga)]) (st2 := []) (w3 := w) rfl rfl ?_
  exact sx_RP.ls (sx_lr.cons rfl (sx_lr.cons rfl (sx_lr.cons rfl sx_lr.nil))) (Q56L hg 48 0 w  (by omega) (by omega) hI hE )
set_option maxRecDepth 20000 in
set_option maxHeartbeats 4000000 in
theorem Q59B {xs : Option (List Int32)} {d : Nat} {w w0 : List sx_C} {ga gb : Nat} (hg : gAd ga) (hb : gAd gb) (hI : WI w) (hE : EQ w0 w) {j : Nat} (hj : j ≤ 61) (kk : ∀ (w4 : List sx_C), WI w4 → EQ w0 w4 → j + 1 ≤ 61 → sx_RP xs (d + 5) 59 15 [(0, .ref 0), (1, .ref ga), (2, .ref gb), (3, .int (nI (j + 1)))] [] w4 (fun r w2 => (∃ v : Int32, r = some (.int v)) ∧ WI w2 ∧ EQ w0 w2)) : sx_RP xs (d + 5) 59 15 [(0, .ref 0), (1, .ref ga), (2, .ref gb), (3, .int (nI j))] [] w (fun r w2 => (∃ v : Int32, r = some (.int v)) ∧ WI w2 ∧ EQ w0 w2) := by
  refine sx_RP.step (pc2 := 16) (ls2 := [(0, .ref 0), (1, .ref ga), (2, .ref gb), (3, .int (nI j))]) (st2 := [.int (nI j)]) (w3 := w) rfl rfl ?_
  refine sx_RP.step (pc2 := 18) (ls2 := [(0, .ref 0), (1, .ref ga), (2, .ref gb), (3, .int (nI j))]) (st2 := [.int 60, .int (nI j)]) (w3 := w) rfl rfl ?_
  refine sx_RP.br (p1 := 65) (l1 := [(0, .ref 0), (1, .ref ga), (2, .ref gb), (3, .int (nI j))]) (s1 := []) (v1 := w) (p2 := 21) (l2 := [(0, .ref 0), (1, .ref ga), (2, .ref gb), (3, .int (nI j))]) (s2 := []) (v2 := w) rfl rfl (fun q1 => ?_) (fun q1 => ?_)
  · replace q1 := of_decide_eq_true q1
    replace q1 := (nI_ltI (a := 60) (b := j) (by omega) (by omega)).mp q1
    refine sx_RP.step (pc2 := 66) (ls2 := [(0, .ref 0), (1, .ref ga), (2, .ref gb), (3, .int (nI j))]) (st2 := [.int (-1)]) (w3 := w) rfl rfl ?_
    refine sx_RP.ret (r := (some (.int (-1)))) rfl rfl ?_
    exact ⟨⟨_, rfl⟩, hI, hE⟩
  · replace q1 := of_decide_eq_false q1
    replace q1 := mt (nI_ltI (a := 60) (b := j) (by omega) (by omega)).mpr q1
    refine sx_RP.step (pc2 := 22) (ls2 := [(0, .ref 0), (1, .ref ga), (2, .ref gb), (3, .int (nI j))]) (st2 := [.ref 0]) (w3 := w) rfl rfl ?_
    refine sx_RP.gf (v := .ref 43) rfl rfl hI.1.o0 rfl rfl (show _ = 25 from rfl) ?_
    refine sx_RP.gg (k := 5) hI gAd.t rfl rfl (by decide) (show _ = 28 from rfl) ?_
    obtain ⟨x2, hx3, ex4⟩ : inR (fi w 43 5) 1 := hI.gk (k := 5) gAd.t (by decide)
    rw [ex4]
    refine sx_RP.br (p1 := 65) (l1 := [(0, .ref 0), (1, .ref ga), (2, .ref gb), (3, .int (nI j))]) (s1 := []) (v1 := w) (p2 := 31) (l2 := [(0, .ref 0), (1, .ref ga), (2, .ref gb), (3, .int (nI j))]) (s2 := []) (v2 := w) rfl rfl (fun q5 => ?_) (fun q5 => ?_)
    · replace q5 := of_decide_eq_true q5
      replace q5 := mt (nI_eq (a := x2) (b := 0) (by omega) (by omega)).mpr q5
      refine sx_RP.step (pc2 := 66) (ls2 := [(0, .ref 0), (1, .ref ga), (2, .ref gb), (3, .int (nI j))]) (st2 := [.int (-1)]) (w3 := w) rfl rfl ?_
      refine sx_RP.ret (r := (some (.int (-1)))) rfl rfl ?_
      exact ⟨⟨_, rfl⟩, hI, hE⟩
    · replace q5 := Decidable.not_not.mp (of_decide_eq_false q5)
      replace q5 := (nI_eq (a := x2) (b := 0) (by omega) (by omega)).mp q5
      refine sx_RP.step (pc2 := 32) (ls2 := [(0, .ref 0), (1, .ref ga), (2, .ref gb), (3, .int (nI j))]) (st2 := [.ref 0]) (w3 := w) rfl rfl ?_
      refine sx_RP.step (pc2 := 33) (ls2 := [(0, .ref 0), (1, .ref ga), (2, .ref gb), (3, .int (nI j))]) (st2 := [.ref 0, .ref 0]) (w3 := w) rfl rfl ?_
      refine sx_RP.gf (v := .ref 43) rfl rfl hI.1.o0 rfl rfl (show _ = 36 from rfl) ?_
      refine sx_RP.gg (k := 2) hI gAd.t rfl rfl (by decide) (show _ = 39 from rfl) ?_
      obtain ⟨x6, hx7, ex8⟩ : inR (fi w 43 2) 47 := hI.gk (k := 2) gAd.t (by decide)
      rw [ex8]
      refine sx_RP.step (pc2 := 40) (ls2 := [(0, .ref 0), (1, .ref ga), (2, .ref gb), (3, .int (nI j))]) (st2 := [.int (nI j), .int (nI x6), .ref 0]) (w3 := w) rfl rfl ?_
      obtain ⟨x9, hx10, c11⟩ := p60 hI (show x6 < 48 by omega) (nI j)
      refine sx_RP.cu (as := [.ref 0, .int (nI x6), .int (nI j)]) (rest2 := []) (st3 := [.int (nI x9)]) rfl rfl (sx_inv_v2 (mi := 59) (k := 210) (st := [.int (nI j), .int (nI x6), .ref 0]) (w := w) rfl rfl hI.1.o0 rfl rfl rfl) rfl rfl (c11) rfl ?_
      refine sx_RP.br (p1 := 48) (l1 := [(0, .ref 0), (1, .ref ga), (2, .ref gb), (3, .int (nI j))]) (s1 := []) (v1 := w) (p2 := 46) (l2 := [(0, .ref 0), (1, .ref ga), (2, .ref gb), (3, .int (nI j))]) (s2 := []) (v2 := w) rfl rfl (fun q12 => ?_) (fun q12 => ?_)
      · replace q12 := of_decide_eq_true q12
        replace q12 := (nI_eq (a := x9) (b := 0) (by omega) (by omega)).mp q12
        refine sx_RP.step (pc2 := 49) (ls2 := [(0, .ref 0), (1, .ref ga), (2, .ref gb), (3, .int (nI j))]) (st2 := [.ref 0]) (w3 := w) rfl rfl ?_
        refine sx_RP.gf (v := .ref 1) rfl rfl hI.1.o0 rfl rfl (show _ = 52 from rfl) ?_
        refine sx_RP.step (pc2 := 53) (ls2 := [(0, .ref 0), (1, .ref ga), (2, .ref gb), (3, .int (nI j))]) (st2 := [.ref 0, .ref 1]) (w3 := w) rfl rfl ?_
        refine sx_RP.gf (v := .ref 43) rfl rfl hI.1.o0 rfl rfl (show _ = 56 from rfl) ?_
        refine sx_RP.callp (as2 := [.ref 1, .ref 43]) (rest2 := []) rfl rfl (sx_inv_v2 (mi := 59) (k := 213) (st := [.ref 43, .ref 1]) (w := w) rfl rfl (hI.1.oC (Or.inl rfl)) rfl rfl rfl) rfl rfl rfl (Q44 hI (Or.inl rfl) gAd.t (by omega)) (show _ = 59 from rfl) ?_
        rintro r4 w13 ⟨rfl, hI14, hE16⟩
        have hE15 := hE.tr (hE16)
        show sx_RP _ _ _ _ _ [] _ _
        refine sx_RP.step (pc2 := 62) (ls2 := [(3, .int ((nI j) + 1)), (0, .ref 0), (1, .ref ga), (2, .ref gb)]) (st2 := []) (w3 := w13) rfl rfl ?_
        rw [nI_1 j]
        refine sx_RP.step (pc2 := 15) (ls2 := [(3, .int (nI (j + 1))), (0, .ref 0), (1, .ref ga), (2, .ref gb)]) (st2 := []) (w3 := w13) rfl rfl ?_
        exact sx_RP.ls (sx_lr.cons rfl (sx_lr.cons rfl (sx_lr.cons rfl (sx_lr.cons rfl sx_lr.nil)))) (kk w13 hI14 hE15 (by omega))
      · replace q12 := of_decide_eq_false q12
        replace q12 := mt (nI_eq (a := x9) (b := 0) (by omega) (by omega)).mpr q12
        refine sx_RP.step (pc2 := 47) (ls2 := [(0, .ref 0), (1, .ref ga), (2, .ref gb), (3, .int (nI j))]) (st2 := [.int (nI j)]) (w3 := w) rfl rfl ?_
        refine sx_RP.ret (r := (some (.int (nI j)))) rfl rfl ?_
        exact ⟨⟨_, rfl⟩, hI, hE⟩
set_option maxRecDepth 20000 in
set_option maxHeartbeats 4000000 in
theorem Q59L {xs : Option (List Int32)} {d : Nat} {w0 : List sx_C} {ga gb : Nat} (hg : gAd ga) (hb : gAd gb) : ∀ (fz j : Nat) (w : List sx_C) , 61 ≤ j + fz * 1 → j ≤ 61 → WI w → EQ w0 w → sx_RP xs (d + 5) 59 15 [(0, .ref 0), (1, .ref ga), (2, .ref gb), (3, .int (nI j))] [] w (fun r w2 => (∃ v : Int32, r = some (.int v)) ∧ WI w2 ∧ EQ w0 w2)
  | 0, j, w, h, hj, hI, hE => Q59B hg hb hI hE hj   (fun w4  hI4 hE4 hlt  => absurd hlt (by omega)) 
  | fz + 1, j, w, h, hj, hI, hE => Q59B hg hb hI hE hj   (fun w4  hI4 hE4 hlt  => Q59L hg hb  fz (j + 1) w4  (by omega) hlt hI4 hE4 ) 
set_option maxRecDepth 20000 in
set_option maxHeartbeats 4000000 in
theorem Q59 {xs : Option (List Int32)} {d : Nat} {w : List sx_C} (hI : WI w) {ga gb : Nat} (hg : gAd ga) (hb : gAd gb) : sx_RP xs (d + 5) 59 0 (lv_args 0 [.ref 0, .ref ga, .ref gb]) [] w (fun r w2 => (∃ v : Int32, r = some (.int v)) ∧ WI w2 ∧ EQ w w2) := by
  have hE : EQ w w := EQ.rf
  refine sx_RP.step (pc2 := 1) (ls2 := [(0, .ref 0), (1, .ref ga), (2, .ref gb)]) (st2 := [.ref 0]) (w3 := w) rfl rfl ?_
  refine sx_RP.step (pc2 := 2) (ls2 := [(0, .ref 0), (1, .ref ga), (2, .ref gb)]) (st2 := [.ref ga, .ref 0]) (w3 := w) rfl rfl ?_
  refine sx_RP.callp (as2 := [.ref 0, .ref ga]) (rest2 := []) rfl rfl (sx_inv_v2 (mi := 59) (k := 189) (st := [.ref ga, .ref 0]) (w := w) rfl rfl hI.1.o0 rfl rfl rfl) rfl rfl rfl (Q56 hI hg) (show _ = 5 from rfl) ?_
  rintro r4 w1 ⟨rfl, hI2, hE4⟩
  have hE3 := hE.tr (hE4)
  show sx_RP _ _ _ _ _ [] _ _
  refine sx_RP.step (pc2 := 6) (ls2 := [(0, .ref 0), (1, .ref ga), (2, .ref gb)]) (st2 := [.ref 0]) (w3 := w1) rfl rfl ?_
  refine sx_RP.gf (v := .ref 43) rfl rfl hI2.1.o0 rfl rfl (show _ = 9 from rfl) ?_
  refine sx_RP.step (pc2 := 10) (ls2 := [(0, .ref 0), (1, .ref ga), (2, .ref gb)]) (st2 := [.ref gb, .ref 43]) (w3 := w1) rfl rfl ?_
  refine sx_RP.callp (as2 := [.ref 43, .ref gb]) (rest2 := []) rfl rfl (sx_inv_v2 (mi := 59) (k := 208) (st := [.ref gb, .ref 43]) (w := w1) rfl rfl (hI2.1.oG gAd.t) rfl rfl rfl) rfl rfl rfl (Q51 hI2 gAd.t hb (by omega)) (show _ = 13 from rfl) ?_
  rintro r4 w5 ⟨rfl, hI6, hE8⟩
  have hE7 := hE3.tr (hE8)
  show sx_RP _ _ _ _ _ [] _ _
  refine sx_RP.step (pc2 := 14) (ls2 := [(0, .ref 0), (1, .ref ga), (2, .ref gb)]) (st2 := [.int 0]) (w3 := w5) rfl rfl ?_
  refine sx_RP.step (pc2 := 15) (ls2 := [(3, .int 0), (0, .ref 0), (1, .ref ga), (2, .ref gb)]) (st2 := []) (w3 := w5) rfl rfl ?_
  exact sx_RP.ls (sx_lr.cons rfl (sx_lr.cons rfl (sx_lr.cons rfl (sx_lr.cons rfl sx_lr.nil)))) (Q59L hg hb 61 0 w5  (by omega) (by omega) hI6 hE7 )
set_option maxRecDepth 20000 in
set_option maxHeartbeats 4000000 in
theorem Q68B {xs : Option (List Int32)} {d : Nat} {w w0 : List sx_C} {A : Nat} (hA : isA A) {c : Nat} (hc : c < 48) (hI : WI w) (hE : EQ w0 w) {j : Nat} (hj : j ≤ 10) (s : Int32) (kk : ∀ (w4 : List sx_C) (us : Int32), WI w4 → EQ w0 w4 → j + 1 ≤ 10 → sx_RP xs (d + 4) 68 15 [(0, .ref 0), (1, .ref A), (2, .int (nI c)), (3, .ref (47 + c)), (4, .int us), (5, .int (nI (j + 1)))] [] w4 (fun r w2 => (∃ v : Int32, r = some (.int v)) ∧ WI w2 ∧ EQ w0 w2)) : sx_RP xs (d + 4) 68 15 [(0, .ref 0), (1, .ref A), (2, .int (nI c)), (3, .ref (47 + c)), (4, .int s), (5, .int (nI j))] [] w (fun r w2 => (∃ v : Int32, r = some (.int v)) ∧ WI w2 ∧ EQ w0 w2) := by
  refine sx_RP.step (pc2 := 17) (ls2 := [(0, .ref 0), (1, .ref A), (2, .int (nI c)), (3, .ref (47 + c)), (4, .int s), (5, .int (nI j))]) (st2 := [.int (nI j)]) (w3 := w) rfl rfl ?_
  refine sx_RP.step (pc2 := 18) (ls2 := [(0, .ref 0), (1, .ref A), (2, .int (nI c)), (3, .ref (47 + c)), (4, .int s), (5, .int (nI j))]) (st2 := [.ref A, .int (nI j)]) (w3 := w) rfl rfl ?_
  refine sx_RP.gc (k := 3) hI hA rfl rfl (by omega) (show _ = 21 from rfl) ?_
  obtain ⟨x1, hx2, ex3⟩ : inR (fi w A 3) 10 := (hI.c hA).1
  rw [ex3]
  refine sx_RP.br (p1 := 68) (l1 := [(0, .ref 0), (1, .ref A), (2, .int (nI c)), (3, .ref (47 + c)), (4, .int s), (5, .int (nI j))]) (s1 := []) (v1 := w) (p2 := 24) (l2 := [(0, .ref 0), (1, .ref A), (2, .int (nI c)), (3, .ref (47 + c)), (4, .int s), (5, .int (nI j))]) (s2 := []) (v2 := w) rfl rfl (fun q4 => ?_) (fun q4 => ?_)
  · replace q4 := of_decide_eq_true q4
    replace q4 := (nI_leI (a := x1) (b := j) (by omega) (by omega)).mp q4
    refine sx_RP.step (pc2 := 70) (ls2 := [(0, .ref 0), (1, .ref A), (2, .int (nI c)), (3, .ref (47 + c)), (4, .int s), (5, .int (nI j))]) (st2 := [.int s]) (w3 := w) rfl rfl ?_
    refine sx_RP.ret (r := (some (.int s))) rfl rfl ?_
    exact ⟨⟨_, rfl⟩, hI, hE⟩
  · replace q4 := of_decide_eq_false q4
    replace q4 := mt (nI_leI (a := x1) (b := j) (by omega) (by omega)).mpr q4
    refine sx_RP.step (pc2 := 25) (ls2 := [(0, .ref 0), (1, .ref A), (2, .int (nI c)), (3, .ref (47 + c)), (4, .int s), (5, .int (nI j))]) (st2 := [.ref A]) (w3 := w) rfl rfl ?_
    refine sx_RP.gref (k := 2) (b := A + 2) hI hA rfl rfl (by omega) (show _ = 28 from rfl) ?_
    refine sx_RP.step (pc2 := 30) (ls2 := [(0, .ref 0), (1, .ref A), (2, .int (nI c)), (3, .ref (47 + c)), (4, .int s), (5, .int (nI j))]) (st2 := [.int (nI j), .ref (A + 2)]) (w3 := w) rfl rfl ?_
    refine sx_RP.ald (v := .ref (A + 4 + j)) rfl (hI.1.aG hA) rfl (grA_at (show j < 10 by omega)) (show _ = 31 from rfl) ?_
    refine sx_RP.step (pc2 := 33) (ls2 := [(6, .ref (A + 4 + j)), (0, .ref 0), (1, .ref A), (2, .int (nI c)), (3, .ref (47 + c)), (4, .int s), (5, .int (nI j))]) (st2 := []) (w3 := w) rfl rfl ?_
    refine sx_RP.step (pc2 := 35) (ls2 := [(6, .ref (A + 4 + j)), (0, .ref 0), (1, .ref A), (2, .int (nI c)), (3, .ref (47 + c)), (4, .int s), (5, .int (nI j))]) (st2 := [.ref (A + 4 + j)]) (w3 := w) rfl rfl ?_
    refine sx_RP.step (pc2 := 36) (ls2 := [(6, .ref (A + 4 + j)), (0, .ref 0), (1, .ref A), (2, .int (nI c)), (3, .ref (47 + c)), (4, .int s), (5, .int (nI j))]) (st2 := [.int 0, .ref (A + 4 + j)]) (w3 := w) rfl rfl ?_
    obtain ⟨x5, hx6, c7⟩ := p43 hI (gAd.of hA (show j < 10 by omega)) 0
    refine sx_RP.cu (as := [.ref (A + 4 + j), .int 0]) (rest2 := []) (st3 := [.int (nI x5)]) rfl rfl (sx_inv_v2 (mi := 68) (k := 186) (st := [.int 0, .ref (A + 4 + j)]) (w := w) rfl rfl (hI.1.oG (gAd.of hA (show j < 10 by omega))) rfl rfl rfl) rfl rfl (c7) rfl ?_
    refine sx_RP.br (p1 := 62) (l1 := [(6, .ref (A + 4 + j)), (0, .ref 0), (1, .ref A), (2, .int (nI c)), (3, .ref (47 + c)), (4, .int s), (5, .int (nI j))]) (s1 := []) (v1 := w) (p2 := 42) (l2 := [(6, .ref (A + 4 + j)), (0, .ref 0), (1, .ref A), (2, .int (nI c)), (3, .ref (47 + c)), (4, .int s), (5, .int (nI j))]) (s2 := []) (v2 := w) rfl rfl (fun q8 => ?_) (fun q8 => ?_)
    · replace q8 := of_decide_eq_true q8
      replace q8 := (nI_eq (a := x5) (b := 0) (by omega) (by omega)).mp q8
      refine sx_RP.step (pc2 := 65) (ls2 := [(5, .int ((nI j) + 1)), (6, .ref (A + 4 + j)), (0, .ref 0), (1, .ref A), (2, .int (nI c)), (3, .ref (47 + c)), (4, .int s)]) (st2 := []) (w3 := w) rfl rfl ?_
      rw [nI_1 j]
      refine sx_RP.step (pc2 := 15) (ls2 := [(5, .int (nI (j + 1))), (6, .ref (A + 4 + j)), (0, .ref 0), (1, .ref A), (2, .int (nI c)), (3, .ref (47 + c)), (4, .int s)]) (st2 := []) (w3 := w) rfl rfl ?_
      exact sx_RP.ls (sx_lr.cons rfl (sx_lr.cons rfl (sx_lr.cons rfl (sx_lr.cons rfl (sx_lr.cons rfl (sx_lr.cons rfl sx_lr.nil)))))) (kk w s hI hE (by omega))
    · replace q8 := of_decide_eq_false q8
      replace q8 := mt (nI_eq (a := x5) (b := 0) (by omega) (by omega)).mpr q8
      refine sx_RP.step (pc2 := 44) (ls2 := [(6, .ref (A + 4 + j)), (0, .ref 0), (1, .ref A), (2, .int (nI c)), (3, .ref (47 + c)), (4, .int s), (5, .int (nI j))]) (st2 := [.int s]) (w3 := w) rfl rfl ?_
      refine sx_RP.step (pc2 := 45) (ls2 := [(6, .ref (A + 4 + j)), (0, .ref 0), (1, .ref A), (2, .int (nI c)), (3, .ref (47 + c)), (4, .int s), (5, .int (nI j))]) (st2 := [.ref 0, .int s]) (w3 := w) rfl rfl ?_
      refine sx_RP.step (pc2 := 47) (ls2 := [(6, .ref (A + 4 + j)), (0, .ref 0), (1, .ref A), (2, .int (nI c)), (3, .ref (47 + c)), (4, .int s), (5, .int (nI j))]) (st2 := [.ref (A + 4 + j), .ref 0, .int s]) (w3 := w) rfl rfl ?_
      refine sx_RP.gg (k := 0) hI (gAd.of hA (show j < 10 by omega)) rfl rfl (by decide) (show _ = 50 from rfl) ?_
      obtain ⟨x9, hx10, ex11⟩ : inR (fi w (A + 4 + j) 0) 5 := hI.gk (k := 0) (gAd.of hA (show j < 10 by omega)) (by decide)
      rw [ex11]
      refine sx_RP.step (pc2 := 52) (ls2 := [(6, .ref (A + 4 + j)), (0, .ref 0), (1, .ref A), (2, .int (nI c)), (3, .ref (47 + c)), (4, .int s), (5, .int (nI j))]) (st2 := [.ref (A + 4 + j), .int (nI x9), .ref 0, .int s]) (w3 := w) rfl rfl ?_
      refine sx_RP.gg (k := 2) hI (gAd.of hA (show j < 10 by omega)) rfl rfl (by decide) (show _ = 55 from rfl) ?_
      obtain ⟨x12, hx13, ex14⟩ : inR (fi w (A + 4 + j) 2) 47 := hI.gk (k := 2) (gAd.of hA (show j < 10 by omega)) (by decide)
      rw [ex14]
      refine sx_RP.step (pc2 := 56) (ls2 := [(6, .ref (A + 4 + j)), (0, .ref 0), (1, .ref A), (2, .int (nI c)), (3, .ref (47 + c)), (4, .int s), (5, .int (nI j))]) (st2 := [.ref (47 + c), .int (nI x12), .int (nI x9), .ref 0, .int s]) (w3 := w) rfl rfl ?_
      obtain ⟨v15, c16⟩ := p69 hI (show x9 ≤ 5 by omega) (show x12 < 48 by omega) (show c < 48 by omega)
      refine sx_RP.cu (as := [.ref 0, .int (nI x9), .int (nI x12), .ref (47 + c)]) (rest2 := [.int s]) (st3 := [.int v15, .int s]) rfl rfl (sx_inv_v2 (mi := 68) (k := 235) (st := [.ref (47 + c), .int (nI x12), .int (nI x9), .ref 0, .int s]) (w := w) rfl rfl hI.1.o0 rfl rfl rfl) rfl rfl (c16) rfl ?_
      refine sx_RP.step (pc2 := 60) (ls2 := [(6, .ref (A + 4 + j)), (0, .ref 0), (1, .ref A), (2, .int (nI c)), (3, .ref (47 + c)), (4, .int s), (5, .int (nI j))]) (st2 := [.int (s + v15)]) (w3 := w) rfl rfl ?_
      refine sx_RP.step (pc2 := 62) (ls2 := [(4, .int (s + v15)), (6, .ref (A + 4 + j)), (0, .ref 0), (1, .ref A), (2, .int (nI c)), (3, .ref (47 + c)), (5, .int (nI j))]) (st2 := []) (w3 := w) rfl rfl ?_
      refine sx_RP.step (pc2 := 65) (ls2 := [(5, .int ((nI j) + 1)), (4, .int (s + v15)), (6, .ref (A + 4 + j)), (0, .ref 0), (1, .ref A), (2, .int (nI c)), (3, .ref (47 + c))]) (st2 := []) (w3 := w) rfl rfl ?_
      rw [nI_1 j]
      refine sx_RP.step (pc2 := 15) (ls2 := [(5, .int (nI (j + 1))), (4, .int (s + v15)), (6, .ref (A + 4 + j)), (0, .ref 0), (1, .ref A), (2, .int (nI c)), (3, .ref (47 + c))]) (st2 := []) (w3 := w) rfl rfl ?_
      exact sx_RP.ls (sx_lr.cons rfl (sx_lr.cons rfl (sx_lr.cons rfl (sx_lr.cons rfl (sx_lr.cons rfl (sx_lr.cons rfl sx_lr.nil)))))) (kk w (s + v15) hI hE (by omega))
set_option maxRecDepth 20000 in
set_option maxHeartbeats 4000000 in
theorem Q68L {xs : Option (List Int32)} {d : Nat} {w0 : List sx_C} {A : Nat} (hA : isA A) {c : Nat} (hc : c < 48) : ∀ (fz j : Nat) (w : List sx_C) (s : Int32) , 10 ≤ j + fz * 1 → j ≤ 10 → WI w → EQ w0 w → sx_RP xs (d + 4) 68 15 [(0, .ref 0), (1, .ref A), (2, .int (nI c)), (3, .ref (47 + c)), (4, .int s), (5, .int (nI j))] [] w (fun r w2 => (∃ v : Int32, r = some (.int v)) ∧ WI w2 ∧ EQ w0 w2)
  | 0, j, w, s, h, hj, hI, hE => Q68B hA hc hI hE hj s  (fun w4 us hI4 hE4 hlt  => absurd hlt (by omega)) 
  | fz + 1, j, w, s, h, hj, hI, hE => Q68B hA hc hI hE hj s  (fun w4 us hI4 hE4 hlt  => Q68L hA hc  fz (j + 1) w4 us (by omega) hlt hI4 hE4 ) 
set_option maxRecDepth 20000 in
set_option maxHeartbeats 4000000 in
theorem Q68 {xs : Option (List Int32)} {d : Nat} {w : List sx_C} (hI : WI w) {A : Nat} (hA : isA A) {c : Nat} (hc : c < 48) : sx_RP xs (d + 4) 68 0 (lv_args 0 [.ref 0, .ref A, .int (nI c)]) [] w (fun r w2 => (∃ v : Int32, r = some (.int v)) ∧ WI w2 ∧ EQ w w2) := by
  have hE : EQ w w := EQ.rf
  refine sx_RP.step (pc2 := 1) (ls2 := [(0, .ref 0), (1, .ref A), (2, .int (nI c))]) (st2 := [.ref 0]) (w3 := w) rfl rfl ?_
  refine sx_RP.gf (v := .ref 44) rfl rfl hI.1.o0 rfl rfl (show _ = 4 from rfl) ?_
  refine sx_RP.step (pc2 := 5) (ls2 := [(0, .ref 0), (1, .ref A), (2, .int (nI c))]) (st2 := [.int (nI c), .ref 44]) (w3 := w) rfl rfl ?_
  refine sx_RP.callp (as2 := [.ref 44, .int (nI c)]) (rest2 := []) rfl rfl (sx_inv_v2 (mi := 68) (k := 99) (st := [.int (nI c), .ref 44]) (w := w) rfl rfl hI.1.o44 rfl rfl rfl) rfl rfl rfl (Q17 hI (show c < 48 by omega)) (show _ = 8 from rfl) ?_
  rintro r4 w1 ⟨rfl, hI2, hE4⟩
  have hE3 := hE.tr (hE4)
  show sx_RP _ _ _ _ _ [.ref (47 + c)] _ _
  refine sx_RP.step (pc2 := 9) (ls2 := [(3, .ref (47 + c)), (0, .ref 0), (1, .ref A), (2, .int (nI c))]) (st2 := []) (w3 := w1) rfl rfl ?_
  refine sx_RP.step (pc2 := 10) (ls2 := [(3, .ref (47 + c)), (0, .ref 0), (1, .ref A), (2, .int (nI c))]) (st2 := [.int 0]) (w3 := w1) rfl rfl ?_
  refine sx_RP.step (pc2 := 12) (ls2 := [(4, .int 0), (3, .ref (47 + c)), (0, .ref 0), (1, .ref A), (2, .int (nI c))]) (st2 := []) (w3 := w1) rfl rfl ?_
  refine sx_RP.step (pc2 := 13) (ls2 := [(4, .int 0), (3, .ref (47 + c)), (0, .ref 0), (1, .ref A), (2, .int (nI c))]) (st2 := [.int 0]) (w3 := w1) rfl rfl ?_
  refine sx_RP.step (pc2 := 15) (ls2 := [(5, .int 0), (4, .int 0), (3, .ref (47 + c)), (0, .ref 0), (1, .ref A), (2, .int (nI c))]) (st2 := []) (w3 := w1) rfl rfl ?_
  exact sx_RP.ls (sx_lr.cons rfl (sx_lr.cons rfl (sx_lr.cons rfl (sx_lr.cons rfl (sx_lr.cons rfl (sx_lr.cons rfl sx_lr.nil)))))) (Q68L hA hc 10 0 w1 0 (by omega) (by omega) hI2 hE3 )
set_option maxRecDepth 20000 in
set_option maxHeartbeats 4000000 in
theorem Q73B {xs : Option (List Int32)} {d : Nat} {w w0 : List sx_C} {k c : Nat} (hk : k ≤ 5) (hc : c < 48) (hI : WI w) (hE : EQ w0 w) {j : Nat} (hj : j ≤ 9) (kk : ∀ (w4 : List sx_C), WI w4 → EQ w0 w4 → j + 1 ≤ 9 → sx_RP xs (d + 4) 73 2 [(0, .ref 0), (1, .int (nI k)), (2, .int (nI c)), (3, .int (nI (j + 1)))] [] w4 (fun r w2 => (∃ j, j ≤ 1 ∧ r = some (.int (nI j))) ∧ WI w2 ∧ EQ w0 w2)) : sx_RP xs (d + 4) 73 2 [(0, .ref 0), (1, .int (nI k)), (2, .int (nI c)), (3, .int (nI j))] [] w (fun r w2 => (∃ j, j ≤ 1 ∧ r = some (.int (nI j))) ∧ WI w2 ∧ EQ w0 w2) := by
  refine sx_RP.step (pc2 := 3) (ls2 := [(0, .ref 0), (1, .int (nI k)), (2, .int (nI c)), (3, .int (nI j))]) (st2 := [.int (nI j)]) (w3 := w) rfl rfl ?_
  refine sx_RP.step (pc2 := 4) (ls2 := [(0, .ref 0), (1, .int (nI k)), (2, .int (nI c)), (3, .int (nI j))]) (st2 := [.ref 0, .int (nI j)]) (w3 := w) rfl rfl ?_
  refine sx_RP.gf (v := .ref 1) rfl rfl hI.1.o0 rfl rfl (show _ = 7 from rfl) ?_
  refine sx_RP.gc (k := 5) hI (Or.inl rfl) rfl rfl (by omega) (show _ = 10 from rfl) ?_
  obtain ⟨x1, hx2, ex3⟩ : inR (fi w 1 5) 9 := (hI.c (Or.inl rfl)).2
  rw [ex3]
  refine sx_RP.br (p1 := 52) (l1 := [(0, .ref 0), (1, .int (nI k)), (2, .int (nI c)), (3, .int (nI j))]) (s1 := []) (v1 := w) (p2 := 13) (l2 := [(0, .ref 0), (1, .int (nI k)), (2, .int (nI c)), (3, .int (nI j))]) (s2 := []) (v2 := w) rfl rfl (fun q4 => ?_) (fun q4 => ?_)
  · replace q4 := of_decide_eq_true q4
    replace q4 := (nI_leI (a := x1) (b := j) (by omega) (by omega)).mp q4
    refine sx_RP.step (pc2 := 53) (ls2 := [(0, .ref 0), (1, .int (nI k)), (2, .int (nI c)), (3, .int (nI j))]) (st2 := [.int 1]) (w3 := w) rfl rfl ?_
    refine sx_RP.ret (r := (some (.int 1))) rfl rfl ?_
    exact ⟨⟨1, by decide, rfl⟩, hI, hE⟩
  · replace q4 := of_decide_eq_false q4
    replace q4 := mt (nI_leI (a := x1) (b := j) (by omega) (by omega)).mpr q4
    refine sx_RP.step (pc2 := 14) (ls2 := [(0, .ref 0), (1, .int (nI k)), (2, .int (nI c)), (3, .int (nI j))]) (st2 := [.ref 0]) (w3 := w) rfl rfl ?_
    refine sx_RP.step (pc2 := 15) (ls2 := [(0, .ref 0), (1, .int (nI k)), (2, .int (nI c)), (3, .int (nI j))]) (st2 := [.int (nI k), .ref 0]) (w3 := w) rfl rfl ?_
    refine sx_RP.step (pc2 := 16) (ls2 := [(0, .ref 0), (1, .int (nI k)), (2, .int (nI c)), (3, .int (nI j))]) (st2 := [.int (nI c), .int (nI k), .ref 0]) (w3 := w) rfl rfl ?_
    refine sx_RP.step (pc2 := 17) (ls2 := [(0, .ref 0), (1, .int (nI k)), (2, .int (nI c)), (3, .int (nI j))]) (st2 := [.ref 0, .int (nI c), .int (nI k), .ref 0]) (w3 := w) rfl rfl ?_
    refine sx_RP.gf (v := .ref 44) rfl rfl hI.1.o0 rfl rfl (show _ = 20 from rfl) ?_
    refine sx_RP.step (pc2 := 21) (ls2 := [(0, .ref 0), (1, .int (nI k)), (2, .int (nI c)), (3, .int (nI j))]) (st2 := [.ref 0, .ref 44, .int (nI c), .int (nI k), .ref 0]) (w3 := w) rfl rfl ?_
    refine sx_RP.gf (v := .ref 1) rfl rfl hI.1.o0 rfl rfl (show _ = 24 from rfl) ?_
    refine sx_RP.gref (k := 4) (b := 4) hI (Or.inl rfl) rfl rfl (by omega) (show _ = 27 from rfl) ?_
    refine sx_RP.step (pc2 := 28) (ls2 := [(0, .ref 0), (1, .int (nI k)), (2, .int (nI c)), (3, .int (nI j))]) (st2 := [.int (nI j), .ref 4, .ref 44, .int (nI c), .int (nI k), .ref 0]) (w3 := w) rfl rfl ?_
    refine sx_RP.ild (c := j) rfl (hI.1.aD (Or.inl rfl)).1 (hI.1.aD (Or.inl rfl)).2 (sx_in_nI (show j < 9 by omega) (by decide)) (show (nI j).toNatClampNeg = j from nI_clamp (by omega)) (show _ = 29 from rfl) ?_
    obtain ⟨x5, hx6, ex7⟩ : inR ((ia w 4).getD j 0) 47 := hI.di (Or.inl rfl) (show j < 9 by omega)
    rw [ex7]
    refine sx_RP.callp (as2 := [.ref 44, .int (nI x5)]) (rest2 := [.int (nI c), .int (nI k), .ref 0]) rfl rfl (sx_inv_v2 (mi := 73) (k := 99) (st := [.int (nI x5), .ref 44, .int (nI c), .int (nI k), .ref 0]) (w := w) rfl rfl hI.1.o44 rfl rfl rfl) rfl rfl rfl (Q17 hI (show x5 < 48 by omega)) (show _ = 32 from rfl) ?_
    rintro r4 w8 ⟨rfl, hI9, hE11⟩
    have hE10 := hE.tr (hE11)
    show sx_RP _ _ _ _ _ [.ref (47 + x5), .int (nI c), .int (nI k), .ref 0] _ _
    obtain ⟨v12, c13⟩ := p69 hI9 (show k ≤ 5 by omega) (show c < 48 by omega) (show x5 < 48 by omega)
    refine sx_RP.cu (as := [.ref 0, .int (nI k), .int (nI c), .ref (47 + x5)]) (rest2 := []) (st3 := [.int v12]) rfl rfl (sx_inv_v2 (mi := 73) (k := 235) (st := [.ref (47 + x5), .int (nI c), .int (nI k), .ref 0]) (w := w8) rfl rfl hI9.1.o0 rfl rfl rfl) rfl rfl (c13) rfl ?_
    refine sx_RP.step (pc2 := 36) (ls2 := [(0, .ref 0), (1, .int (nI k)), (2, .int (nI c)), (3, .int (nI j))]) (st2 := [.ref 0, .int v12]) (w3 := w8) rfl rfl ?_
    refine sx_RP.gf (v := .ref 102) rfl rfl hI9.1.o0 rfl rfl (show _ = 39 from rfl) ?_
    refine sx_RP.step (pc2 := 40) (ls2 := [(0, .ref 0), (1, .int (nI k)), (2, .int (nI c)), (3, .int (nI j))]) (st2 := [.int (nI j), .ref 102, .int v12]) (w3 := w8) rfl rfl ?_
    refine sx_RP.ild (c := j) rfl hI9.1.a102.1 hI9.1.a102.2 (sx_in_nI (show j < 9 by omega) (by decide)) (show (nI j).toNatClampNeg = j from nI_clamp (by omega)) (show _ = 41 from rfl) ?_
    refine sx_RP.br (p1 := 46) (l1 := [(0, .ref 0), (1, .int (nI k)), (2, .int (nI c)), (3, .int (nI j))]) (s1 := []) (v1 := w8) (p2 := 44) (l2 := [(0, .ref 0), (1, .int (nI k)), (2, .int (nI c)), (3, .int (nI j))]) (s2 := []) (v2 := w8) rfl rfl (fun q14 => ?_) (fun q14 => ?_)
    · replace q14 := of_decide_eq_true q14
      refine sx_RP.step (pc2 := 49) (ls2 := [(3, .int ((nI j) + 1)), (0, .ref 0), (1, .int (nI k)), (2, .int (nI c))]) (st2 := []) (w3 := w8) rfl rfl ?_
      rw [nI_1 j]
      refine sx_RP.step (pc2 := 2) (ls2 := [(3, .int (nI (j + 1))), (0, .ref 0), (1, .int (nI k)), (2, .int (nI c))]) (st2 := []) (w3 := w8) rfl rfl ?_
      exact sx_RP.ls (sx_lr.cons rfl (sx_lr.cons rfl (sx_lr.cons rfl (sx_lr.cons rfl sx_lr.nil)))) (kk w8 hI9 hE10 (by omega))
    · replace q14 := of_decide_eq_false q14
      refine sx_RP.step (pc2 := 45) (ls2 := [(0, .ref 0), (1, .int (nI k)), (2, .int (nI c)), (3, .int (nI j))]) (st2 := [.int 0]) (w3 := w8) rfl rfl ?_
      refine sx_RP.ret (r := (some (.int 0))) rfl rfl ?_
      exact ⟨⟨0, by decide, rfl⟩, hI9, hE10⟩
set_option maxRecDepth 20000 in
set_option maxHeartbeats 4000000 in
theorem Q73L {xs : Option (List Int32)} {d : Nat} {w0 : List sx_C} {k c : Nat} (hk : k ≤ 5) (hc : c < 48) : ∀ (fz j : Nat) (w : List sx_C) , 9 ≤ j + fz * 1 → j ≤ 9 → WI w → EQ w0 w → sx_RP xs (d + 4) 73 2 [(0, .ref 0), (1, .int (nI k)), (2, .int (nI c)), (3, .int (nI j))] [] w (fun r w2 => (∃ j, j ≤ 1 ∧ r = some (.int (nI j))) ∧ WI w2 ∧ EQ w0 w2)
  | 0, j, w, h, hj, hI, hE => Q73B hk hc hI hE hj   (fun w4  hI4 hE4 hlt  => absurd hlt (by omega)) 
  | fz + 1, j, w, h, hj, hI, hE => Q73B hk hc hI hE hj   (fun w4  hI4 hE4 hlt  => Q73L hk hc  fz (j + 1) w4  (by omega) hlt hI4 hE4 ) 
set_option maxRecDepth 20000 in
set_option maxHeartbeats 4000000 in
theorem Q73 {xs : Option (List Int32)} {d : Nat} {w : List sx_C} (hI : WI w) {k c : Nat} (hk : k ≤ 5) (hc : c < 48) : sx_RP xs (d + 4) 73 0 (lv_args 0 [.ref 0, .int (nI k), .int (nI c)]) [] w (fun r w2 => (∃ j, j ≤ 1 ∧ r = some (.int (nI j))) ∧ WI w2 ∧ EQ w w2) := by
  have hE : EQ w w := EQ.rf
  refine sx_RP.step (pc2 := 1) (ls2 := [(0, .ref 0), (1, .int (nI k)), (2, .int (nI c))]) (st2 := [.int 0]) (w3 := w) rfl rfl ?_
  refine sx_RP.step (pc2 := 2) (ls2 := [(3, .int 0), (0, .ref 0), (1, .int (nI k)), (2, .int (nI c))]) (st2 := []) (w3 := w) rfl rfl ?_
  exact sx_RP.ls (sx_lr.cons rfl (sx_lr.cons rfl (sx_lr.cons rfl (sx_lr.cons rfl sx_lr.nil)))) (Q73L hk hc 9 0 w  (by omega) (by omega) hI hE )
set_option maxRecDepth 20000 in
set_option maxHeartbeats 4000000 in
theorem Q72bB {xs : Option (List Int32)} {d : Nat} {w w0 : List sx_C} {k : Nat} (hk : k ≤ 5) (hI : WI w) (hE : EQ w0 w) {j : Nat} (hj : j ≤ 48) (l : Int64) (kk : ∀ (w4 : List sx_C) (ul : Int64), WI w4 → EQ w0 w4 → j + 1 ≤ 48 → sx_RP xs (d + 5) 72 47 [(0, .ref 0), (1, .int (nI k)), (2, .long ul), (4, .int (nI (j + 1)))] [] w4 (fun r w2 => (∃ v : Int64, r = some (.long v)) ∧ WI w2 ∧ EQ w0 w2)) : sx_RP xs (d + 5) 72 47 [(0, .ref 0), (1, .int (nI k)), (2, .long l), (4, .int (nI j))] [] w (fun r w2 => (∃ v : Int64, r = some (.long v)) ∧ WI w2 ∧ EQ w0 w2) := by
  refine sx_RP.step (pc2 := 49) (ls2 := [(0, .ref 0), (1, .int (nI k)), (2, .long l), (4, .int (nI j))]) (st2 := [.int (nI j)]) (w3 := w) rfl rfl ?_
  refine sx_RP.step (pc2 := 51) (ls2 := [(0, .ref 0), (1, .int (nI k)), (2, .long l), (4, .int (nI j))]) (st2 := [.int 48, .int (nI j)]) (w3 := w) rfl rfl ?_
  refine sx_RP.br (p1 := 77) (l1 := [(0, .ref 0), (1, .int (nI k)), (2, .long l), (4, .int (nI j))]) (s1 := []) (v1 := w) (p2 := 54) (l2 := [(0, .ref 0), (1, .int (nI k)), (2, .long l), (4, .int (nI j))]) (s2 := []) (v2 := w) rfl rfl (fun q1 => ?_) (fun q1 => ?_)
  · replace q1 := of_decide_eq_true q1
    replace q1 := (nI_leI (a := 48) (b := j) (by omega) (by omega)).mp q1
    refine sx_RP.step (pc2 := 78) (ls2 := [(0, .ref 0), (1, .int (nI k)), (2, .long l), (4, .int (nI j))]) (st2 := [.long l]) (w3 := w) rfl rfl ?_
    refine sx_RP.ret (r := (some (.long l))) rfl rfl ?_
    exact ⟨⟨_, rfl⟩, hI, hE⟩
  · replace q1 := of_decide_eq_false q1
    replace q1 := mt (nI_leI (a := 48) (b := j) (by omega) (by omega)).mpr q1
    refine sx_RP.step (pc2 := 55) (ls2 := [(0, .ref 0), (1, .int (nI k)), (2, .long l), (4, .int (nI j))]) (st2 := [.ref 0]) (w3 := w) rfl rfl ?_
    refine sx_RP.step (pc2 := 56) (ls2 := [(0, .ref 0), (1, .int (nI k)), (2, .long l), (4, .int (nI j))]) (st2 := [.int (nI k), .ref 0]) (w3 := w) rfl rfl ?_
    refine sx_RP.step (pc2 := 58) (ls2 := [(0, .ref 0), (1, .int (nI k)), (2, .long l), (4, .int (nI j))]) (st2 := [.int (nI j), .int (nI k), .ref 0]) (w3 := w) rfl rfl ?_
    refine sx_RP.callp (as2 := [.ref 0, .int (nI k), .int (nI j)]) (rest2 := []) rfl rfl (sx_inv_v2 (mi := 72) (k := 250) (st := [.int (nI j), .int (nI k), .ref 0]) (w := w) rfl rfl hI.1.o0 rfl rfl rfl) rfl rfl rfl (Q73 hI (show k ≤ 5 by omega) (show j < 48 by omega)) (show _ = 61 from rfl) ?_
    rintro r4 w4 ⟨⟨x2, hx3, rfl⟩, hI5, hE7⟩
    have hE6 := hE.tr (hE7)
    show sx_RP _ _ _ _ _ [.int (nI x2)] _ _
    refine sx_RP.br (p1 := 71) (l1 := [(0, .ref 0), (1, .int (nI k)), (2, .long l), (4, .int (nI j))]) (s1 := []) (v1 := w4) (p2 := 64) (l2 := [(0, .ref 0), (1, .int (nI k)), (2, .long l), (4, .int (nI j))]) (s2 := []) (v2 := w4) rfl rfl (fun q8 => ?_) (fun q8 => ?_)
    · replace q8 := of_decide_eq_true q8
      replace q8 := (nI_eq (a := x2) (b := 0) (by omega) (by omega)).mp q8
      refine sx_RP.step (pc2 := 74) (ls2 := [(4, .int ((nI j) + 1)), (0, .ref 0), (1, .int (nI k)), (2, .long l)]) (st2 := []) (w3 := w4) rfl rfl ?_
      rw [nI_1 j]
      refine sx_RP.step (pc2 := 47) (ls2 := [(4, .int (nI (j + 1))), (0, .ref 0), (1, .int (nI k)), (2, .long l)]) (st2 := []) (w3 := w4) rfl rfl ?_
      exact sx_RP.ls (sx_lr.cons rfl (sx_lr.cons rfl (sx_lr.cons rfl (sx_lr.cons rfl sx_lr.nil)))) (kk w4 l hI5 hE6 (by omega))
    · replace q8 := of_decide_eq_false q8
      replace q8 := mt (nI_eq (a := x2) (b := 0) (by omega) (by omega)).mpr q8
      refine sx_RP.step (pc2 := 65) (ls2 := [(0, .ref 0), (1, .int (nI k)), (2, .long l), (4, .int (nI j))]) (st2 := [.long l]) (w3 := w4) rfl rfl ?_
      refine sx_RP.step (pc2 := 66) (ls2 := [(0, .ref 0), (1, .int (nI k)), (2, .long l), (4, .int (nI j))]) (st2 := [.long 1, .long l]) (w3 := w4) rfl rfl ?_
      refine sx_RP.step (pc2 := 68) (ls2 := [(0, .ref 0), (1, .int (nI k)), (2, .long l), (4, .int (nI j))]) (st2 := [.int (nI j), .long 1, .long l]) (w3 := w4) rfl rfl ?_
      refine sx_RP.step (pc2 := 69) (ls2 := [(0, .ref 0), (1, .int (nI k)), (2, .long l), (4, .int (nI j))]) (st2 := [.long ((1 : Int64) <<< ((nI j).toInt64 &&& 63)), .long l]) (w3 := w4) rfl rfl ?_
      refine sx_RP.step (pc2 := 70) (ls2 := [(0, .ref 0), (1, .int (nI k)), (2, .long l), (4, .int (nI j))]) (st2 := [.long (l ||| ((1 : Int64) <<< ((nI j).toInt64 &&& 63)))]) (w3 := w4) rfl rfl ?_
      refine sx_RP.step (pc2 := 71) (ls2 := [(2, .long (l ||| ((1 : Int64) <<< ((nI j).toInt64 &&& 63)))), (0, .ref 0), (1, .int (nI k)), (4, .int (nI j))]) (st2 := []) (w3 := w4) rfl rfl ?_
      refine sx_RP.step (pc2 := 74) (ls2 := [(4, .int ((nI j) + 1)), (2, .long (l ||| ((1 : Int64) <<< ((nI j).toInt64 &&& 63)))), (0, .ref 0), (1, .int (nI k))]) (st2 := []) (w3 := w4) rfl rfl ?_
      rw [nI_1 j]
      refine sx_RP.step (pc2 := 47) (ls2 := [(4, .int (nI (j + 1))), (2, .long (l ||| ((1 : Int64) <<< ((nI j).toInt64 &&& 63)))), (0, .ref 0), (1, .int (nI k))]) (st2 := []) (w3 := w4) rfl rfl ?_
      exact sx_RP.ls (sx_lr.cons rfl (sx_lr.cons rfl (sx_lr.cons rfl (sx_lr.cons rfl sx_lr.nil)))) (kk w4 (l ||| ((1 : Int64) <<< ((nI j).toInt64 &&& 63))) hI5 hE6 (by omega))
set_option maxRecDepth 20000 in
set_option maxHeartbeats 4000000 in
theorem Q72bL {xs : Option (List Int32)} {d : Nat} {w0 : List sx_C} {k : Nat} (hk : k ≤ 5) : ∀ (fz j : Nat) (w : List sx_C) (l : Int64) , 48 ≤ j + fz * 1 → j ≤ 48 → WI w → EQ w0 w → sx_RP xs (d + 5) 72 47 [(0, .ref 0), (1, .int (nI k)), (2, .long l), (4, .int (nI j))] [] w (fun r w2 => (∃ v : Int64, r = some (.long v)) ∧ WI w2 ∧ EQ w0 w2)
  | 0, j, w, l, h, hj, hI, hE => Q72bB hk hI hE hj l  (fun w4 ul hI4 hE4 hlt  => absurd hlt (by omega)) 
  | fz + 1, j, w, l, h, hj, hI, hE => Q72bB hk hI hE hj l  (fun w4 ul hI4 hE4 hlt  => Q72bL hk  fz (j + 1) w4 ul (by omega) hlt hI4 hE4 ) 
set_option maxRecDepth 20000 in
set_option maxHeartbeats 4000000 in
theorem Q72aB {xs : Option (List Int32)} {d : Nat} {w w0 : List sx_C} {k : Nat} (hk : k ≤ 5) (hI : WI w) (hE : EQ w0 w) {j : Nat} (hj : j ≤ 9) (kk : ∀ (w4 : List sx_C), WI w4 → EQ w0 w4 → j + 1 ≤ 9 → sx_RP xs (d + 5) 72 2 [(0, .ref 0), (1, .int (nI k)), (2, .int (nI (j + 1)))] [] w4 (fun r w2 => (∃ v : Int64, r = some (.long v)) ∧ WI w2 ∧ EQ w0 w2)) (kx42 : ∀ (w4 : List sx_C), WI w4 → EQ w0 w4 → sx_RP xs (d + 5) 72 42 [(0, .ref 0), (1, .int (nI k))] [] w4 (fun r w2 => (∃ v : Int64, r = some (.long v)) ∧ WI w2 ∧ EQ w0 w2)) : sx_RP xs (d + 5) 72 2 [(0, .ref 0), (1, .int (nI k)), (2, .int (nI j))] [] w (fun r w2 => (∃ v : Int64, r = some (.long v)) ∧ WI w2 ∧ EQ w0 w2) := by
  refine sx_RP.step (pc2 := 3) (ls2 := [(0, .ref 0), (1, .int (nI k)), (2, .int (nI j))]) (st2 := [.int (nI j)]) (w3 := w) rfl rfl ?_
  refine sx_RP.step (pc2 := 4) (ls2 := [(0, .ref 0), (1, .int (nI k)), (2, .int (nI j))]) (st2 := [.ref 0, .int (nI j)]) (w3 := w) rfl rfl ?_
  refine sx_RP.gf (v := .ref 1) rfl rfl hI.1.o0 rfl rfl (show _ = 7 from rfl) ?_
  refine sx_RP.gc (k := 5) hI (Or.inl rfl) rfl rfl (by omega) (show _ = 10 from rfl) ?_
  obtain ⟨x1, hx2, ex3⟩ : inR (fi w 1 5) 9 := (hI.c (Or.inl rfl)).2
  rw [ex3]
  refine sx_RP.br (p1 := 42) (l1 := [(0, .ref 0), (1, .int (nI k)), (2, .int (nI j))]) (s1 := []) (v1 := w) (p2 := 13) (l2 := [(0, .ref 0), (1, .int (nI k)), (2, .int (nI j))]) (s2 := []) (v2 := w) rfl rfl (fun q4 => ?_) (fun q4 => ?_)
  · replace q4 := of_decide_eq_true q4
    replace q4 := (nI_leI (a := x1) (b := j) (by omega) (by omega)).mp q4
    exact sx_RP.ls (sx_lr.cons rfl (sx_lr.cons rfl sx_lr.nil)) (kx42 w hI hE)
  · replace q4 := of_decide_eq_false q4
    replace q4 := mt (nI_leI (a := x1) (b := j) (by omega) (by omega)).mpr q4
    refine sx_RP.step (pc2 := 14) (ls2 := [(0, .ref 0), (1, .int (nI k)), (2, .int (nI j))]) (st2 := [.ref 0]) (w3 := w) rfl rfl ?_
    refine sx_RP.gf (v := .ref 102) rfl rfl hI.1.o0 rfl rfl (show _ = 17 from rfl) ?_
    refine sx_RP.step (pc2 := 18) (ls2 := [(0, .ref 0), (1, .int (nI k)), (2, .int (nI j))]) (st2 := [.int (nI j), .ref 102]) (w3 := w) rfl rfl ?_
    refine sx_RP.step (pc2 := 19) (ls2 := [(0, .ref 0), (1, .int (nI k)), (2, .int (nI j))]) (st2 := [.ref 0, .int (nI j), .ref 102]) (w3 := w) rfl rfl ?_
    refine sx_RP.step (pc2 := 20) (ls2 := [(0, .ref 0), (1, .int (nI k)), (2, .int (nI j))]) (st2 := [.ref 0, .ref 0, .int (nI j), .ref 102]) (w3 := w) rfl rfl ?_
    refine sx_RP.gf (v := .ref 1) rfl rfl hI.1.o0 rfl rfl (show _ = 23 from rfl) ?_
    refine sx_RP.step (pc2 := 24) (ls2 := [(0, .ref 0), (1, .int (nI k)), (2, .int (nI j))]) (st2 := [.ref 0, .ref 1, .ref 0, .int (nI j), .ref 102]) (w3 := w) rfl rfl ?_
    refine sx_RP.gf (v := .ref 1) rfl rfl hI.1.o0 rfl rfl (show _ = 27 from rfl) ?_
    refine sx_RP.gref (k := 4) (b := 4) hI (Or.inl rfl) rfl rfl (by omega) (show _ = 30 from rfl) ?_
    refine sx_RP.step (pc2 := 31) (ls2 := [(0, .ref 0), (1, .int (nI k)), (2, .int (nI j))]) (st2 := [.int (nI j), .ref 4, .ref 1, .ref 0, .int (nI j), .ref 102]) (w3 := w) rfl rfl ?_
    refine sx_RP.ild (c := j) rfl (hI.1.aD (Or.inl rfl)).1 (hI.1.aD (Or.inl rfl)).2 (sx_in_nI (show j < 9 by omega) (by decide)) (show (nI j).toNatClampNeg = j from nI_clamp (by omega)) (show _ = 32 from rfl) ?_
    obtain ⟨x5, hx6, ex7⟩ : inR ((ia w 4).getD j 0) 47 := hI.di (Or.inl rfl) (show j < 9 by omega)
    rw [ex7]
    refine sx_RP.callp (as2 := [.ref 0, .ref 1, .int (nI x5)]) (rest2 := [.int (nI j), .ref 102]) rfl rfl (sx_inv_v2 (mi := 72) (k := 231) (st := [.int (nI x5), .ref 1, .ref 0, .int (nI j), .ref 102]) (w := w) rfl rfl hI.1.o0 rfl rfl rfl) rfl rfl rfl (Q68 hI (Or.inl rfl) (show x5 < 48 by omega)) (show _ = 35 from rfl) ?_
    rintro r4 w9 ⟨⟨v8, rfl⟩, hI10, hE12⟩
    have hE11 := hE.tr (hE12)
    show sx_RP _ _ _ _ _ [.int v8, .int (nI j), .ref 102] _ _
    refine sx_RP.stFQ hI10 hE11 (by omega) rfl hI10.1.a102 (sx_in_nI (show j < 9 by omega) (by decide)) (by omega) (show _ = 36 from rfl) (fun w13 hI14 hE15 => ?_)
    refine sx_RP.step (pc2 := 39) (ls2 := [(2, .int ((nI j) + 1)), (0, .ref 0), (1, .int (nI k))]) (st2 := []) (w3 := w13) rfl rfl ?_
    rw [nI_1 j]
    refine sx_RP.step (pc2 := 2) (ls2 := [(2, .int (nI (j + 1))), (0, .ref 0), (1, .int (nI k))]) (st2 := []) (w3 := w13) rfl rfl ?_
    exact sx_RP.ls (sx_lr.cons rfl (sx_lr.cons rfl (sx_lr.cons rfl sx_lr.nil))) (kk w13 hI14 hE15 (by omega))
set_option maxRecDepth 20000 in
set_option maxHeartbeats 4000000 in
theorem Q72aL {xs : Option (List Int32)} {d : Nat} {w0 : List sx_C} {k : Nat} (hk : k ≤ 5) (kx42 : ∀ (w4 : List sx_C), WI w4 → EQ w0 w4 → sx_RP xs (d + 5) 72 42 [(0, .ref 0), (1, .int (nI k))] [] w4 (fun r w2 => (∃ v : Int64, r = some (.long v)) ∧ WI w2 ∧ EQ w0 w2)) : ∀ (fz j : Nat) (w : List sx_C) , 9 ≤ j + fz * 1 → j ≤ 9 → WI w → EQ w0 w → sx_RP xs (d + 5) 72 2 [(0, .ref 0), (1, .int (nI k)), (2, .int (nI j))] [] w (fun r w2 => (∃ v : Int64, r = some (.long v)) ∧ WI w2 ∧ EQ w0 w2)
  | 0, j, w, h, hj, hI, hE => Q72aB hk hI hE hj   (fun w4  hI4 hE4 hlt  => absurd hlt (by omega)) kx42
  | fz + 1, j, w, h, hj, hI, hE => Q72aB hk hI hE hj   (fun w4  hI4 hE4 hlt  => Q72aL hk kx42 fz (j + 1) w4  (by omega) hlt hI4 hE4 ) kx42
set_option maxRecDepth 20000 in
set_option maxHeartbeats 4000000 in
theorem Q72 {xs : Option (List Int32)} {d : Nat} {w : List sx_C} (hI : WI w) {k : Nat} (hk : k ≤ 5) : sx_RP xs (d + 5) 72 0 (lv_args 0 [.ref 0, .int (nI k)]) [] w (fun r w2 => (∃ v : Int64, r = some (.long v)) ∧ WI w2 ∧ EQ w w2) := by
  have hE : EQ w w := EQ.rf
  refine sx_RP.step (pc2 := 1) (ls2 := [(0, .ref 0), (1, .int (nI k))]) (st2 := [.int 0]) (w3 := w) rfl rfl ?_
  refine sx_RP.step (pc2 := 2) (ls2 := [(2, .int 0), (0, .ref 0), (1, .int (nI k))]) (st2 := []) (w3 := w) rfl rfl ?_
  refine sx_RP.ls (sx_lr.cons rfl (sx_lr.cons rfl (sx_lr.cons rfl sx_lr.nil))) (Q72aL hk (fun w1 hI2 hE3 => ?_) 9 0 w  (by omega) (by omega) hI hE )
  refine sx_RP.step (pc2 := 43) (ls2 := [(0, .ref 0), (1, .int (nI k))]) (st2 := [.long 0]) (w3 := w1) rfl rfl ?_
  refine sx_RP.step (pc2 := 44) (ls2 := [(2, .long 0), (0, .ref 0), (1, .int (nI k))]) (st2 := []) (w3 := w1) rfl rfl ?_
  refine sx_RP.step (pc2 := 45) (ls2 := [(2, .long 0), (0, .ref 0), (1, .int (nI k))]) (st2 := [.int 0]) (w3 := w1) rfl rfl ?_
  refine sx_RP.step (pc2 := 47) (ls2 := [(4, .int 0), (2, .long 0), (0, .ref 0), (1, .int (nI k))]) (st2 := []) (w3 := w1) rfl rfl ?_
  exact sx_RP.ls (sx_lr.cons rfl (sx_lr.cons rfl (sx_lr.cons rfl (sx_lr.cons rfl sx_lr.nil)))) (Q72bL hk 48 0 w1 0 (by omega) (by omega) hI2 hE3 )
set_option maxRecDepth 20000 in
set_option maxHeartbeats 4000000 in
theorem Q75B {xs : Option (List Int32)} {d : Nat} {w w0 : List sx_C} {k c : Nat} (l : Int64) (p : Int32) (hk : k ≤ 5) (hc : c < 48) (hI : WI w) (hE : EQ w0 w) {j : Nat} (hj : j ≤ 48) (n : Int32) (kk : ∀ (w4 : List sx_C) (un : Int32), WI w4 → EQ w0 w4 → j + 1 ≤ 48 → sx_RP xs (d + 5) 75 29 [(0, .ref 0), (1, .int (nI k)), (2, .long l), (4, .int (nI c)), (5, .int p), (6, .ref (47 + c)), (7, .int un), (8, .int (nI (j + 1)))] [] w4 (fun r w2 => (∃ v : Int32, r = some (.int v)) ∧ WI w2 ∧ EQ w0 w2)) : sx_RP xs (d + 5) 75 29 [(0, .ref 0), (1, .int (nI k)), (2, .long l), (4, .int (nI c)), (5, .int p), (6, .ref (47 + c)), (7, .int n), (8, .int (nI j))] [] w (fun r w2 => (∃ v : Int32, r = some (.int v)) ∧ WI w2 ∧ EQ w0 w2) := by
  refine sx_RP.step (pc2 := 31) (ls2 := [(0, .ref 0), (1, .int (nI k)), (2, .long l), (4, .int (nI c)), (5, .int p), (6, .ref (47 + c)), (7, .int n), (8, .int (nI j))]) (st2 := [.int (nI j)]) (w3 := w) rfl rfl ?_
  refine sx_RP.step (pc2 := 33) (ls2 := [(0, .ref 0), (1, .int (nI k)), (2, .long l), (4, .int (nI c)), (5, .int p), (6, .ref (47 + c)), (7, .int n), (8, .int (nI j))]) (st2 := [.int 48, .int (nI j)]) (w3 := w) rfl rfl ?_
  refine sx_RP.br (p1 := 70) (l1 := [(0, .ref 0), (1, .int (nI k)), (2, .long l), (4, .int (nI c)), (5, .int p), (6, .ref (47 + c)), (7, .int n), (8, .int (nI j))]) (s1 := []) (v1 := w) (p2 := 36) (l2 := [(0, .ref 0), (1, .int (nI k)), (2, .long l), (4, .int (nI c)), (5, .int p), (6, .ref (47 + c)), (7, .int n), (8, .int (nI j))]) (s2 := []) (v2 := w) rfl rfl (fun q1 => ?_) (fun q1 => ?_)
  · replace q1 := of_decide_eq_true q1
    replace q1 := (nI_leI (a := 48) (b := j) (by omega) (by omega)).mp q1
    refine sx_RP.step (pc2 := 72) (ls2 := [(0, .ref 0), (1, .int (nI k)), (2, .long l), (4, .int (nI c)), (5, .int p), (6, .ref (47 + c)), (7, .int n), (8, .int (nI j))]) (st2 := [.int n]) (w3 := w) rfl rfl ?_
    refine sx_RP.ret (r := (some (.int n))) rfl rfl ?_
    exact ⟨⟨_, rfl⟩, hI, hE⟩
  · replace q1 := of_decide_eq_false q1
    replace q1 := mt (nI_leI (a := 48) (b := j) (by omega) (by omega)).mpr q1
    refine sx_RP.step (pc2 := 37) (ls2 := [(0, .ref 0), (1, .int (nI k)), (2, .long l), (4, .int (nI c)), (5, .int p), (6, .ref (47 + c)), (7, .int n), (8, .int (nI j))]) (st2 := [.long l]) (w3 := w) rfl rfl ?_
    refine sx_RP.step (pc2 := 39) (ls2 := [(0, .ref 0), (1, .int (nI k)), (2, .long l), (4, .int (nI c)), (5, .int p), (6, .ref (47 + c)), (7, .int n), (8, .int (nI j))]) (st2 := [.int (nI j), .long l]) (w3 := w) rfl rfl ?_
    refine sx_RP.step (pc2 := 40) (ls2 := [(0, .ref 0), (1, .int (nI k)), (2, .long l), (4, .int (nI c)), (5, .int p), (6, .ref (47 + c)), (7, .int n), (8, .int (nI j))]) (st2 := [.long ((l.toUInt64 >>> ((nI j).toInt64.toUInt64 &&& Int64.toUInt64 63)).toInt64)]) (w3 := w) rfl rfl ?_
    refine sx_RP.step (pc2 := 41) (ls2 := [(0, .ref 0), (1, .int (nI k)), (2, .long l), (4, .int (nI c)), (5, .int p), (6, .ref (47 + c)), (7, .int n), (8, .int (nI j))]) (st2 := [.long 1, .long ((l.toUInt64 >>> ((nI j).toInt64.toUInt64 &&& Int64.toUInt64 63)).toInt64)]) (w3 := w) rfl rfl ?_
    refine sx_RP.step (pc2 := 42) (ls2 := [(0, .ref 0), (1, .int (nI k)), (2, .long l), (4, .int (nI c)), (5, .int p), (6, .ref (47 + c)), (7, .int n), (8, .int (nI j))]) (st2 := [.long (((l.toUInt64 >>> ((nI j).toInt64.toUInt64 &&& Int64.toUInt64 63)).toInt64) &&& 1)]) (w3 := w) rfl rfl ?_
    refine sx_RP.step (pc2 := 43) (ls2 := [(0, .ref 0), (1, .int (nI k)), (2, .long l), (4, .int (nI c)), (5, .int p), (6, .ref (47 + c)), (7, .int n), (8, .int (nI j))]) (st2 := [.long 1, .long (((l.toUInt64 >>> ((nI j).toInt64.toUInt64 &&& Int64.toUInt64 63)).toInt64) &&& 1)]) (w3 := w) rfl rfl ?_
    refine sx_RP.step (pc2 := 44) (ls2 := [(0, .ref 0), (1, .int (nI k)), (2, .long l), (4, .int (nI c)), (5, .int p), (6, .ref (47 + c)), (7, .int n), (8, .int (nI j))]) (st2 := [.int (lg_cmp (((l.toUInt64 >>> ((nI j).toInt64.toUInt64 &&& Int64.toUInt64 63)).toInt64) &&& 1) 1)]) (w3 := w) rfl rfl ?_
    refine sx_RP.br (p1 := 64) (l1 := [(0, .ref 0), (1, .int (nI k)), (2, .long l), (4, .int (nI c)), (5, .int p), (6, .ref (47 + c)), (7, .int n), (8, .int (nI j))]) (s1 := []) (v1 := w) (p2 := 47) (l2 := [(0, .ref 0), (1, .int (nI k)), (2, .long l), (4, .int (nI c)), (5, .int p), (6, .ref (47 + c)), (7, .int n), (8, .int (nI j))]) (s2 := []) (v2 := w) rfl rfl (fun q2 => ?_) (fun q2 => ?_)
    · replace q2 := of_decide_eq_true q2
      refine sx_RP.step (pc2 := 67) (ls2 := [(8, .int ((nI j) + 1)), (0, .ref 0), (1, .int (nI k)), (2, .long l), (4, .int (nI c)), (5, .int p), (6, .ref (47 + c)), (7, .int n)]) (st2 := []) (w3 := w) rfl rfl ?_
      rw [nI_1 j]
      refine sx_RP.step (pc2 := 29) (ls2 := [(8, .int (nI (j + 1))), (0, .ref 0), (1, .int (nI k)), (2, .long l), (4, .int (nI c)), (5, .int p), (6, .ref (47 + c)), (7, .int n)]) (st2 := []) (w3 := w) rfl rfl ?_
      exact sx_RP.ls (sx_lr.cons rfl (sx_lr.cons rfl (sx_lr.cons rfl (sx_lr.cons rfl (sx_lr.cons rfl (sx_lr.cons rfl (sx_lr.cons rfl (sx_lr.cons rfl sx_lr.nil)))))))) (kk w n hI hE (by omega))
    · replace q2 := Decidable.not_not.mp (of_decide_eq_false q2)
      refine sx_RP.step (pc2 := 48) (ls2 := [(0, .ref 0), (1, .int (nI k)), (2, .long l), (4, .int (nI c)), (5, .int p), (6, .ref (47 + c)), (7, .int n), (8, .int (nI j))]) (st2 := [.ref 0]) (w3 := w) rfl rfl ?_
      refine sx_RP.step (pc2 := 49) (ls2 := [(0, .ref 0), (1, .int (nI k)), (2, .long l), (4, .int (nI c)), (5, .int p), (6, .ref (47 + c)), (7, .int n), (8, .int (nI j))]) (st2 := [.int (nI k), .ref 0]) (w3 := w) rfl rfl ?_
      refine sx_RP.step (pc2 := 51) (ls2 := [(0, .ref 0), (1, .int (nI k)), (2, .long l), (4, .int (nI c)), (5, .int p), (6, .ref (47 + c)), (7, .int n), (8, .int (nI j))]) (st2 := [.int (nI j), .int (nI k), .ref 0]) (w3 := w) rfl rfl ?_
      refine sx_RP.step (pc2 := 53) (ls2 := [(0, .ref 0), (1, .int (nI k)), (2, .long l), (4, .int (nI c)), (5, .int p), (6, .ref (47 + c)), (7, .int n), (8, .int (nI j))]) (st2 := [.ref (47 + c), .int (nI j), .int (nI k), .ref 0]) (w3 := w) rfl rfl ?_
      obtain ⟨v3, c4⟩ := p69 hI (show k ≤ 5 by omega) (show j < 48 by omega) (show c < 48 by omega)
      refine sx_RP.cu (as := [.ref 0, .int (nI k), .int (nI j), .ref (47 + c)]) (rest2 := []) (st3 := [.int v3]) rfl rfl (sx_inv_v2 (mi := 75) (k := 235) (st := [.ref (47 + c), .int (nI j), .int (nI k), .ref 0]) (w := w) rfl rfl hI.1.o0 rfl rfl rfl) rfl rfl (c4) rfl ?_
      refine sx_RP.step (pc2 := 58) (ls2 := [(0, .ref 0), (1, .int (nI k)), (2, .long l), (4, .int (nI c)), (5, .int p), (6, .ref (47 + c)), (7, .int n), (8, .int (nI j))]) (st2 := [.int p, .int v3]) (w3 := w) rfl rfl ?_
      refine sx_RP.br (p1 := 64) (l1 := [(0, .ref 0), (1, .int (nI k)), (2, .long l), (4, .int (nI c)), (5, .int p), (6, .ref (47 + c)), (7, .int n), (8, .int (nI j))]) (s1 := []) (v1 := w) (p2 := 61) (l2 := [(0, .ref 0), (1, .int (nI k)), (2, .long l), (4, .int (nI c)), (5, .int p), (6, .ref (47 + c)), (7, .int n), (8, .int (nI j))]) (s2 := []) (v2 := w) rfl rfl (fun q5 => ?_) (fun q5 => ?_)
      · replace q5 := of_decide_eq_true q5
        refine sx_RP.step (pc2 := 67) (ls2 := [(8, .int ((nI j) + 1)), (0, .ref 0), (1, .int (nI k)), (2, .long l), (4, .int (nI c)), (5, .int p), (6, .ref (47 + c)), (7, .int n)]) (st2 := []) (w3 := w) rfl rfl ?_
        rw [nI_1 j]
        refine sx_RP.step (pc2 := 29) (ls2 := [(8, .int (nI (j + 1))), (0, .ref 0), (1, .int (nI k)), (2, .long l), (4, .int (nI c)), (5, .int p), (6, .ref (47 + c)), (7, .int n)]) (st2 := []) (w3 := w) rfl rfl ?_
        exact sx_RP.ls (sx_lr.cons rfl (sx_lr.cons rfl (sx_lr.cons rfl (sx_lr.cons rfl (sx_lr.cons rfl (sx_lr.cons rfl (sx_lr.cons rfl (sx_lr.cons rfl sx_lr.nil)))))))) (kk w n hI hE (by omega))
      · replace q5 := Decidable.not_not.mp (of_decide_eq_false q5)
        refine sx_RP.step (pc2 := 64) (ls2 := [(7, .int (n + 1)), (0, .ref 0), (1, .int (nI k)), (2, .long l), (4, .int (nI c)), (5, .int p), (6, .ref (47 + c)), (8, .int (nI j))]) (st2 := []) (w3 := w) rfl rfl ?_
        refine sx_RP.step (pc2 := 67) (ls2 := [(8, .int ((nI j) + 1)), (7, .int (n + 1)), (0, .ref 0), (1, .int (nI k)), (2, .long l), (4, .int (nI c)), (5, .int p), (6, .ref (47 + c))]) (st2 := []) (w3 := w) rfl rfl ?_
        rw [nI_1 j]
        refine sx_RP.step (pc2 := 29) (ls2 := [(8, .int (nI (j + 1))), (7, .int (n + 1)), (0, .ref 0), (1, .int (nI k)), (2, .long l), (4, .int (nI c)), (5, .int p), (6, .ref (47 + c))]) (st2 := []) (w3 := w) rfl rfl ?_
        exact sx_RP.ls (sx_lr.cons rfl (sx_lr.cons rfl (sx_lr.cons rfl (sx_lr.cons rfl (sx_lr.cons rfl (sx_lr.cons rfl (sx_lr.cons rfl (sx_lr.cons rfl sx_lr.nil)))))))) (kk w (n + 1) hI hE (by omega))
set_option maxRecDepth 20000 in
set_option maxHeartbeats 4000000 in
theorem Q75L {xs : Option (List Int32)} {d : Nat} {w0 : List sx_C} {k c : Nat} (l : Int64) (p : Int32) (hk : k ≤ 5) (hc : c < 48) : ∀ (fz j : Nat) (w : List sx_C) (n : Int32) , 48 ≤ j + fz * 1 → j ≤ 48 → WI w → EQ w0 w → sx_RP xs (d + 5) 75 29 [(0, .ref 0), (1, .int (nI k)), (2, .long l), (4, .int (nI c)), (5, .int p), (6, .ref (47 + c)), (7, .int n), (8, .int (nI j))] [] w (fun r w2 => (∃ v : Int32, r = some (.int v)) ∧ WI w2 ∧ EQ w0 w2)
  | 0, j, w, n, h, hj, hI, hE => Q75B l p hk hc hI hE hj n  (fun w4 un hI4 hE4 hlt  => absurd hlt (by omega)) 
  | fz + 1, j, w, n, h, hj, hI, hE => Q75B l p hk hc hI hE hj n  (fun w4 un hI4 hE4 hlt  => Q75L l p hk hc  fz (j + 1) w4 un (by omega) hlt hI4 hE4 ) 
set_option maxRecDepth 20000 in
set_option maxHeartbeats 4000000 in
theorem Q75 {xs : Option (List Int32)} {d : Nat} {w : List sx_C} (hI : WI w) {k c : Nat} (l : Int64) (hk : k ≤ 5) (hc : c < 48) : sx_RP xs (d + 5) 75 0 (lv_args 0 [.ref 0, .int (nI k), .long l, .int (nI c)]) [] w (fun r w2 => (∃ v : Int32, r = some (.int v)) ∧ WI w2 ∧ EQ w w2) := by
  have hE : EQ w w := EQ.rf
  refine sx_RP.step (pc2 := 1) (ls2 := [(0, .ref 0), (1, .int (nI k)), (2, .long l), (4, .int (nI c))]) (st2 := [.ref 0]) (w3 := w) rfl rfl ?_
  refine sx_RP.step (pc2 := 2) (ls2 := [(0, .ref 0), (1, .int (nI k)), (2, .long l), (4, .int (nI c))]) (st2 := [.ref 0, .ref 0]) (w3 := w) rfl rfl ?_
  refine sx_RP.gf (v := .ref 1) rfl rfl hI.1.o0 rfl rfl (show _ = 5 from rfl) ?_
  refine sx_RP.step (pc2 := 7) (ls2 := [(0, .ref 0), (1, .int (nI k)), (2, .long l), (4, .int (nI c))]) (st2 := [.int (nI c), .ref 1, .ref 0]) (w3 := w) rfl rfl ?_
  refine sx_RP.callp (as2 := [.ref 0, .ref 1, .int (nI c)]) (rest2 := []) rfl rfl (sx_inv_v2 (mi := 75) (k := 231) (st := [.int (nI c), .ref 1, .ref 0]) (w := w) rfl rfl hI.1.o0 rfl rfl rfl) rfl rfl rfl (Q68 hI (Or.inl rfl) (show c < 48 by omega)) (show _ = 10 from rfl) ?_
  rintro r4 w2 ⟨⟨v1, rfl⟩, hI3, hE5⟩
  have hE4 := hE.tr (hE5)
  show sx_RP _ _ _ _ _ [.int v1] _ _
  refine sx_RP.step (pc2 := 12) (ls2 := [(5, .int v1), (0, .ref 0), (1, .int (nI k)), (2, .long l), (4, .int (nI c))]) (st2 := []) (w3 := w2) rfl rfl ?_
  refine sx_RP.step (pc2 := 13) (ls2 := [(5, .int v1), (0, .ref 0), (1, .int (nI k)), (2, .long l), (4, .int (nI c))]) (st2 := [.ref 0]) (w3 := w2) rfl rfl ?_
  refine sx_RP.gf (v := .ref 44) rfl rfl hI3.1.o0 rfl rfl (show _ = 16 from rfl) ?_
  refine sx_RP.step (pc2 := 18) (ls2 := [(5, .int v1), (0, .ref 0), (1, .int (nI k)), (2, .long l), (4, .int (nI c))]) (st2 := [.int (nI c), .ref 44]) (w3 := w2) rfl rfl ?_
  refine sx_RP.callp (as2 := [.ref 44, .int (nI c)]) (rest2 := []) rfl rfl (sx_inv_v2 (mi := 75) (k := 99) (st := [.int (nI c), .ref 44]) (w := w2) rfl rfl hI3.1.o44 rfl rfl rfl) rfl rfl rfl (Q17 hI3 (show c < 48 by omega)) (show _ = 21 from rfl) ?_
  rintro r4 w6 ⟨rfl, hI7, hE9⟩
  have hE8 := hE4.tr (hE9)
  show sx_RP _ _ _ _ _ [.ref (47 + c)] _ _
  refine sx_RP.step (pc2 := 23) (ls2 := [(6, .ref (47 + c)), (5, .int v1), (0, .ref 0), (1, .int (nI k)), (2, .long l), (4, .int (nI c))]) (st2 := []) (w3 := w6) rfl rfl ?_
  refine sx_RP.step (pc2 := 24) (ls2 := [(6, .ref (47 + c)), (5, .int v1), (0, .ref 0), (1, .int (nI k)), (2, .long l), (4, .int (nI c))]) (st2 := [.int 0]) (w3 := w6) rfl rfl ?_
  refine sx_RP.step (pc2 := 26) (ls2 := [(7, .int 0), (6, .ref (47 + c)), (5, .int v1), (0, .ref 0), (1, .int (nI k)), (2, .long l), (4, .int (nI c))]) (st2 := []) (w3 := w6) rfl rfl ?_
  refine sx_RP.step (pc2 := 27) (ls2 := [(7, .int 0), (6, .ref (47 + c)), (5, .int v1), (0, .ref 0), (1, .int (nI k)), (2, .long l), (4, .int (nI c))]) (st2 := [.int 0]) (w3 := w6) rfl rfl ?_
  refine sx_RP.step (pc2 := 29) (ls2 := [(8, .int 0), (7, .int 0), (6, .ref (47 + c)), (5, .int v1), (0, .ref 0), (1, .int (nI k)), (2, .long l), (4, .int (nI c))]) (st2 := []) (w3 := w6) rfl rfl ?_
  exact sx_RP.ls (sx_lr.cons rfl (sx_lr.cons rfl (sx_lr.cons rfl (sx_lr.cons rfl (sx_lr.cons rfl (sx_lr.cons rfl (sx_lr.cons rfl (sx_lr.cons rfl sx_lr.nil)))))))) (Q75L l v1 hk hc 48 0 w6 _ (by omega) (by omega) hI7 hE8)
set_option maxRecDepth 20000 in
set_option maxHeartbeats 4000000 in
theorem Q123B {xs : Option (List Int32)} {d : Nat} {w w0 : List sx_C} {A : Nat} (hA : isA A) {s n : Nat} (hs : s < 4) (hn : n ≤ 9) (hI : WI w) (hE : EQ w0 w) {j : Nat} (hj : j ≤ 9) (kk : ∀ (w4 : List sx_C), WI w4 → EQ w0 w4 → j + 1 ≤ 9 → sx_RP xs (d + 5) 123 15 [(0, .ref 0), (1, .ref A), (2, .ref (103 + 2 * s)), (3, .int (nI n)), (4, .int (nI (j + 1)))] [] w4 (fun r w2 => (∃ j, j ≤ 1 ∧ r = some (.int (nI j))) ∧ WI w2 ∧ EQ w0 w2)) : sx_RP xs (d + 5) 123 15 [(0, .ref 0), (1, .ref A), (2, .ref (103 + 2 * s)), (3, .int (nI n)), (4, .int (nI j))] [] w (fun r w2 => (∃ j, j ≤ 1 ∧ r = some (.int (nI j))) ∧ WI w2 ∧ EQ w0 w2) := by
  refine sx_RP.step (pc2 := 17) (ls2 := [(0, .ref 0), (1, .ref A), (2, .ref (103 + 2 * s)), (3, .int (nI n)), (4, .int (nI j))]) (st2 := [.int (nI j)]) (w3 := w) rfl rfl ?_
  refine sx_RP.step (pc2 := 18) (ls2 := [(0, .ref 0), (1, .ref A), (2, .ref (103 + 2 * s)), (3, .int (nI n)), (4, .int (nI j))]) (st2 := [.int (nI n), .int (nI j)]) (w3 := w) rfl rfl ?_
  refine sx_RP.br (p1 := 53) (l1 := [(0, .ref 0), (1, .ref A), (2, .ref (103 + 2 * s)), (3, .int (nI n)), (4, .int (nI j))]) (s1 := []) (v1 := w) (p2 := 21) (l2 := [(0, .ref 0), (1, .ref A), (2, .ref (103 + 2 * s)), (3, .int (nI n)), (4, .int (nI j))]) (s2 := []) (v2 := w) rfl rfl (fun q1 => ?_) (fun q1 => ?_)
  · replace q1 := of_decide_eq_true q1
    replace q1 := (nI_leI (a := n) (b := j) (by omega) (by omega)).mp q1
    refine sx_RP.step (pc2 := 54) (ls2 := [(0, .ref 0), (1, .ref A), (2, .ref (103 + 2 * s)), (3, .int (nI n)), (4, .int (nI j))]) (st2 := [.int 1]) (w3 := w) rfl rfl ?_
    refine sx_RP.ret (r := (some (.int 1))) rfl rfl ?_
    exact ⟨⟨1, by decide, rfl⟩, hI, hE⟩
  · replace q1 := of_decide_eq_false q1
    replace q1 := mt (nI_leI (a := n) (b := j) (by omega) (by omega)).mpr q1
    refine sx_RP.step (pc2 := 22) (ls2 := [(0, .ref 0), (1, .ref A), (2, .ref (103 + 2 * s)), (3, .int (nI n)), (4, .int (nI j))]) (st2 := [.ref (103 + 2 * s)]) (w3 := w) rfl rfl ?_
    refine sx_RP.gf (v := .ref (104 + 2 * s)) rfl rfl (hI.1.oS (show s < 4 by omega)) rfl rfl (show _ = 25 from rfl) ?_
    refine sx_RP.step (pc2 := 27) (ls2 := [(0, .ref 0), (1, .ref A), (2, .ref (103 + 2 * s)), (3, .int (nI n)), (4, .int (nI j))]) (st2 := [.int (nI j), .ref (104 + 2 * s)]) (w3 := w) rfl rfl ?_
    refine sx_RP.lld (c := j) rfl (hI.1.aN (show s < 4 by omega)).1 (hI.1.aN (show s < 4 by omega)).2 (sx_in_nI (show j < 40 by omega) (by decide)) (show (nI j).toNatClampNeg = j from nI_clamp (by omega)) (show _ = 28 from rfl) ?_
    refine sx_RP.step (pc2 := 29) (ls2 := [(0, .ref 0), (1, .ref A), (2, .ref (103 + 2 * s)), (3, .int (nI n)), (4, .int (nI j))]) (st2 := [.ref 0, .long ((ja w (104 + 2 * s)).getD j 0)]) (w3 := w) rfl rfl ?_
    refine sx_RP.step (pc2 := 30) (ls2 := [(0, .ref 0), (1, .ref A), (2, .ref (103 + 2 * s)), (3, .int (nI n)), (4, .int (nI j))]) (st2 := [.ref A, .ref 0, .long ((ja w (104 + 2 * s)).getD j 0)]) (w3 := w) rfl rfl ?_
    refine sx_RP.step (pc2 := 31) (ls2 := [(0, .ref 0), (1, .ref A), (2, .ref (103 + 2 * s)), (3, .int (nI n)), (4, .int (nI j))]) (st2 := [.ref A, .ref A, .ref 0, .long ((ja w (104 + 2 * s)).getD j 0)]) (w3 := w) rfl rfl ?_
    refine sx_RP.gref (k := 4) (b := A + 3) hI hA rfl rfl (by omega) (show _ = 34 from rfl) ?_
    refine sx_RP.step (pc2 := 36) (ls2 := [(0, .ref 0), (1, .ref A), (2, .ref (103 + 2 * s)), (3, .int (nI n)), (4, .int (nI j))]) (st2 := [.int (nI j), .ref (A + 3), .ref A, .ref 0, .long ((ja w (104 + 2 * s)).getD j 0)]) (w3 := w) rfl rfl ?_
    refine sx_RP.ild (c := j) rfl (hI.1.aD hA).1 (hI.1.aD hA).2 (sx_in_nI (show j < 9 by omega) (by decide)) (show (nI j).toNatClampNeg = j from nI_clamp (by omega)) (show _ = 37 from rfl) ?_
    obtain ⟨x2, hx3, ex4⟩ : inR ((ia w (A + 3)).getD j 0) 47 := hI.di hA (show j < 9 by omega)
    rw [ex4]
    refine sx_RP.callp (as2 := [.ref 0, .ref A, .int (nI x2)]) (rest2 := [.long ((ja w (104 + 2 * s)).getD j 0)]) rfl rfl (sx_inv_v2 (mi := 123) (k := 231) (st := [.int (nI x2), .ref A, .ref 0, .long ((ja w (104 + 2 * s)).getD j 0)]) (w := w) rfl rfl hI.1.o0 rfl rfl rfl) rfl rfl rfl (Q68 hI hA (show x2 < 48 by omega)) (show _ = 40 from rfl) ?_
    rintro r4 w6 ⟨⟨v5, rfl⟩, hI7, hE9⟩
    have hE8 := hE.tr (hE9)
    show sx_RP _ _ _ _ _ [.int v5, .long ((ja w (104 + 2 * s)).getD j 0)] _ _
    refine sx_RP.step (pc2 := 41) (ls2 := [(0, .ref 0), (1, .ref A), (2, .ref (103 + 2 * s)), (3, .int (nI n)), (4, .int (nI j))]) (st2 := [.long v5.toInt64, .long ((ja w (104 + 2 * s)).getD j 0)]) (w3 := w6) rfl rfl ?_
    refine sx_RP.step (pc2 := 42) (ls2 := [(0, .ref 0), (1, .ref A), (2, .ref (103 + 2 * s)), (3, .int (nI n)), (4, .int (nI j))]) (st2 := [.int (lg_cmp ((ja w (104 + 2 * s)).getD j 0) v5.toInt64)]) (w3 := w6) rfl rfl ?_
    refine sx_RP.br (p1 := 47) (l1 := [(0, .ref 0), (1, .ref A), (2, .ref (103 + 2 * s)), (3, .int (nI n)), (4, .int (nI j))]) (s1 := []) (v1 := w6) (p2 := 45) (l2 := [(0, .ref 0), (1, .ref A), (2, .ref (103 + 2 * s)), (3, .int (nI n)), (4, .int (nI j))]) (s2 := []) (v2 := w6) rfl rfl (fun q10 => ?_) (fun q10 => ?_)
    · replace q10 := of_decide_eq_true q10
      refine sx_RP.step (pc2 := 50) (ls2 := [(4, .int ((nI j) + 1)), (0, .ref 0), (1, .ref A), (2, .ref (103 + 2 * s)), (3, .int (nI n))]) (st2 := []) (w3 := w6) rfl rfl ?_
      rw [nI_1 j]
      refine sx_RP.step (pc2 := 15) (ls2 := [(4, .int (nI (j + 1))), (0, .ref 0), (1, .ref A), (2, .ref (103 + 2 * s)), (3, .int (nI n))]) (st2 := []) (w3 := w6) rfl rfl ?_
      exact sx_RP.ls (sx_lr.cons rfl (sx_lr.cons rfl (sx_lr.cons rfl (sx_lr.cons rfl (sx_lr.cons rfl sx_lr.nil))))) (kk w6 hI7 hE8 (by omega))
    · replace q10 := of_decide_eq_false q10
      refine sx_RP.step (pc2 := 46) (ls2 := [(0, .ref 0), (1, .ref A), (2, .ref (103 + 2 * s)), (3, .int (nI n)), (4, .int (nI j))]) (st2 := [.int 0]) (w3 := w6) rfl rfl ?_
      refine sx_RP.ret (r := (some (.int 0))) rfl rfl ?_
      exact ⟨⟨0, by decide, rfl⟩, hI7, hE8⟩
set_option maxRecDepth 20000 in
set_option maxHeartbeats 4000000 in
theorem Q123L {xs : Option (List Int32)} {d : Nat} {w0 : List sx_C} {A : Nat} (hA : isA A) {s n : Nat} (hs : s < 4) (hn : n ≤ 9) : ∀ (fz j : Nat) (w : List sx_C) , 9 ≤ j + fz * 1 → j ≤ 9 → WI w → EQ w0 w → sx_RP xs (d + 5) 123 15 [(0, .ref 0), (1, .ref A), (2, .ref (103 + 2 * s)), (3, .int (nI n)), (4, .int (nI j))] [] w (fun r w2 => (∃ j, j ≤ 1 ∧ r = some (.int (nI j))) ∧ WI w2 ∧ EQ w0 w2)
  | 0, j, w, h, hj, hI, hE => Q123B hA hs hn hI hE hj   (fun w4  hI4 hE4 hlt  => absurd hlt (by omega)) 
  | fz + 1, j, w, h, hj, hI, hE => Q123B hA hs hn hI hE hj   (fun w4  hI4 hE4 hlt  => Q123L hA hs hn  fz (j + 1) w4  (by omega) hlt hI4 hE4 ) 
set_option maxRecDepth 20000 in
set_option maxHeartbeats 4000000 in
theorem Q123 {xs : Option (List Int32)} {d : Nat} {w : List sx_C} (hI : WI w) {A : Nat} (hA : isA A) {s : Nat} (hs : s < 4) : sx_RP xs (d + 5) 123 0 (lv_args 0 [.ref 0, .ref A, .ref (103 + 2 * s)]) [] w (fun r w2 => (∃ j, j ≤ 1 ∧ r = some (.int (nI j))) ∧ WI w2 ∧ EQ w w2) := by
  have hE : EQ w w := EQ.rf
  refine sx_RP.step (pc2 := 1) (ls2 := [(0, .ref 0), (1, .ref A), (2, .ref (103 + 2 * s))]) (st2 := [.ref (103 + 2 * s)]) (w3 := w) rfl rfl ?_
  refine sx_RP.gf (v := .int (fi w (103 + 2 * s) 2)) rfl rfl (hI.1.oS (show s < 4 by omega)) rfl rfl (show _ = 4 from rfl) ?_
  obtain ⟨x1, hx2, ex3⟩ : inR (fi w (103 + 2 * s) 2) 40 := hI.sh (show s < 4 by omega)
  rw [ex3]
  refine sx_RP.step (pc2 := 5) (ls2 := [(0, .ref 0), (1, .ref A), (2, .ref (103 + 2 * s))]) (st2 := [.ref A, .int (nI x1)]) (w3 := w) rfl rfl ?_
  refine sx_RP.gc (k := 5) hI hA rfl rfl (by omega) (show _ = 8 from rfl) ?_
  obtain ⟨x4, hx5, ex6⟩ : inR (fi w A 5) 9 := (hI.c hA).2
  rw [ex6]
  obtain ⟨x7, hx8, c9⟩ := p97 (a := x1) (b := x4) hI (by omega) (by omega)
  refine sx_RP.cu (as := [.int (nI x1), .int (nI x4)]) (rest2 := []) (st3 := [.int (nI x7)]) rfl rfl rfl rfl rfl (c9) rfl ?_
  refine sx_RP.step (pc2 := 12) (ls2 := [(3, .int (nI x7)), (0, .ref 0), (1, .ref A), (2, .ref (103 + 2 * s))]) (st2 := []) (w3 := w) rfl rfl ?_
  refine sx_RP.step (pc2 := 13) (ls2 := [(3, .int (nI x7)), (0, .ref 0), (1, .ref A), (2, .ref (103 + 2 * s))]) (st2 := [.int 0]) (w3 := w) rfl rfl ?_
  refine sx_RP.step (pc2 := 15) (ls2 := [(4, .int 0), (3, .int (nI x7)), (0, .ref 0), (1, .ref A), (2, .ref (103 + 2 * s))]) (st2 := []) (w3 := w) rfl rfl ?_
  exact sx_RP.ls (sx_lr.cons rfl (sx_lr.cons rfl (sx_lr.cons rfl (sx_lr.cons rfl (sx_lr.cons rfl sx_lr.nil))))) (Q123L hA hs (show x7 ≤ 9 by omega) 9 0 w (by omega) (by omega) hI hE)
set_option maxRecDepth 20000 in
set_option maxHeartbeats 4000000 in
theorem Q12 {xs : Option (List Int32)} {d : Nat} {w : List sx_C} (hI : WI w) (a1 a2 : Int32) : sx_RP xs (d + 7) 12 0 (lv_args 0 [.ref 0, .int a1, .int a2]) [] w (fun r w2 => (∃ v : Int32, r = some (.int v)) ∧ WI w2 ∧ EQ w w2) := by
  have hE : EQ w w := EQ.rf
  refine sx_RP.step (pc2 := 1) (ls2 := [(0, .ref 0), (1, .int a1), (2, .int a2)]) (st2 := [.int a1]) (w3 := w) rfl rfl ?_
  rcases in_cases a1 0 47 (m := 0) (n := 47) rfl rfl (by decide) (by decide) with q1 | ⟨x2, hx3, hx4, rfl⟩
  · refine sx_RP.cu (as := [.int a1]) (rest2 := []) (st3 := [.int 0]) rfl rfl rfl rfl rfl (cx_7n q1) rfl ?_
    refine sx_RP.step (pc2 := 7) (ls2 := [(0, .ref 0), (1, .int a1), (2, .int a2)]) (st2 := []) (w3 := w) rfl rfl ?_
    refine sx_RP.step (pc2 := 8) (ls2 := [(0, .ref 0), (1, .int a1), (2, .int a2)]) (st2 := [.ref 0]) (w3 := w) rfl rfl ?_
    refine sx_RP.step (pc2 := 10) (ls2 := [(0, .ref 0), (1, .int a1), (2, .int a2)]) (st2 := [.int (-1000000001), .ref 0]) (w3 := w) rfl rfl ?_
    refine sx_RP.callp (as2 := [.ref 0, .int (-1000000001)]) (rest2 := []) rfl rfl (sx_inv_v2 (mi := 12) (k := 78) (st := [.int (-1000000001), .ref 0]) (w := w) rfl rfl hI.1.o0 rfl rfl rfl) rfl rfl rfl (Q9_0 hI) (show _ = 13 from rfl) ?_
    rintro r4 w6 ⟨rfl, hI7, hE9⟩
    have hE8 := hE.tr (hE9)
    show sx_RP _ _ _ _ _ [.int (-1000000001)] _ _
    refine sx_RP.ret (r := (some (.int (-1000000001)))) rfl rfl ?_
    exact ⟨⟨_, rfl⟩, hI7, hE8⟩
  · refine sx_RP.cu (as := [.int (nI x2)]) (rest2 := []) (st3 := [.int 1]) rfl rfl rfl rfl rfl (cx_7p ⟨nI_le (a := 0) hx3 (by omega), nI_le (b := 47) hx4 (by decide)⟩) rfl ?_
    refine sx_RP.step (pc2 := 14) (ls2 := [(0, .ref 0), (1, .int (nI x2)), (2, .int a2)]) (st2 := []) (w3 := w) rfl rfl ?_
    refine sx_RP.step (pc2 := 15) (ls2 := [(0, .ref 0), (1, .int (nI x2)), (2, .int a2)]) (st2 := [.int a2]) (w3 := w) rfl rfl ?_
    rcases sw_cases (n := 2) (a2) with q10 | ⟨x11, hx12, ex13⟩
    · refine sx_RP.swo (t := 76) rfl q10 rfl ?_
      refine sx_RP.step (pc2 := 77) (ls2 := [(0, .ref 0), (1, .int (nI x2)), (2, .int a2)]) (st2 := [.ref 0]) (w3 := w) rfl rfl ?_
      refine sx_RP.step (pc2 := 79) (ls2 := [(0, .ref 0), (1, .int (nI x2)), (2, .int a2)]) (st2 := [.int (-1000000001), .ref 0]) (w3 := w) rfl rfl ?_
      refine sx_RP.callp (as2 := [.ref 0, .int (-1000000001)]) (rest2 := []) rfl rfl (sx_inv_v2 (mi := 12) (k := 78) (st := [.int (-1000000001), .ref 0]) (w := w) rfl rfl hI.1.o0 rfl rfl rfl) rfl rfl rfl (Q9_0 hI) (show _ = 82 from rfl) ?_
      rintro r4 w14 ⟨rfl, hI15, hE17⟩
      have hE16 := hE.tr (hE17)
      show sx_RP _ _ _ _ _ [.int (-1000000001)] _ _
      refine sx_RP.ret (r := (some (.int (-1000000001)))) rfl rfl ?_
      exact ⟨⟨_, rfl⟩, hI15, hE16⟩
    · rw [ex13]
      rcases (show x11 = 0 ∨ x11 = 1 ∨ x11 = 2 by omega) with rfl | rfl | rfl
      · refine sx_RP.step (pc2 := 40) (ls2 := [(0, .ref 0), (1, .int (nI x2)), (2, .int (nI 0))]) (st2 := []) (w3 := w) rfl rfl ?_
        refine sx_RP.step (pc2 := 41) (ls2 := [(0, .ref 0), (1, .int (nI x2)), (2, .int (nI 0))]) (st2 := [.ref 0]) (w3 := w) rfl rfl ?_
        refine sx_RP.gf (v := .ref 1) rfl rfl hI.1.o0 rfl rfl (show _ = 44 from rfl) ?_
        refine sx_RP.gref (k := 0) (b := 2) hI (Or.inl rfl) rfl rfl (by omega) (show _ = 47 from rfl) ?_
        refine sx_RP.step (pc2 := 48) (ls2 := [(0, .ref 0), (1, .int (nI x2)), (2, .int (nI 0))]) (st2 := [.int (nI x2), .ref 2]) (w3 := w) rfl rfl ?_
        refine sx_RP.ild (c := x2) rfl (hI.1.aS (Or.inl rfl)).1 (hI.1.aS (Or.inl rfl)).2 (sx_in_nI (show x2 < 48 by omega) (by decide)) (show (nI x2).toNatClampNeg = x2 from nI_clamp (by omega)) (show _ = 49 from rfl) ?_
        obtain ⟨x18, hx19, ex20⟩ : inR ((ia w 2).getD x2 0) 3 := hI.st (Or.inl rfl) (show x2 < 48 by omega)
        rw [ex20]
        refine sx_RP.ret (r := (some (.int (nI x18)))) rfl rfl ?_
        exact ⟨⟨_, rfl⟩, hI, hE⟩
      · refine sx_RP.step (pc2 := 50) (ls2 := [(0, .ref 0), (1, .int (nI x2)), (2, .int (nI 1))]) (st2 := []) (w3 := w) rfl rfl ?_
        refine sx_RP.step (pc2 := 51) (ls2 := [(0, .ref 0), (1, .int (nI x2)), (2, .int (nI 1))]) (st2 := [.ref 0]) (w3 := w) rfl rfl ?_
        refine sx_RP.gf (v := .ref 1) rfl rfl hI.1.o0 rfl rfl (show _ = 54 from rfl) ?_
        refine sx_RP.step (pc2 := 55) (ls2 := [(0, .ref 0), (1, .int (nI x2)), (2, .int (nI 1))]) (st2 := [.int (nI x2), .ref 1]) (w3 := w) rfl rfl ?_
        obtain ⟨x21, hx22, c23⟩ := p11 hI (Or.inl rfl) (nI x2)
        refine sx_RP.cu (as := [.ref 1, .int (nI x2)]) (rest2 := []) (st3 := [.int (nI x21)]) rfl rfl (sx_inv_v2 (mi := 12) (k := 85) (st := [.int (nI x2), .ref 1]) (w := w) rfl rfl (hI.1.oC (Or.inl rfl)) rfl rfl rfl) rfl rfl (c23) rfl ?_
        refine sx_RP.br (p1 := 65) (l1 := [(0, .ref 0), (1, .int (nI x2)), (2, .int (nI 1))]) (s1 := []) (v1 := w) (p2 := 61) (l2 := [(0, .ref 0), (1, .int (nI x2)), (2, .int (nI 1))]) (s2 := []) (v2 := w) rfl rfl (fun q24 => ?_) (fun q24 => ?_)
        · replace q24 := of_decide_eq_true q24
          replace q24 := (nI_eq (a := x21) (b := 0) (by omega) (by omega)).mp q24
          refine sx_RP.step (pc2 := 66) (ls2 := [(0, .ref 0), (1, .int (nI x2)), (2, .int (nI 1))]) (st2 := [.int 0]) (w3 := w) rfl rfl ?_
          refine sx_RP.ret (r := (some (.int 0))) rfl rfl ?_
          exact ⟨⟨_, rfl⟩, hI, hE⟩
        · replace q24 := of_decide_eq_false q24
          replace q24 := mt (nI_eq (a := x21) (b := 0) (by omega) (by omega)).mpr q24
          refine sx_RP.step (pc2 := 62) (ls2 := [(0, .ref 0), (1, .int (nI x2)), (2, .int (nI 1))]) (st2 := [.int 1]) (w3 := w) rfl rfl ?_
          refine sx_RP.step (pc2 := 66) (ls2 := [(0, .ref 0), (1, .int (nI x2)), (2, .int (nI 1))]) (st2 := [.int 1]) (w3 := w) rfl rfl ?_
          refine sx_RP.ret (r := (some (.int 1))) rfl rfl ?_
          exact ⟨⟨_, rfl⟩, hI, hE⟩
      · refine sx_RP.step (pc2 := 67) (ls2 := [(0, .ref 0), (1, .int (nI x2)), (2, .int (nI 2))]) (st2 := []) (w3 := w) rfl rfl ?_
        refine sx_RP.step (pc2 := 68) (ls2 := [(0, .ref 0), (1, .int (nI x2)), (2, .int (nI 2))]) (st2 := [.ref 0]) (w3 := w) rfl rfl ?_
        refine sx_RP.gf (v := .ref 1) rfl rfl hI.1.o0 rfl rfl (show _ = 71 from rfl) ?_
        refine sx_RP.step (pc2 := 72) (ls2 := [(0, .ref 0), (1, .int (nI x2)), (2, .int (nI 2))]) (st2 := [.int (nI x2), .ref 1]) (w3 := w) rfl rfl ?_
        obtain ⟨v25, c26⟩ := p13 hI (Or.inl rfl) (nI x2)
        refine sx_RP.cu (as := [.ref 1, .int (nI x2)]) (rest2 := []) (st3 := [.int v25]) rfl rfl (sx_inv_v2 (mi := 12) (k := 92) (st := [.int (nI x2), .ref 1]) (w := w) rfl rfl (hI.1.oC (Or.inl rfl)) rfl rfl rfl) rfl rfl (c26) rfl ?_
        refine sx_RP.ret (r := (some (.int v25))) rfl rfl ?_
        exact ⟨⟨_, rfl⟩, hI, hE⟩
set_option maxRecDepth 20000 in
set_option maxHeartbeats 4000000 in
theorem Q14 {xs : Option (List Int32)} {d : Nat} {w : List sx_C} (hI : WI w) : sx_RP xs (d + 7) 14 0 (lv_args 0 [.ref 0]) [] w (fun r w2 => (∃ v : Int64, r = some (.long v)) ∧ WI w2 ∧ EQ w w2) := by
  have hE : EQ w w := EQ.rf
  refine sx_RP.step (pc2 := 1) (ls2 := [(0, .ref 0)]) (st2 := [.ref 0]) (w3 := w) rfl rfl ?_
  refine sx_RP.gf (v := .ref 1) rfl rfl hI.1.o0 rfl rfl (show _ = 4 from rfl) ?_
  refine sx_RP.gw hI (Or.inl rfl) rfl rfl (show _ = 7 from rfl) ?_
  refine sx_RP.ret (r := (some (.long (fj w 1 1)))) rfl rfl ?_
  exact ⟨⟨_, rfl⟩, hI, hE⟩
set_option maxRecDepth 20000 in
set_option maxHeartbeats 4000000 in
theorem Q15 {xs : Option (List Int32)} {d : Nat} {w : List sx_C} (hI : WI w) (a1 a2 : Int32) : sx_RP xs (d + 7) 15 0 (lv_args 0 [.ref 0, .int a1, .int a2]) [] w (fun r w2 => (∃ v : Int32, r = some (.int v)) ∧ WI w2 ∧ EQ w w2) := by
  have hE : EQ w w := EQ.rf
  refine sx_RP.step (pc2 := 1) (ls2 := [(0, .ref 0), (1, .int a1), (2, .int a2)]) (st2 := [.int a1]) (w3 := w) rfl rfl ?_
  rcases in_cases a1 0 47 (m := 0) (n := 47) rfl rfl (by decide) (by decide) with q1 | ⟨x2, hx3, hx4, rfl⟩
  · refine sx_RP.cu (as := [.int a1]) (rest2 := []) (st3 := [.int 0]) rfl rfl rfl rfl rfl (cx_7n q1) rfl ?_
    refine sx_RP.step (pc2 := 14) (ls2 := [(0, .ref 0), (1, .int a1), (2, .int a2)]) (st2 := []) (w3 := w) rfl rfl ?_
    refine sx_RP.step (pc2 := 15) (ls2 := [(0, .ref 0), (1, .int a1), (2, .int a2)]) (st2 := [.ref 0]) (w3 := w) rfl rfl ?_
    refine sx_RP.step (pc2 := 17) (ls2 := [(0, .ref 0), (1, .int a1), (2, .int a2)]) (st2 := [.int (-1000000001), .ref 0]) (w3 := w) rfl rfl ?_
    refine sx_RP.callp (as2 := [.ref 0, .int (-1000000001)]) (rest2 := []) rfl rfl (sx_inv_v2 (mi := 15) (k := 78) (st := [.int (-1000000001), .ref 0]) (w := w) rfl rfl hI.1.o0 rfl rfl rfl) rfl rfl rfl (Q9_0 hI) (show _ = 20 from rfl) ?_
    rintro r4 w6 ⟨rfl, hI7, hE9⟩
    have hE8 := hE.tr (hE9)
    show sx_RP _ _ _ _ _ [.int (-1000000001)] _ _
    refine sx_RP.ret (r := (some (.int (-1000000001)))) rfl rfl ?_
    exact ⟨⟨_, rfl⟩, hI7, hE8⟩
  · refine sx_RP.cu (as := [.int (nI x2)]) (rest2 := []) (st3 := [.int 1]) rfl rfl rfl rfl rfl (cx_7p ⟨nI_le (a := 0) hx3 (by omega), nI_le (b := 47) hx4 (by decide)⟩) rfl ?_
    refine sx_RP.step (pc2 := 7) (ls2 := [(0, .ref 0), (1, .int (nI x2)), (2, .int a2)]) (st2 := []) (w3 := w) rfl rfl ?_
    refine sx_RP.step (pc2 := 8) (ls2 := [(0, .ref 0), (1, .int (nI x2)), (2, .int a2)]) (st2 := [.int a2]) (w3 := w) rfl rfl ?_
    rcases in_cases a2 0 47 (m := 0) (n := 47) rfl rfl (by decide) (by decide) with q10 | ⟨x11, hx12, hx13, rfl⟩
    · refine sx_RP.cu (as := [.int a2]) (rest2 := []) (st3 := [.int 0]) rfl rfl rfl rfl rfl (cx_7n q10) rfl ?_
      refine sx_RP.step (pc2 := 14) (ls2 := [(0, .ref 0), (1, .int (nI x2)), (2, .int a2)]) (st2 := []) (w3 := w) rfl rfl ?_
      refine sx_RP.step (pc2 := 15) (ls2 := [(0, .ref 0), (1, .int (nI x2)), (2, .int a2)]) (st2 := [.ref 0]) (w3 := w) rfl rfl ?_
      refine sx_RP.step (pc2 := 17) (ls2 := [(0, .ref 0), (1, .int (nI x2)), (2, .int a2)]) (st2 := [.int (-1000000001), .ref 0]) (w3 := w) rfl rfl ?_
      refine sx_RP.callp (as2 := [.ref 0, .int (-1000000001)]) (rest2 := []) rfl rfl (sx_inv_v2 (mi := 15) (k := 78) (st := [.int (-1000000001), .ref 0]) (w := w) rfl rfl hI.1.o0 rfl rfl rfl) rfl rfl rfl (Q9_0 hI) (show _ = 20 from rfl) ?_
      rintro r4 w15 ⟨rfl, hI16, hE18⟩
      have hE17 := hE.tr (hE18)
      show sx_RP _ _ _ _ _ [.int (-1000000001)] _ _
      refine sx_RP.ret (r := (some (.int (-1000000001)))) rfl rfl ?_
      exact ⟨⟨_, rfl⟩, hI16, hE17⟩
    · refine sx_RP.cu (as := [.int (nI x11)]) (rest2 := []) (st3 := [.int 1]) rfl rfl rfl rfl rfl (cx_7p ⟨nI_le (a := 0) hx12 (by omega), nI_le (b := 47) hx13 (by decide)⟩) rfl ?_
      refine sx_RP.step (pc2 := 21) (ls2 := [(0, .ref 0), (1, .int (nI x2)), (2, .int (nI x11))]) (st2 := []) (w3 := w) rfl rfl ?_
      refine sx_RP.step (pc2 := 22) (ls2 := [(0, .ref 0), (1, .int (nI x2)), (2, .int (nI x11))]) (st2 := [.ref 0]) (w3 := w) rfl rfl ?_
      refine sx_RP.gf (v := .ref 44) rfl rfl hI.1.o0 rfl rfl (show _ = 25 from rfl) ?_
      refine sx_RP.step (pc2 := 26) (ls2 := [(0, .ref 0), (1, .int (nI x2)), (2, .int (nI x11))]) (st2 := [.ref 0, .ref 44]) (w3 := w) rfl rfl ?_
      refine sx_RP.gf (v := .ref 1) rfl rfl hI.1.o0 rfl rfl (show _ = 29 from rfl) ?_
      refine sx_RP.gref (k := 0) (b := 2) hI (Or.inl rfl) rfl rfl (by omega) (show _ = 32 from rfl) ?_
      refine sx_RP.callp (as2 := [.ref 44, .ref 2]) (rest2 := []) rfl rfl (sx_inv_v2 (mi := 15) (k := 95) (st := [.ref 2, .ref 44]) (w := w) rfl rfl hI.1.o44 rfl rfl rfl) rfl rfl rfl (Q16 hI (Or.inl rfl)) (show _ = 35 from rfl) ?_
      rintro r4 w19 ⟨rfl, hI20, hE22⟩
      have hE21 := hE.tr (hE22)
      show sx_RP _ _ _ _ _ [] _ _
      refine sx_RP.step (pc2 := 36) (ls2 := [(0, .ref 0), (1, .int (nI x2)), (2, .int (nI x11))]) (st2 := [.ref 0]) (w3 := w19) rfl rfl ?_
      refine sx_RP.gf (v := .ref 44) rfl rfl hI20.1.o0 rfl rfl (show _ = 39 from rfl) ?_
      refine sx_RP.step (pc2 := 40) (ls2 := [(0, .ref 0), (1, .int (nI x2)), (2, .int (nI x11))]) (st2 := [.int (nI x11), .ref 44]) (w3 := w19) rfl rfl ?_
      refine sx_RP.callp (as2 := [.ref 44, .int (nI x11)]) (rest2 := []) rfl rfl (sx_inv_v2 (mi := 15) (k := 99) (st := [.int (nI x11), .ref 44]) (w := w19) rfl rfl hI20.1.o44 rfl rfl rfl) rfl rfl rfl (Q17 hI20 (show x11 < 48 by omega)) (show _ = 43 from rfl) ?_
      rintro r4 w23 ⟨rfl, hI24, hE26⟩
      have hE25 := hE21.tr (hE26)
      show sx_RP _ _ _ _ _ [.ref (47 + x11)] _ _
      refine sx_RP.step (pc2 := 44) (ls2 := [(0, .ref 0), (1, .int (nI x2)), (2, .int (nI x11))]) (st2 := [.int (nI x2), .ref (47 + x11)]) (w3 := w23) rfl rfl ?_
      refine sx_RP.ild (c := x2) rfl (hI24.1.aR (show x11 < 48 by omega)).1 (hI24.1.aR (show x11 < 48 by omega)).2 (sx_in_nI (show x2 < 48 by omega) (by decide)) (show (nI x2).toNatClampNeg = x2 from nI_clamp (by omega)) (show _ = 45 from rfl) ?_
      refine sx_RP.ret (r := (some (.int ((ia w23 (47 + x11)).getD x2 0)))) rfl rfl ?_
      exact ⟨⟨_, rfl⟩, hI24, hE25⟩
set_option maxRecDepth 20000 in
set_option maxHeartbeats 4000000 in
theorem Q26 {xs : Option (List Int32)} {d : Nat} {w : List sx_C} (hI : WI w) (a1 a2 : Int32) : sx_RP xs (d + 7) 26 0 (lv_args 0 [.ref 0, .int a1, .int a2]) [] w (fun r w2 => (∃ v : Int32, r = some (.int v)) ∧ WI w2 ∧ EQ w w2) := by
  have hE : EQ w w := EQ.rf
  refine sx_RP.step (pc2 := 1) (ls2 := [(0, .ref 0), (1, .int a1), (2, .int a2)]) (st2 := [.ref 0]) (w3 := w) rfl rfl ?_
  refine sx_RP.gf (v := .ref 1) rfl rfl hI.1.o0 rfl rfl (show _ = 4 from rfl) ?_
  refine sx_RP.step (pc2 := 5) (ls2 := [(0, .ref 0), (1, .int a1), (2, .int a2)]) (st2 := [.int a1, .ref 1]) (w3 := w) rfl rfl ?_
  rcases p27 (xs := xs) hI (Or.inl rfl) a1 with c2 | ⟨⟨x3, hx4, rfl⟩, c2⟩
  · refine sx_RP.cu (as := [.ref 1, .int a1]) (rest2 := []) (st3 := [.int 0]) rfl rfl (sx_inv_v2 (mi := 26) (k := 120) (st := [.int a1, .ref 1]) (w := w) rfl rfl (hI.1.oC (Or.inl rfl)) rfl rfl rfl) rfl rfl (c2) rfl ?_
    refine sx_RP.step (pc2 := 11) (ls2 := [(0, .ref 0), (1, .int a1), (2, .int a2)]) (st2 := []) (w3 := w) rfl rfl ?_
    refine sx_RP.step (pc2 := 12) (ls2 := [(0, .ref 0), (1, .int a1), (2, .int a2)]) (st2 := [.ref 0]) (w3 := w) rfl rfl ?_
    refine sx_RP.step (pc2 := 14) (ls2 := [(0, .ref 0), (1, .int a1), (2, .int a2)]) (st2 := [.int (-1000000001), .ref 0]) (w3 := w) rfl rfl ?_
    refine sx_RP.callp (as2 := [.ref 0, .int (-1000000001)]) (rest2 := []) rfl rfl (sx_inv_v2 (mi := 26) (k := 78) (st := [.int (-1000000001), .ref 0]) (w := w) rfl rfl hI.1.o0 rfl rfl rfl) rfl rfl rfl (Q9_0 hI) (show _ = 17 from rfl) ?_
    rintro r4 w6 ⟨rfl, hI7, hE9⟩
    have hE8 := hE.tr (hE9)
    show sx_RP _ _ _ _ _ [.int (-1000000001)] _ _
    refine sx_RP.ret (r := (some (.int (-1000000001)))) rfl rfl ?_
    exact ⟨⟨_, rfl⟩, hI7, hE8⟩
  · refine sx_RP.cu (as := [.ref 1, .int (nI x3)]) (rest2 := []) (st3 := [.int 1]) rfl rfl (sx_inv_v2 (mi := 26) (k := 120) (st := [.int (nI x3), .ref 1]) (w := w) rfl rfl (hI.1.oC (Or.inl rfl)) rfl rfl rfl) rfl rfl (c2) rfl ?_
    refine sx_RP.step (pc2 := 18) (ls2 := [(0, .ref 0), (1, .int (nI x3)), (2, .int a2)]) (st2 := []) (w3 := w) rfl rfl ?_
    refine sx_RP.step (pc2 := 19) (ls2 := [(0, .ref 0), (1, .int (nI x3)), (2, .int a2)]) (st2 := [.ref 0]) (w3 := w) rfl rfl ?_
    refine sx_RP.gf (v := .ref 1) rfl rfl hI.1.o0 rfl rfl (show _ = 22 from rfl) ?_
    refine sx_RP.gref (k := 2) (b := 3) hI (Or.inl rfl) rfl rfl (by omega) (show _ = 25 from rfl) ?_
    refine sx_RP.step (pc2 := 26) (ls2 := [(0, .ref 0), (1, .int (nI x3)), (2, .int a2)]) (st2 := [.int (nI x3), .ref 3]) (w3 := w) rfl rfl ?_
    refine sx_RP.ald (v := .ref (1 + 4 + x3)) rfl (hI.1.aG (Or.inl rfl)) rfl (grA_at (show x3 < 10 by omega)) (show _ = 27 from rfl) ?_
    refine sx_RP.step (pc2 := 28) (ls2 := [(3, .ref (1 + 4 + x3)), (0, .ref 0), (1, .int (nI x3)), (2, .int a2)]) (st2 := []) (w3 := w) rfl rfl ?_
    refine sx_RP.step (pc2 := 29) (ls2 := [(3, .ref (1 + 4 + x3)), (0, .ref 0), (1, .int (nI x3)), (2, .int a2)]) (st2 := [.int a2]) (w3 := w) rfl rfl ?_
    rcases sw_cases (n := 5) (a2) with q10 | ⟨x11, hx12, ex13⟩
    · refine sx_RP.swo (t := 106) rfl q10 rfl ?_
      refine sx_RP.step (pc2 := 107) (ls2 := [(3, .ref (1 + 4 + x3)), (0, .ref 0), (1, .int (nI x3)), (2, .int a2)]) (st2 := [.ref 0]) (w3 := w) rfl rfl ?_
      refine sx_RP.step (pc2 := 109) (ls2 := [(3, .ref (1 + 4 + x3)), (0, .ref 0), (1, .int (nI x3)), (2, .int a2)]) (st2 := [.int (-1000000001), .ref 0]) (w3 := w) rfl rfl ?_
      refine sx_RP.callp (as2 := [.ref 0, .int (-1000000001)]) (rest2 := []) rfl rfl (sx_inv_v2 (mi := 26) (k := 78) (st := [.int (-1000000001), .ref 0]) (w := w) rfl rfl hI.1.o0 rfl rfl rfl) rfl rfl rfl (Q9_0 hI) (show _ = 112 from rfl) ?_
      rintro r4 w14 ⟨rfl, hI15, hE17⟩
      have hE16 := hE.tr (hE17)
      show sx_RP _ _ _ _ _ [.int (-1000000001)] _ _
      refine sx_RP.ret (r := (some (.int (-1000000001)))) rfl rfl ?_
      exact ⟨⟨_, rfl⟩, hI15, hE16⟩
    · rw [ex13]
      rcases (show x11 = 0 ∨ x11 = 1 ∨ x11 = 2 ∨ x11 = 3 ∨ x11 = 4 ∨ x11 = 5 by omega) with rfl | rfl | rfl | rfl | rfl | rfl
      · refine sx_RP.step (pc2 := 68) (ls2 := [(3, .ref (1 + 4 + x3)), (0, .ref 0), (1, .int (nI x3)), (2, .int (nI 0))]) (st2 := []) (w3 := w) rfl rfl ?_
        refine sx_RP.step (pc2 := 69) (ls2 := [(3, .ref (1 + 4 + x3)), (0, .ref 0), (1, .int (nI x3)), (2, .int (nI 0))]) (st2 := [.ref (1 + 4 + x3)]) (w3 := w) rfl rfl ?_
        refine sx_RP.gg (k := 0) hI (gAd.of (Or.inl rfl) (show x3 < 10 by omega)) rfl rfl (by decide) (show _ = 72 from rfl) ?_
        obtain ⟨x18, hx19, ex20⟩ : inR (fi w (1 + 4 + x3) 0) 5 := hI.gk (k := 0) (gAd.of (Or.inl rfl) (show x3 < 10 by omega)) (by decide)
        rw [ex20]
        refine sx_RP.ret (r := (some (.int (nI x18)))) rfl rfl ?_
        exact ⟨⟨_, rfl⟩, hI, hE⟩
      · refine sx_RP.step (pc2 := 73) (ls2 := [(3, .ref (1 + 4 + x3)), (0, .ref 0), (1, .int (nI x3)), (2, .int (nI 1))]) (st2 := []) (w3 := w) rfl rfl ?_
        refine sx_RP.step (pc2 := 74) (ls2 := [(3, .ref (1 + 4 + x3)), (0, .ref 0), (1, .int (nI x3)), (2, .int (nI 1))]) (st2 := [.ref (1 + 4 + x3)]) (w3 := w) rfl rfl ?_
        refine sx_RP.gg (k := 1) hI (gAd.of (Or.inl rfl) (show x3 < 10 by omega)) rfl rfl (by decide) (show _ = 77 from rfl) ?_
        obtain ⟨x21, hx22, ex23⟩ : inR (fi w (1 + 4 + x3) 1) 1 := hI.gk (k := 1) (gAd.of (Or.inl rfl) (show x3 < 10 by omega)) (by decide)
        rw [ex23]
        refine sx_RP.ret (r := (some (.int (nI x21)))) rfl rfl ?_
        exact ⟨⟨_, rfl⟩, hI, hE⟩
      · refine sx_RP.step (pc2 := 78) (ls2 := [(3, .ref (1 + 4 + x3)), (0, .ref 0), (1, .int (nI x3)), (2, .int (nI 2))]) (st2 := []) (w3 := w) rfl rfl ?_
        refine sx_RP.step (pc2 := 79) (ls2 := [(3, .ref (1 + 4 + x3)), (0, .ref 0), (1, .int (nI x3)), (2, .int (nI 2))]) (st2 := [.ref (1 + 4 + x3)]) (w3 := w) rfl rfl ?_
        refine sx_RP.gg (k := 2) hI (gAd.of (Or.inl rfl) (show x3 < 10 by omega)) rfl rfl (by decide) (show _ = 82 from rfl) ?_
        obtain ⟨x24, hx25, ex26⟩ : inR (fi w (1 + 4 + x3) 2) 47 := hI.gk (k := 2) (gAd.of (Or.inl rfl) (show x3 < 10 by omega)) (by decide)
        rw [ex26]
        refine sx_RP.ret (r := (some (.int (nI x24)))) rfl rfl ?_
        exact ⟨⟨_, rfl⟩, hI, hE⟩
      · refine sx_RP.step (pc2 := 83) (ls2 := [(3, .ref (1 + 4 + x3)), (0, .ref 0), (1, .int (nI x3)), (2, .int (nI 3))]) (st2 := []) (w3 := w) rfl rfl ?_
        refine sx_RP.step (pc2 := 84) (ls2 := [(3, .ref (1 + 4 + x3)), (0, .ref 0), (1, .int (nI x3)), (2, .int (nI 3))]) (st2 := [.ref (1 + 4 + x3)]) (w3 := w) rfl rfl ?_
        refine sx_RP.gg (k := 3) hI (gAd.of (Or.inl rfl) (show x3 < 10 by omega)) rfl rfl (by decide) (show _ = 87 from rfl) ?_
        obtain ⟨x27, hx28, ex29⟩ : inR (fi w (1 + 4 + x3) 3) 3 := hI.gk (k := 3) (gAd.of (Or.inl rfl) (show x3 < 10 by omega)) (by decide)
        rw [ex29]
        refine sx_RP.ret (r := (some (.int (nI x27)))) rfl rfl ?_
        exact ⟨⟨_, rfl⟩, hI, hE⟩
      · refine sx_RP.step (pc2 := 88) (ls2 := [(3, .ref (1 + 4 + x3)), (0, .ref 0), (1, .int (nI x3)), (2, .int (nI 4))]) (st2 := []) (w3 := w) rfl rfl ?_
        refine sx_RP.step (pc2 := 89) (ls2 := [(3, .ref (1 + 4 + x3)), (0, .ref 0), (1, .int (nI x3)), (2, .int (nI 4))]) (st2 := [.ref (1 + 4 + x3)]) (w3 := w) rfl rfl ?_
        refine sx_RP.gg (k := 4) hI (gAd.of (Or.inl rfl) (show x3 < 10 by omega)) rfl rfl (by decide) (show _ = 92 from rfl) ?_
        refine sx_RP.ret (r := (some (.int (fi w (1 + 4 + x3) 4)))) rfl rfl ?_
        exact ⟨⟨_, rfl⟩, hI, hE⟩
      · refine sx_RP.step (pc2 := 93) (ls2 := [(3, .ref (1 + 4 + x3)), (0, .ref 0), (1, .int (nI x3)), (2, .int (nI 5))]) (st2 := []) (w3 := w) rfl rfl ?_
        refine sx_RP.step (pc2 := 94) (ls2 := [(3, .ref (1 + 4 + x3)), (0, .ref 0), (1, .int (nI x3)), (2, .int (nI 5))]) (st2 := [.ref (1 + 4 + x3)]) (w3 := w) rfl rfl ?_
        refine sx_RP.gg (k := 5) hI (gAd.of (Or.inl rfl) (show x3 < 10 by omega)) rfl rfl (by decide) (show _ = 97 from rfl) ?_
        obtain ⟨x30, hx31, ex32⟩ : inR (fi w (1 + 4 + x3) 5) 1 := hI.gk (k := 5) (gAd.of (Or.inl rfl) (show x3 < 10 by omega)) (by decide)
        rw [ex32]
        refine sx_RP.br (p1 := 104) (l1 := [(3, .ref (1 + 4 + x3)), (0, .ref 0), (1, .int (nI x3)), (2, .int (nI 5))]) (s1 := []) (v1 := w) (p2 := 100) (l2 := [(3, .ref (1 + 4 + x3)), (0, .ref 0), (1, .int (nI x3)), (2, .int (nI 5))]) (s2 := []) (v2 := w) rfl rfl (fun q33 => ?_) (fun q33 => ?_)
        · replace q33 := of_decide_eq_true q33
          replace q33 := (nI_eq (a := x30) (b := 0) (by omega) (by omega)).mp q33
          refine sx_RP.step (pc2 := 105) (ls2 := [(3, .ref (1 + 4 + x3)), (0, .ref 0), (1, .int (nI x3)), (2, .int (nI 5))]) (st2 := [.int 0]) (w3 := w) rfl rfl ?_
          refine sx_RP.ret (r := (some (.int 0))) rfl rfl ?_
          exact ⟨⟨_, rfl⟩, hI, hE⟩
        · replace q33 := of_decide_eq_false q33
          replace q33 := mt (nI_eq (a := x30) (b := 0) (by omega) (by omega)).mpr q33
          refine sx_RP.step (pc2 := 101) (ls2 := [(3, .ref (1 + 4 + x3)), (0, .ref 0), (1, .int (nI x3)), (2, .int (nI 5))]) (st2 := [.int 1]) (w3 := w) rfl rfl ?_
          refine sx_RP.step (pc2 := 105) (ls2 := [(3, .ref (1 + 4 + x3)), (0, .ref 0), (1, .int (nI x3)), (2, .int (nI 5))]) (st2 := [.int 1]) (w3 := w) rfl rfl ?_
          refine sx_RP.ret (r := (some (.int 1))) rfl rfl ?_
          exact ⟨⟨_, rfl⟩, hI, hE⟩
set_option maxRecDepth 20000 in
set_option maxHeartbeats 4000000 in
theorem Q30 {xs : Option (List Int32)} {d : Nat} {w : List sx_C} (hI : WI w) (a1 a2 : Int32) : sx_RP xs (d + 7) 30 0 (lv_args 0 [.ref 0, .int a1, .int a2]) [] w (fun r w2 => (∃ v : Int32, r = some (.int v)) ∧ WI w2 ∧ EQ w w2) := by
  have hE : EQ w w := EQ.rf
  refine sx_RP.step (pc2 := 1) (ls2 := [(0, .ref 0), (1, .int a1), (2, .int a2)]) (st2 := [.ref 0]) (w3 := w) rfl rfl ?_
  refine sx_RP.gf (v := .ref 1) rfl rfl hI.1.o0 rfl rfl (show _ = 4 from rfl) ?_
  refine sx_RP.step (pc2 := 5) (ls2 := [(0, .ref 0), (1, .int a1), (2, .int a2)]) (st2 := [.int a1, .ref 1]) (w3 := w) rfl rfl ?_
  rcases p27 (xs := xs) hI (Or.inl rfl) a1 with c2 | ⟨⟨x3, hx4, rfl⟩, c2⟩
  · refine sx_RP.cu (as := [.ref 1, .int a1]) (rest2 := []) (st3 := [.int 0]) rfl rfl (sx_inv_v2 (mi := 30) (k := 120) (st := [.int a1, .ref 1]) (w := w) rfl rfl (hI.1.oC (Or.inl rfl)) rfl rfl rfl) rfl rfl (c2) rfl ?_
    refine sx_RP.step (pc2 := 18) (ls2 := [(0, .ref 0), (1, .int a1), (2, .int a2)]) (st2 := []) (w3 := w) rfl rfl ?_
    refine sx_RP.step (pc2 := 19) (ls2 := [(0, .ref 0), (1, .int a1), (2, .int a2)]) (st2 := [.ref 0]) (w3 := w) rfl rfl ?_
    refine sx_RP.step (pc2 := 21) (ls2 := [(0, .ref 0), (1, .int a1), (2, .int a2)]) (st2 := [.int (-1000000001), .ref 0]) (w3 := w) rfl rfl ?_
    refine sx_RP.callp (as2 := [.ref 0, .int (-1000000001)]) (rest2 := []) rfl rfl (sx_inv_v2 (mi := 30) (k := 78) (st := [.int (-1000000001), .ref 0]) (w := w) rfl rfl hI.1.o0 rfl rfl rfl) rfl rfl rfl (Q9_0 hI) (show _ = 24 from rfl) ?_
    rintro r4 w6 ⟨rfl, hI7, hE9⟩
    have hE8 := hE.tr (hE9)
    show sx_RP _ _ _ _ _ [.int (-1000000001)] _ _
    refine sx_RP.ret (r := (some (.int (-1000000001)))) rfl rfl ?_
    exact ⟨⟨_, rfl⟩, hI7, hE8⟩
  · refine sx_RP.cu (as := [.ref 1, .int (nI x3)]) (rest2 := []) (st3 := [.int 1]) rfl rfl (sx_inv_v2 (mi := 30) (k := 120) (st := [.int (nI x3), .ref 1]) (w := w) rfl rfl (hI.1.oC (Or.inl rfl)) rfl rfl rfl) rfl rfl (c2) rfl ?_
    refine sx_RP.step (pc2 := 11) (ls2 := [(0, .ref 0), (1, .int (nI x3)), (2, .int a2)]) (st2 := []) (w3 := w) rfl rfl ?_
    refine sx_RP.step (pc2 := 12) (ls2 := [(0, .ref 0), (1, .int (nI x3)), (2, .int a2)]) (st2 := [.int a2]) (w3 := w) rfl rfl ?_
    rcases in_cases a2 0 5 (m := 0) (n := 5) rfl rfl (by decide) (by decide) with q10 | ⟨x11, hx12, hx13, rfl⟩
    · refine sx_RP.cu (as := [.int a2]) (rest2 := []) (st3 := [.int 0]) rfl rfl rfl rfl rfl (cx_22n q10) rfl ?_
      refine sx_RP.step (pc2 := 18) (ls2 := [(0, .ref 0), (1, .int (nI x3)), (2, .int a2)]) (st2 := []) (w3 := w) rfl rfl ?_
      refine sx_RP.step (pc2 := 19) (ls2 := [(0, .ref 0), (1, .int (nI x3)), (2, .int a2)]) (st2 := [.ref 0]) (w3 := w) rfl rfl ?_
      refine sx_RP.step (pc2 := 21) (ls2 := [(0, .ref 0), (1, .int (nI x3)), (2, .int a2)]) (st2 := [.int (-1000000001), .ref 0]) (w3 := w) rfl rfl ?_
      refine sx_RP.callp (as2 := [.ref 0, .int (-1000000001)]) (rest2 := []) rfl rfl (sx_inv_v2 (mi := 30) (k := 78) (st := [.int (-1000000001), .ref 0]) (w := w) rfl rfl hI.1.o0 rfl rfl rfl) rfl rfl rfl (Q9_0 hI) (show _ = 24 from rfl) ?_
      rintro r4 w15 ⟨rfl, hI16, hE18⟩
      have hE17 := hE.tr (hE18)
      show sx_RP _ _ _ _ _ [.int (-1000000001)] _ _
      refine sx_RP.ret (r := (some (.int (-1000000001)))) rfl rfl ?_
      exact ⟨⟨_, rfl⟩, hI16, hE17⟩
    · refine sx_RP.cu (as := [.int (nI x11)]) (rest2 := []) (st3 := [.int 1]) rfl rfl rfl rfl rfl (cx_22p ⟨nI_le (a := 0) hx12 (by omega), nI_le (b := 5) hx13 (by decide)⟩) rfl ?_
      refine sx_RP.step (pc2 := 25) (ls2 := [(0, .ref 0), (1, .int (nI x3)), (2, .int (nI x11))]) (st2 := []) (w3 := w) rfl rfl ?_
      refine sx_RP.step (pc2 := 26) (ls2 := [(0, .ref 0), (1, .int (nI x3)), (2, .int (nI x11))]) (st2 := [.ref 0]) (w3 := w) rfl rfl ?_
      refine sx_RP.gf (v := .ref 1) rfl rfl hI.1.o0 rfl rfl (show _ = 29 from rfl) ?_
      refine sx_RP.gref (k := 2) (b := 3) hI (Or.inl rfl) rfl rfl (by omega) (show _ = 32 from rfl) ?_
      refine sx_RP.step (pc2 := 33) (ls2 := [(0, .ref 0), (1, .int (nI x3)), (2, .int (nI x11))]) (st2 := [.int (nI x3), .ref 3]) (w3 := w) rfl rfl ?_
      refine sx_RP.ald (v := .ref (1 + 4 + x3)) rfl (hI.1.aG (Or.inl rfl)) rfl (grA_at (show x3 < 10 by omega)) (show _ = 34 from rfl) ?_
      refine sx_RP.step (pc2 := 35) (ls2 := [(3, .ref (1 + 4 + x3)), (0, .ref 0), (1, .int (nI x3)), (2, .int (nI x11))]) (st2 := []) (w3 := w) rfl rfl ?_
      refine sx_RP.step (pc2 := 36) (ls2 := [(3, .ref (1 + 4 + x3)), (0, .ref 0), (1, .int (nI x3)), (2, .int (nI x11))]) (st2 := [.ref (1 + 4 + x3)]) (w3 := w) rfl rfl ?_
      refine sx_RP.gg (k := 0) hI (gAd.of (Or.inl rfl) (show x3 < 10 by omega)) rfl rfl (by decide) (show _ = 39 from rfl) ?_
      obtain ⟨x19, hx20, ex21⟩ : inR (fi w (1 + 4 + x3) 0) 5 := hI.gk (k := 0) (gAd.of (Or.inl rfl) (show x3 < 10 by omega)) (by decide)
      rw [ex21]
      refine sx_RP.step (pc2 := 40) (ls2 := [(3, .ref (1 + 4 + x3)), (0, .ref 0), (1, .int (nI x3)), (2, .int (nI x11))]) (st2 := [.int (nI x11), .int (nI x19)]) (w3 := w) rfl rfl ?_
      obtain ⟨x22, hx23, c24⟩ := p31 hI (show x19 ≤ 5 by omega) (nI x11)
      refine sx_RP.cu (as := [.int (nI x19), .int (nI x11)]) (rest2 := []) (st3 := [.int (nI x22)]) rfl rfl rfl rfl rfl (c24) rfl ?_
      refine sx_RP.br (p1 := 53) (l1 := [(3, .ref (1 + 4 + x3)), (0, .ref 0), (1, .int (nI x3)), (2, .int (nI x11))]) (s1 := []) (v1 := w) (p2 := 46) (l2 := [(3, .ref (1 + 4 + x3)), (0, .ref 0), (1, .int (nI x3)), (2, .int (nI x11))]) (s2 := []) (v2 := w) rfl rfl (fun q25 => ?_) (fun q25 => ?_)
      · replace q25 := of_decide_eq_true q25
        replace q25 := mt (nI_eq (a := x22) (b := 0) (by omega) (by omega)).mpr q25
        refine sx_RP.step (pc2 := 54) (ls2 := [(3, .ref (1 + 4 + x3)), (0, .ref 0), (1, .int (nI x3)), (2, .int (nI x11))]) (st2 := [.ref (1 + 4 + x3)]) (w3 := w) rfl rfl ?_
        refine sx_RP.gg (k := 2) hI (gAd.of (Or.inl rfl) (show x3 < 10 by omega)) rfl rfl (by decide) (show _ = 57 from rfl) ?_
        obtain ⟨x26, hx27, ex28⟩ : inR (fi w (1 + 4 + x3) 2) 47 := hI.gk (k := 2) (gAd.of (Or.inl rfl) (show x3 < 10 by omega)) (by decide)
        rw [ex28]
        refine sx_RP.ret (r := (some (.int (nI x26)))) rfl rfl ?_
        exact ⟨⟨_, rfl⟩, hI, hE⟩
      · replace q25 := Decidable.not_not.mp (of_decide_eq_false q25)
        replace q25 := (nI_eq (a := x22) (b := 0) (by omega) (by omega)).mp q25
        refine sx_RP.step (pc2 := 47) (ls2 := [(3, .ref (1 + 4 + x3)), (0, .ref 0), (1, .int (nI x3)), (2, .int (nI x11))]) (st2 := [.ref 0]) (w3 := w) rfl rfl ?_
        refine sx_RP.step (pc2 := 49) (ls2 := [(3, .ref (1 + 4 + x3)), (0, .ref 0), (1, .int (nI x3)), (2, .int (nI x11))]) (st2 := [.int (-1000000003), .ref 0]) (w3 := w) rfl rfl ?_
        refine sx_RP.callp (as2 := [.ref 0, .int (-1000000003)]) (rest2 := []) rfl rfl (sx_inv_v2 (mi := 30) (k := 78) (st := [.int (-1000000003), .ref 0]) (w := w) rfl rfl hI.1.o0 rfl rfl rfl) rfl rfl rfl (Q9_2 hI) (show _ = 52 from rfl) ?_
        rintro r4 w29 ⟨rfl, hI30, hE32⟩
        have hE31 := hE.tr (hE32)
        show sx_RP _ _ _ _ _ [.int (-1000000003)] _ _
        refine sx_RP.ret (r := (some (.int (-1000000003)))) rfl rfl ?_
        exact ⟨⟨_, rfl⟩, hI30, hE31⟩
set_option maxRecDepth 20000 in
set_option maxHeartbeats 4000000 in
theorem Q32 {xs : Option (List Int32)} {d : Nat} {w : List sx_C} (hI : WI w) (a1 a2 a3 : Int32) : sx_RP xs (d + 7) 32 0 (lv_args 0 [.ref 0, .int a1, .int a2, .int a3]) [] w (fun r w2 => (∃ v : Int32, r = some (.int v)) ∧ WI w2 ∧ EQ w w2) := by
  have hE : EQ w w := EQ.rf
  refine sx_RP.step (pc2 := 1) (ls2 := [(0, .ref 0), (1, .int a1), (2, .int a2), (3, .int a3)]) (st2 := [.ref 0]) (w3 := w) rfl rfl ?_
  refine sx_RP.gf (v := .ref 1) rfl rfl hI.1.o0 rfl rfl (show _ = 4 from rfl) ?_
  refine sx_RP.step (pc2 := 5) (ls2 := [(0, .ref 0), (1, .int a1), (2, .int a2), (3, .int a3)]) (st2 := [.int a1, .ref 1]) (w3 := w) rfl rfl ?_
  rcases p27 (xs := xs) hI (Or.inl rfl) a1 with c2 | ⟨⟨x3, hx4, rfl⟩, c2⟩
  · refine sx_RP.cu (as := [.ref 1, .int a1]) (rest2 := []) (st3 := [.int 0]) rfl rfl (sx_inv_v2 (mi := 32) (k := 120) (st := [.int a1, .ref 1]) (w := w) rfl rfl (hI.1.oC (Or.inl rfl)) rfl rfl rfl) rfl rfl (c2) rfl ?_
    refine sx_RP.step (pc2 := 18) (ls2 := [(0, .ref 0), (1, .int a1), (2, .int a2), (3, .int a3)]) (st2 := []) (w3 := w) rfl rfl ?_
    refine sx_RP.step (pc2 := 19) (ls2 := [(0, .ref 0), (1, .int a1), (2, .int a2), (3, .int a3)]) (st2 := [.ref 0]) (w3 := w) rfl rfl ?_
    refine sx_RP.step (pc2 := 21) (ls2 := [(0, .ref 0), (1, .int a1), (2, .int a2), (3, .int a3)]) (st2 := [.int (-1000000001), .ref 0]) (w3 := w) rfl rfl ?_
    refine sx_RP.callp (as2 := [.ref 0, .int (-1000000001)]) (rest2 := []) rfl rfl (sx_inv_v2 (mi := 32) (k := 78) (st := [.int (-1000000001), .ref 0]) (w := w) rfl rfl hI.1.o0 rfl rfl rfl) rfl rfl rfl (Q9_0 hI) (show _ = 24 from rfl) ?_
    rintro r4 w6 ⟨rfl, hI7, hE9⟩
    have hE8 := hE.tr (hE9)
    show sx_RP _ _ _ _ _ [.int (-1000000001)] _ _
    refine sx_RP.ret (r := (some (.int (-1000000001)))) rfl rfl ?_
    exact ⟨⟨_, rfl⟩, hI7, hE8⟩
  · refine sx_RP.cu (as := [.ref 1, .int (nI x3)]) (rest2 := []) (st3 := [.int 1]) rfl rfl (sx_inv_v2 (mi := 32) (k := 120) (st := [.int (nI x3), .ref 1]) (w := w) rfl rfl (hI.1.oC (Or.inl rfl)) rfl rfl rfl) rfl rfl (c2) rfl ?_
    refine sx_RP.step (pc2 := 11) (ls2 := [(0, .ref 0), (1, .int (nI x3)), (2, .int a2), (3, .int a3)]) (st2 := []) (w3 := w) rfl rfl ?_
    refine sx_RP.step (pc2 := 12) (ls2 := [(0, .ref 0), (1, .int (nI x3)), (2, .int a2), (3, .int a3)]) (st2 := [.int a2]) (w3 := w) rfl rfl ?_
    rcases in_cases a2 0 47 (m := 0) (n := 47) rfl rfl (by decide) (by decide) with q10 | ⟨x11, hx12, hx13, rfl⟩
    · refine sx_RP.cu (as := [.int a2]) (rest2 := []) (st3 := [.int 0]) rfl rfl rfl rfl rfl (cx_7n q10) rfl ?_
      refine sx_RP.step (pc2 := 18) (ls2 := [(0, .ref 0), (1, .int (nI x3)), (2, .int a2), (3, .int a3)]) (st2 := []) (w3 := w) rfl rfl ?_
      refine sx_RP.step (pc2 := 19) (ls2 := [(0, .ref 0), (1, .int (nI x3)), (2, .int a2), (3, .int a3)]) (st2 := [.ref 0]) (w3 := w) rfl rfl ?_
      refine sx_RP.step (pc2 := 21) (ls2 := [(0, .ref 0), (1, .int (nI x3)), (2, .int a2), (3, .int a3)]) (st2 := [.int (-1000000001), .ref 0]) (w3 := w) rfl rfl ?_
      refine sx_RP.callp (as2 := [.ref 0, .int (-1000000001)]) (rest2 := []) rfl rfl (sx_inv_v2 (mi := 32) (k := 78) (st := [.int (-1000000001), .ref 0]) (w := w) rfl rfl hI.1.o0 rfl rfl rfl) rfl rfl rfl (Q9_0 hI) (show _ = 24 from rfl) ?_
      rintro r4 w15 ⟨rfl, hI16, hE18⟩
      have hE17 := hE.tr (hE18)
      show sx_RP _ _ _ _ _ [.int (-1000000001)] _ _
      refine sx_RP.ret (r := (some (.int (-1000000001)))) rfl rfl ?_
      exact ⟨⟨_, rfl⟩, hI16, hE17⟩
    · refine sx_RP.cu (as := [.int (nI x11)]) (rest2 := []) (st3 := [.int 1]) rfl rfl rfl rfl rfl (cx_7p ⟨nI_le (a := 0) hx12 (by omega), nI_le (b := 47) hx13 (by decide)⟩) rfl ?_
      refine sx_RP.step (pc2 := 25) (ls2 := [(0, .ref 0), (1, .int (nI x3)), (2, .int (nI x11)), (3, .int a3)]) (st2 := []) (w3 := w) rfl rfl ?_
      refine sx_RP.step (pc2 := 26) (ls2 := [(0, .ref 0), (1, .int (nI x3)), (2, .int (nI x11)), (3, .int a3)]) (st2 := [.ref 0]) (w3 := w) rfl rfl ?_
      refine sx_RP.gf (v := .ref 1) rfl rfl hI.1.o0 rfl rfl (show _ = 29 from rfl) ?_
      refine sx_RP.gref (k := 2) (b := 3) hI (Or.inl rfl) rfl rfl (by omega) (show _ = 32 from rfl) ?_
      refine sx_RP.step (pc2 := 33) (ls2 := [(0, .ref 0), (1, .int (nI x3)), (2, .int (nI x11)), (3, .int a3)]) (st2 := [.int (nI x3), .ref 3]) (w3 := w) rfl rfl ?_
      refine sx_RP.ald (v := .ref (1 + 4 + x3)) rfl (hI.1.aG (Or.inl rfl)) rfl (grA_at (show x3 < 10 by omega)) (show _ = 34 from rfl) ?_
      refine sx_RP.gg (k := 0) hI (gAd.of (Or.inl rfl) (show x3 < 10 by omega)) rfl rfl (by decide) (show _ = 37 from rfl) ?_
      obtain ⟨x19, hx20, ex21⟩ : inR (fi w (1 + 4 + x3) 0) 5 := hI.gk (k := 0) (gAd.of (Or.inl rfl) (show x3 < 10 by omega)) (by decide)
      rw [ex21]
      refine sx_RP.step (pc2 := 39) (ls2 := [(4, .int (nI x19)), (0, .ref 0), (1, .int (nI x3)), (2, .int (nI x11)), (3, .int a3)]) (st2 := []) (w3 := w) rfl rfl ?_
      refine sx_RP.step (pc2 := 40) (ls2 := [(4, .int (nI x19)), (0, .ref 0), (1, .int (nI x3)), (2, .int (nI x11)), (3, .int a3)]) (st2 := [.int a3]) (w3 := w) rfl rfl ?_
      rcases sw_cases (n := 2) (a3) with q22 | ⟨x23, hx24, ex25⟩
      · refine sx_RP.swo (t := 131) rfl q22 rfl ?_
        refine sx_RP.step (pc2 := 132) (ls2 := [(4, .int (nI x19)), (0, .ref 0), (1, .int (nI x3)), (2, .int (nI x11)), (3, .int a3)]) (st2 := [.ref 0]) (w3 := w) rfl rfl ?_
        refine sx_RP.step (pc2 := 134) (ls2 := [(4, .int (nI x19)), (0, .ref 0), (1, .int (nI x3)), (2, .int (nI x11)), (3, .int a3)]) (st2 := [.int (-1000000001), .ref 0]) (w3 := w) rfl rfl ?_
        refine sx_RP.callp (as2 := [.ref 0, .int (-1000000001)]) (rest2 := []) rfl rfl (sx_inv_v2 (mi := 32) (k := 78) (st := [.int (-1000000001), .ref 0]) (w := w) rfl rfl hI.1.o0 rfl rfl rfl) rfl rfl rfl (Q9_0 hI) (show _ = 137 from rfl) ?_
        rintro r4 w26 ⟨rfl, hI27, hE29⟩
        have hE28 := hE.tr (hE29)
        show sx_RP _ _ _ _ _ [.int (-1000000001)] _ _
        refine sx_RP.ret (r := (some (.int (-1000000001)))) rfl rfl ?_
        exact ⟨⟨_, rfl⟩, hI27, hE28⟩
      · rw [ex25]
        rcases (show x23 = 0 ∨ x23 = 1 ∨ x23 = 2 by omega) with rfl | rfl | rfl
        · refine sx_RP.step (pc2 := 68) (ls2 := [(4, .int (nI x19)), (0, .ref 0), (1, .int (nI x3)), (2, .int (nI x11)), (3, .int (nI 0))]) (st2 := []) (w3 := w) rfl rfl ?_
          refine sx_RP.step (pc2 := 69) (ls2 := [(4, .int (nI x19)), (0, .ref 0), (1, .int (nI x3)), (2, .int (nI x11)), (3, .int (nI 0))]) (st2 := [.ref 0]) (w3 := w) rfl rfl ?_
          refine sx_RP.gf (v := .ref 1) rfl rfl hI.1.o0 rfl rfl (show _ = 72 from rfl) ?_
          refine sx_RP.gref (k := 0) (b := 2) hI (Or.inl rfl) rfl rfl (by omega) (show _ = 75 from rfl) ?_
          refine sx_RP.step (pc2 := 76) (ls2 := [(4, .int (nI x19)), (0, .ref 0), (1, .int (nI x3)), (2, .int (nI x11)), (3, .int (nI 0))]) (st2 := [.int (nI x11), .ref 2]) (w3 := w) rfl rfl ?_
          refine sx_RP.ild (c := x11) rfl (hI.1.aS (Or.inl rfl)).1 (hI.1.aS (Or.inl rfl)).2 (sx_in_nI (show x11 < 48 by omega) (by decide)) (show (nI x11).toNatClampNeg = x11 from nI_clamp (by omega)) (show _ = 77 from rfl) ?_
          obtain ⟨x30, hx31, ex32⟩ : inR ((ia w 2).getD x11 0) 3 := hI.st (Or.inl rfl) (show x11 < 48 by omega)
          rw [ex32]
          refine sx_RP.step (pc2 := 78) (ls2 := [(4, .int (nI x19)), (0, .ref 0), (1, .int (nI x3)), (2, .int (nI x11)), (3, .int (nI 0))]) (st2 := [.int 3, .int (nI x30)]) (w3 := w) rfl rfl ?_
          refine sx_RP.br (p1 := 90) (l1 := [(4, .int (nI x19)), (0, .ref 0), (1, .int (nI x3)), (2, .int (nI x11)), (3, .int (nI 0))]) (s1 := []) (v1 := w) (p2 := 81) (l2 := [(4, .int (nI x19)), (0, .ref 0), (1, .int (nI x3)), (2, .int (nI x11)), (3, .int (nI 0))]) (s2 := []) (v2 := w) rfl rfl (fun q33 => ?_) (fun q33 => ?_)
          · replace q33 := of_decide_eq_true q33
            replace q33 := mt (nI_eq (a := x30) (b := 3) (by omega) (by omega)).mpr q33
            refine sx_RP.step (pc2 := 91) (ls2 := [(4, .int (nI x19)), (0, .ref 0), (1, .int (nI x3)), (2, .int (nI x11)), (3, .int (nI 0))]) (st2 := [.ref 0]) (w3 := w) rfl rfl ?_
            refine sx_RP.gf (v := .ref 1) rfl rfl hI.1.o0 rfl rfl (show _ = 94 from rfl) ?_
            refine sx_RP.step (pc2 := 96) (ls2 := [(4, .int (nI x19)), (0, .ref 0), (1, .int (nI x3)), (2, .int (nI x11)), (3, .int (nI 0))]) (st2 := [.int (nI x19), .ref 1]) (w3 := w) rfl rfl ?_
            refine sx_RP.step (pc2 := 97) (ls2 := [(4, .int (nI x19)), (0, .ref 0), (1, .int (nI x3)), (2, .int (nI x11)), (3, .int (nI 0))]) (st2 := [.int (nI x11), .int (nI x19), .ref 1]) (w3 := w) rfl rfl ?_
            obtain ⟨v34, c35⟩ := p33 hI (Or.inl rfl) (show x19 ≤ 5 by omega) (show x11 < 48 by omega)
            refine sx_RP.cu (as := [.ref 1, .int (nI x19), .int (nI x11)]) (rest2 := []) (st3 := [.int v34]) rfl rfl (sx_inv_v2 (mi := 32) (k := 153) (st := [.int (nI x11), .int (nI x19), .ref 1]) (w := w) rfl rfl (hI.1.oC (Or.inl rfl)) rfl rfl rfl) rfl rfl (c35) rfl ?_
            refine sx_RP.ret (r := (some (.int v34))) rfl rfl ?_
            exact ⟨⟨_, rfl⟩, hI, hE⟩
          · replace q33 := Decidable.not_not.mp (of_decide_eq_false q33)
            replace q33 := (nI_eq (a := x30) (b := 3) (by omega) (by omega)).mp q33
            refine sx_RP.step (pc2 := 82) (ls2 := [(4, .int (nI x19)), (0, .ref 0), (1, .int (nI x3)), (2, .int (nI x11)), (3, .int (nI 0))]) (st2 := [.ref 0]) (w3 := w) rfl rfl ?_
            refine sx_RP.step (pc2 := 84) (ls2 := [(4, .int (nI x19)), (0, .ref 0), (1, .int (nI x3)), (2, .int (nI x11)), (3, .int (nI 0))]) (st2 := [.int (-1000000004), .ref 0]) (w3 := w) rfl rfl ?_
            refine sx_RP.callp (as2 := [.ref 0, .int (-1000000004)]) (rest2 := []) rfl rfl (sx_inv_v2 (mi := 32) (k := 78) (st := [.int (-1000000004), .ref 0]) (w := w) rfl rfl hI.1.o0 rfl rfl rfl) rfl rfl rfl (Q9_3 hI) (show _ = 87 from rfl) ?_
            rintro r4 w36 ⟨rfl, hI37, hE39⟩
            have hE38 := hE.tr (hE39)
            show sx_RP _ _ _ _ _ [.int (-1000000004)] _ _
            refine sx_RP.step (pc2 := 100) (ls2 := [(4, .int (nI x19)), (0, .ref 0), (1, .int (nI x3)), (2, .int (nI x11)), (3, .int (nI 0))]) (st2 := [.int (-1000000004)]) (w3 := w36) rfl rfl ?_
            refine sx_RP.ret (r := (some (.int (-1000000004)))) rfl rfl ?_
            exact ⟨⟨_, rfl⟩, hI37, hE38⟩
        · refine sx_RP.step (pc2 := 101) (ls2 := [(4, .int (nI x19)), (0, .ref 0), (1, .int (nI x3)), (2, .int (nI x11)), (3, .int (nI 1))]) (st2 := []) (w3 := w) rfl rfl ?_
          refine sx_RP.step (pc2 := 102) (ls2 := [(4, .int (nI x19)), (0, .ref 0), (1, .int (nI x3)), (2, .int (nI x11)), (3, .int (nI 1))]) (st2 := [.ref 0]) (w3 := w) rfl rfl ?_
          refine sx_RP.gf (v := .ref 1) rfl rfl hI.1.o0 rfl rfl (show _ = 105 from rfl) ?_
          refine sx_RP.step (pc2 := 107) (ls2 := [(4, .int (nI x19)), (0, .ref 0), (1, .int (nI x3)), (2, .int (nI x11)), (3, .int (nI 1))]) (st2 := [.int (nI x19), .ref 1]) (w3 := w) rfl rfl ?_
          refine sx_RP.step (pc2 := 108) (ls2 := [(4, .int (nI x19)), (0, .ref 0), (1, .int (nI x3)), (2, .int (nI x11)), (3, .int (nI 1))]) (st2 := [.int (nI x11), .int (nI x19), .ref 1]) (w3 := w) rfl rfl ?_
          obtain ⟨v40, c41⟩ := p35 hI (Or.inl rfl) (show x19 ≤ 5 by omega) (show x11 < 48 by omega)
          refine sx_RP.cu (as := [.ref 1, .int (nI x19), .int (nI x11)]) (rest2 := []) (st3 := [.int v40]) rfl rfl (sx_inv_v2 (mi := 32) (k := 157) (st := [.int (nI x11), .int (nI x19), .ref 1]) (w := w) rfl rfl (hI.1.oC (Or.inl rfl)) rfl rfl rfl) rfl rfl (c41) rfl ?_
          refine sx_RP.ret (r := (some (.int v40))) rfl rfl ?_
          exact ⟨⟨_, rfl⟩, hI, hE⟩
        · refine sx_RP.step (pc2 := 112) (ls2 := [(4, .int (nI x19)), (0, .ref 0), (1, .int (nI x3)), (2, .int (nI x11)), (3, .int (nI 2))]) (st2 := []) (w3 := w) rfl rfl ?_
          refine sx_RP.step (pc2 := 113) (ls2 := [(4, .int (nI x19)), (0, .ref 0), (1, .int (nI x3)), (2, .int (nI x11)), (3, .int (nI 2))]) (st2 := [.ref 0]) (w3 := w) rfl rfl ?_
          refine sx_RP.gf (v := .ref 1) rfl rfl hI.1.o0 rfl rfl (show _ = 116 from rfl) ?_
          refine sx_RP.step (pc2 := 118) (ls2 := [(4, .int (nI x19)), (0, .ref 0), (1, .int (nI x3)), (2, .int (nI x11)), (3, .int (nI 2))]) (st2 := [.int (nI x19), .ref 1]) (w3 := w) rfl rfl ?_
          refine sx_RP.step (pc2 := 119) (ls2 := [(4, .int (nI x19)), (0, .ref 0), (1, .int (nI x3)), (2, .int (nI x11)), (3, .int (nI 2))]) (st2 := [.int (nI x11), .int (nI x19), .ref 1]) (w3 := w) rfl rfl ?_
          obtain ⟨x42, hx43, c44⟩ := p37 hI (Or.inl rfl) (show x19 ≤ 5 by omega) (show x11 < 48 by omega)
          refine sx_RP.cu (as := [.ref 1, .int (nI x19), .int (nI x11)]) (rest2 := []) (st3 := [.int (nI x42)]) rfl rfl (sx_inv_v2 (mi := 32) (k := 160) (st := [.int (nI x11), .int (nI x19), .ref 1]) (w := w) rfl rfl (hI.1.oC (Or.inl rfl)) rfl rfl rfl) rfl rfl (c44) rfl ?_
          refine sx_RP.br (p1 := 129) (l1 := [(4, .int (nI x19)), (0, .ref 0), (1, .int (nI x3)), (2, .int (nI x11)), (3, .int (nI 2))]) (s1 := []) (v1 := w) (p2 := 125) (l2 := [(4, .int (nI x19)), (0, .ref 0), (1, .int (nI x3)), (2, .int (nI x11)), (3, .int (nI 2))]) (s2 := []) (v2 := w) rfl rfl (fun q45 => ?_) (fun q45 => ?_)
          · replace q45 := of_decide_eq_true q45
            replace q45 := (nI_eq (a := x42) (b := 0) (by omega) (by omega)).mp q45
            refine sx_RP.step (pc2 := 130) (ls2 := [(4, .int (nI x19)), (0, .ref 0), (1, .int (nI x3)), (2, .int (nI x11)), (3, .int (nI 2))]) (st2 := [.int 0]) (w3 := w) rfl rfl ?_
            refine sx_RP.ret (r := (some (.int 0))) rfl rfl ?_
            exact ⟨⟨_, rfl⟩, hI, hE⟩
          · replace q45 := of_decide_eq_false q45
            replace q45 := mt (nI_eq (a := x42) (b := 0) (by omega) (by omega)).mpr q45
            refine sx_RP.step (pc2 := 126) (ls2 := [(4, .int (nI x19)), (0, .ref 0), (1, .int (nI x3)), (2, .int (nI x11)), (3, .int (nI 2))]) (st2 := [.int 1]) (w3 := w) rfl rfl ?_
            refine sx_RP.step (pc2 := 130) (ls2 := [(4, .int (nI x19)), (0, .ref 0), (1, .int (nI x3)), (2, .int (nI x11)), (3, .int (nI 2))]) (st2 := [.int 1]) (w3 := w) rfl rfl ?_
            refine sx_RP.ret (r := (some (.int 1))) rfl rfl ?_
            exact ⟨⟨_, rfl⟩, hI, hE⟩
set_option maxRecDepth 20000 in
set_option maxHeartbeats 4000000 in
theorem Q48 {xs : Option (List Int32)} {d : Nat} {w : List sx_C} (hI : WI w) (a1 : Int32) : sx_RP xs (d + 7) 48 0 (lv_args 0 [.ref 0, .int a1]) [] w (fun r w2 => (∃ v : Int32, r = some (.int v)) ∧ WI w2 ∧ EQ w w2) := by
  have hE : EQ w w := EQ.rf
  refine sx_RP.step (pc2 := 1) (ls2 := [(0, .ref 0), (1, .int a1)]) (st2 := [.int a1]) (w3 := w) rfl rfl ?_
  rcases sw_cases (n := 3) (a1) with q1 | ⟨x2, hx3, ex4⟩
  · refine sx_RP.swo (t := 66) rfl q1 rfl ?_
    refine sx_RP.step (pc2 := 67) (ls2 := [(0, .ref 0), (1, .int a1)]) (st2 := [.ref 0]) (w3 := w) rfl rfl ?_
    refine sx_RP.step (pc2 := 69) (ls2 := [(0, .ref 0), (1, .int a1)]) (st2 := [.int (-1000000001), .ref 0]) (w3 := w) rfl rfl ?_
    refine sx_RP.callp (as2 := [.ref 0, .int (-1000000001)]) (rest2 := []) rfl rfl (sx_inv_v2 (mi := 48) (k := 78) (st := [.int (-1000000001), .ref 0]) (w := w) rfl rfl hI.1.o0 rfl rfl rfl) rfl rfl rfl (Q9_0 hI) (show _ = 72 from rfl) ?_
    rintro r4 w5 ⟨rfl, hI6, hE8⟩
    have hE7 := hE.tr (hE8)
    show sx_RP _ _ _ _ _ [.int (-1000000001)] _ _
    refine sx_RP.ret (r := (some (.int (-1000000001)))) rfl rfl ?_
    exact ⟨⟨_, rfl⟩, hI6, hE7⟩
  · rw [ex4]
    rcases (show x2 = 0 ∨ x2 = 1 ∨ x2 = 2 ∨ x2 = 3 by omega) with rfl | rfl | rfl | rfl
    · refine sx_RP.step (pc2 := 32) (ls2 := [(0, .ref 0), (1, .int (nI 0))]) (st2 := []) (w3 := w) rfl rfl ?_
      refine sx_RP.step (pc2 := 33) (ls2 := [(0, .ref 0), (1, .int (nI 0))]) (st2 := [.ref 0]) (w3 := w) rfl rfl ?_
      refine sx_RP.gf (v := .ref 1) rfl rfl hI.1.o0 rfl rfl (show _ = 36 from rfl) ?_
      refine sx_RP.gc (k := 6) hI (Or.inl rfl) rfl rfl (by omega) (show _ = 39 from rfl) ?_
      refine sx_RP.ret (r := (some (.int (fi w 1 6)))) rfl rfl ?_
      exact ⟨⟨_, rfl⟩, hI, hE⟩
    · refine sx_RP.step (pc2 := 40) (ls2 := [(0, .ref 0), (1, .int (nI 1))]) (st2 := []) (w3 := w) rfl rfl ?_
      refine sx_RP.step (pc2 := 41) (ls2 := [(0, .ref 0), (1, .int (nI 1))]) (st2 := [.ref 0]) (w3 := w) rfl rfl ?_
      refine sx_RP.gf (v := .ref 1) rfl rfl hI.1.o0 rfl rfl (show _ = 44 from rfl) ?_
      refine sx_RP.step (pc2 := 45) (ls2 := [(0, .ref 0), (1, .int (nI 1))]) (st2 := [.int 0, .ref 1]) (w3 := w) rfl rfl ?_
      obtain ⟨v9, c10⟩ := p42 hI (Or.inl rfl) 0
      refine sx_RP.cu (as := [.ref 1, .int 0]) (rest2 := []) (st3 := [.int v9]) rfl rfl (sx_inv_v2 (mi := 48) (k := 173) (st := [.int 0, .ref 1]) (w := w) rfl rfl (hI.1.oC (Or.inl rfl)) rfl rfl rfl) rfl rfl (c10) rfl ?_
      refine sx_RP.ret (r := (some (.int v9))) rfl rfl ?_
      exact ⟨⟨_, rfl⟩, hI, hE⟩
    · refine sx_RP.step (pc2 := 49) (ls2 := [(0, .ref 0), (1, .int (nI 2))]) (st2 := []) (w3 := w) rfl rfl ?_
      refine sx_RP.step (pc2 := 50) (ls2 := [(0, .ref 0), (1, .int (nI 2))]) (st2 := [.ref 0]) (w3 := w) rfl rfl ?_
      refine sx_RP.gf (v := .ref 1) rfl rfl hI.1.o0 rfl rfl (show _ = 53 from rfl) ?_
      refine sx_RP.step (pc2 := 54) (ls2 := [(0, .ref 0), (1, .int (nI 2))]) (st2 := [.int 1, .ref 1]) (w3 := w) rfl rfl ?_
      obtain ⟨v11, c12⟩ := p42 hI (Or.inl rfl) 1
      refine sx_RP.cu (as := [.ref 1, .int 1]) (rest2 := []) (st3 := [.int v11]) rfl rfl (sx_inv_v2 (mi := 48) (k := 173) (st := [.int 1, .ref 1]) (w := w) rfl rfl (hI.1.oC (Or.inl rfl)) rfl rfl rfl) rfl rfl (c12) rfl ?_
      refine sx_RP.ret (r := (some (.int v11))) rfl rfl ?_
      exact ⟨⟨_, rfl⟩, hI, hE⟩
    · refine sx_RP.step (pc2 := 58) (ls2 := [(0, .ref 0), (1, .int (nI 3))]) (st2 := []) (w3 := w) rfl rfl ?_
      refine sx_RP.step (pc2 := 59) (ls2 := [(0, .ref 0), (1, .int (nI 3))]) (st2 := [.ref 0]) (w3 := w) rfl rfl ?_
      refine sx_RP.gf (v := .ref 1) rfl rfl hI.1.o0 rfl rfl (show _ = 62 from rfl) ?_
      refine sx_RP.gc (k := 7) hI (Or.inl rfl) rfl rfl (by omega) (show _ = 65 from rfl) ?_
      refine sx_RP.ret (r := (some (.int (fi w 1 7)))) rfl rfl ?_
      exact ⟨⟨_, rfl⟩, hI, hE⟩
set_option maxRecDepth 20000 in
set_option maxHeartbeats 4000000 in
theorem Q55 {xs : Option (List Int32)} {d : Nat} {w : List sx_C} (hI : WI w) (a1 a2 : Int32) : sx_RP xs (d + 7) 55 0 (lv_args 0 [.ref 0, .int a1, .int a2]) [] w (fun r w2 => (∃ v : Int32, r = some (.int v)) ∧ WI w2 ∧ EQ w w2) := by
  have hE : EQ w w := EQ.rf
  refine sx_RP.step (pc2 := 1) (ls2 := [(0, .ref 0), (1, .int a1), (2, .int a2)]) (st2 := [.ref 0]) (w3 := w) rfl rfl ?_
  refine sx_RP.gf (v := .ref 1) rfl rfl hI.1.o0 rfl rfl (show _ = 4 from rfl) ?_
  refine sx_RP.step (pc2 := 5) (ls2 := [(0, .ref 0), (1, .int a1), (2, .int a2)]) (st2 := [.int a1, .ref 1]) (w3 := w) rfl rfl ?_
  rcases p27 (xs := xs) hI (Or.inl rfl) a1 with c2 | ⟨⟨x3, hx4, rfl⟩, c2⟩
  · refine sx_RP.cu (as := [.ref 1, .int a1]) (rest2 := []) (st3 := [.int 0]) rfl rfl (sx_inv_v2 (mi := 55) (k := 120) (st := [.int a1, .ref 1]) (w := w) rfl rfl (hI.1.oC (Or.inl rfl)) rfl rfl rfl) rfl rfl (c2) rfl ?_
    refine sx_RP.step (pc2 := 18) (ls2 := [(0, .ref 0), (1, .int a1), (2, .int a2)]) (st2 := []) (w3 := w) rfl rfl ?_
    refine sx_RP.step (pc2 := 19) (ls2 := [(0, .ref 0), (1, .int a1), (2, .int a2)]) (st2 := [.ref 0]) (w3 := w) rfl rfl ?_
    refine sx_RP.step (pc2 := 21) (ls2 := [(0, .ref 0), (1, .int a1), (2, .int a2)]) (st2 := [.int (-1000000001), .ref 0]) (w3 := w) rfl rfl ?_
    refine sx_RP.callp (as2 := [.ref 0, .int (-1000000001)]) (rest2 := []) rfl rfl (sx_inv_v2 (mi := 55) (k := 78) (st := [.int (-1000000001), .ref 0]) (w := w) rfl rfl hI.1.o0 rfl rfl rfl) rfl rfl rfl (Q9_0 hI) (show _ = 24 from rfl) ?_
    rintro r4 w6 ⟨rfl, hI7, hE9⟩
    have hE8 := hE.tr (hE9)
    show sx_RP _ _ _ _ _ [.int (-1000000001)] _ _
    refine sx_RP.ret (r := (some (.int (-1000000001)))) rfl rfl ?_
    exact ⟨⟨_, rfl⟩, hI7, hE8⟩
  · refine sx_RP.cu (as := [.ref 1, .int (nI x3)]) (rest2 := []) (st3 := [.int 1]) rfl rfl (sx_inv_v2 (mi := 55) (k := 120) (st := [.int (nI x3), .ref 1]) (w := w) rfl rfl (hI.1.oC (Or.inl rfl)) rfl rfl rfl) rfl rfl (c2) rfl ?_
    refine sx_RP.step (pc2 := 11) (ls2 := [(0, .ref 0), (1, .int (nI x3)), (2, .int a2)]) (st2 := []) (w3 := w) rfl rfl ?_
    refine sx_RP.step (pc2 := 12) (ls2 := [(0, .ref 0), (1, .int (nI x3)), (2, .int a2)]) (st2 := [.int a2]) (w3 := w) rfl rfl ?_
    rcases in_cases a2 0 47 (m := 0) (n := 47) rfl rfl (by decide) (by decide) with q10 | ⟨x11, hx12, hx13, rfl⟩
    · refine sx_RP.cu (as := [.int a2]) (rest2 := []) (st3 := [.int 0]) rfl rfl rfl rfl rfl (cx_7n q10) rfl ?_
      refine sx_RP.step (pc2 := 18) (ls2 := [(0, .ref 0), (1, .int (nI x3)), (2, .int a2)]) (st2 := []) (w3 := w) rfl rfl ?_
      refine sx_RP.step (pc2 := 19) (ls2 := [(0, .ref 0), (1, .int (nI x3)), (2, .int a2)]) (st2 := [.ref 0]) (w3 := w) rfl rfl ?_
      refine sx_RP.step (pc2 := 21) (ls2 := [(0, .ref 0), (1, .int (nI x3)), (2, .int a2)]) (st2 := [.int (-1000000001), .ref 0]) (w3 := w) rfl rfl ?_
      refine sx_RP.callp (as2 := [.ref 0, .int (-1000000001)]) (rest2 := []) rfl rfl (sx_inv_v2 (mi := 55) (k := 78) (st := [.int (-1000000001), .ref 0]) (w := w) rfl rfl hI.1.o0 rfl rfl rfl) rfl rfl rfl (Q9_0 hI) (show _ = 24 from rfl) ?_
      rintro r4 w15 ⟨rfl, hI16, hE18⟩
      have hE17 := hE.tr (hE18)
      show sx_RP _ _ _ _ _ [.int (-1000000001)] _ _
      refine sx_RP.ret (r := (some (.int (-1000000001)))) rfl rfl ?_
      exact ⟨⟨_, rfl⟩, hI16, hE17⟩
    · refine sx_RP.cu (as := [.int (nI x11)]) (rest2 := []) (st3 := [.int 1]) rfl rfl rfl rfl rfl (cx_7p ⟨nI_le (a := 0) hx12 (by omega), nI_le (b := 47) hx13 (by decide)⟩) rfl ?_
      refine sx_RP.step (pc2 := 25) (ls2 := [(0, .ref 0), (1, .int (nI x3)), (2, .int (nI x11))]) (st2 := []) (w3 := w) rfl rfl ?_
      refine sx_RP.step (pc2 := 26) (ls2 := [(0, .ref 0), (1, .int (nI x3)), (2, .int (nI x11))]) (st2 := [.ref 0]) (w3 := w) rfl rfl ?_
      refine sx_RP.gf (v := .ref 1) rfl rfl hI.1.o0 rfl rfl (show _ = 29 from rfl) ?_
      refine sx_RP.gref (k := 2) (b := 3) hI (Or.inl rfl) rfl rfl (by omega) (show _ = 32 from rfl) ?_
      refine sx_RP.step (pc2 := 33) (ls2 := [(0, .ref 0), (1, .int (nI x3)), (2, .int (nI x11))]) (st2 := [.int (nI x3), .ref 3]) (w3 := w) rfl rfl ?_
      refine sx_RP.ald (v := .ref (1 + 4 + x3)) rfl (hI.1.aG (Or.inl rfl)) rfl (grA_at (show x3 < 10 by omega)) (show _ = 34 from rfl) ?_
      refine sx_RP.step (pc2 := 35) (ls2 := [(3, .ref (1 + 4 + x3)), (0, .ref 0), (1, .int (nI x3)), (2, .int (nI x11))]) (st2 := []) (w3 := w) rfl rfl ?_
      refine sx_RP.step (pc2 := 36) (ls2 := [(3, .ref (1 + 4 + x3)), (0, .ref 0), (1, .int (nI x3)), (2, .int (nI x11))]) (st2 := [.ref (1 + 4 + x3)]) (w3 := w) rfl rfl ?_
      refine sx_RP.step (pc2 := 37) (ls2 := [(3, .ref (1 + 4 + x3)), (0, .ref 0), (1, .int (nI x3)), (2, .int (nI x11))]) (st2 := [.int 1, .ref (1 + 4 + x3)]) (w3 := w) rfl rfl ?_
      obtain ⟨x19, hx20, c21⟩ := p43 hI (gAd.of (Or.inl rfl) (show x3 < 10 by omega)) 1
      refine sx_RP.cu (as := [.ref (1 + 4 + x3), .int 1]) (rest2 := []) (st3 := [.int (nI x19)]) rfl rfl (sx_inv_v2 (mi := 55) (k := 186) (st := [.int 1, .ref (1 + 4 + x3)]) (w := w) rfl rfl (hI.1.oG (gAd.of (Or.inl rfl) (show x3 < 10 by omega))) rfl rfl rfl) rfl rfl (c21) rfl ?_
      refine sx_RP.br (p1 := 50) (l1 := [(3, .ref (1 + 4 + x3)), (0, .ref 0), (1, .int (nI x3)), (2, .int (nI x11))]) (s1 := []) (v1 := w) (p2 := 43) (l2 := [(3, .ref (1 + 4 + x3)), (0, .ref 0), (1, .int (nI x3)), (2, .int (nI x11))]) (s2 := []) (v2 := w) rfl rfl (fun q22 => ?_) (fun q22 => ?_)
      · replace q22 := of_decide_eq_true q22
        replace q22 := mt (nI_eq (a := x19) (b := 0) (by omega) (by omega)).mpr q22
        refine sx_RP.step (pc2 := 51) (ls2 := [(3, .ref (1 + 4 + x3)), (0, .ref 0), (1, .int (nI x3)), (2, .int (nI x11))]) (st2 := [.ref 0]) (w3 := w) rfl rfl ?_
        refine sx_RP.step (pc2 := 52) (ls2 := [(3, .ref (1 + 4 + x3)), (0, .ref 0), (1, .int (nI x3)), (2, .int (nI x11))]) (st2 := [.ref (1 + 4 + x3), .ref 0]) (w3 := w) rfl rfl ?_
        refine sx_RP.callp (as2 := [.ref 0, .ref (1 + 4 + x3)]) (rest2 := []) rfl rfl (sx_inv_v2 (mi := 55) (k := 189) (st := [.ref (1 + 4 + x3), .ref 0]) (w := w) rfl rfl hI.1.o0 rfl rfl rfl) rfl rfl rfl (Q56 hI (gAd.of (Or.inl rfl) (show x3 < 10 by omega))) (show _ = 55 from rfl) ?_
        rintro r4 w23 ⟨rfl, hI24, hE26⟩
        have hE25 := hE.tr (hE26)
        show sx_RP _ _ _ _ _ [] _ _
        refine sx_RP.step (pc2 := 56) (ls2 := [(3, .ref (1 + 4 + x3)), (0, .ref 0), (1, .int (nI x3)), (2, .int (nI x11))]) (st2 := [.ref 0]) (w3 := w23) rfl rfl ?_
        refine sx_RP.gf (v := .ref 101) rfl rfl hI24.1.o0 rfl rfl (show _ = 59 from rfl) ?_
        refine sx_RP.step (pc2 := 60) (ls2 := [(3, .ref (1 + 4 + x3)), (0, .ref 0), (1, .int (nI x3)), (2, .int (nI x11))]) (st2 := [.int (nI x11), .ref 101]) (w3 := w23) rfl rfl ?_
        refine sx_RP.ild (c := x11) rfl hI24.1.a101.1 hI24.1.a101.2 (sx_in_nI (show x11 < 48 by omega) (by decide)) (show (nI x11).toNatClampNeg = x11 from nI_clamp (by omega)) (show _ = 61 from rfl) ?_
        refine sx_RP.step (pc2 := 63) (ls2 := [(3, .ref (1 + 4 + x3)), (0, .ref 0), (1, .int (nI x3)), (2, .int (nI x11))]) (st2 := [.int 1000000, .int ((ia w23 101).getD x11 0)]) (w3 := w23) rfl rfl ?_
        refine sx_RP.br (p1 := 75) (l1 := [(3, .ref (1 + 4 + x3)), (0, .ref 0), (1, .int (nI x3)), (2, .int (nI x11))]) (s1 := []) (v1 := w23) (p2 := 66) (l2 := [(3, .ref (1 + 4 + x3)), (0, .ref 0), (1, .int (nI x3)), (2, .int (nI x11))]) (s2 := []) (v2 := w23) rfl rfl (fun q27 => ?_) (fun q27 => ?_)
        · replace q27 := of_decide_eq_true q27
          refine sx_RP.step (pc2 := 76) (ls2 := [(3, .ref (1 + 4 + x3)), (0, .ref 0), (1, .int (nI x3)), (2, .int (nI x11))]) (st2 := [.ref 0]) (w3 := w23) rfl rfl ?_
          refine sx_RP.gf (v := .ref 101) rfl rfl hI24.1.o0 rfl rfl (show _ = 79 from rfl) ?_
          refine sx_RP.step (pc2 := 80) (ls2 := [(3, .ref (1 + 4 + x3)), (0, .ref 0), (1, .int (nI x3)), (2, .int (nI x11))]) (st2 := [.int (nI x11), .ref 101]) (w3 := w23) rfl rfl ?_
          refine sx_RP.ild (c := x11) rfl hI24.1.a101.1 hI24.1.a101.2 (sx_in_nI (show x11 < 48 by omega) (by decide)) (show (nI x11).toNatClampNeg = x11 from nI_clamp (by omega)) (show _ = 81 from rfl) ?_
          refine sx_RP.ret (r := (some (.int ((ia w23 101).getD x11 0)))) rfl rfl ?_
          exact ⟨⟨_, rfl⟩, hI24, hE25⟩
        · replace q27 := Decidable.not_not.mp (of_decide_eq_false q27)
          refine sx_RP.step (pc2 := 67) (ls2 := [(3, .ref (1 + 4 + x3)), (0, .ref 0), (1, .int (nI x3)), (2, .int (nI x11))]) (st2 := [.ref 0]) (w3 := w23) rfl rfl ?_
          refine sx_RP.step (pc2 := 69) (ls2 := [(3, .ref (1 + 4 + x3)), (0, .ref 0), (1, .int (nI x3)), (2, .int (nI x11))]) (st2 := [.int (-1000000004), .ref 0]) (w3 := w23) rfl rfl ?_
          refine sx_RP.callp (as2 := [.ref 0, .int (-1000000004)]) (rest2 := []) rfl rfl (sx_inv_v2 (mi := 55) (k := 78) (st := [.int (-1000000004), .ref 0]) (w := w23) rfl rfl hI24.1.o0 rfl rfl rfl) rfl rfl rfl (Q9_3 hI24) (show _ = 72 from rfl) ?_
          rintro r4 w28 ⟨rfl, hI29, hE31⟩
          have hE30 := hE25.tr (hE31)
          show sx_RP _ _ _ _ _ [.int (-1000000004)] _ _
          refine sx_RP.step (pc2 := 81) (ls2 := [(3, .ref (1 + 4 + x3)), (0, .ref 0), (1, .int (nI x3)), (2, .int (nI x11))]) (st2 := [.int (-1000000004)]) (w3 := w28) rfl rfl ?_
          refine sx_RP.ret (r := (some (.int (-1000000004)))) rfl rfl ?_
          exact ⟨⟨_, rfl⟩, hI29, hE30⟩
      · replace q22 := Decidable.not_not.mp (of_decide_eq_false q22)
        replace q22 := (nI_eq (a := x19) (b := 0) (by omega) (by omega)).mp q22
        refine sx_RP.step (pc2 := 44) (ls2 := [(3, .ref (1 + 4 + x3)), (0, .ref 0), (1, .int (nI x3)), (2, .int (nI x11))]) (st2 := [.ref 0]) (w3 := w) rfl rfl ?_
        refine sx_RP.step (pc2 := 46) (ls2 := [(3, .ref (1 + 4 + x3)), (0, .ref 0), (1, .int (nI x3)), (2, .int (nI x11))]) (st2 := [.int (-1000000005), .ref 0]) (w3 := w) rfl rfl ?_
        refine sx_RP.callp (as2 := [.ref 0, .int (-1000000005)]) (rest2 := []) rfl rfl (sx_inv_v2 (mi := 55) (k := 78) (st := [.int (-1000000005), .ref 0]) (w := w) rfl rfl hI.1.o0 rfl rfl rfl) rfl rfl rfl (Q9_4 hI) (show _ = 49 from rfl) ?_
        rintro r4 w32 ⟨rfl, hI33, hE35⟩
        have hE34 := hE.tr (hE35)
        show sx_RP _ _ _ _ _ [.int (-1000000005)] _ _
        refine sx_RP.ret (r := (some (.int (-1000000005)))) rfl rfl ?_
        exact ⟨⟨_, rfl⟩, hI33, hE34⟩
set_option maxRecDepth 20000 in
set_option maxHeartbeats 4000000 in
theorem Q58 {xs : Option (List Int32)} {d : Nat} {w : List sx_C} (hI : WI w) (a1 a2 : Int32) : sx_RP xs (d + 7) 58 0 (lv_args 0 [.ref 0, .int a1, .int a2]) [] w (fun r w2 => (∃ v : Int32, r = some (.int v)) ∧ WI w2 ∧ EQ w w2) := by
  have hE : EQ w w := EQ.rf
  refine sx_RP.step (pc2 := 1) (ls2 := [(0, .ref 0), (1, .int a1), (2, .int a2)]) (st2 := [.ref 0]) (w3 := w) rfl rfl ?_
  refine sx_RP.gf (v := .ref 1) rfl rfl hI.1.o0 rfl rfl (show _ = 4 from rfl) ?_
  refine sx_RP.step (pc2 := 5) (ls2 := [(0, .ref 0), (1, .int a1), (2, .int a2)]) (st2 := [.int a1, .ref 1]) (w3 := w) rfl rfl ?_
  rcases p27 (xs := xs) hI (Or.inl rfl) a1 with c2 | ⟨⟨x3, hx4, rfl⟩, c2⟩
  · refine sx_RP.cu (as := [.ref 1, .int a1]) (rest2 := []) (st3 := [.int 0]) rfl rfl (sx_inv_v2 (mi := 58) (k := 120) (st := [.int a1, .ref 1]) (w := w) rfl rfl (hI.1.oC (Or.inl rfl)) rfl rfl rfl) rfl rfl (c2) rfl ?_
    refine sx_RP.step (pc2 := 22) (ls2 := [(0, .ref 0), (1, .int a1), (2, .int a2)]) (st2 := []) (w3 := w) rfl rfl ?_
    refine sx_RP.step (pc2 := 23) (ls2 := [(0, .ref 0), (1, .int a1), (2, .int a2)]) (st2 := [.ref 0]) (w3 := w) rfl rfl ?_
    refine sx_RP.step (pc2 := 25) (ls2 := [(0, .ref 0), (1, .int a1), (2, .int a2)]) (st2 := [.int (-1000000001), .ref 0]) (w3 := w) rfl rfl ?_
    refine sx_RP.callp (as2 := [.ref 0, .int (-1000000001)]) (rest2 := []) rfl rfl (sx_inv_v2 (mi := 58) (k := 78) (st := [.int (-1000000001), .ref 0]) (w := w) rfl rfl hI.1.o0 rfl rfl rfl) rfl rfl rfl (Q9_0 hI) (show _ = 28 from rfl) ?_
    rintro r4 w6 ⟨rfl, hI7, hE9⟩
    have hE8 := hE.tr (hE9)
    show sx_RP _ _ _ _ _ [.int (-1000000001)] _ _
    refine sx_RP.ret (r := (some (.int (-1000000001)))) rfl rfl ?_
    exact ⟨⟨_, rfl⟩, hI7, hE8⟩
  · refine sx_RP.cu (as := [.ref 1, .int (nI x3)]) (rest2 := []) (st3 := [.int 1]) rfl rfl (sx_inv_v2 (mi := 58) (k := 120) (st := [.int (nI x3), .ref 1]) (w := w) rfl rfl (hI.1.oC (Or.inl rfl)) rfl rfl rfl) rfl rfl (c2) rfl ?_
    refine sx_RP.step (pc2 := 11) (ls2 := [(0, .ref 0), (1, .int (nI x3)), (2, .int a2)]) (st2 := []) (w3 := w) rfl rfl ?_
    refine sx_RP.step (pc2 := 12) (ls2 := [(0, .ref 0), (1, .int (nI x3)), (2, .int a2)]) (st2 := [.ref 0]) (w3 := w) rfl rfl ?_
    refine sx_RP.gf (v := .ref 1) rfl rfl hI.1.o0 rfl rfl (show _ = 15 from rfl) ?_
    refine sx_RP.step (pc2 := 16) (ls2 := [(0, .ref 0), (1, .int (nI x3)), (2, .int a2)]) (st2 := [.int a2, .ref 1]) (w3 := w) rfl rfl ?_
    rcases p27 (xs := xs) hI (Or.inl rfl) a2 with c11 | ⟨⟨x12, hx13, rfl⟩, c11⟩
    · refine sx_RP.cu (as := [.ref 1, .int a2]) (rest2 := []) (st3 := [.int 0]) rfl rfl (sx_inv_v2 (mi := 58) (k := 120) (st := [.int a2, .ref 1]) (w := w) rfl rfl (hI.1.oC (Or.inl rfl)) rfl rfl rfl) rfl rfl (c11) rfl ?_
      refine sx_RP.step (pc2 := 22) (ls2 := [(0, .ref 0), (1, .int (nI x3)), (2, .int a2)]) (st2 := []) (w3 := w) rfl rfl ?_
      refine sx_RP.step (pc2 := 23) (ls2 := [(0, .ref 0), (1, .int (nI x3)), (2, .int a2)]) (st2 := [.ref 0]) (w3 := w) rfl rfl ?_
      refine sx_RP.step (pc2 := 25) (ls2 := [(0, .ref 0), (1, .int (nI x3)), (2, .int a2)]) (st2 := [.int (-1000000001), .ref 0]) (w3 := w) rfl rfl ?_
      refine sx_RP.callp (as2 := [.ref 0, .int (-1000000001)]) (rest2 := []) rfl rfl (sx_inv_v2 (mi := 58) (k := 78) (st := [.int (-1000000001), .ref 0]) (w := w) rfl rfl hI.1.o0 rfl rfl rfl) rfl rfl rfl (Q9_0 hI) (show _ = 28 from rfl) ?_
      rintro r4 w15 ⟨rfl, hI16, hE18⟩
      have hE17 := hE.tr (hE18)
      show sx_RP _ _ _ _ _ [.int (-1000000001)] _ _
      refine sx_RP.ret (r := (some (.int (-1000000001)))) rfl rfl ?_
      exact ⟨⟨_, rfl⟩, hI16, hE17⟩
    · refine sx_RP.cu (as := [.ref 1, .int (nI x12)]) (rest2 := []) (st3 := [.int 1]) rfl rfl (sx_inv_v2 (mi := 58) (k := 120) (st := [.int (nI x12), .ref 1]) (w := w) rfl rfl (hI.1.oC (Or.inl rfl)) rfl rfl rfl) rfl rfl (c11) rfl ?_
      refine sx_RP.step (pc2 := 29) (ls2 := [(0, .ref 0), (1, .int (nI x3)), (2, .int (nI x12))]) (st2 := []) (w3 := w) rfl rfl ?_
      refine sx_RP.step (pc2 := 30) (ls2 := [(0, .ref 0), (1, .int (nI x3)), (2, .int (nI x12))]) (st2 := [.ref 0]) (w3 := w) rfl rfl ?_
      refine sx_RP.gf (v := .ref 1) rfl rfl hI.1.o0 rfl rfl (show _ = 33 from rfl) ?_
      refine sx_RP.gref (k := 2) (b := 3) hI (Or.inl rfl) rfl rfl (by omega) (show _ = 36 from rfl) ?_
      refine sx_RP.step (pc2 := 37) (ls2 := [(0, .ref 0), (1, .int (nI x3)), (2, .int (nI x12))]) (st2 := [.int (nI x3), .ref 3]) (w3 := w) rfl rfl ?_
      refine sx_RP.ald (v := .ref (1 + 4 + x3)) rfl (hI.1.aG (Or.inl rfl)) rfl (grA_at (show x3 < 10 by omega)) (show _ = 38 from rfl) ?_
      refine sx_RP.step (pc2 := 39) (ls2 := [(3, .ref (1 + 4 + x3)), (0, .ref 0), (1, .int (nI x3)), (2, .int (nI x12))]) (st2 := []) (w3 := w) rfl rfl ?_
      refine sx_RP.step (pc2 := 40) (ls2 := [(3, .ref (1 + 4 + x3)), (0, .ref 0), (1, .int (nI x3)), (2, .int (nI x12))]) (st2 := [.ref 0]) (w3 := w) rfl rfl ?_
      refine sx_RP.gf (v := .ref 1) rfl rfl hI.1.o0 rfl rfl (show _ = 43 from rfl) ?_
      refine sx_RP.gref (k := 2) (b := 3) hI (Or.inl rfl) rfl rfl (by omega) (show _ = 46 from rfl) ?_
      refine sx_RP.step (pc2 := 47) (ls2 := [(3, .ref (1 + 4 + x3)), (0, .ref 0), (1, .int (nI x3)), (2, .int (nI x12))]) (st2 := [.int (nI x12), .ref 3]) (w3 := w) rfl rfl ?_
      refine sx_RP.ald (v := .ref (1 + 4 + x12)) rfl (hI.1.aG (Or.inl rfl)) rfl (grA_at (show x12 < 10 by omega)) (show _ = 48 from rfl) ?_
      refine sx_RP.step (pc2 := 50) (ls2 := [(4, .ref (1 + 4 + x12)), (3, .ref (1 + 4 + x3)), (0, .ref 0), (1, .int (nI x3)), (2, .int (nI x12))]) (st2 := []) (w3 := w) rfl rfl ?_
      refine sx_RP.step (pc2 := 51) (ls2 := [(4, .ref (1 + 4 + x12)), (3, .ref (1 + 4 + x3)), (0, .ref 0), (1, .int (nI x3)), (2, .int (nI x12))]) (st2 := [.ref (1 + 4 + x3)]) (w3 := w) rfl rfl ?_
      refine sx_RP.step (pc2 := 52) (ls2 := [(4, .ref (1 + 4 + x12)), (3, .ref (1 + 4 + x3)), (0, .ref 0), (1, .int (nI x3)), (2, .int (nI x12))]) (st2 := [.int 1, .ref (1 + 4 + x3)]) (w3 := w) rfl rfl ?_
      obtain ⟨x19, hx20, c21⟩ := p43 hI (gAd.of (Or.inl rfl) (show x3 < 10 by omega)) 1
      refine sx_RP.cu (as := [.ref (1 + 4 + x3), .int 1]) (rest2 := []) (st3 := [.int (nI x19)]) rfl rfl (sx_inv_v2 (mi := 58) (k := 186) (st := [.int 1, .ref (1 + 4 + x3)]) (w := w) rfl rfl (hI.1.oG (gAd.of (Or.inl rfl) (show x3 < 10 by omega))) rfl rfl rfl) rfl rfl (c21) rfl ?_
      refine sx_RP.br (p1 := 79) (l1 := [(4, .ref (1 + 4 + x12)), (3, .ref (1 + 4 + x3)), (0, .ref 0), (1, .int (nI x3)), (2, .int (nI x12))]) (s1 := []) (v1 := w) (p2 := 58) (l2 := [(4, .ref (1 + 4 + x12)), (3, .ref (1 + 4 + x3)), (0, .ref 0), (1, .int (nI x3)), (2, .int (nI x12))]) (s2 := []) (v2 := w) rfl rfl (fun q22 => ?_) (fun q22 => ?_)
      · replace q22 := of_decide_eq_true q22
        replace q22 := (nI_eq (a := x19) (b := 0) (by omega) (by omega)).mp q22
        refine sx_RP.step (pc2 := 80) (ls2 := [(4, .ref (1 + 4 + x12)), (3, .ref (1 + 4 + x3)), (0, .ref 0), (1, .int (nI x3)), (2, .int (nI x12))]) (st2 := [.ref 0]) (w3 := w) rfl rfl ?_
        refine sx_RP.step (pc2 := 82) (ls2 := [(4, .ref (1 + 4 + x12)), (3, .ref (1 + 4 + x3)), (0, .ref 0), (1, .int (nI x3)), (2, .int (nI x12))]) (st2 := [.int (-1000000005), .ref 0]) (w3 := w) rfl rfl ?_
        refine sx_RP.callp (as2 := [.ref 0, .int (-1000000005)]) (rest2 := []) rfl rfl (sx_inv_v2 (mi := 58) (k := 78) (st := [.int (-1000000005), .ref 0]) (w := w) rfl rfl hI.1.o0 rfl rfl rfl) rfl rfl rfl (Q9_4 hI) (show _ = 85 from rfl) ?_
        rintro r4 w23 ⟨rfl, hI24, hE26⟩
        have hE25 := hE.tr (hE26)
        show sx_RP _ _ _ _ _ [.int (-1000000005)] _ _
        refine sx_RP.ret (r := (some (.int (-1000000005)))) rfl rfl ?_
        exact ⟨⟨_, rfl⟩, hI24, hE25⟩
      · replace q22 := of_decide_eq_false q22
        replace q22 := mt (nI_eq (a := x19) (b := 0) (by omega) (by omega)).mpr q22
        refine sx_RP.step (pc2 := 60) (ls2 := [(4, .ref (1 + 4 + x12)), (3, .ref (1 + 4 + x3)), (0, .ref 0), (1, .int (nI x3)), (2, .int (nI x12))]) (st2 := [.ref (1 + 4 + x12)]) (w3 := w) rfl rfl ?_
        refine sx_RP.step (pc2 := 61) (ls2 := [(4, .ref (1 + 4 + x12)), (3, .ref (1 + 4 + x3)), (0, .ref 0), (1, .int (nI x3)), (2, .int (nI x12))]) (st2 := [.int 0, .ref (1 + 4 + x12)]) (w3 := w) rfl rfl ?_
        obtain ⟨x27, hx28, c29⟩ := p43 hI (gAd.of (Or.inl rfl) (show x12 < 10 by omega)) 0
        refine sx_RP.cu (as := [.ref (1 + 4 + x12), .int 0]) (rest2 := []) (st3 := [.int (nI x27)]) rfl rfl (sx_inv_v2 (mi := 58) (k := 186) (st := [.int 0, .ref (1 + 4 + x12)]) (w := w) rfl rfl (hI.1.oG (gAd.of (Or.inl rfl) (show x12 < 10 by omega))) rfl rfl rfl) rfl rfl (c29) rfl ?_
        refine sx_RP.br (p1 := 79) (l1 := [(4, .ref (1 + 4 + x12)), (3, .ref (1 + 4 + x3)), (0, .ref 0), (1, .int (nI x3)), (2, .int (nI x12))]) (s1 := []) (v1 := w) (p2 := 67) (l2 := [(4, .ref (1 + 4 + x12)), (3, .ref (1 + 4 + x3)), (0, .ref 0), (1, .int (nI x3)), (2, .int (nI x12))]) (s2 := []) (v2 := w) rfl rfl (fun q30 => ?_) (fun q30 => ?_)
        · replace q30 := of_decide_eq_true q30
          replace q30 := (nI_eq (a := x27) (b := 0) (by omega) (by omega)).mp q30
          refine sx_RP.step (pc2 := 80) (ls2 := [(4, .ref (1 + 4 + x12)), (3, .ref (1 + 4 + x3)), (0, .ref 0), (1, .int (nI x3)), (2, .int (nI x12))]) (st2 := [.ref 0]) (w3 := w) rfl rfl ?_
          refine sx_RP.step (pc2 := 82) (ls2 := [(4, .ref (1 + 4 + x12)), (3, .ref (1 + 4 + x3)), (0, .ref 0), (1, .int (nI x3)), (2, .int (nI x12))]) (st2 := [.int (-1000000005), .ref 0]) (w3 := w) rfl rfl ?_
          refine sx_RP.callp (as2 := [.ref 0, .int (-1000000005)]) (rest2 := []) rfl rfl (sx_inv_v2 (mi := 58) (k := 78) (st := [.int (-1000000005), .ref 0]) (w := w) rfl rfl hI.1.o0 rfl rfl rfl) rfl rfl rfl (Q9_4 hI) (show _ = 85 from rfl) ?_
          rintro r4 w31 ⟨rfl, hI32, hE34⟩
          have hE33 := hE.tr (hE34)
          show sx_RP _ _ _ _ _ [.int (-1000000005)] _ _
          refine sx_RP.ret (r := (some (.int (-1000000005)))) rfl rfl ?_
          exact ⟨⟨_, rfl⟩, hI32, hE33⟩
        · replace q30 := of_decide_eq_false q30
          replace q30 := mt (nI_eq (a := x27) (b := 0) (by omega) (by omega)).mpr q30
          refine sx_RP.step (pc2 := 68) (ls2 := [(4, .ref (1 + 4 + x12)), (3, .ref (1 + 4 + x3)), (0, .ref 0), (1, .int (nI x3)), (2, .int (nI x12))]) (st2 := [.ref 0]) (w3 := w) rfl rfl ?_
          refine sx_RP.gf (v := .ref 1) rfl rfl hI.1.o0 rfl rfl (show _ = 71 from rfl) ?_
          refine sx_RP.step (pc2 := 73) (ls2 := [(4, .ref (1 + 4 + x12)), (3, .ref (1 + 4 + x3)), (0, .ref 0), (1, .int (nI x3)), (2, .int (nI x12))]) (st2 := [.int 60, .ref 1]) (w3 := w) rfl rfl ?_
          obtain ⟨x35, hx36, c37⟩ := p40 hI (Or.inl rfl) 60
          refine sx_RP.cu (as := [.ref 1, .int 60]) (rest2 := []) (st3 := [.int (nI x35)]) rfl rfl (sx_inv_v2 (mi := 58) (k := 163) (st := [.int 60, .ref 1]) (w := w) rfl rfl (hI.1.oC (Or.inl rfl)) rfl rfl rfl) rfl rfl (c37) rfl ?_
          refine sx_RP.br (p1 := 86) (l1 := [(4, .ref (1 + 4 + x12)), (3, .ref (1 + 4 + x3)), (0, .ref 0), (1, .int (nI x3)), (2, .int (nI x12))]) (s1 := []) (v1 := w) (p2 := 79) (l2 := [(4, .ref (1 + 4 + x12)), (3, .ref (1 + 4 + x3)), (0, .ref 0), (1, .int (nI x3)), (2, .int (nI x12))]) (s2 := []) (v2 := w) rfl rfl (fun q38 => ?_) (fun q38 => ?_)
          · replace q38 := of_decide_eq_true q38
            replace q38 := mt (nI_eq (a := x35) (b := 0) (by omega) (by omega)).mpr q38
            refine sx_RP.step (pc2 := 87) (ls2 := [(4, .ref (1 + 4 + x12)), (3, .ref (1 + 4 + x3)), (0, .ref 0), (1, .int (nI x3)), (2, .int (nI x12))]) (st2 := [.ref 0]) (w3 := w) rfl rfl ?_
            refine sx_RP.step (pc2 := 88) (ls2 := [(4, .ref (1 + 4 + x12)), (3, .ref (1 + 4 + x3)), (0, .ref 0), (1, .int (nI x3)), (2, .int (nI x12))]) (st2 := [.ref (1 + 4 + x3), .ref 0]) (w3 := w) rfl rfl ?_
            refine sx_RP.step (pc2 := 90) (ls2 := [(4, .ref (1 + 4 + x12)), (3, .ref (1 + 4 + x3)), (0, .ref 0), (1, .int (nI x3)), (2, .int (nI x12))]) (st2 := [.ref (1 + 4 + x12), .ref (1 + 4 + x3), .ref 0]) (w3 := w) rfl rfl ?_
            refine sx_RP.callp (as2 := [.ref 0, .ref (1 + 4 + x3), .ref (1 + 4 + x12)]) (rest2 := []) rfl rfl (sx_inv_v2 (mi := 58) (k := 194) (st := [.ref (1 + 4 + x12), .ref (1 + 4 + x3), .ref 0]) (w := w) rfl rfl hI.1.o0 rfl rfl rfl) rfl rfl rfl (Q59 hI (gAd.of (Or.inl rfl) (show x3 < 10 by omega)) (gAd.of (Or.inl rfl) (show x12 < 10 by omega))) (show _ = 93 from rfl) ?_
            rintro r4 w40 ⟨⟨v39, rfl⟩, hI41, hE43⟩
            have hE42 := hE.tr (hE43)
            show sx_RP _ _ _ _ _ [.int v39] _ _
            refine sx_RP.step (pc2 := 95) (ls2 := [(5, .int v39), (4, .ref (1 + 4 + x12)), (3, .ref (1 + 4 + x3)), (0, .ref 0), (1, .int (nI x3)), (2, .int (nI x12))]) (st2 := []) (w3 := w40) rfl rfl ?_
            refine sx_RP.step (pc2 := 97) (ls2 := [(5, .int v39), (4, .ref (1 + 4 + x12)), (3, .ref (1 + 4 + x3)), (0, .ref 0), (1, .int (nI x3)), (2, .int (nI x12))]) (st2 := [.int v39]) (w3 := w40) rfl rfl ?_
            refine sx_RP.step (pc2 := 98) (ls2 := [(5, .int v39), (4, .ref (1 + 4 + x12)), (3, .ref (1 + 4 + x3)), (0, .ref 0), (1, .int (nI x3)), (2, .int (nI x12))]) (st2 := [.int (-1), .int v39]) (w3 := w40) rfl rfl ?_
            refine sx_RP.br (p1 := 110) (l1 := [(5, .int v39), (4, .ref (1 + 4 + x12)), (3, .ref (1 + 4 + x3)), (0, .ref 0), (1, .int (nI x3)), (2, .int (nI x12))]) (s1 := []) (v1 := w40) (p2 := 101) (l2 := [(5, .int v39), (4, .ref (1 + 4 + x12)), (3, .ref (1 + 4 + x3)), (0, .ref 0), (1, .int (nI x3)), (2, .int (nI x12))]) (s2 := []) (v2 := w40) rfl rfl (fun q44 => ?_) (fun q44 => ?_)
            · replace q44 := of_decide_eq_true q44
              refine sx_RP.step (pc2 := 112) (ls2 := [(5, .int v39), (4, .ref (1 + 4 + x12)), (3, .ref (1 + 4 + x3)), (0, .ref 0), (1, .int (nI x3)), (2, .int (nI x12))]) (st2 := [.int v39]) (w3 := w40) rfl rfl ?_
              refine sx_RP.ret (r := (some (.int v39))) rfl rfl ?_
              exact ⟨⟨_, rfl⟩, hI41, hE42⟩
            · replace q44 := Decidable.not_not.mp (of_decide_eq_false q44)
              refine sx_RP.step (pc2 := 102) (ls2 := [(5, .int v39), (4, .ref (1 + 4 + x12)), (3, .ref (1 + 4 + x3)), (0, .ref 0), (1, .int (nI x3)), (2, .int (nI x12))]) (st2 := [.ref 0]) (w3 := w40) rfl rfl ?_
              refine sx_RP.step (pc2 := 104) (ls2 := [(5, .int v39), (4, .ref (1 + 4 + x12)), (3, .ref (1 + 4 + x3)), (0, .ref 0), (1, .int (nI x3)), (2, .int (nI x12))]) (st2 := [.int (-1000000004), .ref 0]) (w3 := w40) rfl rfl ?_
              refine sx_RP.callp (as2 := [.ref 0, .int (-1000000004)]) (rest2 := []) rfl rfl (sx_inv_v2 (mi := 58) (k := 78) (st := [.int (-1000000004), .ref 0]) (w := w40) rfl rfl hI41.1.o0 rfl rfl rfl) rfl rfl rfl (Q9_3 hI41) (show _ = 107 from rfl) ?_
              rintro r4 w45 ⟨rfl, hI46, hE48⟩
              have hE47 := hE42.tr (hE48)
              show sx_RP _ _ _ _ _ [.int (-1000000004)] _ _
              refine sx_RP.step (pc2 := 112) (ls2 := [(5, .int v39), (4, .ref (1 + 4 + x12)), (3, .ref (1 + 4 + x3)), (0, .ref 0), (1, .int (nI x3)), (2, .int (nI x12))]) (st2 := [.int (-1000000004)]) (w3 := w45) rfl rfl ?_
              refine sx_RP.ret (r := (some (.int (-1000000004)))) rfl rfl ?_
              exact ⟨⟨_, rfl⟩, hI46, hE47⟩
          · replace q38 := Decidable.not_not.mp (of_decide_eq_false q38)
            replace q38 := (nI_eq (a := x35) (b := 0) (by omega) (by omega)).mp q38
            refine sx_RP.step (pc2 := 80) (ls2 := [(4, .ref (1 + 4 + x12)), (3, .ref (1 + 4 + x3)), (0, .ref 0), (1, .int (nI x3)), (2, .int (nI x12))]) (st2 := [.ref 0]) (w3 := w) rfl rfl ?_
            refine sx_RP.step (pc2 := 82) (ls2 := [(4, .ref (1 + 4 + x12)), (3, .ref (1 + 4 + x3)), (0, .ref 0), (1, .int (nI x3)), (2, .int (nI x12))]) (st2 := [.int (-1000000005), .ref 0]) (w3 := w) rfl rfl ?_
            refine sx_RP.callp (as2 := [.ref 0, .int (-1000000005)]) (rest2 := []) rfl rfl (sx_inv_v2 (mi := 58) (k := 78) (st := [.int (-1000000005), .ref 0]) (w := w) rfl rfl hI.1.o0 rfl rfl rfl) rfl rfl rfl (Q9_4 hI) (show _ = 85 from rfl) ?_
            rintro r4 w49 ⟨rfl, hI50, hE52⟩
            have hE51 := hE.tr (hE52)
            show sx_RP _ _ _ _ _ [.int (-1000000005)] _ _
            refine sx_RP.ret (r := (some (.int (-1000000005)))) rfl rfl ?_
            exact ⟨⟨_, rfl⟩, hI50, hE51⟩
set_option maxRecDepth 20000 in
set_option maxHeartbeats 4000000 in
theorem Q67 {xs : Option (List Int32)} {d : Nat} {w : List sx_C} (hI : WI w) (a1 : Int32) : sx_RP xs (d + 7) 67 0 (lv_args 0 [.ref 0, .int a1]) [] w (fun r w2 => (∃ v : Int32, r = some (.int v)) ∧ WI w2 ∧ EQ w w2) := by
  have hE : EQ w w := EQ.rf
  refine sx_RP.step (pc2 := 1) (ls2 := [(0, .ref 0), (1, .int a1)]) (st2 := [.ref 0]) (w3 := w) rfl rfl ?_
  refine sx_RP.gf (v := .ref 1) rfl rfl hI.1.o0 rfl rfl (show _ = 4 from rfl) ?_
  refine sx_RP.step (pc2 := 5) (ls2 := [(0, .ref 0), (1, .int a1)]) (st2 := [.int a1, .ref 1]) (w3 := w) rfl rfl ?_
  rcases p66 (xs := xs) hI (Or.inl rfl) a1 with c2 | ⟨⟨x3, hx4, rfl⟩, c2⟩
  · refine sx_RP.cu (as := [.ref 1, .int a1]) (rest2 := []) (st3 := [.int 0]) rfl rfl (sx_inv_v2 (mi := 67) (k := 225) (st := [.int a1, .ref 1]) (w := w) rfl rfl (hI.1.oC (Or.inl rfl)) rfl rfl rfl) rfl rfl (c2) rfl ?_
    refine sx_RP.step (pc2 := 11) (ls2 := [(0, .ref 0), (1, .int a1)]) (st2 := []) (w3 := w) rfl rfl ?_
    refine sx_RP.step (pc2 := 12) (ls2 := [(0, .ref 0), (1, .int a1)]) (st2 := [.ref 0]) (w3 := w) rfl rfl ?_
    refine sx_RP.step (pc2 := 14) (ls2 := [(0, .ref 0), (1, .int a1)]) (st2 := [.int (-1000000001), .ref 0]) (w3 := w) rfl rfl ?_
    refine sx_RP.callp (as2 := [.ref 0, .int (-1000000001)]) (rest2 := []) rfl rfl (sx_inv_v2 (mi := 67) (k := 78) (st := [.int (-1000000001), .ref 0]) (w := w) rfl rfl hI.1.o0 rfl rfl rfl) rfl rfl rfl (Q9_0 hI) (show _ = 17 from rfl) ?_
    rintro r4 w6 ⟨rfl, hI7, hE9⟩
    have hE8 := hE.tr (hE9)
    show sx_RP _ _ _ _ _ [.int (-1000000001)] _ _
    refine sx_RP.ret (r := (some (.int (-1000000001)))) rfl rfl ?_
    exact ⟨⟨_, rfl⟩, hI7, hE8⟩
  · refine sx_RP.cu (as := [.ref 1, .int (nI x3)]) (rest2 := []) (st3 := [.int 1]) rfl rfl (sx_inv_v2 (mi := 67) (k := 225) (st := [.int (nI x3), .ref 1]) (w := w) rfl rfl (hI.1.oC (Or.inl rfl)) rfl rfl rfl) rfl rfl (c2) rfl ?_
    refine sx_RP.step (pc2 := 18) (ls2 := [(0, .ref 0), (1, .int (nI x3))]) (st2 := []) (w3 := w) rfl rfl ?_
    refine sx_RP.step (pc2 := 19) (ls2 := [(0, .ref 0), (1, .int (nI x3))]) (st2 := [.ref 0]) (w3 := w) rfl rfl ?_
    refine sx_RP.gf (v := .ref 44) rfl rfl hI.1.o0 rfl rfl (show _ = 22 from rfl) ?_
    refine sx_RP.step (pc2 := 23) (ls2 := [(0, .ref 0), (1, .int (nI x3))]) (st2 := [.ref 0, .ref 44]) (w3 := w) rfl rfl ?_
    refine sx_RP.gf (v := .ref 1) rfl rfl hI.1.o0 rfl rfl (show _ = 26 from rfl) ?_
    refine sx_RP.gref (k := 0) (b := 2) hI (Or.inl rfl) rfl rfl (by omega) (show _ = 29 from rfl) ?_
    refine sx_RP.callp (as2 := [.ref 44, .ref 2]) (rest2 := []) rfl rfl (sx_inv_v2 (mi := 67) (k := 95) (st := [.ref 2, .ref 44]) (w := w) rfl rfl hI.1.o44 rfl rfl rfl) rfl rfl rfl (Q16 hI (Or.inl rfl)) (show _ = 32 from rfl) ?_
    rintro r4 w10 ⟨rfl, hI11, hE13⟩
    have hE12 := hE.tr (hE13)
    show sx_RP _ _ _ _ _ [] _ _
    refine sx_RP.step (pc2 := 33) (ls2 := [(0, .ref 0), (1, .int (nI x3))]) (st2 := [.ref 0]) (w3 := w10) rfl rfl ?_
    refine sx_RP.step (pc2 := 34) (ls2 := [(0, .ref 0), (1, .int (nI x3))]) (st2 := [.ref 0, .ref 0]) (w3 := w10) rfl rfl ?_
    refine sx_RP.gf (v := .ref 1) rfl rfl hI11.1.o0 rfl rfl (show _ = 37 from rfl) ?_
    refine sx_RP.step (pc2 := 38) (ls2 := [(0, .ref 0), (1, .int (nI x3))]) (st2 := [.ref 0, .ref 1, .ref 0]) (w3 := w10) rfl rfl ?_
    refine sx_RP.gf (v := .ref 1) rfl rfl hI11.1.o0 rfl rfl (show _ = 41 from rfl) ?_
    refine sx_RP.gref (k := 4) (b := 4) hI11 (Or.inl rfl) rfl rfl (by omega) (show _ = 44 from rfl) ?_
    refine sx_RP.step (pc2 := 45) (ls2 := [(0, .ref 0), (1, .int (nI x3))]) (st2 := [.int (nI x3), .ref 4, .ref 1, .ref 0]) (w3 := w10) rfl rfl ?_
    refine sx_RP.ild (c := x3) rfl (hI11.1.aD (Or.inl rfl)).1 (hI11.1.aD (Or.inl rfl)).2 (sx_in_nI (show x3 < 9 by omega) (by decide)) (show (nI x3).toNatClampNeg = x3 from nI_clamp (by omega)) (show _ = 46 from rfl) ?_
    obtain ⟨x14, hx15, ex16⟩ : inR ((ia w10 4).getD x3 0) 47 := hI11.di (Or.inl rfl) (show x3 < 9 by omega)
    rw [ex16]
    refine sx_RP.callp (as2 := [.ref 0, .ref 1, .int (nI x14)]) (rest2 := []) rfl rfl (sx_inv_v2 (mi := 67) (k := 231) (st := [.int (nI x14), .ref 1, .ref 0]) (w := w10) rfl rfl hI11.1.o0 rfl rfl rfl) rfl rfl rfl (Q68 hI11 (Or.inl rfl) (show x14 < 48 by omega)) (show _ = 49 from rfl) ?_
    rintro r4 w18 ⟨⟨v17, rfl⟩, hI19, hE21⟩
    have hE20 := hE12.tr (hE21)
    show sx_RP _ _ _ _ _ [.int v17] _ _
    refine sx_RP.ret (r := (some (.int v17))) rfl rfl ?_
    exact ⟨⟨_, rfl⟩, hI19, hE20⟩
set_option maxRecDepth 20000 in
set_option maxHeartbeats 4000000 in
theorem Q70 {xs : Option (List Int32)} {d : Nat} {w : List sx_C} (hI : WI w) (a1 a2 : Int32) : sx_RP xs (d + 7) 70 0 (lv_args 0 [.ref 0, .int a1, .int a2]) [] w (fun r w2 => (∃ v : Int32, r = some (.int v)) ∧ WI w2 ∧ EQ w w2) := by
  have hE : EQ w w := EQ.rf
  refine sx_RP.step (pc2 := 1) (ls2 := [(0, .ref 0), (1, .int a1), (2, .int a2)]) (st2 := [.ref 0]) (w3 := w) rfl rfl ?_
  refine sx_RP.gf (v := .ref 1) rfl rfl hI.1.o0 rfl rfl (show _ = 4 from rfl) ?_
  refine sx_RP.step (pc2 := 5) (ls2 := [(0, .ref 0), (1, .int a1), (2, .int a2)]) (st2 := [.int a1, .ref 1]) (w3 := w) rfl rfl ?_
  rcases p66 (xs := xs) hI (Or.inl rfl) a1 with c2 | ⟨⟨x3, hx4, rfl⟩, c2⟩
  · refine sx_RP.cu (as := [.ref 1, .int a1]) (rest2 := []) (st3 := [.int 0]) rfl rfl (sx_inv_v2 (mi := 70) (k := 225) (st := [.int a1, .ref 1]) (w := w) rfl rfl (hI.1.oC (Or.inl rfl)) rfl rfl rfl) rfl rfl (c2) rfl ?_
    refine sx_RP.step (pc2 := 22) (ls2 := [(0, .ref 0), (1, .int a1), (2, .int a2)]) (st2 := []) (w3 := w) rfl rfl ?_
    refine sx_RP.step (pc2 := 23) (ls2 := [(0, .ref 0), (1, .int a1), (2, .int a2)]) (st2 := [.ref 0]) (w3 := w) rfl rfl ?_
    refine sx_RP.step (pc2 := 25) (ls2 := [(0, .ref 0), (1, .int a1), (2, .int a2)]) (st2 := [.int (-1000000001), .ref 0]) (w3 := w) rfl rfl ?_
    refine sx_RP.callp (as2 := [.ref 0, .int (-1000000001)]) (rest2 := []) rfl rfl (sx_inv_v2 (mi := 70) (k := 78) (st := [.int (-1000000001), .ref 0]) (w := w) rfl rfl hI.1.o0 rfl rfl rfl) rfl rfl rfl (Q9_0 hI) (show _ = 28 from rfl) ?_
    rintro r4 w6 ⟨rfl, hI7, hE9⟩
    have hE8 := hE.tr (hE9)
    show sx_RP _ _ _ _ _ [.int (-1000000001)] _ _
    refine sx_RP.ret (r := (some (.int (-1000000001)))) rfl rfl ?_
    exact ⟨⟨_, rfl⟩, hI7, hE8⟩
  · refine sx_RP.cu (as := [.ref 1, .int (nI x3)]) (rest2 := []) (st3 := [.int 1]) rfl rfl (sx_inv_v2 (mi := 70) (k := 225) (st := [.int (nI x3), .ref 1]) (w := w) rfl rfl (hI.1.oC (Or.inl rfl)) rfl rfl rfl) rfl rfl (c2) rfl ?_
    refine sx_RP.step (pc2 := 11) (ls2 := [(0, .ref 0), (1, .int (nI x3)), (2, .int a2)]) (st2 := []) (w3 := w) rfl rfl ?_
    refine sx_RP.step (pc2 := 12) (ls2 := [(0, .ref 0), (1, .int (nI x3)), (2, .int a2)]) (st2 := [.ref 0]) (w3 := w) rfl rfl ?_
    refine sx_RP.gf (v := .ref 1) rfl rfl hI.1.o0 rfl rfl (show _ = 15 from rfl) ?_
    refine sx_RP.step (pc2 := 16) (ls2 := [(0, .ref 0), (1, .int (nI x3)), (2, .int a2)]) (st2 := [.int a2, .ref 1]) (w3 := w) rfl rfl ?_
    rcases p27 (xs := xs) hI (Or.inl rfl) a2 with c11 | ⟨⟨x12, hx13, rfl⟩, c11⟩
    · refine sx_RP.cu (as := [.ref 1, .int a2]) (rest2 := []) (st3 := [.int 0]) rfl rfl (sx_inv_v2 (mi := 70) (k := 120) (st := [.int a2, .ref 1]) (w := w) rfl rfl (hI.1.oC (Or.inl rfl)) rfl rfl rfl) rfl rfl (c11) rfl ?_
      refine sx_RP.step (pc2 := 22) (ls2 := [(0, .ref 0), (1, .int (nI x3)), (2, .int a2)]) (st2 := []) (w3 := w) rfl rfl ?_
      refine sx_RP.step (pc2 := 23) (ls2 := [(0, .ref 0), (1, .int (nI x3)), (2, .int a2)]) (st2 := [.ref 0]) (w3 := w) rfl rfl ?_
      refine sx_RP.step (pc2 := 25) (ls2 := [(0, .ref 0), (1, .int (nI x3)), (2, .int a2)]) (st2 := [.int (-1000000001), .ref 0]) (w3 := w) rfl rfl ?_
      refine sx_RP.callp (as2 := [.ref 0, .int (-1000000001)]) (rest2 := []) rfl rfl (sx_inv_v2 (mi := 70) (k := 78) (st := [.int (-1000000001), .ref 0]) (w := w) rfl rfl hI.1.o0 rfl rfl rfl) rfl rfl rfl (Q9_0 hI) (show _ = 28 from rfl) ?_
      rintro r4 w15 ⟨rfl, hI16, hE18⟩
      have hE17 := hE.tr (hE18)
      show sx_RP _ _ _ _ _ [.int (-1000000001)] _ _
      refine sx_RP.ret (r := (some (.int (-1000000001)))) rfl rfl ?_
      exact ⟨⟨_, rfl⟩, hI16, hE17⟩
    · refine sx_RP.cu (as := [.ref 1, .int (nI x12)]) (rest2 := []) (st3 := [.int 1]) rfl rfl (sx_inv_v2 (mi := 70) (k := 120) (st := [.int (nI x12), .ref 1]) (w := w) rfl rfl (hI.1.oC (Or.inl rfl)) rfl rfl rfl) rfl rfl (c11) rfl ?_
      refine sx_RP.step (pc2 := 29) (ls2 := [(0, .ref 0), (1, .int (nI x3)), (2, .int (nI x12))]) (st2 := []) (w3 := w) rfl rfl ?_
      refine sx_RP.step (pc2 := 30) (ls2 := [(0, .ref 0), (1, .int (nI x3)), (2, .int (nI x12))]) (st2 := [.ref 0]) (w3 := w) rfl rfl ?_
      refine sx_RP.gf (v := .ref 1) rfl rfl hI.1.o0 rfl rfl (show _ = 33 from rfl) ?_
      refine sx_RP.gref (k := 2) (b := 3) hI (Or.inl rfl) rfl rfl (by omega) (show _ = 36 from rfl) ?_
      refine sx_RP.step (pc2 := 37) (ls2 := [(0, .ref 0), (1, .int (nI x3)), (2, .int (nI x12))]) (st2 := [.int (nI x12), .ref 3]) (w3 := w) rfl rfl ?_
      refine sx_RP.ald (v := .ref (1 + 4 + x12)) rfl (hI.1.aG (Or.inl rfl)) rfl (grA_at (show x12 < 10 by omega)) (show _ = 38 from rfl) ?_
      refine sx_RP.step (pc2 := 39) (ls2 := [(3, .ref (1 + 4 + x12)), (0, .ref 0), (1, .int (nI x3)), (2, .int (nI x12))]) (st2 := []) (w3 := w) rfl rfl ?_
      refine sx_RP.step (pc2 := 40) (ls2 := [(3, .ref (1 + 4 + x12)), (0, .ref 0), (1, .int (nI x3)), (2, .int (nI x12))]) (st2 := [.ref (1 + 4 + x12)]) (w3 := w) rfl rfl ?_
      refine sx_RP.step (pc2 := 41) (ls2 := [(3, .ref (1 + 4 + x12)), (0, .ref 0), (1, .int (nI x3)), (2, .int (nI x12))]) (st2 := [.int 0, .ref (1 + 4 + x12)]) (w3 := w) rfl rfl ?_
      obtain ⟨x19, hx20, c21⟩ := p43 hI (gAd.of (Or.inl rfl) (show x12 < 10 by omega)) 0
      refine sx_RP.cu (as := [.ref (1 + 4 + x12), .int 0]) (rest2 := []) (st3 := [.int (nI x19)]) rfl rfl (sx_inv_v2 (mi := 70) (k := 186) (st := [.int 0, .ref (1 + 4 + x12)]) (w := w) rfl rfl (hI.1.oG (gAd.of (Or.inl rfl) (show x12 < 10 by omega))) rfl rfl rfl) rfl rfl (c21) rfl ?_
      refine sx_RP.br (p1 := 49) (l1 := [(3, .ref (1 + 4 + x12)), (0, .ref 0), (1, .int (nI x3)), (2, .int (nI x12))]) (s1 := []) (v1 := w) (p2 := 47) (l2 := [(3, .ref (1 + 4 + x12)), (0, .ref 0), (1, .int (nI x3)), (2, .int (nI x12))]) (s2 := []) (v2 := w) rfl rfl (fun q22 => ?_) (fun q22 => ?_)
      · replace q22 := of_decide_eq_true q22
        replace q22 := mt (nI_eq (a := x19) (b := 0) (by omega) (by omega)).mpr q22
        refine sx_RP.step (pc2 := 50) (ls2 := [(3, .ref (1 + 4 + x12)), (0, .ref 0), (1, .int (nI x3)), (2, .int (nI x12))]) (st2 := [.ref 0]) (w3 := w) rfl rfl ?_
        refine sx_RP.gf (v := .ref 44) rfl rfl hI.1.o0 rfl rfl (show _ = 53 from rfl) ?_
        refine sx_RP.step (pc2 := 54) (ls2 := [(3, .ref (1 + 4 + x12)), (0, .ref 0), (1, .int (nI x3)), (2, .int (nI x12))]) (st2 := [.ref 0, .ref 44]) (w3 := w) rfl rfl ?_
        refine sx_RP.gf (v := .ref 1) rfl rfl hI.1.o0 rfl rfl (show _ = 57 from rfl) ?_
        refine sx_RP.gref (k := 0) (b := 2) hI (Or.inl rfl) rfl rfl (by omega) (show _ = 60 from rfl) ?_
        refine sx_RP.callp (as2 := [.ref 44, .ref 2]) (rest2 := []) rfl rfl (sx_inv_v2 (mi := 70) (k := 95) (st := [.ref 2, .ref 44]) (w := w) rfl rfl hI.1.o44 rfl rfl rfl) rfl rfl rfl (Q16 hI (Or.inl rfl)) (show _ = 63 from rfl) ?_
        rintro r4 w23 ⟨rfl, hI24, hE26⟩
        have hE25 := hE.tr (hE26)
        show sx_RP _ _ _ _ _ [] _ _
        refine sx_RP.step (pc2 := 64) (ls2 := [(3, .ref (1 + 4 + x12)), (0, .ref 0), (1, .int (nI x3)), (2, .int (nI x12))]) (st2 := [.ref 0]) (w3 := w23) rfl rfl ?_
        refine sx_RP.step (pc2 := 65) (ls2 := [(3, .ref (1 + 4 + x12)), (0, .ref 0), (1, .int (nI x3)), (2, .int (nI x12))]) (st2 := [.ref (1 + 4 + x12), .ref 0]) (w3 := w23) rfl rfl ?_
        refine sx_RP.gg (k := 0) hI24 (gAd.of (Or.inl rfl) (show x12 < 10 by omega)) rfl rfl (by decide) (show _ = 68 from rfl) ?_
        obtain ⟨x27, hx28, ex29⟩ : inR (fi w23 (1 + 4 + x12) 0) 5 := hI24.gk (k := 0) (gAd.of (Or.inl rfl) (show x12 < 10 by omega)) (by decide)
        rw [ex29]
        refine sx_RP.step (pc2 := 69) (ls2 := [(3, .ref (1 + 4 + x12)), (0, .ref 0), (1, .int (nI x3)), (2, .int (nI x12))]) (st2 := [.ref (1 + 4 + x12), .int (nI x27), .ref 0]) (w3 := w23) rfl rfl ?_
        refine sx_RP.gg (k := 2) hI24 (gAd.of (Or.inl rfl) (show x12 < 10 by omega)) rfl rfl (by decide) (show _ = 72 from rfl) ?_
        obtain ⟨x30, hx31, ex32⟩ : inR (fi w23 (1 + 4 + x12) 2) 47 := hI24.gk (k := 2) (gAd.of (Or.inl rfl) (show x12 < 10 by omega)) (by decide)
        rw [ex32]
        refine sx_RP.step (pc2 := 73) (ls2 := [(3, .ref (1 + 4 + x12)), (0, .ref 0), (1, .int (nI x3)), (2, .int (nI x12))]) (st2 := [.ref 0, .int (nI x30), .int (nI x27), .ref 0]) (w3 := w23) rfl rfl ?_
        refine sx_RP.gf (v := .ref 44) rfl rfl hI24.1.o0 rfl rfl (show _ = 76 from rfl) ?_
        refine sx_RP.step (pc2 := 77) (ls2 := [(3, .ref (1 + 4 + x12)), (0, .ref 0), (1, .int (nI x3)), (2, .int (nI x12))]) (st2 := [.ref 0, .ref 44, .int (nI x30), .int (nI x27), .ref 0]) (w3 := w23) rfl rfl ?_
        refine sx_RP.gf (v := .ref 1) rfl rfl hI24.1.o0 rfl rfl (show _ = 80 from rfl) ?_
        refine sx_RP.gref (k := 4) (b := 4) hI24 (Or.inl rfl) rfl rfl (by omega) (show _ = 83 from rfl) ?_
        refine sx_RP.step (pc2 := 84) (ls2 := [(3, .ref (1 + 4 + x12)), (0, .ref 0), (1, .int (nI x3)), (2, .int (nI x12))]) (st2 := [.int (nI x3), .ref 4, .ref 44, .int (nI x30), .int (nI x27), .ref 0]) (w3 := w23) rfl rfl ?_
        refine sx_RP.ild (c := x3) rfl (hI24.1.aD (Or.inl rfl)).1 (hI24.1.aD (Or.inl rfl)).2 (sx_in_nI (show x3 < 9 by omega) (by decide)) (show (nI x3).toNatClampNeg = x3 from nI_clamp (by omega)) (show _ = 85 from rfl) ?_
        obtain ⟨x33, hx34, ex35⟩ : inR ((ia w23 4).getD x3 0) 47 := hI24.di (Or.inl rfl) (show x3 < 9 by omega)
        rw [ex35]
        refine sx_RP.callp (as2 := [.ref 44, .int (nI x33)]) (rest2 := [.int (nI x30), .int (nI x27), .ref 0]) rfl rfl (sx_inv_v2 (mi := 70) (k := 99) (st := [.int (nI x33), .ref 44, .int (nI x30), .int (nI x27), .ref 0]) (w := w23) rfl rfl hI24.1.o44 rfl rfl rfl) rfl rfl rfl (Q17 hI24 (show x33 < 48 by omega)) (show _ = 88 from rfl) ?_
        rintro r4 w36 ⟨rfl, hI37, hE39⟩
        have hE38 := hE25.tr (hE39)
        show sx_RP _ _ _ _ _ [.ref (47 + x33), .int (nI x30), .int (nI x27), .ref 0] _ _
        obtain ⟨v40, c41⟩ := p69 hI37 (show x27 ≤ 5 by omega) (show x30 < 48 by omega) (show x33 < 48 by omega)
        refine sx_RP.cu (as := [.ref 0, .int (nI x27), .int (nI x30), .ref (47 + x33)]) (rest2 := []) (st3 := [.int v40]) rfl rfl (sx_inv_v2 (mi := 70) (k := 235) (st := [.ref (47 + x33), .int (nI x30), .int (nI x27), .ref 0]) (w := w36) rfl rfl hI37.1.o0 rfl rfl rfl) rfl rfl (c41) rfl ?_
        refine sx_RP.ret (r := (some (.int v40))) rfl rfl ?_
        exact ⟨⟨_, rfl⟩, hI37, hE38⟩
      · replace q22 := Decidable.not_not.mp (of_decide_eq_false q22)
        replace q22 := (nI_eq (a := x19) (b := 0) (by omega) (by omega)).mp q22
        refine sx_RP.step (pc2 := 48) (ls2 := [(3, .ref (1 + 4 + x12)), (0, .ref 0), (1, .int (nI x3)), (2, .int (nI x12))]) (st2 := [.int 0]) (w3 := w) rfl rfl ?_
        refine sx_RP.ret (r := (some (.int 0))) rfl rfl ?_
        exact ⟨⟨_, rfl⟩, hI, hE⟩
set_option maxRecDepth 20000 in
set_option maxHeartbeats 4000000 in
theorem Q71 {xs : Option (List Int32)} {d : Nat} {w : List sx_C} (hI : WI w) (a1 : Int32) : sx_RP xs (d + 7) 71 0 (lv_args 0 [.ref 0, .int a1]) [] w (fun r w2 => (∃ v : Int64, r = some (.long v)) ∧ WI w2 ∧ EQ w w2) := by
  have hE : EQ w w := EQ.rf
  refine sx_RP.step (pc2 := 1) (ls2 := [(0, .ref 0), (1, .int a1)]) (st2 := [.int a1]) (w3 := w) rfl rfl ?_
  rcases in_cases a1 0 5 (m := 0) (n := 5) rfl rfl (by decide) (by decide) with q1 | ⟨x2, hx3, hx4, rfl⟩
  · refine sx_RP.cu (as := [.int a1]) (rest2 := []) (st3 := [.int 0]) rfl rfl rfl rfl rfl (cx_22n q1) rfl ?_
    refine sx_RP.step (pc2 := 7) (ls2 := [(0, .ref 0), (1, .int a1)]) (st2 := []) (w3 := w) rfl rfl ?_
    refine sx_RP.step (pc2 := 8) (ls2 := [(0, .ref 0), (1, .int a1)]) (st2 := [.ref 0]) (w3 := w) rfl rfl ?_
    refine sx_RP.step (pc2 := 10) (ls2 := [(0, .ref 0), (1, .int a1)]) (st2 := [.int (-1000000001), .ref 0]) (w3 := w) rfl rfl ?_
    refine sx_RP.callp (as2 := [.ref 0, .int (-1000000001)]) (rest2 := []) rfl rfl (sx_inv_v2 (mi := 71) (k := 78) (st := [.int (-1000000001), .ref 0]) (w := w) rfl rfl hI.1.o0 rfl rfl rfl) rfl rfl rfl (Q9_0 hI) (show _ = 13 from rfl) ?_
    rintro r4 w6 ⟨rfl, hI7, hE9⟩
    have hE8 := hE.tr (hE9)
    show sx_RP _ _ _ _ _ [.int (-1000000001)] _ _
    refine sx_RP.step (pc2 := 14) (ls2 := [(0, .ref 0), (1, .int a1)]) (st2 := [.long (-1000000001)]) (w3 := w6) rfl rfl ?_
    refine sx_RP.ret (r := (some (.long (-1000000001)))) rfl rfl ?_
    exact ⟨⟨_, rfl⟩, hI7, hE8⟩
  · refine sx_RP.cu (as := [.int (nI x2)]) (rest2 := []) (st3 := [.int 1]) rfl rfl rfl rfl rfl (cx_22p ⟨nI_le (a := 0) hx3 (by omega), nI_le (b := 5) hx4 (by decide)⟩) rfl ?_
    refine sx_RP.step (pc2 := 15) (ls2 := [(0, .ref 0), (1, .int (nI x2))]) (st2 := []) (w3 := w) rfl rfl ?_
    refine sx_RP.step (pc2 := 16) (ls2 := [(0, .ref 0), (1, .int (nI x2))]) (st2 := [.ref 0]) (w3 := w) rfl rfl ?_
    refine sx_RP.gf (v := .ref 1) rfl rfl hI.1.o0 rfl rfl (show _ = 19 from rfl) ?_
    refine sx_RP.gc (k := 5) hI (Or.inl rfl) rfl rfl (by omega) (show _ = 22 from rfl) ?_
    obtain ⟨x10, hx11, ex12⟩ : inR (fi w 1 5) 9 := (hI.c (Or.inl rfl)).2
    rw [ex12]
    refine sx_RP.br (p1 := 33) (l1 := [(0, .ref 0), (1, .int (nI x2))]) (s1 := []) (v1 := w) (p2 := 25) (l2 := [(0, .ref 0), (1, .int (nI x2))]) (s2 := []) (v2 := w) rfl rfl (fun q13 => ?_) (fun q13 => ?_)
    · replace q13 := of_decide_eq_true q13
      replace q13 := mt (nI_eq (a := x10) (b := 0) (by omega) (by omega)).mpr q13
      refine sx_RP.step (pc2 := 34) (ls2 := [(0, .ref 0), (1, .int (nI x2))]) (st2 := [.ref 0]) (w3 := w) rfl rfl ?_
      refine sx_RP.gf (v := .ref 44) rfl rfl hI.1.o0 rfl rfl (show _ = 37 from rfl) ?_
      refine sx_RP.step (pc2 := 38) (ls2 := [(0, .ref 0), (1, .int (nI x2))]) (st2 := [.ref 0, .ref 44]) (w3 := w) rfl rfl ?_
      refine sx_RP.gf (v := .ref 1) rfl rfl hI.1.o0 rfl rfl (show _ = 41 from rfl) ?_
      refine sx_RP.gref (k := 0) (b := 2) hI (Or.inl rfl) rfl rfl (by omega) (show _ = 44 from rfl) ?_
      refine sx_RP.callp (as2 := [.ref 44, .ref 2]) (rest2 := []) rfl rfl (sx_inv_v2 (mi := 71) (k := 95) (st := [.ref 2, .ref 44]) (w := w) rfl rfl hI.1.o44 rfl rfl rfl) rfl rfl rfl (Q16 hI (Or.inl rfl)) (show _ = 47 from rfl) ?_
      rintro r4 w14 ⟨rfl, hI15, hE17⟩
      have hE16 := hE.tr (hE17)
      show sx_RP _ _ _ _ _ [] _ _
      refine sx_RP.step (pc2 := 48) (ls2 := [(0, .ref 0), (1, .int (nI x2))]) (st2 := [.ref 0]) (w3 := w14) rfl rfl ?_
      refine sx_RP.step (pc2 := 49) (ls2 := [(0, .ref 0), (1, .int (nI x2))]) (st2 := [.int (nI x2), .ref 0]) (w3 := w14) rfl rfl ?_
      refine sx_RP.callp (as2 := [.ref 0, .int (nI x2)]) (rest2 := []) rfl rfl (sx_inv_v2 (mi := 71) (k := 242) (st := [.int (nI x2), .ref 0]) (w := w14) rfl rfl hI15.1.o0 rfl rfl rfl) rfl rfl rfl (Q72 hI15 (show x2 ≤ 5 by omega)) (show _ = 52 from rfl) ?_
      rintro r4 w19 ⟨⟨v18, rfl⟩, hI20, hE22⟩
      have hE21 := hE16.tr (hE22)
      show sx_RP _ _ _ _ _ [.long v18] _ _
      refine sx_RP.ret (r := (some (.long v18))) rfl rfl ?_
      exact ⟨⟨_, rfl⟩, hI20, hE21⟩
    · replace q13 := Decidable.not_not.mp (of_decide_eq_false q13)
      replace q13 := (nI_eq (a := x10) (b := 0) (by omega) (by omega)).mp q13
      refine sx_RP.step (pc2 := 26) (ls2 := [(0, .ref 0), (1, .int (nI x2))]) (st2 := [.ref 0]) (w3 := w) rfl rfl ?_
      refine sx_RP.step (pc2 := 28) (ls2 := [(0, .ref 0), (1, .int (nI x2))]) (st2 := [.int (-1000000004), .ref 0]) (w3 := w) rfl rfl ?_
      refine sx_RP.callp (as2 := [.ref 0, .int (-1000000004)]) (rest2 := []) rfl rfl (sx_inv_v2 (mi := 71) (k := 78) (st := [.int (-1000000004), .ref 0]) (w := w) rfl rfl hI.1.o0 rfl rfl rfl) rfl rfl rfl (Q9_3 hI) (show _ = 31 from rfl) ?_
      rintro r4 w23 ⟨rfl, hI24, hE26⟩
      have hE25 := hE.tr (hE26)
      show sx_RP _ _ _ _ _ [.int (-1000000004)] _ _
      refine sx_RP.step (pc2 := 32) (ls2 := [(0, .ref 0), (1, .int (nI x2))]) (st2 := [.long (-1000000004)]) (w3 := w23) rfl rfl ?_
      refine sx_RP.ret (r := (some (.long (-1000000004)))) rfl rfl ?_
      exact ⟨⟨_, rfl⟩, hI24, hE25⟩
set_option maxRecDepth 20000 in
set_option maxHeartbeats 4000000 in
theorem Q76 {xs : Option (List Int32)} {d : Nat} {w : List sx_C} (hI : WI w) (a1 a2 : Int32) : sx_RP xs (d + 7) 76 0 (lv_args 0 [.ref 0, .int a1, .int a2]) [] w (fun r w2 => (∃ v : Int32, r = some (.int v)) ∧ WI w2 ∧ EQ w w2) := by
  have hE : EQ w w := EQ.rf
  refine sx_RP.step (pc2 := 1) (ls2 := [(0, .ref 0), (1, .int a1), (2, .int a2)]) (st2 := [.int a1]) (w3 := w) rfl rfl ?_
  rcases in_cases a1 0 47 (m := 0) (n := 47) rfl rfl (by decide) (by decide) with q1 | ⟨x2, hx3, hx4, rfl⟩
  · refine sx_RP.cu (as := [.int a1]) (rest2 := []) (st3 := [.int 0]) rfl rfl rfl rfl rfl (cx_7n q1) rfl ?_
    refine sx_RP.step (pc2 := 17) (ls2 := [(0, .ref 0), (1, .int a1), (2, .int a2)]) (st2 := []) (w3 := w) rfl rfl ?_
    refine sx_RP.step (pc2 := 18) (ls2 := [(0, .ref 0), (1, .int a1), (2, .int a2)]) (st2 := [.ref 0]) (w3 := w) rfl rfl ?_
    refine sx_RP.step (pc2 := 20) (ls2 := [(0, .ref 0), (1, .int a1), (2, .int a2)]) (st2 := [.int (-1000000001), .ref 0]) (w3 := w) rfl rfl ?_
    refine sx_RP.callp (as2 := [.ref 0, .int (-1000000001)]) (rest2 := []) rfl rfl (sx_inv_v2 (mi := 76) (k := 78) (st := [.int (-1000000001), .ref 0]) (w := w) rfl rfl hI.1.o0 rfl rfl rfl) rfl rfl rfl (Q9_0 hI) (show _ = 23 from rfl) ?_
    rintro r4 w6 ⟨rfl, hI7, hE9⟩
    have hE8 := hE.tr (hE9)
    show sx_RP _ _ _ _ _ [.int (-1000000001)] _ _
    refine sx_RP.ret (r := (some (.int (-1000000001)))) rfl rfl ?_
    exact ⟨⟨_, rfl⟩, hI7, hE8⟩
  · refine sx_RP.cu (as := [.int (nI x2)]) (rest2 := []) (st3 := [.int 1]) rfl rfl rfl rfl rfl (cx_7p ⟨nI_le (a := 0) hx3 (by omega), nI_le (b := 47) hx4 (by decide)⟩) rfl ?_
    refine sx_RP.step (pc2 := 7) (ls2 := [(0, .ref 0), (1, .int (nI x2)), (2, .int a2)]) (st2 := []) (w3 := w) rfl rfl ?_
    refine sx_RP.step (pc2 := 8) (ls2 := [(0, .ref 0), (1, .int (nI x2)), (2, .int a2)]) (st2 := [.int a2]) (w3 := w) rfl rfl ?_
    refine sx_RP.step (pc2 := 9) (ls2 := [(0, .ref 0), (1, .int (nI x2)), (2, .int a2)]) (st2 := [.int 1, .int a2]) (w3 := w) rfl rfl ?_
    refine sx_RP.step (pc2 := 11) (ls2 := [(0, .ref 0), (1, .int (nI x2)), (2, .int a2)]) (st2 := [.int 30, .int 1, .int a2]) (w3 := w) rfl rfl ?_
    rcases in_cases a2 1 30 (m := 1) (n := 30) rfl rfl (by decide) (by decide) with q10 | ⟨x11, hx12, hx13, rfl⟩
    · refine sx_RP.cu (as := [.int a2, .int 1, .int 30]) (rest2 := []) (st3 := [.int 0]) rfl rfl rfl rfl rfl (cx_8n q10) rfl ?_
      refine sx_RP.step (pc2 := 17) (ls2 := [(0, .ref 0), (1, .int (nI x2)), (2, .int a2)]) (st2 := []) (w3 := w) rfl rfl ?_
      refine sx_RP.step (pc2 := 18) (ls2 := [(0, .ref 0), (1, .int (nI x2)), (2, .int a2)]) (st2 := [.ref 0]) (w3 := w) rfl rfl ?_
      refine sx_RP.step (pc2 := 20) (ls2 := [(0, .ref 0), (1, .int (nI x2)), (2, .int a2)]) (st2 := [.int (-1000000001), .ref 0]) (w3 := w) rfl rfl ?_
      refine sx_RP.callp (as2 := [.ref 0, .int (-1000000001)]) (rest2 := []) rfl rfl (sx_inv_v2 (mi := 76) (k := 78) (st := [.int (-1000000001), .ref 0]) (w := w) rfl rfl hI.1.o0 rfl rfl rfl) rfl rfl rfl (Q9_0 hI) (show _ = 23 from rfl) ?_
      rintro r4 w15 ⟨rfl, hI16, hE18⟩
      have hE17 := hE.tr (hE18)
      show sx_RP _ _ _ _ _ [.int (-1000000001)] _ _
      refine sx_RP.ret (r := (some (.int (-1000000001)))) rfl rfl ?_
      exact ⟨⟨_, rfl⟩, hI16, hE17⟩
    · refine sx_RP.cu (as := [.int (nI x11), .int 1, .int 30]) (rest2 := []) (st3 := [.int 1]) rfl rfl rfl rfl rfl (cx_8p ⟨nI_le (a := 1) hx12 (by omega), nI_le (b := 30) hx13 (by decide)⟩) rfl ?_
      refine sx_RP.step (pc2 := 24) (ls2 := [(0, .ref 0), (1, .int (nI x2)), (2, .int (nI x11))]) (st2 := []) (w3 := w) rfl rfl ?_
      refine sx_RP.step (pc2 := 25) (ls2 := [(0, .ref 0), (1, .int (nI x2)), (2, .int (nI x11))]) (st2 := [.ref 0]) (w3 := w) rfl rfl ?_
      refine sx_RP.gf (v := .ref 1) rfl rfl hI.1.o0 rfl rfl (show _ = 28 from rfl) ?_
      refine sx_RP.step (pc2 := 29) (ls2 := [(0, .ref 0), (1, .int (nI x2)), (2, .int (nI x11))]) (st2 := [.int (nI x2), .ref 1]) (w3 := w) rfl rfl ?_
      refine sx_RP.step (pc2 := 30) (ls2 := [(0, .ref 0), (1, .int (nI x2)), (2, .int (nI x11))]) (st2 := [.int (nI x11), .int (nI x2), .ref 1]) (w3 := w) rfl rfl ?_
      obtain ⟨v19, c20⟩ := p77 hI (Or.inl rfl) (nI x2) (nI x11)
      refine sx_RP.cu (as := [.ref 1, .int (nI x2), .int (nI x11)]) (rest2 := []) (st3 := [.long v19]) rfl rfl (sx_inv_v2 (mi := 76) (k := 253) (st := [.int (nI x11), .int (nI x2), .ref 1]) (w := w) rfl rfl (hI.1.oC (Or.inl rfl)) rfl rfl rfl) rfl rfl (c20) rfl ?_
      refine sx_RP.step (pc2 := 34) (ls2 := [(0, .ref 0), (1, .int (nI x2)), (2, .int (nI x11))]) (st2 := [.ref 0, .long v19]) (w3 := w) rfl rfl ?_
      refine sx_RP.gf (v := .ref 1) rfl rfl hI.1.o0 rfl rfl (show _ = 37 from rfl) ?_
      refine sx_RP.gw hI (Or.inl rfl) rfl rfl (show _ = 40 from rfl) ?_
      refine sx_RP.step (pc2 := 41) (ls2 := [(0, .ref 0), (1, .int (nI x2)), (2, .int (nI x11))]) (st2 := [.long (v19 &&& (fj w 1 1))]) (w3 := w) rfl rfl ?_
      obtain ⟨v21, c22⟩ := p78 hI (v19 &&& (fj w 1 1))
      refine sx_RP.cu (as := [.long (v19 &&& (fj w 1 1))]) (rest2 := []) (st3 := [.int v21]) rfl rfl rfl rfl rfl (c22) rfl ?_
      refine sx_RP.ret (r := (some (.int v21))) rfl rfl ?_
      exact ⟨⟨_, rfl⟩, hI, hE⟩
set_option maxRecDepth 20000 in
set_option maxHeartbeats 4000000 in
theorem Q127 {xs : Option (List Int32)} {d : Nat} {w : List sx_C} (hI : WI w) (a1 : Int32) : sx_RP xs (d + 7) 127 0 (lv_args 0 [.ref 0, .int a1]) [] w (fun r w2 => (∃ v : Int32, r = some (.int v)) ∧ WI w2 ∧ EQ w w2) := by
  have hE : EQ w w := EQ.rf
  refine sx_RP.step (pc2 := 1) (ls2 := [(0, .ref 0), (1, .int a1)]) (st2 := [.int a1]) (w3 := w) rfl rfl ?_
  rcases sw_cases (n := 6) (a1) with q1 | ⟨x2, hx3, ex4⟩
  · refine sx_RP.swo (t := 103) rfl q1 rfl ?_
    refine sx_RP.step (pc2 := 104) (ls2 := [(0, .ref 0), (1, .int a1)]) (st2 := [.ref 0]) (w3 := w) rfl rfl ?_
    refine sx_RP.step (pc2 := 106) (ls2 := [(0, .ref 0), (1, .int a1)]) (st2 := [.int (-1000000001), .ref 0]) (w3 := w) rfl rfl ?_
    refine sx_RP.callp (as2 := [.ref 0, .int (-1000000001)]) (rest2 := []) rfl rfl (sx_inv_v2 (mi := 127) (k := 78) (st := [.int (-1000000001), .ref 0]) (w := w) rfl rfl hI.1.o0 rfl rfl rfl) rfl rfl rfl (Q9_0 hI) (show _ = 109 from rfl) ?_
    rintro r4 w5 ⟨rfl, hI6, hE8⟩
    have hE7 := hE.tr (hE8)
    show sx_RP _ _ _ _ _ [.int (-1000000001)] _ _
    refine sx_RP.ret (r := (some (.int (-1000000001)))) rfl rfl ?_
    exact ⟨⟨_, rfl⟩, hI6, hE7⟩
  · rw [ex4]
    rcases (show x2 = 0 ∨ x2 = 1 ∨ x2 = 2 ∨ x2 = 3 ∨ x2 = 4 ∨ x2 = 5 ∨ x2 = 6 by omega) with rfl | rfl | rfl | rfl | rfl | rfl | rfl
    · refine sx_RP.step (pc2 := 44) (ls2 := [(0, .ref 0), (1, .int (nI 0))]) (st2 := []) (w3 := w) rfl rfl ?_
      refine sx_RP.step (pc2 := 45) (ls2 := [(0, .ref 0), (1, .int (nI 0))]) (st2 := [.ref 0]) (w3 := w) rfl rfl ?_
      refine sx_RP.gf (v := .ref 1) rfl rfl hI.1.o0 rfl rfl (show _ = 48 from rfl) ?_
      refine sx_RP.gc (k := 3) hI (Or.inl rfl) rfl rfl (by omega) (show _ = 51 from rfl) ?_
      obtain ⟨x9, hx10, ex11⟩ : inR (fi w 1 3) 10 := (hI.c (Or.inl rfl)).1
      rw [ex11]
      refine sx_RP.ret (r := (some (.int (nI x9)))) rfl rfl ?_
      exact ⟨⟨_, rfl⟩, hI, hE⟩
    · refine sx_RP.step (pc2 := 52) (ls2 := [(0, .ref 0), (1, .int (nI 1))]) (st2 := []) (w3 := w) rfl rfl ?_
      refine sx_RP.step (pc2 := 53) (ls2 := [(0, .ref 0), (1, .int (nI 1))]) (st2 := [.ref 0]) (w3 := w) rfl rfl ?_
      refine sx_RP.gf (v := .ref 1) rfl rfl hI.1.o0 rfl rfl (show _ = 56 from rfl) ?_
      refine sx_RP.gc (k := 5) hI (Or.inl rfl) rfl rfl (by omega) (show _ = 59 from rfl) ?_
      obtain ⟨x12, hx13, ex14⟩ : inR (fi w 1 5) 9 := (hI.c (Or.inl rfl)).2
      rw [ex14]
      refine sx_RP.ret (r := (some (.int (nI x12)))) rfl rfl ?_
      exact ⟨⟨_, rfl⟩, hI, hE⟩
    · refine sx_RP.step (pc2 := 60) (ls2 := [(0, .ref 0), (1, .int (nI 2))]) (st2 := []) (w3 := w) rfl rfl ?_
      refine sx_RP.step (pc2 := 61) (ls2 := [(0, .ref 0), (1, .int (nI 2))]) (st2 := [.ref 0]) (w3 := w) rfl rfl ?_
      refine sx_RP.gf (v := .ref 1) rfl rfl hI.1.o0 rfl rfl (show _ = 64 from rfl) ?_
      refine sx_RP.gw hI (Or.inl rfl) rfl rfl (show _ = 67 from rfl) ?_
      obtain ⟨v15, c16⟩ := p78 hI (fj w 1 1)
      refine sx_RP.cu (as := [.long (fj w 1 1)]) (rest2 := []) (st3 := [.int v15]) rfl rfl rfl rfl rfl (c16) rfl ?_
      refine sx_RP.ret (r := (some (.int v15))) rfl rfl ?_
      exact ⟨⟨_, rfl⟩, hI, hE⟩
    · refine sx_RP.step (pc2 := 71) (ls2 := [(0, .ref 0), (1, .int (nI 3))]) (st2 := []) (w3 := w) rfl rfl ?_
      refine sx_RP.step (pc2 := 72) (ls2 := [(0, .ref 0), (1, .int (nI 3))]) (st2 := [.ref 0]) (w3 := w) rfl rfl ?_
      refine sx_RP.gf (v := .ref 96) rfl rfl hI.1.o0 rfl rfl (show _ = 75 from rfl) ?_
      refine sx_RP.gt (k := 1) hI rfl rfl (by decide) (show _ = 78 from rfl) ?_
      obtain ⟨x17, hx18, ex19⟩ : inR (fi w 96 1) 120 := hI.t.1
      rw [ex19]
      refine sx_RP.ret (r := (some (.int (nI x17)))) rfl rfl ?_
      exact ⟨⟨_, rfl⟩, hI, hE⟩
    · refine sx_RP.step (pc2 := 79) (ls2 := [(0, .ref 0), (1, .int (nI 4))]) (st2 := []) (w3 := w) rfl rfl ?_
      refine sx_RP.step (pc2 := 80) (ls2 := [(0, .ref 0), (1, .int (nI 4))]) (st2 := [.ref 0]) (w3 := w) rfl rfl ?_
      refine sx_RP.gf (v := .ref 1) rfl rfl hI.1.o0 rfl rfl (show _ = 83 from rfl) ?_
      refine sx_RP.gc (k := 8) hI (Or.inl rfl) rfl rfl (by omega) (show _ = 86 from rfl) ?_
      refine sx_RP.ret (r := (some (.int (fi w 1 8)))) rfl rfl ?_
      exact ⟨⟨_, rfl⟩, hI, hE⟩
    · refine sx_RP.step (pc2 := 87) (ls2 := [(0, .ref 0), (1, .int (nI 5))]) (st2 := []) (w3 := w) rfl rfl ?_
      refine sx_RP.step (pc2 := 88) (ls2 := [(0, .ref 0), (1, .int (nI 5))]) (st2 := [.ref 0]) (w3 := w) rfl rfl ?_
      refine sx_RP.gf (v := .ref 1) rfl rfl hI.1.o0 rfl rfl (show _ = 91 from rfl) ?_
      refine sx_RP.gc (k := 9) hI (Or.inl rfl) rfl rfl (by omega) (show _ = 94 from rfl) ?_
      refine sx_RP.ret (r := (some (.int (fi w 1 9)))) rfl rfl ?_
      exact ⟨⟨_, rfl⟩, hI, hE⟩
    · refine sx_RP.step (pc2 := 95) (ls2 := [(0, .ref 0), (1, .int (nI 6))]) (st2 := []) (w3 := w) rfl rfl ?_
      refine sx_RP.step (pc2 := 96) (ls2 := [(0, .ref 0), (1, .int (nI 6))]) (st2 := [.ref 0]) (w3 := w) rfl rfl ?_
      refine sx_RP.gf (v := .ref 1) rfl rfl hI.1.o0 rfl rfl (show _ = 99 from rfl) ?_
      refine sx_RP.gc (k := 10) hI (Or.inl rfl) rfl rfl (by omega) (show _ = 102 from rfl) ?_
      refine sx_RP.ret (r := (some (.int (fi w 1 10)))) rfl rfl ?_
      exact ⟨⟨_, rfl⟩, hI, hE⟩
set_option maxRecDepth 20000 in
set_option maxHeartbeats 4000000 in
theorem Q49B {xs : Option (List Int32)} {d : Nat} {w w0 : List sx_C} {g n : Nat} (hg : g < 10) (hn : n ≤ 99) (hI : WI w) (hE : EQ w0 w) {j : Nat} (hj : j ≤ 99) (kk : ∀ (w4 : List sx_C), WI w4 → EQ w0 w4 → j + 1 ≤ 99 → sx_RP xs (d + 7) 49 59 [(0, .ref 0), (1, .int (nI g)), (2, .int (nI n)), (3, .int (nI (j + 1)))] [] w4 (fun r w2 => (∃ v : Int32, r = some (.int v)) ∧ WI w2 ∧ EQ w0 w2)) : sx_RP xs (d + 7) 49 59 [(0, .ref 0), (1, .int (nI g)), (2, .int (nI n)), (3, .int (nI j))] [] w (fun r w2 => (∃ v : Int32, r = some (.int v)) ∧ WI w2 ∧ EQ w0 w2) := by
  refine sx_RP.step (pc2 := 60) (ls2 := [(0, .ref 0), (1, .int (nI g)), (2, .int (nI n)), (3, .int (nI j))]) (st2 := [.int (nI j)]) (w3 := w) rfl rfl ?_
  refine sx_RP.step (pc2 := 61) (ls2 := [(0, .ref 0), (1, .int (nI g)), (2, .int (nI n)), (3, .int (nI j))]) (st2 := [.int (nI n), .int (nI j)]) (w3 := w) rfl rfl ?_
  refine sx_RP.br (p1 := 78) (l1 := [(0, .ref 0), (1, .int (nI g)), (2, .int (nI n)), (3, .int (nI j))]) (s1 := []) (v1 := w) (p2 := 64) (l2 := [(0, .ref 0), (1, .int (nI g)), (2, .int (nI n)), (3, .int (nI j))]) (s2 := []) (v2 := w) rfl rfl (fun q1 => ?_) (fun q1 => ?_)
  · replace q1 := of_decide_eq_true q1
    replace q1 := (nI_leI (a := n) (b := j) (by omega) (by omega)).mp q1
    refine sx_RP.step (pc2 := 79) (ls2 := [(0, .ref 0), (1, .int (nI g)), (2, .int (nI n)), (3, .int (nI j))]) (st2 := [.ref 0]) (w3 := w) rfl rfl ?_
    refine sx_RP.gf (v := .ref 29) rfl rfl hI.1.o0 rfl rfl (show _ = 82 from rfl) ?_
    refine sx_RP.gref (k := 2) (b := 31) hI (Or.inr (Or.inr rfl)) rfl rfl (by omega) (show _ = 85 from rfl) ?_
    refine sx_RP.step (pc2 := 86) (ls2 := [(0, .ref 0), (1, .int (nI g)), (2, .int (nI n)), (3, .int (nI j))]) (st2 := [.int (nI g), .ref 31]) (w3 := w) rfl rfl ?_
    refine sx_RP.ald (v := .ref (29 + 4 + g)) rfl (hI.1.aG (Or.inr (Or.inr rfl))) rfl (grA_at (show g < 10 by omega)) (show _ = 87 from rfl) ?_
    refine sx_RP.gg (k := 2) hI (gAd.of (Or.inr (Or.inr rfl)) (show g < 10 by omega)) rfl rfl (by decide) (show _ = 90 from rfl) ?_
    obtain ⟨x2, hx3, ex4⟩ : inR (fi w (29 + 4 + g) 2) 47 := hI.gk (k := 2) (gAd.of (Or.inr (Or.inr rfl)) (show g < 10 by omega)) (by decide)
    rw [ex4]
    refine sx_RP.ret (r := (some (.int (nI x2)))) rfl rfl ?_
    exact ⟨⟨_, rfl⟩, hI, hE⟩
  · replace q1 := of_decide_eq_false q1
    replace q1 := mt (nI_leI (a := n) (b := j) (by omega) (by omega)).mpr q1
    refine sx_RP.step (pc2 := 65) (ls2 := [(0, .ref 0), (1, .int (nI g)), (2, .int (nI n)), (3, .int (nI j))]) (st2 := [.ref 0]) (w3 := w) rfl rfl ?_
    refine sx_RP.gf (v := .ref 29) rfl rfl hI.1.o0 rfl rfl (show _ = 68 from rfl) ?_
    refine sx_RP.callp (as2 := [.ref 29]) (rest2 := []) rfl rfl (sx_inv_v2 (mi := 49) (k := 166) (st := [.ref 29]) (w := w) rfl rfl (hI.1.oC (Or.inr (Or.inr rfl))) rfl rfl rfl) rfl rfl rfl (Q41 hI (Or.inr (Or.inr rfl)) (by omega)) (show _ = 71 from rfl) ?_
    rintro r4 w6 ⟨⟨v5, rfl⟩, hI7, hE9⟩
    have hE8 := hE.tr (hE9)
    show sx_RP _ _ _ _ _ [.int v5] _ _
    refine sx_RP.step (pc2 := 72) (ls2 := [(0, .ref 0), (1, .int (nI g)), (2, .int (nI n)), (3, .int (nI j))]) (st2 := []) (w3 := w6) rfl rfl ?_
    refine sx_RP.step (pc2 := 75) (ls2 := [(3, .int ((nI j) + 1)), (0, .ref 0), (1, .int (nI g)), (2, .int (nI n))]) (st2 := []) (w3 := w6) rfl rfl ?_
    rw [nI_1 j]
    refine sx_RP.step (pc2 := 59) (ls2 := [(3, .int (nI (j + 1))), (0, .ref 0), (1, .int (nI g)), (2, .int (nI n))]) (st2 := []) (w3 := w6) rfl rfl ?_
    exact sx_RP.ls (sx_lr.cons rfl (sx_lr.cons rfl (sx_lr.cons rfl (sx_lr.cons rfl sx_lr.nil)))) (kk w6 hI7 hE8 (by omega))
set_option maxRecDepth 20000 in
set_option maxHeartbeats 4000000 in
theorem Q49L {xs : Option (List Int32)} {d : Nat} {w0 : List sx_C} {g n : Nat} (hg : g < 10) (hn : n ≤ 99) : ∀ (fz j : Nat) (w : List sx_C) , 99 ≤ j + fz * 1 → j ≤ 99 → WI w → EQ w0 w → sx_RP xs (d + 7) 49 59 [(0, .ref 0), (1, .int (nI g)), (2, .int (nI n)), (3, .int (nI j))] [] w (fun r w2 => (∃ v : Int32, r = some (.int v)) ∧ WI w2 ∧ EQ w0 w2)
  | 0, j, w, h, hj, hI, hE => Q49B hg hn hI hE hj   (fun w4  hI4 hE4 hlt  => absurd hlt (by omega)) 
  | fz + 1, j, w, h, hj, hI, hE => Q49B hg hn hI hE hj   (fun w4  hI4 hE4 hlt  => Q49L hg hn  fz (j + 1) w4  (by omega) hlt hI4 hE4 ) 
set_option maxRecDepth 20000 in
set_option maxHeartbeats 4000000 in
theorem Q49 {xs : Option (List Int32)} {d : Nat} {w : List sx_C} (hI : WI w) (a1 a2 : Int32) : sx_RP xs (d + 7) 49 0 (lv_args 0 [.ref 0, .int a1, .int a2]) [] w (fun r w2 => (∃ v : Int32, r = some (.int v)) ∧ WI w2 ∧ EQ w w2) := by
  have hE : EQ w w := EQ.rf
  refine sx_RP.step (pc2 := 1) (ls2 := [(0, .ref 0), (1, .int a1), (2, .int a2)]) (st2 := [.ref 0]) (w3 := w) rfl rfl ?_
  refine sx_RP.gf (v := .ref 1) rfl rfl hI.1.o0 rfl rfl (show _ = 4 from rfl) ?_
  refine sx_RP.step (pc2 := 5) (ls2 := [(0, .ref 0), (1, .int a1), (2, .int a2)]) (st2 := [.int a1, .ref 1]) (w3 := w) rfl rfl ?_
  rcases p27 (xs := xs) hI (Or.inl rfl) a1 with c2 | ⟨⟨x3, hx4, rfl⟩, c2⟩
  · refine sx_RP.cu (as := [.ref 1, .int a1]) (rest2 := []) (st3 := [.int 0]) rfl rfl (sx_inv_v2 (mi := 49) (k := 120) (st := [.int a1, .ref 1]) (w := w) rfl rfl (hI.1.oC (Or.inl rfl)) rfl rfl rfl) rfl rfl (c2) rfl ?_
    refine sx_RP.step (pc2 := 21) (ls2 := [(0, .ref 0), (1, .int a1), (2, .int a2)]) (st2 := []) (w3 := w) rfl rfl ?_
    refine sx_RP.step (pc2 := 22) (ls2 := [(0, .ref 0), (1, .int a1), (2, .int a2)]) (st2 := [.ref 0]) (w3 := w) rfl rfl ?_
    refine sx_RP.step (pc2 := 24) (ls2 := [(0, .ref 0), (1, .int a1), (2, .int a2)]) (st2 := [.int (-1000000001), .ref 0]) (w3 := w) rfl rfl ?_
    refine sx_RP.callp (as2 := [.ref 0, .int (-1000000001)]) (rest2 := []) rfl rfl (sx_inv_v2 (mi := 49) (k := 78) (st := [.int (-1000000001), .ref 0]) (w := w) rfl rfl hI.1.o0 rfl rfl rfl) rfl rfl rfl (Q9_0 hI) (show _ = 27 from rfl) ?_
    rintro r4 w6 ⟨rfl, hI7, hE9⟩
    have hE8 := hE.tr (hE9)
    show sx_RP _ _ _ _ _ [.int (-1000000001)] _ _
    refine sx_RP.ret (r := (some (.int (-1000000001)))) rfl rfl ?_
    exact ⟨⟨_, rfl⟩, hI7, hE8⟩
  · refine sx_RP.cu (as := [.ref 1, .int (nI x3)]) (rest2 := []) (st3 := [.int 1]) rfl rfl (sx_inv_v2 (mi := 49) (k := 120) (st := [.int (nI x3), .ref 1]) (w := w) rfl rfl (hI.1.oC (Or.inl rfl)) rfl rfl rfl) rfl rfl (c2) rfl ?_
    refine sx_RP.step (pc2 := 11) (ls2 := [(0, .ref 0), (1, .int (nI x3)), (2, .int a2)]) (st2 := []) (w3 := w) rfl rfl ?_
    refine sx_RP.step (pc2 := 12) (ls2 := [(0, .ref 0), (1, .int (nI x3)), (2, .int a2)]) (st2 := [.int a2]) (w3 := w) rfl rfl ?_
    refine sx_RP.step (pc2 := 13) (ls2 := [(0, .ref 0), (1, .int (nI x3)), (2, .int a2)]) (st2 := [.int 0, .int a2]) (w3 := w) rfl rfl ?_
    refine sx_RP.step (pc2 := 15) (ls2 := [(0, .ref 0), (1, .int (nI x3)), (2, .int a2)]) (st2 := [.int 99, .int 0, .int a2]) (w3 := w) rfl rfl ?_
    rcases in_cases a2 0 99 (m := 0) (n := 99) rfl rfl (by decide) (by decide) with q10 | ⟨x11, hx12, hx13, rfl⟩
    · refine sx_RP.cu (as := [.int a2, .int 0, .int 99]) (rest2 := []) (st3 := [.int 0]) rfl rfl rfl rfl rfl (cx_8n q10) rfl ?_
      refine sx_RP.step (pc2 := 21) (ls2 := [(0, .ref 0), (1, .int (nI x3)), (2, .int a2)]) (st2 := []) (w3 := w) rfl rfl ?_
      refine sx_RP.step (pc2 := 22) (ls2 := [(0, .ref 0), (1, .int (nI x3)), (2, .int a2)]) (st2 := [.ref 0]) (w3 := w) rfl rfl ?_
      refine sx_RP.step (pc2 := 24) (ls2 := [(0, .ref 0), (1, .int (nI x3)), (2, .int a2)]) (st2 := [.int (-1000000001), .ref 0]) (w3 := w) rfl rfl ?_
      refine sx_RP.callp (as2 := [.ref 0, .int (-1000000001)]) (rest2 := []) rfl rfl (sx_inv_v2 (mi := 49) (k := 78) (st := [.int (-1000000001), .ref 0]) (w := w) rfl rfl hI.1.o0 rfl rfl rfl) rfl rfl rfl (Q9_0 hI) (show _ = 27 from rfl) ?_
      rintro r4 w15 ⟨rfl, hI16, hE18⟩
      have hE17 := hE.tr (hE18)
      show sx_RP _ _ _ _ _ [.int (-1000000001)] _ _
      refine sx_RP.ret (r := (some (.int (-1000000001)))) rfl rfl ?_
      exact ⟨⟨_, rfl⟩, hI16, hE17⟩
    · refine sx_RP.cu (as := [.int (nI x11), .int 0, .int 99]) (rest2 := []) (st3 := [.int 1]) rfl rfl rfl rfl rfl (cx_8p ⟨nI_le (a := 0) hx12 (by omega), nI_le (b := 99) hx13 (by decide)⟩) rfl ?_
      refine sx_RP.step (pc2 := 28) (ls2 := [(0, .ref 0), (1, .int (nI x3)), (2, .int (nI x11))]) (st2 := []) (w3 := w) rfl rfl ?_
      refine sx_RP.step (pc2 := 29) (ls2 := [(0, .ref 0), (1, .int (nI x3)), (2, .int (nI x11))]) (st2 := [.ref 0]) (w3 := w) rfl rfl ?_
      refine sx_RP.gf (v := .ref 1) rfl rfl hI.1.o0 rfl rfl (show _ = 32 from rfl) ?_
      refine sx_RP.step (pc2 := 33) (ls2 := [(0, .ref 0), (1, .int (nI x3)), (2, .int (nI x11))]) (st2 := [.int (nI x11), .ref 1]) (w3 := w) rfl rfl ?_
      obtain ⟨x19, hx20, c21⟩ := p40 hI (Or.inl rfl) (nI x11)
      refine sx_RP.cu (as := [.ref 1, .int (nI x11)]) (rest2 := []) (st3 := [.int (nI x19)]) rfl rfl (sx_inv_v2 (mi := 49) (k := 163) (st := [.int (nI x11), .ref 1]) (w := w) rfl rfl (hI.1.oC (Or.inl rfl)) rfl rfl rfl) rfl rfl (c21) rfl ?_
      refine sx_RP.br (p1 := 46) (l1 := [(0, .ref 0), (1, .int (nI x3)), (2, .int (nI x11))]) (s1 := []) (v1 := w) (p2 := 39) (l2 := [(0, .ref 0), (1, .int (nI x3)), (2, .int (nI x11))]) (s2 := []) (v2 := w) rfl rfl (fun q22 => ?_) (fun q22 => ?_)
      · replace q22 := of_decide_eq_true q22
        replace q22 := mt (nI_eq (a := x19) (b := 0) (by omega) (by omega)).mpr q22
        refine sx_RP.step (pc2 := 47) (ls2 := [(0, .ref 0), (1, .int (nI x3)), (2, .int (nI x11))]) (st2 := [.ref 0]) (w3 := w) rfl rfl ?_
        refine sx_RP.gf (v := .ref 29) rfl rfl hI.1.o0 rfl rfl (show _ = 50 from rfl) ?_
        refine sx_RP.step (pc2 := 51) (ls2 := [(0, .ref 0), (1, .int (nI x3)), (2, .int (nI x11))]) (st2 := [.ref 0, .ref 29]) (w3 := w) rfl rfl ?_
        refine sx_RP.gf (v := .ref 1) rfl rfl hI.1.o0 rfl rfl (show _ = 54 from rfl) ?_
        refine sx_RP.callp (as2 := [.ref 29, .ref 1]) (rest2 := []) rfl rfl (sx_inv_v2 (mi := 49) (k := 179) (st := [.ref 1, .ref 29]) (w := w) rfl rfl (hI.1.oC (Or.inr (Or.inr rfl))) rfl rfl rfl) rfl rfl rfl (Q50 hI (Or.inr (Or.inr rfl)) (Or.inl rfl) (by omega)) (show _ = 57 from rfl) ?_
        rintro r4 w23 ⟨rfl, hI24, hE26⟩
        have hE25 := hE.tr (hE26)
        show sx_RP _ _ _ _ _ [] _ _
        refine sx_RP.step (pc2 := 58) (ls2 := [(0, .ref 0), (1, .int (nI x3)), (2, .int (nI x11))]) (st2 := [.int 0]) (w3 := w23) rfl rfl ?_
        refine sx_RP.step (pc2 := 59) (ls2 := [(3, .int 0), (0, .ref 0), (1, .int (nI x3)), (2, .int (nI x11))]) (st2 := []) (w3 := w23) rfl rfl ?_
        exact sx_RP.ls (sx_lr.cons rfl (sx_lr.cons rfl (sx_lr.cons rfl (sx_lr.cons rfl sx_lr.nil)))) (Q49L (show x3 < 10 by omega) (show x11 ≤ 99 by omega) 99 0 w23  (by omega) (by omega) hI24 hE25 )
      · replace q22 := Decidable.not_not.mp (of_decide_eq_false q22)
        replace q22 := (nI_eq (a := x19) (b := 0) (by omega) (by omega)).mp q22
        refine sx_RP.step (pc2 := 40) (ls2 := [(0, .ref 0), (1, .int (nI x3)), (2, .int (nI x11))]) (st2 := [.ref 0]) (w3 := w) rfl rfl ?_
        refine sx_RP.step (pc2 := 42) (ls2 := [(0, .ref 0), (1, .int (nI x3)), (2, .int (nI x11))]) (st2 := [.int (-1000000005), .ref 0]) (w3 := w) rfl rfl ?_
        refine sx_RP.callp (as2 := [.ref 0, .int (-1000000005)]) (rest2 := []) rfl rfl (sx_inv_v2 (mi := 49) (k := 78) (st := [.int (-1000000005), .ref 0]) (w := w) rfl rfl hI.1.o0 rfl rfl rfl) rfl rfl rfl (Q9_4 hI) (show _ = 45 from rfl) ?_
        rintro r4 w27 ⟨rfl, hI28, hE30⟩
        have hE29 := hE.tr (hE30)
        show sx_RP _ _ _ _ _ [.int (-1000000005)] _ _
        refine sx_RP.ret (r := (some (.int (-1000000005)))) rfl rfl ?_
        exact ⟨⟨_, rfl⟩, hI28, hE29⟩
set_option maxRecDepth 20000 in
set_option maxHeartbeats 4000000 in
theorem Q52B {xs : Option (List Int32)} {d : Nat} {w w0 : List sx_C} {g : Nat} (hg : g < 10) (hI : WI w) (hE : EQ w0 w) {j : Nat} (hj : j ≤ 100) (kk : ∀ (w4 : List sx_C), WI w4 → EQ w0 w4 → j + 1 ≤ 100 → sx_RP xs (d + 7) 52 65 [(0, .ref 0), (1, .int (nI g)), (2, .int (nI (j + 1)))] [] w4 (fun r w2 => (∃ v : Int32, r = some (.int v)) ∧ WI w2 ∧ EQ w0 w2)) : sx_RP xs (d + 7) 52 65 [(0, .ref 0), (1, .int (nI g)), (2, .int (nI j))] [] w (fun r w2 => (∃ v : Int32, r = some (.int v)) ∧ WI w2 ∧ EQ w0 w2) := by
  refine sx_RP.step (pc2 := 66) (ls2 := [(0, .ref 0), (1, .int (nI g)), (2, .int (nI j))]) (st2 := [.int (nI j)]) (w3 := w) rfl rfl ?_
  refine sx_RP.step (pc2 := 68) (ls2 := [(0, .ref 0), (1, .int (nI g)), (2, .int (nI j))]) (st2 := [.int 99, .int (nI j)]) (w3 := w) rfl rfl ?_
  refine sx_RP.br (p1 := 102) (l1 := [(0, .ref 0), (1, .int (nI g)), (2, .int (nI j))]) (s1 := []) (v1 := w) (p2 := 71) (l2 := [(0, .ref 0), (1, .int (nI g)), (2, .int (nI j))]) (s2 := []) (v2 := w) rfl rfl (fun q1 => ?_) (fun q1 => ?_)
  · replace q1 := of_decide_eq_true q1
    replace q1 := (nI_ltI (a := 99) (b := j) (by omega) (by omega)).mp q1
    refine sx_RP.step (pc2 := 103) (ls2 := [(0, .ref 0), (1, .int (nI g)), (2, .int (nI j))]) (st2 := [.ref 0]) (w3 := w) rfl rfl ?_
    refine sx_RP.step (pc2 := 105) (ls2 := [(0, .ref 0), (1, .int (nI g)), (2, .int (nI j))]) (st2 := [.int (-1000000004), .ref 0]) (w3 := w) rfl rfl ?_
    refine sx_RP.callp (as2 := [.ref 0, .int (-1000000004)]) (rest2 := []) rfl rfl (sx_inv_v2 (mi := 52) (k := 78) (st := [.int (-1000000004), .ref 0]) (w := w) rfl rfl hI.1.o0 rfl rfl rfl) rfl rfl rfl (Q9_3 hI) (show _ = 108 from rfl) ?_
    rintro r4 w2 ⟨rfl, hI3, hE5⟩
    have hE4 := hE.tr (hE5)
    show sx_RP _ _ _ _ _ [.int (-1000000004)] _ _
    refine sx_RP.ret (r := (some (.int (-1000000004)))) rfl rfl ?_
    exact ⟨⟨_, rfl⟩, hI3, hE4⟩
  · replace q1 := of_decide_eq_false q1
    replace q1 := mt (nI_ltI (a := 99) (b := j) (by omega) (by omega)).mpr q1
    refine sx_RP.step (pc2 := 72) (ls2 := [(0, .ref 0), (1, .int (nI g)), (2, .int (nI j))]) (st2 := [.ref 0]) (w3 := w) rfl rfl ?_
    refine sx_RP.gf (v := .ref 29) rfl rfl hI.1.o0 rfl rfl (show _ = 75 from rfl) ?_
    refine sx_RP.callp (as2 := [.ref 29]) (rest2 := []) rfl rfl (sx_inv_v2 (mi := 52) (k := 166) (st := [.ref 29]) (w := w) rfl rfl (hI.1.oC (Or.inr (Or.inr rfl))) rfl rfl rfl) rfl rfl rfl (Q41 hI (Or.inr (Or.inr rfl)) (by omega)) (show _ = 78 from rfl) ?_
    rintro r4 w7 ⟨⟨v6, rfl⟩, hI8, hE10⟩
    have hE9 := hE.tr (hE10)
    show sx_RP _ _ _ _ _ [.int v6] _ _
    refine sx_RP.step (pc2 := 79) (ls2 := [(0, .ref 0), (1, .int (nI g)), (2, .int (nI j))]) (st2 := []) (w3 := w7) rfl rfl ?_
    refine sx_RP.step (pc2 := 80) (ls2 := [(0, .ref 0), (1, .int (nI g)), (2, .int (nI j))]) (st2 := [.ref 0]) (w3 := w7) rfl rfl ?_
    refine sx_RP.gf (v := .ref 29) rfl rfl hI8.1.o0 rfl rfl (show _ = 83 from rfl) ?_
    refine sx_RP.gref (k := 2) (b := 31) hI8 (Or.inr (Or.inr rfl)) rfl rfl (by omega) (show _ = 86 from rfl) ?_
    refine sx_RP.step (pc2 := 87) (ls2 := [(0, .ref 0), (1, .int (nI g)), (2, .int (nI j))]) (st2 := [.int (nI g), .ref 31]) (w3 := w7) rfl rfl ?_
    refine sx_RP.ald (v := .ref (29 + 4 + g)) rfl (hI8.1.aG (Or.inr (Or.inr rfl))) rfl (grA_at (show g < 10 by omega)) (show _ = 88 from rfl) ?_
    refine sx_RP.gg (k := 5) hI8 (gAd.of (Or.inr (Or.inr rfl)) (show g < 10 by omega)) rfl rfl (by decide) (show _ = 91 from rfl) ?_
    obtain ⟨x11, hx12, ex13⟩ : inR (fi w7 (29 + 4 + g) 5) 1 := hI8.gk (k := 5) (gAd.of (Or.inr (Or.inr rfl)) (show g < 10 by omega)) (by decide)
    rw [ex13]
    refine sx_RP.br (p1 := 96) (l1 := [(0, .ref 0), (1, .int (nI g)), (2, .int (nI j))]) (s1 := []) (v1 := w7) (p2 := 94) (l2 := [(0, .ref 0), (1, .int (nI g)), (2, .int (nI j))]) (s2 := []) (v2 := w7) rfl rfl (fun q14 => ?_) (fun q14 => ?_)
    · replace q14 := of_decide_eq_true q14
      replace q14 := (nI_eq (a := x11) (b := 0) (by omega) (by omega)).mp q14
      refine sx_RP.step (pc2 := 99) (ls2 := [(2, .int ((nI j) + 1)), (0, .ref 0), (1, .int (nI g))]) (st2 := []) (w3 := w7) rfl rfl ?_
      rw [nI_1 j]
      refine sx_RP.step (pc2 := 65) (ls2 := [(2, .int (nI (j + 1))), (0, .ref 0), (1, .int (nI g))]) (st2 := []) (w3 := w7) rfl rfl ?_
      exact sx_RP.ls (sx_lr.cons rfl (sx_lr.cons rfl (sx_lr.cons rfl sx_lr.nil))) (kk w7 hI8 hE9 (by omega))
    · replace q14 := of_decide_eq_false q14
      replace q14 := mt (nI_eq (a := x11) (b := 0) (by omega) (by omega)).mpr q14
      refine sx_RP.step (pc2 := 95) (ls2 := [(0, .ref 0), (1, .int (nI g)), (2, .int (nI j))]) (st2 := [.int (nI j)]) (w3 := w7) rfl rfl ?_
      refine sx_RP.ret (r := (some (.int (nI j)))) rfl rfl ?_
      exact ⟨⟨_, rfl⟩, hI8, hE9⟩
set_option maxRecDepth 20000 in
set_option maxHeartbeats 4000000 in
theorem Q52L {xs : Option (List Int32)} {d : Nat} {w0 : List sx_C} {g : Nat} (hg : g < 10) : ∀ (fz j : Nat) (w : List sx_C) , 100 ≤ j + fz * 1 → j ≤ 100 → WI w → EQ w0 w → sx_RP xs (d + 7) 52 65 [(0, .ref 0), (1, .int (nI g)), (2, .int (nI j))] [] w (fun r w2 => (∃ v : Int32, r = some (.int v)) ∧ WI w2 ∧ EQ w0 w2)
  | 0, j, w, h, hj, hI, hE => Q52B hg hI hE hj   (fun w4  hI4 hE4 hlt  => absurd hlt (by omega)) 
  | fz + 1, j, w, h, hj, hI, hE => Q52B hg hI hE hj   (fun w4  hI4 hE4 hlt  => Q52L hg  fz (j + 1) w4  (by omega) hlt hI4 hE4 ) 
set_option maxRecDepth 20000 in
set_option maxHeartbeats 4000000 in
theorem Q52 {xs : Option (List Int32)} {d : Nat} {w : List sx_C} (hI : WI w) (a1 : Int32) : sx_RP xs (d + 7) 52 0 (lv_args 0 [.ref 0, .int a1]) [] w (fun r w2 => (∃ v : Int32, r = some (.int v)) ∧ WI w2 ∧ EQ w w2) := by
  have hE : EQ w w := EQ.rf
  refine sx_RP.step (pc2 := 1) (ls2 := [(0, .ref 0), (1, .int a1)]) (st2 := [.ref 0]) (w3 := w) rfl rfl ?_
  refine sx_RP.gf (v := .ref 1) rfl rfl hI.1.o0 rfl rfl (show _ = 4 from rfl) ?_
  refine sx_RP.step (pc2 := 5) (ls2 := [(0, .ref 0), (1, .int a1)]) (st2 := [.int a1, .ref 1]) (w3 := w) rfl rfl ?_
  rcases p27 (xs := xs) hI (Or.inl rfl) a1 with c2 | ⟨⟨x3, hx4, rfl⟩, c2⟩
  · refine sx_RP.cu (as := [.ref 1, .int a1]) (rest2 := []) (st3 := [.int 0]) rfl rfl (sx_inv_v2 (mi := 52) (k := 120) (st := [.int a1, .ref 1]) (w := w) rfl rfl (hI.1.oC (Or.inl rfl)) rfl rfl rfl) rfl rfl (c2) rfl ?_
    refine sx_RP.step (pc2 := 11) (ls2 := [(0, .ref 0), (1, .int a1)]) (st2 := []) (w3 := w) rfl rfl ?_
    refine sx_RP.step (pc2 := 12) (ls2 := [(0, .ref 0), (1, .int a1)]) (st2 := [.ref 0]) (w3 := w) rfl rfl ?_
    refine sx_RP.step (pc2 := 14) (ls2 := [(0, .ref 0), (1, .int a1)]) (st2 := [.int (-1000000001), .ref 0]) (w3 := w) rfl rfl ?_
    refine sx_RP.callp (as2 := [.ref 0, .int (-1000000001)]) (rest2 := []) rfl rfl (sx_inv_v2 (mi := 52) (k := 78) (st := [.int (-1000000001), .ref 0]) (w := w) rfl rfl hI.1.o0 rfl rfl rfl) rfl rfl rfl (Q9_0 hI) (show _ = 17 from rfl) ?_
    rintro r4 w6 ⟨rfl, hI7, hE9⟩
    have hE8 := hE.tr (hE9)
    show sx_RP _ _ _ _ _ [.int (-1000000001)] _ _
    refine sx_RP.ret (r := (some (.int (-1000000001)))) rfl rfl ?_
    exact ⟨⟨_, rfl⟩, hI7, hE8⟩
  · refine sx_RP.cu (as := [.ref 1, .int (nI x3)]) (rest2 := []) (st3 := [.int 1]) rfl rfl (sx_inv_v2 (mi := 52) (k := 120) (st := [.int (nI x3), .ref 1]) (w := w) rfl rfl (hI.1.oC (Or.inl rfl)) rfl rfl rfl) rfl rfl (c2) rfl ?_
    refine sx_RP.step (pc2 := 18) (ls2 := [(0, .ref 0), (1, .int (nI x3))]) (st2 := []) (w3 := w) rfl rfl ?_
    refine sx_RP.step (pc2 := 19) (ls2 := [(0, .ref 0), (1, .int (nI x3))]) (st2 := [.ref 0]) (w3 := w) rfl rfl ?_
    refine sx_RP.gf (v := .ref 1) rfl rfl hI.1.o0 rfl rfl (show _ = 22 from rfl) ?_
    refine sx_RP.gref (k := 2) (b := 3) hI (Or.inl rfl) rfl rfl (by omega) (show _ = 25 from rfl) ?_
    refine sx_RP.step (pc2 := 26) (ls2 := [(0, .ref 0), (1, .int (nI x3))]) (st2 := [.int (nI x3), .ref 3]) (w3 := w) rfl rfl ?_
    refine sx_RP.ald (v := .ref (1 + 4 + x3)) rfl (hI.1.aG (Or.inl rfl)) rfl (grA_at (show x3 < 10 by omega)) (show _ = 27 from rfl) ?_
    refine sx_RP.gg (k := 5) hI (gAd.of (Or.inl rfl) (show x3 < 10 by omega)) rfl rfl (by decide) (show _ = 30 from rfl) ?_
    obtain ⟨x10, hx11, ex12⟩ : inR (fi w (1 + 4 + x3) 5) 1 := hI.gk (k := 5) (gAd.of (Or.inl rfl) (show x3 < 10 by omega)) (by decide)
    rw [ex12]
    refine sx_RP.br (p1 := 45) (l1 := [(0, .ref 0), (1, .int (nI x3))]) (s1 := []) (v1 := w) (p2 := 33) (l2 := [(0, .ref 0), (1, .int (nI x3))]) (s2 := []) (v2 := w) rfl rfl (fun q13 => ?_) (fun q13 => ?_)
    · replace q13 := of_decide_eq_true q13
      replace q13 := mt (nI_eq (a := x10) (b := 0) (by omega) (by omega)).mpr q13
      refine sx_RP.step (pc2 := 46) (ls2 := [(0, .ref 0), (1, .int (nI x3))]) (st2 := [.ref 0]) (w3 := w) rfl rfl ?_
      refine sx_RP.step (pc2 := 48) (ls2 := [(0, .ref 0), (1, .int (nI x3))]) (st2 := [.int (-1000000005), .ref 0]) (w3 := w) rfl rfl ?_
      refine sx_RP.callp (as2 := [.ref 0, .int (-1000000005)]) (rest2 := []) rfl rfl (sx_inv_v2 (mi := 52) (k := 78) (st := [.int (-1000000005), .ref 0]) (w := w) rfl rfl hI.1.o0 rfl rfl rfl) rfl rfl rfl (Q9_4 hI) (show _ = 51 from rfl) ?_
      rintro r4 w14 ⟨rfl, hI15, hE17⟩
      have hE16 := hE.tr (hE17)
      show sx_RP _ _ _ _ _ [.int (-1000000005)] _ _
      refine sx_RP.ret (r := (some (.int (-1000000005)))) rfl rfl ?_
      exact ⟨⟨_, rfl⟩, hI15, hE16⟩
    · replace q13 := Decidable.not_not.mp (of_decide_eq_false q13)
      replace q13 := (nI_eq (a := x10) (b := 0) (by omega) (by omega)).mp q13
      refine sx_RP.step (pc2 := 34) (ls2 := [(0, .ref 0), (1, .int (nI x3))]) (st2 := [.ref 0]) (w3 := w) rfl rfl ?_
      refine sx_RP.gf (v := .ref 1) rfl rfl hI.1.o0 rfl rfl (show _ = 37 from rfl) ?_
      refine sx_RP.step (pc2 := 39) (ls2 := [(0, .ref 0), (1, .int (nI x3))]) (st2 := [.int 99, .ref 1]) (w3 := w) rfl rfl ?_
      obtain ⟨x18, hx19, c20⟩ := p40 hI (Or.inl rfl) 99
      refine sx_RP.cu (as := [.ref 1, .int 99]) (rest2 := []) (st3 := [.int (nI x18)]) rfl rfl (sx_inv_v2 (mi := 52) (k := 163) (st := [.int 99, .ref 1]) (w := w) rfl rfl (hI.1.oC (Or.inl rfl)) rfl rfl rfl) rfl rfl (c20) rfl ?_
      refine sx_RP.br (p1 := 52) (l1 := [(0, .ref 0), (1, .int (nI x3))]) (s1 := []) (v1 := w) (p2 := 45) (l2 := [(0, .ref 0), (1, .int (nI x3))]) (s2 := []) (v2 := w) rfl rfl (fun q21 => ?_) (fun q21 => ?_)
      · replace q21 := of_decide_eq_true q21
        replace q21 := mt (nI_eq (a := x18) (b := 0) (by omega) (by omega)).mpr q21
        refine sx_RP.step (pc2 := 53) (ls2 := [(0, .ref 0), (1, .int (nI x3))]) (st2 := [.ref 0]) (w3 := w) rfl rfl ?_
        refine sx_RP.gf (v := .ref 29) rfl rfl hI.1.o0 rfl rfl (show _ = 56 from rfl) ?_
        refine sx_RP.step (pc2 := 57) (ls2 := [(0, .ref 0), (1, .int (nI x3))]) (st2 := [.ref 0, .ref 29]) (w3 := w) rfl rfl ?_
        refine sx_RP.gf (v := .ref 1) rfl rfl hI.1.o0 rfl rfl (show _ = 60 from rfl) ?_
        refine sx_RP.callp (as2 := [.ref 29, .ref 1]) (rest2 := []) rfl rfl (sx_inv_v2 (mi := 52) (k := 179) (st := [.ref 1, .ref 29]) (w := w) rfl rfl (hI.1.oC (Or.inr (Or.inr rfl))) rfl rfl rfl) rfl rfl rfl (Q50 hI (Or.inr (Or.inr rfl)) (Or.inl rfl) (by omega)) (show _ = 63 from rfl) ?_
        rintro r4 w22 ⟨rfl, hI23, hE25⟩
        have hE24 := hE.tr (hE25)
        show sx_RP _ _ _ _ _ [] _ _
        refine sx_RP.step (pc2 := 64) (ls2 := [(0, .ref 0), (1, .int (nI x3))]) (st2 := [.int 1]) (w3 := w22) rfl rfl ?_
        refine sx_RP.step (pc2 := 65) (ls2 := [(2, .int 1), (0, .ref 0), (1, .int (nI x3))]) (st2 := []) (w3 := w22) rfl rfl ?_
        exact sx_RP.ls (sx_lr.cons rfl (sx_lr.cons rfl (sx_lr.cons rfl sx_lr.nil))) (Q52L (show x3 < 10 by omega) 100 1 w22  (by omega) (by omega) hI23 hE24 )
      · replace q21 := Decidable.not_not.mp (of_decide_eq_false q21)
        replace q21 := (nI_eq (a := x18) (b := 0) (by omega) (by omega)).mp q21
        refine sx_RP.step (pc2 := 46) (ls2 := [(0, .ref 0), (1, .int (nI x3))]) (st2 := [.ref 0]) (w3 := w) rfl rfl ?_
        refine sx_RP.step (pc2 := 48) (ls2 := [(0, .ref 0), (1, .int (nI x3))]) (st2 := [.int (-1000000005), .ref 0]) (w3 := w) rfl rfl ?_
        refine sx_RP.callp (as2 := [.ref 0, .int (-1000000005)]) (rest2 := []) rfl rfl (sx_inv_v2 (mi := 52) (k := 78) (st := [.int (-1000000005), .ref 0]) (w := w) rfl rfl hI.1.o0 rfl rfl rfl) rfl rfl rfl (Q9_4 hI) (show _ = 51 from rfl) ?_
        rintro r4 w26 ⟨rfl, hI27, hE29⟩
        have hE28 := hE.tr (hE29)
        show sx_RP _ _ _ _ _ [.int (-1000000005)] _ _
        refine sx_RP.ret (r := (some (.int (-1000000005)))) rfl rfl ?_
        exact ⟨⟨_, rfl⟩, hI27, hE28⟩
set_option maxRecDepth 20000 in
set_option maxHeartbeats 4000000 in
theorem Q53B {xs : Option (List Int32)} {d : Nat} {w w0 : List sx_C} (hI : WI w) (hE : EQ w0 w) {j : Nat} (hj : j ≤ 100) (l : Int32) (kk : ∀ (w4 : List sx_C) (ul : Int32), WI w4 → EQ w0 w4 → j + 1 ≤ 100 → sx_RP xs (d + 7) 53 40 [(0, .ref 0), (1, .int ul), (2, .int (nI (j + 1)))] [] w4 (fun r w2 => (∃ v : Int32, r = some (.int v)) ∧ WI w2 ∧ EQ w0 w2)) : sx_RP xs (d + 7) 53 40 [(0, .ref 0), (1, .int l), (2, .int (nI j))] [] w (fun r w2 => (∃ v : Int32, r = some (.int v)) ∧ WI w2 ∧ EQ w0 w2) := by
  refine sx_RP.step (pc2 := 41) (ls2 := [(0, .ref 0), (1, .int l), (2, .int (nI j))]) (st2 := [.int (nI j)]) (w3 := w) rfl rfl ?_
  refine sx_RP.step (pc2 := 43) (ls2 := [(0, .ref 0), (1, .int l), (2, .int (nI j))]) (st2 := [.int 99, .int (nI j)]) (w3 := w) rfl rfl ?_
  refine sx_RP.br (p1 := 73) (l1 := [(0, .ref 0), (1, .int l), (2, .int (nI j))]) (s1 := []) (v1 := w) (p2 := 46) (l2 := [(0, .ref 0), (1, .int l), (2, .int (nI j))]) (s2 := []) (v2 := w) rfl rfl (fun q1 => ?_) (fun q1 => ?_)
  · replace q1 := of_decide_eq_true q1
    replace q1 := (nI_ltI (a := 99) (b := j) (by omega) (by omega)).mp q1
    refine sx_RP.step (pc2 := 74) (ls2 := [(0, .ref 0), (1, .int l), (2, .int (nI j))]) (st2 := [.int l]) (w3 := w) rfl rfl ?_
    refine sx_RP.step (pc2 := 75) (ls2 := [(0, .ref 0), (1, .int l), (2, .int (nI j))]) (st2 := [.int (-1), .int l]) (w3 := w) rfl rfl ?_
    refine sx_RP.br (p1 := 87) (l1 := [(0, .ref 0), (1, .int l), (2, .int (nI j))]) (s1 := []) (v1 := w) (p2 := 78) (l2 := [(0, .ref 0), (1, .int l), (2, .int (nI j))]) (s2 := []) (v2 := w) rfl rfl (fun q2 => ?_) (fun q2 => ?_)
    · replace q2 := of_decide_eq_true q2
      refine sx_RP.step (pc2 := 88) (ls2 := [(0, .ref 0), (1, .int l), (2, .int (nI j))]) (st2 := [.int l]) (w3 := w) rfl rfl ?_
      refine sx_RP.ret (r := (some (.int l))) rfl rfl ?_
      exact ⟨⟨_, rfl⟩, hI, hE⟩
    · replace q2 := Decidable.not_not.mp (of_decide_eq_false q2)
      refine sx_RP.step (pc2 := 79) (ls2 := [(0, .ref 0), (1, .int l), (2, .int (nI j))]) (st2 := [.ref 0]) (w3 := w) rfl rfl ?_
      refine sx_RP.step (pc2 := 81) (ls2 := [(0, .ref 0), (1, .int l), (2, .int (nI j))]) (st2 := [.int (-1000000004), .ref 0]) (w3 := w) rfl rfl ?_
      refine sx_RP.callp (as2 := [.ref 0, .int (-1000000004)]) (rest2 := []) rfl rfl (sx_inv_v2 (mi := 53) (k := 78) (st := [.int (-1000000004), .ref 0]) (w := w) rfl rfl hI.1.o0 rfl rfl rfl) rfl rfl rfl (Q9_3 hI) (show _ = 84 from rfl) ?_
      rintro r4 w3 ⟨rfl, hI4, hE6⟩
      have hE5 := hE.tr (hE6)
      show sx_RP _ _ _ _ _ [.int (-1000000004)] _ _
      refine sx_RP.step (pc2 := 88) (ls2 := [(0, .ref 0), (1, .int l), (2, .int (nI j))]) (st2 := [.int (-1000000004)]) (w3 := w3) rfl rfl ?_
      refine sx_RP.ret (r := (some (.int (-1000000004)))) rfl rfl ?_
      exact ⟨⟨_, rfl⟩, hI4, hE5⟩
  · replace q1 := of_decide_eq_false q1
    replace q1 := mt (nI_ltI (a := 99) (b := j) (by omega) (by omega)).mpr q1
    refine sx_RP.step (pc2 := 47) (ls2 := [(0, .ref 0), (1, .int l), (2, .int (nI j))]) (st2 := [.int l]) (w3 := w) rfl rfl ?_
    refine sx_RP.step (pc2 := 48) (ls2 := [(0, .ref 0), (1, .int l), (2, .int (nI j))]) (st2 := [.int (-1), .int l]) (w3 := w) rfl rfl ?_
    refine sx_RP.br (p1 := 73) (l1 := [(0, .ref 0), (1, .int l), (2, .int (nI j))]) (s1 := []) (v1 := w) (p2 := 51) (l2 := [(0, .ref 0), (1, .int l), (2, .int (nI j))]) (s2 := []) (v2 := w) rfl rfl (fun q7 => ?_) (fun q7 => ?_)
    · replace q7 := of_decide_eq_true q7
      refine sx_RP.step (pc2 := 74) (ls2 := [(0, .ref 0), (1, .int l), (2, .int (nI j))]) (st2 := [.int l]) (w3 := w) rfl rfl ?_
      refine sx_RP.step (pc2 := 75) (ls2 := [(0, .ref 0), (1, .int l), (2, .int (nI j))]) (st2 := [.int (-1), .int l]) (w3 := w) rfl rfl ?_
      refine sx_RP.br (p1 := 87) (l1 := [(0, .ref 0), (1, .int l), (2, .int (nI j))]) (s1 := []) (v1 := w) (p2 := 78) (l2 := [(0, .ref 0), (1, .int l), (2, .int (nI j))]) (s2 := []) (v2 := w) rfl rfl (fun q8 => ?_) (fun q8 => ?_)
      · replace q8 := of_decide_eq_true q8
        refine sx_RP.step (pc2 := 88) (ls2 := [(0, .ref 0), (1, .int l), (2, .int (nI j))]) (st2 := [.int l]) (w3 := w) rfl rfl ?_
        refine sx_RP.ret (r := (some (.int l))) rfl rfl ?_
        exact ⟨⟨_, rfl⟩, hI, hE⟩
      · replace q8 := Decidable.not_not.mp (of_decide_eq_false q8)
        refine sx_RP.step (pc2 := 79) (ls2 := [(0, .ref 0), (1, .int l), (2, .int (nI j))]) (st2 := [.ref 0]) (w3 := w) rfl rfl ?_
        refine sx_RP.step (pc2 := 81) (ls2 := [(0, .ref 0), (1, .int l), (2, .int (nI j))]) (st2 := [.int (-1000000004), .ref 0]) (w3 := w) rfl rfl ?_
        refine sx_RP.callp (as2 := [.ref 0, .int (-1000000004)]) (rest2 := []) rfl rfl (sx_inv_v2 (mi := 53) (k := 78) (st := [.int (-1000000004), .ref 0]) (w := w) rfl rfl hI.1.o0 rfl rfl rfl) rfl rfl rfl (Q9_3 hI) (show _ = 84 from rfl) ?_
        rintro r4 w9 ⟨rfl, hI10, hE12⟩
        have hE11 := hE.tr (hE12)
        show sx_RP _ _ _ _ _ [.int (-1000000004)] _ _
        refine sx_RP.step (pc2 := 88) (ls2 := [(0, .ref 0), (1, .int l), (2, .int (nI j))]) (st2 := [.int (-1000000004)]) (w3 := w9) rfl rfl ?_
        refine sx_RP.ret (r := (some (.int (-1000000004)))) rfl rfl ?_
        exact ⟨⟨_, rfl⟩, hI10, hE11⟩
    · replace q7 := Decidable.not_not.mp (of_decide_eq_false q7)
      refine sx_RP.step (pc2 := 52) (ls2 := [(0, .ref 0), (1, .int l), (2, .int (nI j))]) (st2 := [.ref 0]) (w3 := w) rfl rfl ?_
      refine sx_RP.gf (v := .ref 29) rfl rfl hI.1.o0 rfl rfl (show _ = 55 from rfl) ?_
      refine sx_RP.callp (as2 := [.ref 29]) (rest2 := []) rfl rfl (sx_inv_v2 (mi := 53) (k := 166) (st := [.ref 29]) (w := w) rfl rfl (hI.1.oC (Or.inr (Or.inr rfl))) rfl rfl rfl) rfl rfl rfl (Q41 hI (Or.inr (Or.inr rfl)) (by omega)) (show _ = 58 from rfl) ?_
      rintro r4 w14 ⟨⟨v13, rfl⟩, hI15, hE17⟩
      have hE16 := hE.tr (hE17)
      show sx_RP _ _ _ _ _ [.int v13] _ _
      refine sx_RP.step (pc2 := 59) (ls2 := [(0, .ref 0), (1, .int l), (2, .int (nI j))]) (st2 := []) (w3 := w14) rfl rfl ?_
      refine sx_RP.step (pc2 := 60) (ls2 := [(0, .ref 0), (1, .int l), (2, .int (nI j))]) (st2 := [.ref 0]) (w3 := w14) rfl rfl ?_
      refine sx_RP.gf (v := .ref 29) rfl rfl hI15.1.o0 rfl rfl (show _ = 63 from rfl) ?_
      obtain ⟨v18, c19⟩ := p54 hI15 (Or.inr (Or.inr rfl))
      refine sx_RP.cu (as := [.ref 29]) (rest2 := []) (st3 := [.int v18]) rfl rfl (sx_inv_v2 (mi := 53) (k := 183) (st := [.ref 29]) (w := w14) rfl rfl (hI15.1.oC (Or.inr (Or.inr rfl))) rfl rfl rfl) rfl rfl (c19) rfl ?_
      refine sx_RP.step (pc2 := 67) (ls2 := [(1, .int v18), (0, .ref 0), (2, .int (nI j))]) (st2 := []) (w3 := w14) rfl rfl ?_
      refine sx_RP.step (pc2 := 70) (ls2 := [(2, .int ((nI j) + 1)), (1, .int v18), (0, .ref 0)]) (st2 := []) (w3 := w14) rfl rfl ?_
      rw [nI_1 j]
      refine sx_RP.step (pc2 := 40) (ls2 := [(2, .int (nI (j + 1))), (1, .int v18), (0, .ref 0)]) (st2 := []) (w3 := w14) rfl rfl ?_
      exact sx_RP.ls (sx_lr.cons rfl (sx_lr.cons rfl (sx_lr.cons rfl sx_lr.nil))) (kk w14 v18 hI15 hE16 (by omega))
set_option maxRecDepth 20000 in
set_option maxHeartbeats 4000000 in
theorem Q53L {xs : Option (List Int32)} {d : Nat} {w0 : List sx_C} : ∀ (fz j : Nat) (w : List sx_C) (l : Int32) , 100 ≤ j + fz * 1 → j ≤ 100 → WI w → EQ w0 w → sx_RP xs (d + 7) 53 40 [(0, .ref 0), (1, .int l), (2, .int (nI j))] [] w (fun r w2 => (∃ v : Int32, r = some (.int v)) ∧ WI w2 ∧ EQ w0 w2)
  | 0, j, w, l, h, hj, hI, hE => Q53B  hI hE hj l  (fun w4 ul hI4 hE4 hlt  => absurd hlt (by omega)) 
  | fz + 1, j, w, l, h, hj, hI, hE => Q53B  hI hE hj l  (fun w4 ul hI4 hE4 hlt  => Q53L   fz (j + 1) w4 ul (by omega) hlt hI4 hE4 ) 
set_option maxRecDepth 20000 in
set_option maxHeartbeats 4000000 in
theorem Q53 {xs : Option (List Int32)} {d : Nat} {w : List sx_C} (hI : WI w) : sx_RP xs (d + 7) 53 0 (lv_args 0 [.ref 0]) [] w (fun r w2 => (∃ v : Int32, r = some (.int v)) ∧ WI w2 ∧ EQ w w2) := by
  have hE : EQ w w := EQ.rf
  refine sx_RP.step (pc2 := 1) (ls2 := [(0, .ref 0)]) (st2 := [.ref 0]) (w3 := w) rfl rfl ?_
  refine sx_RP.gf (v := .ref 1) rfl rfl hI.1.o0 rfl rfl (show _ = 4 from rfl) ?_
  refine sx_RP.step (pc2 := 6) (ls2 := [(0, .ref 0)]) (st2 := [.int 99, .ref 1]) (w3 := w) rfl rfl ?_
  obtain ⟨x1, hx2, c3⟩ := p40 hI (Or.inl rfl) 99
  refine sx_RP.cu (as := [.ref 1, .int 99]) (rest2 := []) (st3 := [.int (nI x1)]) rfl rfl (sx_inv_v2 (mi := 53) (k := 163) (st := [.int 99, .ref 1]) (w := w) rfl rfl (hI.1.oC (Or.inl rfl)) rfl rfl rfl) rfl rfl (c3) rfl ?_
  refine sx_RP.br (p1 := 19) (l1 := [(0, .ref 0)]) (s1 := []) (v1 := w) (p2 := 12) (l2 := [(0, .ref 0)]) (s2 := []) (v2 := w) rfl rfl (fun q4 => ?_) (fun q4 => ?_)
  · replace q4 := of_decide_eq_true q4
    replace q4 := mt (nI_eq (a := x1) (b := 0) (by omega) (by omega)).mpr q4
    refine sx_RP.step (pc2 := 20) (ls2 := [(0, .ref 0)]) (st2 := [.ref 0]) (w3 := w) rfl rfl ?_
    refine sx_RP.gf (v := .ref 29) rfl rfl hI.1.o0 rfl rfl (show _ = 23 from rfl) ?_
    refine sx_RP.step (pc2 := 24) (ls2 := [(0, .ref 0)]) (st2 := [.ref 0, .ref 29]) (w3 := w) rfl rfl ?_
    refine sx_RP.gf (v := .ref 1) rfl rfl hI.1.o0 rfl rfl (show _ = 27 from rfl) ?_
    refine sx_RP.callp (as2 := [.ref 29, .ref 1]) (rest2 := []) rfl rfl (sx_inv_v2 (mi := 53) (k := 179) (st := [.ref 1, .ref 29]) (w := w) rfl rfl (hI.1.oC (Or.inr (Or.inr rfl))) rfl rfl rfl) rfl rfl rfl (Q50 hI (Or.inr (Or.inr rfl)) (Or.inl rfl) (by omega)) (show _ = 30 from rfl) ?_
    rintro r4 w5 ⟨rfl, hI6, hE8⟩
    have hE7 := hE.tr (hE8)
    show sx_RP _ _ _ _ _ [] _ _
    refine sx_RP.step (pc2 := 31) (ls2 := [(0, .ref 0)]) (st2 := [.ref 0]) (w3 := w5) rfl rfl ?_
    refine sx_RP.gf (v := .ref 29) rfl rfl hI6.1.o0 rfl rfl (show _ = 34 from rfl) ?_
    obtain ⟨v9, c10⟩ := p54 hI6 (Or.inr (Or.inr rfl))
    refine sx_RP.cu (as := [.ref 29]) (rest2 := []) (st3 := [.int v9]) rfl rfl (sx_inv_v2 (mi := 53) (k := 183) (st := [.ref 29]) (w := w5) rfl rfl (hI6.1.oC (Or.inr (Or.inr rfl))) rfl rfl rfl) rfl rfl (c10) rfl ?_
    refine sx_RP.step (pc2 := 38) (ls2 := [(1, .int v9), (0, .ref 0)]) (st2 := []) (w3 := w5) rfl rfl ?_
    refine sx_RP.step (pc2 := 39) (ls2 := [(1, .int v9), (0, .ref 0)]) (st2 := [.int 1]) (w3 := w5) rfl rfl ?_
    refine sx_RP.step (pc2 := 40) (ls2 := [(2, .int 1), (1, .int v9), (0, .ref 0)]) (st2 := []) (w3 := w5) rfl rfl ?_
    exact sx_RP.ls (sx_lr.cons rfl (sx_lr.cons rfl (sx_lr.cons rfl sx_lr.nil))) (Q53L  100 1 w5 v9 (by omega) (by omega) hI6 hE7 )
  · replace q4 := Decidable.not_not.mp (of_decide_eq_false q4)
    replace q4 := (nI_eq (a := x1) (b := 0) (by omega) (by omega)).mp q4
    refine sx_RP.step (pc2 := 13) (ls2 := [(0, .ref 0)]) (st2 := [.ref 0]) (w3 := w) rfl rfl ?_
    refine sx_RP.step (pc2 := 15) (ls2 := [(0, .ref 0)]) (st2 := [.int (-1000000005), .ref 0]) (w3 := w) rfl rfl ?_
    refine sx_RP.callp (as2 := [.ref 0, .int (-1000000005)]) (rest2 := []) rfl rfl (sx_inv_v2 (mi := 53) (k := 78) (st := [.int (-1000000005), .ref 0]) (w := w) rfl rfl hI.1.o0 rfl rfl rfl) rfl rfl rfl (Q9_4 hI) (show _ = 18 from rfl) ?_
    rintro r4 w11 ⟨rfl, hI12, hE14⟩
    have hE13 := hE.tr (hE14)
    show sx_RP _ _ _ _ _ [.int (-1000000005)] _ _
    refine sx_RP.ret (r := (some (.int (-1000000005)))) rfl rfl ?_
    exact ⟨⟨_, rfl⟩, hI12, hE13⟩
set_option maxRecDepth 20000 in
set_option maxHeartbeats 4000000 in
theorem Q61B {xs : Option (List Int32)} {d : Nat} {w w0 : List sx_C} {g : Nat} (hg : g < 10) (hI : WI w) (hE : EQ w0 w) {j : Nat} (hj : j ≤ 10) (l : Int32) (m : Int32) (kk : ∀ (w4 : List sx_C) (ul : Int32) (um : Int32), WI w4 → EQ w0 w4 → j + 1 ≤ 10 → sx_RP xs (d + 7) 61 64 [(0, .ref 0), (1, .int (nI g)), (2, .ref (1 + 4 + g)), (3, .int ul), (4, .int um), (5, .int (nI (j + 1)))] [] w4 (fun r w2 => (∃ v : Int32, r = some (.int v)) ∧ WI w2 ∧ EQ w0 w2)) : sx_RP xs (d + 7) 61 64 [(0, .ref 0), (1, .int (nI g)), (2, .ref (1 + 4 + g)), (3, .int l), (4, .int m), (5, .int (nI j))] [] w (fun r w2 => (∃ v : Int32, r = some (.int v)) ∧ WI w2 ∧ EQ w0 w2) := by
  refine sx_RP.step (pc2 := 66) (ls2 := [(0, .ref 0), (1, .int (nI g)), (2, .ref (1 + 4 + g)), (3, .int l), (4, .int m), (5, .int (nI j))]) (st2 := [.int (nI j)]) (w3 := w) rfl rfl ?_
  refine sx_RP.step (pc2 := 67) (ls2 := [(0, .ref 0), (1, .int (nI g)), (2, .ref (1 + 4 + g)), (3, .int l), (4, .int m), (5, .int (nI j))]) (st2 := [.ref 0, .int (nI j)]) (w3 := w) rfl rfl ?_
  refine sx_RP.gf (v := .ref 1) rfl rfl hI.1.o0 rfl rfl (show _ = 70 from rfl) ?_
  refine sx_RP.gc (k := 3) hI (Or.inl rfl) rfl rfl (by omega) (show _ = 73 from rfl) ?_
  obtain ⟨x1, hx2, ex3⟩ : inR (fi w 1 3) 10 := (hI.c (Or.inl rfl)).1
  rw [ex3]
  refine sx_RP.br (p1 := 135) (l1 := [(0, .ref 0), (1, .int (nI g)), (2, .ref (1 + 4 + g)), (3, .int l), (4, .int m), (5, .int (nI j))]) (s1 := []) (v1 := w) (p2 := 76) (l2 := [(0, .ref 0), (1, .int (nI g)), (2, .ref (1 + 4 + g)), (3, .int l), (4, .int m), (5, .int (nI j))]) (s2 := []) (v2 := w) rfl rfl (fun q4 => ?_) (fun q4 => ?_)
  · replace q4 := of_decide_eq_true q4
    replace q4 := (nI_leI (a := x1) (b := j) (by omega) (by omega)).mp q4
    refine sx_RP.step (pc2 := 137) (ls2 := [(0, .ref 0), (1, .int (nI g)), (2, .ref (1 + 4 + g)), (3, .int l), (4, .int m), (5, .int (nI j))]) (st2 := [.int m]) (w3 := w) rfl rfl ?_
    refine sx_RP.step (pc2 := 138) (ls2 := [(0, .ref 0), (1, .int (nI g)), (2, .ref (1 + 4 + g)), (3, .int l), (4, .int m), (5, .int (nI j))]) (st2 := [.int (-1), .int m]) (w3 := w) rfl rfl ?_
    refine sx_RP.br (p1 := 150) (l1 := [(0, .ref 0), (1, .int (nI g)), (2, .ref (1 + 4 + g)), (3, .int l), (4, .int m), (5, .int (nI j))]) (s1 := []) (v1 := w) (p2 := 141) (l2 := [(0, .ref 0), (1, .int (nI g)), (2, .ref (1 + 4 + g)), (3, .int l), (4, .int m), (5, .int (nI j))]) (s2 := []) (v2 := w) rfl rfl (fun q5 => ?_) (fun q5 => ?_)
    · replace q5 := of_decide_eq_true q5
      refine sx_RP.step (pc2 := 152) (ls2 := [(0, .ref 0), (1, .int (nI g)), (2, .ref (1 + 4 + g)), (3, .int l), (4, .int m), (5, .int (nI j))]) (st2 := [.int m]) (w3 := w) rfl rfl ?_
      refine sx_RP.ret (r := (some (.int m))) rfl rfl ?_
      exact ⟨⟨_, rfl⟩, hI, hE⟩
    · replace q5 := Decidable.not_not.mp (of_decide_eq_false q5)
      refine sx_RP.step (pc2 := 142) (ls2 := [(0, .ref 0), (1, .int (nI g)), (2, .ref (1 + 4 + g)), (3, .int l), (4, .int m), (5, .int (nI j))]) (st2 := [.ref 0]) (w3 := w) rfl rfl ?_
      refine sx_RP.step (pc2 := 144) (ls2 := [(0, .ref 0), (1, .int (nI g)), (2, .ref (1 + 4 + g)), (3, .int l), (4, .int m), (5, .int (nI j))]) (st2 := [.int (-1000000004), .ref 0]) (w3 := w) rfl rfl ?_
      refine sx_RP.callp (as2 := [.ref 0, .int (-1000000004)]) (rest2 := []) rfl rfl (sx_inv_v2 (mi := 61) (k := 78) (st := [.int (-1000000004), .ref 0]) (w := w) rfl rfl hI.1.o0 rfl rfl rfl) rfl rfl rfl (Q9_3 hI) (show _ = 147 from rfl) ?_
      rintro r4 w6 ⟨rfl, hI7, hE9⟩
      have hE8 := hE.tr (hE9)
      show sx_RP _ _ _ _ _ [.int (-1000000004)] _ _
      refine sx_RP.step (pc2 := 152) (ls2 := [(0, .ref 0), (1, .int (nI g)), (2, .ref (1 + 4 + g)), (3, .int l), (4, .int m), (5, .int (nI j))]) (st2 := [.int (-1000000004)]) (w3 := w6) rfl rfl ?_
      refine sx_RP.ret (r := (some (.int (-1000000004)))) rfl rfl ?_
      exact ⟨⟨_, rfl⟩, hI7, hE8⟩
  · replace q4 := of_decide_eq_false q4
    replace q4 := mt (nI_leI (a := x1) (b := j) (by omega) (by omega)).mpr q4
    refine sx_RP.step (pc2 := 77) (ls2 := [(0, .ref 0), (1, .int (nI g)), (2, .ref (1 + 4 + g)), (3, .int l), (4, .int m), (5, .int (nI j))]) (st2 := [.ref 0]) (w3 := w) rfl rfl ?_
    refine sx_RP.gf (v := .ref 1) rfl rfl hI.1.o0 rfl rfl (show _ = 80 from rfl) ?_
    refine sx_RP.gref (k := 2) (b := 3) hI (Or.inl rfl) rfl rfl (by omega) (show _ = 83 from rfl) ?_
    refine sx_RP.step (pc2 := 85) (ls2 := [(0, .ref 0), (1, .int (nI g)), (2, .ref (1 + 4 + g)), (3, .int l), (4, .int m), (5, .int (nI j))]) (st2 := [.int (nI j), .ref 3]) (w3 := w) rfl rfl ?_
    refine sx_RP.ald (v := .ref (1 + 4 + j)) rfl (hI.1.aG (Or.inl rfl)) rfl (grA_at (show j < 10 by omega)) (show _ = 86 from rfl) ?_
    refine sx_RP.step (pc2 := 88) (ls2 := [(6, .ref (1 + 4 + j)), (0, .ref 0), (1, .int (nI g)), (2, .ref (1 + 4 + g)), (3, .int l), (4, .int m), (5, .int (nI j))]) (st2 := []) (w3 := w) rfl rfl ?_
    refine sx_RP.step (pc2 := 90) (ls2 := [(6, .ref (1 + 4 + j)), (0, .ref 0), (1, .int (nI g)), (2, .ref (1 + 4 + g)), (3, .int l), (4, .int m), (5, .int (nI j))]) (st2 := [.ref (1 + 4 + j)]) (w3 := w) rfl rfl ?_
    refine sx_RP.step (pc2 := 91) (ls2 := [(6, .ref (1 + 4 + j)), (0, .ref 0), (1, .int (nI g)), (2, .ref (1 + 4 + g)), (3, .int l), (4, .int m), (5, .int (nI j))]) (st2 := [.int 1, .ref (1 + 4 + j)]) (w3 := w) rfl rfl ?_
    obtain ⟨x10, hx11, c12⟩ := p43 hI (gAd.of (Or.inl rfl) (show j < 10 by omega)) 1
    refine sx_RP.cu (as := [.ref (1 + 4 + j), .int 1]) (rest2 := []) (st3 := [.int (nI x10)]) rfl rfl (sx_inv_v2 (mi := 61) (k := 186) (st := [.int 1, .ref (1 + 4 + j)]) (w := w) rfl rfl (hI.1.oG (gAd.of (Or.inl rfl) (show j < 10 by omega))) rfl rfl rfl) rfl rfl (c12) rfl ?_
    refine sx_RP.br (p1 := 107) (l1 := [(6, .ref (1 + 4 + j)), (0, .ref 0), (1, .int (nI g)), (2, .ref (1 + 4 + g)), (3, .int l), (4, .int m), (5, .int (nI j))]) (s1 := []) (v1 := w) (p2 := 97) (l2 := [(6, .ref (1 + 4 + j)), (0, .ref 0), (1, .int (nI g)), (2, .ref (1 + 4 + g)), (3, .int l), (4, .int m), (5, .int (nI j))]) (s2 := []) (v2 := w) rfl rfl (fun q13 => ?_) (fun q13 => ?_)
    · replace q13 := of_decide_eq_true q13
      replace q13 := (nI_eq (a := x10) (b := 0) (by omega) (by omega)).mp q13
      refine sx_RP.step (pc2 := 108) (ls2 := [(6, .ref (1 + 4 + j)), (0, .ref 0), (1, .int (nI g)), (2, .ref (1 + 4 + g)), (3, .int l), (4, .int m), (5, .int (nI j))]) (st2 := [.int (-1)]) (w3 := w) rfl rfl ?_
      refine sx_RP.step (pc2 := 110) (ls2 := [(7, .int (-1)), (6, .ref (1 + 4 + j)), (0, .ref 0), (1, .int (nI g)), (2, .ref (1 + 4 + g)), (3, .int l), (4, .int m), (5, .int (nI j))]) (st2 := []) (w3 := w) rfl rfl ?_
      refine sx_RP.step (pc2 := 112) (ls2 := [(7, .int (-1)), (6, .ref (1 + 4 + j)), (0, .ref 0), (1, .int (nI g)), (2, .ref (1 + 4 + g)), (3, .int l), (4, .int m), (5, .int (nI j))]) (st2 := [.int (-1)]) (w3 := w) rfl rfl ?_
      refine sx_RP.step (pc2 := 113) (ls2 := [(7, .int (-1)), (6, .ref (1 + 4 + j)), (0, .ref 0), (1, .int (nI g)), (2, .ref (1 + 4 + g)), (3, .int l), (4, .int m), (5, .int (nI j))]) (st2 := [.int (-1), .int (-1)]) (w3 := w) rfl rfl ?_
      refine sx_RP.step (pc2 := 129) (ls2 := [(7, .int (-1)), (6, .ref (1 + 4 + j)), (0, .ref 0), (1, .int (nI g)), (2, .ref (1 + 4 + g)), (3, .int l), (4, .int m), (5, .int (nI j))]) (st2 := []) (w3 := w) rfl rfl ?_
      refine sx_RP.step (pc2 := 132) (ls2 := [(5, .int ((nI j) + 1)), (7, .int (-1)), (6, .ref (1 + 4 + j)), (0, .ref 0), (1, .int (nI g)), (2, .ref (1 + 4 + g)), (3, .int l), (4, .int m)]) (st2 := []) (w3 := w) rfl rfl ?_
      rw [nI_1 j]
      refine sx_RP.step (pc2 := 64) (ls2 := [(5, .int (nI (j + 1))), (7, .int (-1)), (6, .ref (1 + 4 + j)), (0, .ref 0), (1, .int (nI g)), (2, .ref (1 + 4 + g)), (3, .int l), (4, .int m)]) (st2 := []) (w3 := w) rfl rfl ?_
      exact sx_RP.ls (sx_lr.cons rfl (sx_lr.cons rfl (sx_lr.cons rfl (sx_lr.cons rfl (sx_lr.cons rfl (sx_lr.cons rfl sx_lr.nil)))))) (kk w l m hI hE (by omega))
    · replace q13 := of_decide_eq_false q13
      replace q13 := mt (nI_eq (a := x10) (b := 0) (by omega) (by omega)).mpr q13
      refine sx_RP.step (pc2 := 98) (ls2 := [(6, .ref (1 + 4 + j)), (0, .ref 0), (1, .int (nI g)), (2, .ref (1 + 4 + g)), (3, .int l), (4, .int m), (5, .int (nI j))]) (st2 := [.ref 0]) (w3 := w) rfl rfl ?_
      refine sx_RP.step (pc2 := 100) (ls2 := [(6, .ref (1 + 4 + j)), (0, .ref 0), (1, .int (nI g)), (2, .ref (1 + 4 + g)), (3, .int l), (4, .int m), (5, .int (nI j))]) (st2 := [.ref (1 + 4 + j), .ref 0]) (w3 := w) rfl rfl ?_
      refine sx_RP.step (pc2 := 101) (ls2 := [(6, .ref (1 + 4 + j)), (0, .ref 0), (1, .int (nI g)), (2, .ref (1 + 4 + g)), (3, .int l), (4, .int m), (5, .int (nI j))]) (st2 := [.ref (1 + 4 + g), .ref (1 + 4 + j), .ref 0]) (w3 := w) rfl rfl ?_
      refine sx_RP.callp (as2 := [.ref 0, .ref (1 + 4 + j), .ref (1 + 4 + g)]) (rest2 := []) rfl rfl (sx_inv_v2 (mi := 61) (k := 194) (st := [.ref (1 + 4 + g), .ref (1 + 4 + j), .ref 0]) (w := w) rfl rfl hI.1.o0 rfl rfl rfl) rfl rfl rfl (Q59 hI (gAd.of (Or.inl rfl) (show j < 10 by omega)) (gAd.of (Or.inl rfl) (show g < 10 by omega))) (show _ = 104 from rfl) ?_
      rintro r4 w15 ⟨⟨v14, rfl⟩, hI16, hE18⟩
      have hE17 := hE.tr (hE18)
      show sx_RP _ _ _ _ _ [.int v14] _ _
      refine sx_RP.step (pc2 := 108) (ls2 := [(6, .ref (1 + 4 + j)), (0, .ref 0), (1, .int (nI g)), (2, .ref (1 + 4 + g)), (3, .int l), (4, .int m), (5, .int (nI j))]) (st2 := [.int v14]) (w3 := w15) rfl rfl ?_
      refine sx_RP.step (pc2 := 110) (ls2 := [(7, .int v14), (6, .ref (1 + 4 + j)), (0, .ref 0), (1, .int (nI g)), (2, .ref (1 + 4 + g)), (3, .int l), (4, .int m), (5, .int (nI j))]) (st2 := []) (w3 := w15) rfl rfl ?_
      refine sx_RP.step (pc2 := 112) (ls2 := [(7, .int v14), (6, .ref (1 + 4 + j)), (0, .ref 0), (1, .int (nI g)), (2, .ref (1 + 4 + g)), (3, .int l), (4, .int m), (5, .int (nI j))]) (st2 := [.int v14]) (w3 := w15) rfl rfl ?_
      refine sx_RP.step (pc2 := 113) (ls2 := [(7, .int v14), (6, .ref (1 + 4 + j)), (0, .ref 0), (1, .int (nI g)), (2, .ref (1 + 4 + g)), (3, .int l), (4, .int m), (5, .int (nI j))]) (st2 := [.int (-1), .int v14]) (w3 := w15) rfl rfl ?_
      refine sx_RP.br (p1 := 129) (l1 := [(7, .int v14), (6, .ref (1 + 4 + j)), (0, .ref 0), (1, .int (nI g)), (2, .ref (1 + 4 + g)), (3, .int l), (4, .int m), (5, .int (nI j))]) (s1 := []) (v1 := w15) (p2 := 116) (l2 := [(7, .int v14), (6, .ref (1 + 4 + j)), (0, .ref 0), (1, .int (nI g)), (2, .ref (1 + 4 + g)), (3, .int l), (4, .int m), (5, .int (nI j))]) (s2 := []) (v2 := w15) rfl rfl (fun q19 => ?_) (fun q19 => ?_)
      · replace q19 := of_decide_eq_true q19
        refine sx_RP.step (pc2 := 132) (ls2 := [(5, .int ((nI j) + 1)), (7, .int v14), (6, .ref (1 + 4 + j)), (0, .ref 0), (1, .int (nI g)), (2, .ref (1 + 4 + g)), (3, .int l), (4, .int m)]) (st2 := []) (w3 := w15) rfl rfl ?_
        rw [nI_1 j]
        refine sx_RP.step (pc2 := 64) (ls2 := [(5, .int (nI (j + 1))), (7, .int v14), (6, .ref (1 + 4 + j)), (0, .ref 0), (1, .int (nI g)), (2, .ref (1 + 4 + g)), (3, .int l), (4, .int m)]) (st2 := []) (w3 := w15) rfl rfl ?_
        exact sx_RP.ls (sx_lr.cons rfl (sx_lr.cons rfl (sx_lr.cons rfl (sx_lr.cons rfl (sx_lr.cons rfl (sx_lr.cons rfl sx_lr.nil)))))) (kk w15 l m hI16 hE17 (by omega))
      · replace q19 := of_decide_eq_false q19
        refine sx_RP.step (pc2 := 118) (ls2 := [(7, .int v14), (6, .ref (1 + 4 + j)), (0, .ref 0), (1, .int (nI g)), (2, .ref (1 + 4 + g)), (3, .int l), (4, .int m), (5, .int (nI j))]) (st2 := [.int v14]) (w3 := w15) rfl rfl ?_
        refine sx_RP.step (pc2 := 119) (ls2 := [(7, .int v14), (6, .ref (1 + 4 + j)), (0, .ref 0), (1, .int (nI g)), (2, .ref (1 + 4 + g)), (3, .int l), (4, .int m), (5, .int (nI j))]) (st2 := [.int l, .int v14]) (w3 := w15) rfl rfl ?_
        refine sx_RP.br (p1 := 129) (l1 := [(7, .int v14), (6, .ref (1 + 4 + j)), (0, .ref 0), (1, .int (nI g)), (2, .ref (1 + 4 + g)), (3, .int l), (4, .int m), (5, .int (nI j))]) (s1 := []) (v1 := w15) (p2 := 122) (l2 := [(7, .int v14), (6, .ref (1 + 4 + j)), (0, .ref 0), (1, .int (nI g)), (2, .ref (1 + 4 + g)), (3, .int l), (4, .int m), (5, .int (nI j))]) (s2 := []) (v2 := w15) rfl rfl (fun q20 => ?_) (fun q20 => ?_)
        · replace q20 := of_decide_eq_true q20
          refine sx_RP.step (pc2 := 132) (ls2 := [(5, .int ((nI j) + 1)), (7, .int v14), (6, .ref (1 + 4 + j)), (0, .ref 0), (1, .int (nI g)), (2, .ref (1 + 4 + g)), (3, .int l), (4, .int m)]) (st2 := []) (w3 := w15) rfl rfl ?_
          rw [nI_1 j]
          refine sx_RP.step (pc2 := 64) (ls2 := [(5, .int (nI (j + 1))), (7, .int v14), (6, .ref (1 + 4 + j)), (0, .ref 0), (1, .int (nI g)), (2, .ref (1 + 4 + g)), (3, .int l), (4, .int m)]) (st2 := []) (w3 := w15) rfl rfl ?_
          exact sx_RP.ls (sx_lr.cons rfl (sx_lr.cons rfl (sx_lr.cons rfl (sx_lr.cons rfl (sx_lr.cons rfl (sx_lr.cons rfl sx_lr.nil)))))) (kk w15 l m hI16 hE17 (by omega))
        · replace q20 := of_decide_eq_false q20
          refine sx_RP.step (pc2 := 124) (ls2 := [(7, .int v14), (6, .ref (1 + 4 + j)), (0, .ref 0), (1, .int (nI g)), (2, .ref (1 + 4 + g)), (3, .int l), (4, .int m), (5, .int (nI j))]) (st2 := [.int v14]) (w3 := w15) rfl rfl ?_
          refine sx_RP.step (pc2 := 125) (ls2 := [(3, .int v14), (7, .int v14), (6, .ref (1 + 4 + j)), (0, .ref 0), (1, .int (nI g)), (2, .ref (1 + 4 + g)), (4, .int m), (5, .int (nI j))]) (st2 := []) (w3 := w15) rfl rfl ?_
          refine sx_RP.step (pc2 := 127) (ls2 := [(3, .int v14), (7, .int v14), (6, .ref (1 + 4 + j)), (0, .ref 0), (1, .int (nI g)), (2, .ref (1 + 4 + g)), (4, .int m), (5, .int (nI j))]) (st2 := [.int (nI j)]) (w3 := w15) rfl rfl ?_
          refine sx_RP.step (pc2 := 129) (ls2 := [(4, .int (nI j)), (3, .int v14), (7, .int v14), (6, .ref (1 + 4 + j)), (0, .ref 0), (1, .int (nI g)), (2, .ref (1 + 4 + g)), (5, .int (nI j))]) (st2 := []) (w3 := w15) rfl rfl ?_
          refine sx_RP.step (pc2 := 132) (ls2 := [(5, .int ((nI j) + 1)), (4, .int (nI j)), (3, .int v14), (7, .int v14), (6, .ref (1 + 4 + j)), (0, .ref 0), (1, .int (nI g)), (2, .ref (1 + 4 + g))]) (st2 := []) (w3 := w15) rfl rfl ?_
          rw [nI_1 j]
          refine sx_RP.step (pc2 := 64) (ls2 := [(5, .int (nI (j + 1))), (4, .int (nI j)), (3, .int v14), (7, .int v14), (6, .ref (1 + 4 + j)), (0, .ref 0), (1, .int (nI g)), (2, .ref (1 + 4 + g))]) (st2 := []) (w3 := w15) rfl rfl ?_
          exact sx_RP.ls (sx_lr.cons rfl (sx_lr.cons rfl (sx_lr.cons rfl (sx_lr.cons rfl (sx_lr.cons rfl (sx_lr.cons rfl sx_lr.nil)))))) (kk w15 v14 (nI j) hI16 hE17 (by omega))
set_option maxRecDepth 20000 in
set_option maxHeartbeats 4000000 in
theorem Q61L {xs : Option (List Int32)} {d : Nat} {w0 : List sx_C} {g : Nat} (hg : g < 10) : ∀ (fz j : Nat) (w : List sx_C) (l : Int32) (m : Int32) , 10 ≤ j + fz * 1 → j ≤ 10 → WI w → EQ w0 w → sx_RP xs (d + 7) 61 64 [(0, .ref 0), (1, .int (nI g)), (2, .ref (1 + 4 + g)), (3, .int l), (4, .int m), (5, .int (nI j))] [] w (fun r w2 => (∃ v : Int32, r = some (.int v)) ∧ WI w2 ∧ EQ w0 w2)
  | 0, j, w, l, m, h, hj, hI, hE => Q61B hg hI hE hj l m  (fun w4 ul um hI4 hE4 hlt  => absurd hlt (by omega)) 
  | fz + 1, j, w, l, m, h, hj, hI, hE => Q61B hg hI hE hj l m  (fun w4 ul um hI4 hE4 hlt  => Q61L hg  fz (j + 1) w4 ul um (by omega) hlt hI4 hE4 ) 
set_option maxRecDepth 20000 in
set_option maxHeartbeats 4000000 in
theorem Q61 {xs : Option (List Int32)} {d : Nat} {w : List sx_C} (hI : WI w) (a1 : Int32) : sx_RP xs (d + 7) 61 0 (lv_args 0 [.ref 0, .int a1]) [] w (fun r w2 => (∃ v : Int32, r = some (.int v)) ∧ WI w2 ∧ EQ w w2) := by
  have hE : EQ w w := EQ.rf
  refine sx_RP.step (pc2 := 1) (ls2 := [(0, .ref 0), (1, .int a1)]) (st2 := [.ref 0]) (w3 := w) rfl rfl ?_
  refine sx_RP.gf (v := .ref 1) rfl rfl hI.1.o0 rfl rfl (show _ = 4 from rfl) ?_
  refine sx_RP.step (pc2 := 5) (ls2 := [(0, .ref 0), (1, .int a1)]) (st2 := [.int a1, .ref 1]) (w3 := w) rfl rfl ?_
  rcases p27 (xs := xs) hI (Or.inl rfl) a1 with c2 | ⟨⟨x3, hx4, rfl⟩, c2⟩
  · refine sx_RP.cu (as := [.ref 1, .int a1]) (rest2 := []) (st3 := [.int 0]) rfl rfl (sx_inv_v2 (mi := 61) (k := 120) (st := [.int a1, .ref 1]) (w := w) rfl rfl (hI.1.oC (Or.inl rfl)) rfl rfl rfl) rfl rfl (c2) rfl ?_
    refine sx_RP.step (pc2 := 11) (ls2 := [(0, .ref 0), (1, .int a1)]) (st2 := []) (w3 := w) rfl rfl ?_
    refine sx_RP.step (pc2 := 12) (ls2 := [(0, .ref 0), (1, .int a1)]) (st2 := [.ref 0]) (w3 := w) rfl rfl ?_
    refine sx_RP.step (pc2 := 14) (ls2 := [(0, .ref 0), (1, .int a1)]) (st2 := [.int (-1000000001), .ref 0]) (w3 := w) rfl rfl ?_
    refine sx_RP.callp (as2 := [.ref 0, .int (-1000000001)]) (rest2 := []) rfl rfl (sx_inv_v2 (mi := 61) (k := 78) (st := [.int (-1000000001), .ref 0]) (w := w) rfl rfl hI.1.o0 rfl rfl rfl) rfl rfl rfl (Q9_0 hI) (show _ = 17 from rfl) ?_
    rintro r4 w6 ⟨rfl, hI7, hE9⟩
    have hE8 := hE.tr (hE9)
    show sx_RP _ _ _ _ _ [.int (-1000000001)] _ _
    refine sx_RP.ret (r := (some (.int (-1000000001)))) rfl rfl ?_
    exact ⟨⟨_, rfl⟩, hI7, hE8⟩
  · refine sx_RP.cu (as := [.ref 1, .int (nI x3)]) (rest2 := []) (st3 := [.int 1]) rfl rfl (sx_inv_v2 (mi := 61) (k := 120) (st := [.int (nI x3), .ref 1]) (w := w) rfl rfl (hI.1.oC (Or.inl rfl)) rfl rfl rfl) rfl rfl (c2) rfl ?_
    refine sx_RP.step (pc2 := 18) (ls2 := [(0, .ref 0), (1, .int (nI x3))]) (st2 := []) (w3 := w) rfl rfl ?_
    refine sx_RP.step (pc2 := 19) (ls2 := [(0, .ref 0), (1, .int (nI x3))]) (st2 := [.ref 0]) (w3 := w) rfl rfl ?_
    refine sx_RP.gf (v := .ref 1) rfl rfl hI.1.o0 rfl rfl (show _ = 22 from rfl) ?_
    refine sx_RP.gref (k := 2) (b := 3) hI (Or.inl rfl) rfl rfl (by omega) (show _ = 25 from rfl) ?_
    refine sx_RP.step (pc2 := 26) (ls2 := [(0, .ref 0), (1, .int (nI x3))]) (st2 := [.int (nI x3), .ref 3]) (w3 := w) rfl rfl ?_
    refine sx_RP.ald (v := .ref (1 + 4 + x3)) rfl (hI.1.aG (Or.inl rfl)) rfl (grA_at (show x3 < 10 by omega)) (show _ = 27 from rfl) ?_
    refine sx_RP.step (pc2 := 28) (ls2 := [(2, .ref (1 + 4 + x3)), (0, .ref 0), (1, .int (nI x3))]) (st2 := []) (w3 := w) rfl rfl ?_
    refine sx_RP.step (pc2 := 29) (ls2 := [(2, .ref (1 + 4 + x3)), (0, .ref 0), (1, .int (nI x3))]) (st2 := [.ref (1 + 4 + x3)]) (w3 := w) rfl rfl ?_
    refine sx_RP.step (pc2 := 30) (ls2 := [(2, .ref (1 + 4 + x3)), (0, .ref 0), (1, .int (nI x3))]) (st2 := [.int 0, .ref (1 + 4 + x3)]) (w3 := w) rfl rfl ?_
    obtain ⟨x10, hx11, c12⟩ := p43 hI (gAd.of (Or.inl rfl) (show x3 < 10 by omega)) 0
    refine sx_RP.cu (as := [.ref (1 + 4 + x3), .int 0]) (rest2 := []) (st3 := [.int (nI x10)]) rfl rfl (sx_inv_v2 (mi := 61) (k := 186) (st := [.int 0, .ref (1 + 4 + x3)]) (w := w) rfl rfl (hI.1.oG (gAd.of (Or.inl rfl) (show x3 < 10 by omega))) rfl rfl rfl) rfl rfl (c12) rfl ?_
    refine sx_RP.br (p1 := 48) (l1 := [(2, .ref (1 + 4 + x3)), (0, .ref 0), (1, .int (nI x3))]) (s1 := []) (v1 := w) (p2 := 36) (l2 := [(2, .ref (1 + 4 + x3)), (0, .ref 0), (1, .int (nI x3))]) (s2 := []) (v2 := w) rfl rfl (fun q13 => ?_) (fun q13 => ?_)
    · replace q13 := of_decide_eq_true q13
      replace q13 := (nI_eq (a := x10) (b := 0) (by omega) (by omega)).mp q13
      refine sx_RP.step (pc2 := 49) (ls2 := [(2, .ref (1 + 4 + x3)), (0, .ref 0), (1, .int (nI x3))]) (st2 := [.ref 0]) (w3 := w) rfl rfl ?_
      refine sx_RP.step (pc2 := 51) (ls2 := [(2, .ref (1 + 4 + x3)), (0, .ref 0), (1, .int (nI x3))]) (st2 := [.int (-1000000005), .ref 0]) (w3 := w) rfl rfl ?_
      refine sx_RP.callp (as2 := [.ref 0, .int (-1000000005)]) (rest2 := []) rfl rfl (sx_inv_v2 (mi := 61) (k := 78) (st := [.int (-1000000005), .ref 0]) (w := w) rfl rfl hI.1.o0 rfl rfl rfl) rfl rfl rfl (Q9_4 hI) (show _ = 54 from rfl) ?_
      rintro r4 w14 ⟨rfl, hI15, hE17⟩
      have hE16 := hE.tr (hE17)
      show sx_RP _ _ _ _ _ [.int (-1000000005)] _ _
      refine sx_RP.ret (r := (some (.int (-1000000005)))) rfl rfl ?_
      exact ⟨⟨_, rfl⟩, hI15, hE16⟩
    · replace q13 := of_decide_eq_false q13
      replace q13 := mt (nI_eq (a := x10) (b := 0) (by omega) (by omega)).mpr q13
      refine sx_RP.step (pc2 := 37) (ls2 := [(2, .ref (1 + 4 + x3)), (0, .ref 0), (1, .int (nI x3))]) (st2 := [.ref 0]) (w3 := w) rfl rfl ?_
      refine sx_RP.gf (v := .ref 1) rfl rfl hI.1.o0 rfl rfl (show _ = 40 from rfl) ?_
      refine sx_RP.step (pc2 := 42) (ls2 := [(2, .ref (1 + 4 + x3)), (0, .ref 0), (1, .int (nI x3))]) (st2 := [.int 60, .ref 1]) (w3 := w) rfl rfl ?_
      obtain ⟨x18, hx19, c20⟩ := p40 hI (Or.inl rfl) 60
      refine sx_RP.cu (as := [.ref 1, .int 60]) (rest2 := []) (st3 := [.int (nI x18)]) rfl rfl (sx_inv_v2 (mi := 61) (k := 163) (st := [.int 60, .ref 1]) (w := w) rfl rfl (hI.1.oC (Or.inl rfl)) rfl rfl rfl) rfl rfl (c20) rfl ?_
      refine sx_RP.br (p1 := 55) (l1 := [(2, .ref (1 + 4 + x3)), (0, .ref 0), (1, .int (nI x3))]) (s1 := []) (v1 := w) (p2 := 48) (l2 := [(2, .ref (1 + 4 + x3)), (0, .ref 0), (1, .int (nI x3))]) (s2 := []) (v2 := w) rfl rfl (fun q21 => ?_) (fun q21 => ?_)
      · replace q21 := of_decide_eq_true q21
        replace q21 := mt (nI_eq (a := x18) (b := 0) (by omega) (by omega)).mpr q21
        refine sx_RP.step (pc2 := 57) (ls2 := [(2, .ref (1 + 4 + x3)), (0, .ref 0), (1, .int (nI x3))]) (st2 := [.int 61]) (w3 := w) rfl rfl ?_
        refine sx_RP.step (pc2 := 58) (ls2 := [(3, .int 61), (2, .ref (1 + 4 + x3)), (0, .ref 0), (1, .int (nI x3))]) (st2 := []) (w3 := w) rfl rfl ?_
        refine sx_RP.step (pc2 := 59) (ls2 := [(3, .int 61), (2, .ref (1 + 4 + x3)), (0, .ref 0), (1, .int (nI x3))]) (st2 := [.int (-1)]) (w3 := w) rfl rfl ?_
        refine sx_RP.step (pc2 := 61) (ls2 := [(4, .int (-1)), (3, .int 61), (2, .ref (1 + 4 + x3)), (0, .ref 0), (1, .int (nI x3))]) (st2 := []) (w3 := w) rfl rfl ?_
        refine sx_RP.step (pc2 := 62) (ls2 := [(4, .int (-1)), (3, .int 61), (2, .ref (1 + 4 + x3)), (0, .ref 0), (1, .int (nI x3))]) (st2 := [.int 0]) (w3 := w) rfl rfl ?_
        refine sx_RP.step (pc2 := 64) (ls2 := [(5, .int 0), (4, .int (-1)), (3, .int 61), (2, .ref (1 + 4 + x3)), (0, .ref 0), (1, .int (nI x3))]) (st2 := []) (w3 := w) rfl rfl ?_
        exact sx_RP.ls (sx_lr.cons rfl (sx_lr.cons rfl (sx_lr.cons rfl (sx_lr.cons rfl (sx_lr.cons rfl (sx_lr.cons rfl sx_lr.nil)))))) (Q61L (show x3 < 10 by omega) 10 0 w 61 (-1) (by omega) (by omega) hI hE )
      · replace q21 := Decidable.not_not.mp (of_decide_eq_false q21)
        replace q21 := (nI_eq (a := x18) (b := 0) (by omega) (by omega)).mp q21
        refine sx_RP.step (pc2 := 49) (ls2 := [(2, .ref (1 + 4 + x3)), (0, .ref 0), (1, .int (nI x3))]) (st2 := [.ref 0]) (w3 := w) rfl rfl ?_
        refine sx_RP.step (pc2 := 51) (ls2 := [(2, .ref (1 + 4 + x3)), (0, .ref 0), (1, .int (nI x3))]) (st2 := [.int (-1000000005), .ref 0]) (w3 := w) rfl rfl ?_
        refine sx_RP.callp (as2 := [.ref 0, .int (-1000000005)]) (rest2 := []) rfl rfl (sx_inv_v2 (mi := 61) (k := 78) (st := [.int (-1000000005), .ref 0]) (w := w) rfl rfl hI.1.o0 rfl rfl rfl) rfl rfl rfl (Q9_4 hI) (show _ = 54 from rfl) ?_
        rintro r4 w22 ⟨rfl, hI23, hE25⟩
        have hE24 := hE.tr (hE25)
        show sx_RP _ _ _ _ _ [.int (-1000000005)] _ _
        refine sx_RP.ret (r := (some (.int (-1000000005)))) rfl rfl ?_
        exact ⟨⟨_, rfl⟩, hI23, hE24⟩
set_option maxRecDepth 20000 in
set_option maxHeartbeats 4000000 in
theorem Q74B {xs : Option (List Int32)} {d : Nat} {w w0 : List sx_C} {k : Nat} (l : Int64) (hk : k ≤ 5) (hI : WI w) (hE : EQ w0 w) {j : Nat} (hj : j ≤ 48) (m : Int32) (n : Int32) (kk : ∀ (w4 : List sx_C) (um : Int32) (un : Int32), WI w4 → EQ w0 w4 → j + 1 ≤ 48 → sx_RP xs (d + 7) 74 91 [(0, .ref 0), (1, .int (nI k)), (2, .long l), (4, .int um), (5, .int un), (6, .int (nI (j + 1)))] [] w4 (fun r w2 => (∃ v : Int32, r = some (.int v)) ∧ WI w2 ∧ EQ w0 w2)) : sx_RP xs (d + 7) 74 91 [(0, .ref 0), (1, .int (nI k)), (2, .long l), (4, .int m), (5, .int n), (6, .int (nI j))] [] w (fun r w2 => (∃ v : Int32, r = some (.int v)) ∧ WI w2 ∧ EQ w0 w2) := by
  refine sx_RP.step (pc2 := 93) (ls2 := [(0, .ref 0), (1, .int (nI k)), (2, .long l), (4, .int m), (5, .int n), (6, .int (nI j))]) (st2 := [.int (nI j)]) (w3 := w) rfl rfl ?_
  refine sx_RP.step (pc2 := 95) (ls2 := [(0, .ref 0), (1, .int (nI k)), (2, .long l), (4, .int m), (5, .int n), (6, .int (nI j))]) (st2 := [.int 48, .int (nI j)]) (w3 := w) rfl rfl ?_
  refine sx_RP.br (p1 := 129) (l1 := [(0, .ref 0), (1, .int (nI k)), (2, .long l), (4, .int m), (5, .int n), (6, .int (nI j))]) (s1 := []) (v1 := w) (p2 := 98) (l2 := [(0, .ref 0), (1, .int (nI k)), (2, .long l), (4, .int m), (5, .int n), (6, .int (nI j))]) (s2 := []) (v2 := w) rfl rfl (fun q1 => ?_) (fun q1 => ?_)
  · replace q1 := of_decide_eq_true q1
    replace q1 := (nI_leI (a := 48) (b := j) (by omega) (by omega)).mp q1
    refine sx_RP.step (pc2 := 131) (ls2 := [(0, .ref 0), (1, .int (nI k)), (2, .long l), (4, .int m), (5, .int n), (6, .int (nI j))]) (st2 := [.int n]) (w3 := w) rfl rfl ?_
    refine sx_RP.ret (r := (some (.int n))) rfl rfl ?_
    exact ⟨⟨_, rfl⟩, hI, hE⟩
  · replace q1 := of_decide_eq_false q1
    replace q1 := mt (nI_leI (a := 48) (b := j) (by omega) (by omega)).mpr q1
    refine sx_RP.step (pc2 := 99) (ls2 := [(0, .ref 0), (1, .int (nI k)), (2, .long l), (4, .int m), (5, .int n), (6, .int (nI j))]) (st2 := [.ref 0]) (w3 := w) rfl rfl ?_
    refine sx_RP.step (pc2 := 100) (ls2 := [(0, .ref 0), (1, .int (nI k)), (2, .long l), (4, .int m), (5, .int n), (6, .int (nI j))]) (st2 := [.int (nI k), .ref 0]) (w3 := w) rfl rfl ?_
    refine sx_RP.step (pc2 := 101) (ls2 := [(0, .ref 0), (1, .int (nI k)), (2, .long l), (4, .int m), (5, .int n), (6, .int (nI j))]) (st2 := [.long l, .int (nI k), .ref 0]) (w3 := w) rfl rfl ?_
    refine sx_RP.step (pc2 := 103) (ls2 := [(0, .ref 0), (1, .int (nI k)), (2, .long l), (4, .int m), (5, .int n), (6, .int (nI j))]) (st2 := [.int (nI j), .long l, .int (nI k), .ref 0]) (w3 := w) rfl rfl ?_
    refine sx_RP.callp (as2 := [.ref 0, .int (nI k), .long l, .int (nI j)]) (rest2 := []) rfl rfl (sx_inv_v2 (mi := 74) (k := 246) (st := [.int (nI j), .long l, .int (nI k), .ref 0]) (w := w) rfl rfl hI.1.o0 rfl rfl rfl) rfl rfl rfl (Q75 hI l (show k ≤ 5 by omega) (show j < 48 by omega)) (show _ = 106 from rfl) ?_
    rintro r4 w3 ⟨⟨v2, rfl⟩, hI4, hE6⟩
    have hE5 := hE.tr (hE6)
    show sx_RP _ _ _ _ _ [.int v2] _ _
    refine sx_RP.step (pc2 := 108) (ls2 := [(7, .int v2), (0, .ref 0), (1, .int (nI k)), (2, .long l), (4, .int m), (5, .int n), (6, .int (nI j))]) (st2 := []) (w3 := w3) rfl rfl ?_
    refine sx_RP.step (pc2 := 110) (ls2 := [(7, .int v2), (0, .ref 0), (1, .int (nI k)), (2, .long l), (4, .int m), (5, .int n), (6, .int (nI j))]) (st2 := [.int v2]) (w3 := w3) rfl rfl ?_
    refine sx_RP.step (pc2 := 112) (ls2 := [(7, .int v2), (0, .ref 0), (1, .int (nI k)), (2, .long l), (4, .int m), (5, .int n), (6, .int (nI j))]) (st2 := [.int m, .int v2]) (w3 := w3) rfl rfl ?_
    refine sx_RP.br (p1 := 123) (l1 := [(7, .int v2), (0, .ref 0), (1, .int (nI k)), (2, .long l), (4, .int m), (5, .int n), (6, .int (nI j))]) (s1 := []) (v1 := w3) (p2 := 115) (l2 := [(7, .int v2), (0, .ref 0), (1, .int (nI k)), (2, .long l), (4, .int m), (5, .int n), (6, .int (nI j))]) (s2 := []) (v2 := w3) rfl rfl (fun q7 => ?_) (fun q7 => ?_)
    · replace q7 := of_decide_eq_true q7
      refine sx_RP.step (pc2 := 126) (ls2 := [(6, .int ((nI j) + 1)), (7, .int v2), (0, .ref 0), (1, .int (nI k)), (2, .long l), (4, .int m), (5, .int n)]) (st2 := []) (w3 := w3) rfl rfl ?_
      rw [nI_1 j]
      refine sx_RP.step (pc2 := 91) (ls2 := [(6, .int (nI (j + 1))), (7, .int v2), (0, .ref 0), (1, .int (nI k)), (2, .long l), (4, .int m), (5, .int n)]) (st2 := []) (w3 := w3) rfl rfl ?_
      exact sx_RP.ls (sx_lr.cons rfl (sx_lr.cons rfl (sx_lr.cons rfl (sx_lr.cons rfl (sx_lr.cons rfl (sx_lr.cons rfl sx_lr.nil)))))) (kk w3 m n hI4 hE5 (by omega))
    · replace q7 := of_decide_eq_false q7
      refine sx_RP.step (pc2 := 117) (ls2 := [(7, .int v2), (0, .ref 0), (1, .int (nI k)), (2, .long l), (4, .int m), (5, .int n), (6, .int (nI j))]) (st2 := [.int v2]) (w3 := w3) rfl rfl ?_
      refine sx_RP.step (pc2 := 119) (ls2 := [(4, .int v2), (7, .int v2), (0, .ref 0), (1, .int (nI k)), (2, .long l), (5, .int n), (6, .int (nI j))]) (st2 := []) (w3 := w3) rfl rfl ?_
      refine sx_RP.step (pc2 := 121) (ls2 := [(4, .int v2), (7, .int v2), (0, .ref 0), (1, .int (nI k)), (2, .long l), (5, .int n), (6, .int (nI j))]) (st2 := [.int (nI j)]) (w3 := w3) rfl rfl ?_
      refine sx_RP.step (pc2 := 123) (ls2 := [(5, .int (nI j)), (4, .int v2), (7, .int v2), (0, .ref 0), (1, .int (nI k)), (2, .long l), (6, .int (nI j))]) (st2 := []) (w3 := w3) rfl rfl ?_
      refine sx_RP.step (pc2 := 126) (ls2 := [(6, .int ((nI j) + 1)), (5, .int (nI j)), (4, .int v2), (7, .int v2), (0, .ref 0), (1, .int (nI k)), (2, .long l)]) (st2 := []) (w3 := w3) rfl rfl ?_
      rw [nI_1 j]
      refine sx_RP.step (pc2 := 91) (ls2 := [(6, .int (nI (j + 1))), (5, .int (nI j)), (4, .int v2), (7, .int v2), (0, .ref 0), (1, .int (nI k)), (2, .long l)]) (st2 := []) (w3 := w3) rfl rfl ?_
      exact sx_RP.ls (sx_lr.cons rfl (sx_lr.cons rfl (sx_lr.cons rfl (sx_lr.cons rfl (sx_lr.cons rfl (sx_lr.cons rfl sx_lr.nil)))))) (kk w3 v2 (nI j) hI4 hE5 (by omega))
set_option maxRecDepth 20000 in
set_option maxHeartbeats 4000000 in
theorem Q74L {xs : Option (List Int32)} {d : Nat} {w0 : List sx_C} {k : Nat} (l : Int64) (hk : k ≤ 5) : ∀ (fz j : Nat) (w : List sx_C) (m : Int32) (n : Int32) , 48 ≤ j + fz * 1 → j ≤ 48 → WI w → EQ w0 w → sx_RP xs (d + 7) 74 91 [(0, .ref 0), (1, .int (nI k)), (2, .long l), (4, .int m), (5, .int n), (6, .int (nI j))] [] w (fun r w2 => (∃ v : Int32, r = some (.int v)) ∧ WI w2 ∧ EQ w0 w2)
  | 0, j, w, m, n, h, hj, hI, hE => Q74B l hk hI hE hj m n  (fun w4 um un hI4 hE4 hlt  => absurd hlt (by omega)) 
  | fz + 1, j, w, m, n, h, hj, hI, hE => Q74B l hk hI hE hj m n  (fun w4 um un hI4 hE4 hlt  => Q74L l hk  fz (j + 1) w4 um un (by omega) hlt hI4 hE4 ) 
set_option maxRecDepth 20000 in
set_option maxHeartbeats 4000000 in
theorem Q74 {xs : Option (List Int32)} {d : Nat} {w : List sx_C} (hI : WI w) (a1 : Int32) : sx_RP xs (d + 7) 74 0 (lv_args 0 [.ref 0, .int a1]) [] w (fun r w2 => (∃ v : Int32, r = some (.int v)) ∧ WI w2 ∧ EQ w w2) := by
  have hE : EQ w w := EQ.rf
  refine sx_RP.step (pc2 := 1) (ls2 := [(0, .ref 0), (1, .int a1)]) (st2 := [.int a1]) (w3 := w) rfl rfl ?_
  rcases in_cases a1 0 5 (m := 0) (n := 5) rfl rfl (by decide) (by decide) with q1 | ⟨x2, hx3, hx4, rfl⟩
  · refine sx_RP.cu (as := [.int a1]) (rest2 := []) (st3 := [.int 0]) rfl rfl rfl rfl rfl (cx_22n q1) rfl ?_
    refine sx_RP.step (pc2 := 7) (ls2 := [(0, .ref 0), (1, .int a1)]) (st2 := []) (w3 := w) rfl rfl ?_
    refine sx_RP.step (pc2 := 8) (ls2 := [(0, .ref 0), (1, .int a1)]) (st2 := [.ref 0]) (w3 := w) rfl rfl ?_
    refine sx_RP.step (pc2 := 10) (ls2 := [(0, .ref 0), (1, .int a1)]) (st2 := [.int (-1000000001), .ref 0]) (w3 := w) rfl rfl ?_
    refine sx_RP.callp (as2 := [.ref 0, .int (-1000000001)]) (rest2 := []) rfl rfl (sx_inv_v2 (mi := 74) (k := 78) (st := [.int (-1000000001), .ref 0]) (w := w) rfl rfl hI.1.o0 rfl rfl rfl) rfl rfl rfl (Q9_0 hI) (show _ = 13 from rfl) ?_
    rintro r4 w6 ⟨rfl, hI7, hE9⟩
    have hE8 := hE.tr (hE9)
    show sx_RP _ _ _ _ _ [.int (-1000000001)] _ _
    refine sx_RP.ret (r := (some (.int (-1000000001)))) rfl rfl ?_
    exact ⟨⟨_, rfl⟩, hI7, hE8⟩
  · refine sx_RP.cu (as := [.int (nI x2)]) (rest2 := []) (st3 := [.int 1]) rfl rfl rfl rfl rfl (cx_22p ⟨nI_le (a := 0) hx3 (by omega), nI_le (b := 5) hx4 (by decide)⟩) rfl ?_
    refine sx_RP.step (pc2 := 14) (ls2 := [(0, .ref 0), (1, .int (nI x2))]) (st2 := []) (w3 := w) rfl rfl ?_
    refine sx_RP.step (pc2 := 15) (ls2 := [(0, .ref 0), (1, .int (nI x2))]) (st2 := [.ref 0]) (w3 := w) rfl rfl ?_
    refine sx_RP.gf (v := .ref 1) rfl rfl hI.1.o0 rfl rfl (show _ = 18 from rfl) ?_
    refine sx_RP.gc (k := 5) hI (Or.inl rfl) rfl rfl (by omega) (show _ = 21 from rfl) ?_
    obtain ⟨x10, hx11, ex12⟩ : inR (fi w 1 5) 9 := (hI.c (Or.inl rfl)).2
    rw [ex12]
    refine sx_RP.br (p1 := 31) (l1 := [(0, .ref 0), (1, .int (nI x2))]) (s1 := []) (v1 := w) (p2 := 24) (l2 := [(0, .ref 0), (1, .int (nI x2))]) (s2 := []) (v2 := w) rfl rfl (fun q13 => ?_) (fun q13 => ?_)
    · replace q13 := of_decide_eq_true q13
      replace q13 := mt (nI_eq (a := x10) (b := 0) (by omega) (by omega)).mpr q13
      refine sx_RP.step (pc2 := 32) (ls2 := [(0, .ref 0), (1, .int (nI x2))]) (st2 := [.ref 0]) (w3 := w) rfl rfl ?_
      refine sx_RP.gf (v := .ref 44) rfl rfl hI.1.o0 rfl rfl (show _ = 35 from rfl) ?_
      refine sx_RP.step (pc2 := 36) (ls2 := [(0, .ref 0), (1, .int (nI x2))]) (st2 := [.ref 0, .ref 44]) (w3 := w) rfl rfl ?_
      refine sx_RP.gf (v := .ref 1) rfl rfl hI.1.o0 rfl rfl (show _ = 39 from rfl) ?_
      refine sx_RP.gref (k := 0) (b := 2) hI (Or.inl rfl) rfl rfl (by omega) (show _ = 42 from rfl) ?_
      refine sx_RP.callp (as2 := [.ref 44, .ref 2]) (rest2 := []) rfl rfl (sx_inv_v2 (mi := 74) (k := 95) (st := [.ref 2, .ref 44]) (w := w) rfl rfl hI.1.o44 rfl rfl rfl) rfl rfl rfl (Q16 hI (Or.inl rfl)) (show _ = 45 from rfl) ?_
      rintro r4 w14 ⟨rfl, hI15, hE17⟩
      have hE16 := hE.tr (hE17)
      show sx_RP _ _ _ _ _ [] _ _
      refine sx_RP.step (pc2 := 46) (ls2 := [(0, .ref 0), (1, .int (nI x2))]) (st2 := [.ref 0]) (w3 := w14) rfl rfl ?_
      refine sx_RP.step (pc2 := 47) (ls2 := [(0, .ref 0), (1, .int (nI x2))]) (st2 := [.int (nI x2), .ref 0]) (w3 := w14) rfl rfl ?_
      refine sx_RP.callp (as2 := [.ref 0, .int (nI x2)]) (rest2 := []) rfl rfl (sx_inv_v2 (mi := 74) (k := 242) (st := [.int (nI x2), .ref 0]) (w := w14) rfl rfl hI15.1.o0 rfl rfl rfl) rfl rfl rfl (Q72 hI15 (show x2 ≤ 5 by omega)) (show _ = 50 from rfl) ?_
      rintro r4 w19 ⟨⟨v18, rfl⟩, hI20, hE22⟩
      have hE21 := hE16.tr (hE22)
      show sx_RP _ _ _ _ _ [.long v18] _ _
      refine sx_RP.step (pc2 := 51) (ls2 := [(2, .long v18), (0, .ref 0), (1, .int (nI x2))]) (st2 := []) (w3 := w19) rfl rfl ?_
      refine sx_RP.step (pc2 := 52) (ls2 := [(2, .long v18), (0, .ref 0), (1, .int (nI x2))]) (st2 := [.long v18]) (w3 := w19) rfl rfl ?_
      refine sx_RP.step (pc2 := 53) (ls2 := [(2, .long v18), (0, .ref 0), (1, .int (nI x2))]) (st2 := [.long 0, .long v18]) (w3 := w19) rfl rfl ?_
      refine sx_RP.step (pc2 := 54) (ls2 := [(2, .long v18), (0, .ref 0), (1, .int (nI x2))]) (st2 := [.int (lg_cmp v18 0)]) (w3 := w19) rfl rfl ?_
      refine sx_RP.br (p1 := 64) (l1 := [(2, .long v18), (0, .ref 0), (1, .int (nI x2))]) (s1 := []) (v1 := w19) (p2 := 57) (l2 := [(2, .long v18), (0, .ref 0), (1, .int (nI x2))]) (s2 := []) (v2 := w19) rfl rfl (fun q23 => ?_) (fun q23 => ?_)
      · replace q23 := of_decide_eq_true q23
        refine sx_RP.step (pc2 := 65) (ls2 := [(2, .long v18), (0, .ref 0), (1, .int (nI x2))]) (st2 := [.ref 0]) (w3 := w19) rfl rfl ?_
        refine sx_RP.gf (v := .ref 1) rfl rfl hI20.1.o0 rfl rfl (show _ = 68 from rfl) ?_
        rcases p63 (xs := xs) hI20 (Or.inl rfl) with c24 | ⟨⟨x25, hx26, ex27⟩, c24⟩
        · refine sx_RP.cu (as := [.ref 1]) (rest2 := []) (st3 := [.int 0]) rfl rfl (sx_inv_v2 (mi := 74) (k := 219) (st := [.ref 1]) (w := w19) rfl rfl (hI20.1.oC (Or.inl rfl)) rfl rfl rfl) rfl rfl (c24) rfl ?_
          refine sx_RP.step (pc2 := 74) (ls2 := [(2, .long v18), (0, .ref 0), (1, .int (nI x2))]) (st2 := []) (w3 := w19) rfl rfl ?_
          refine sx_RP.step (pc2 := 75) (ls2 := [(2, .long v18), (0, .ref 0), (1, .int (nI x2))]) (st2 := [.ref 0]) (w3 := w19) rfl rfl ?_
          refine sx_RP.step (pc2 := 77) (ls2 := [(2, .long v18), (0, .ref 0), (1, .int (nI x2))]) (st2 := [.int (-1000000002), .ref 0]) (w3 := w19) rfl rfl ?_
          refine sx_RP.callp (as2 := [.ref 0, .int (-1000000002)]) (rest2 := []) rfl rfl (sx_inv_v2 (mi := 74) (k := 78) (st := [.int (-1000000002), .ref 0]) (w := w19) rfl rfl hI20.1.o0 rfl rfl rfl) rfl rfl rfl (Q9_1 hI20) (show _ = 80 from rfl) ?_
          rintro r4 w28 ⟨rfl, hI29, hE31⟩
          have hE30 := hE21.tr (hE31)
          show sx_RP _ _ _ _ _ [.int (-1000000002)] _ _
          refine sx_RP.ret (r := (some (.int (-1000000002)))) rfl rfl ?_
          exact ⟨⟨_, rfl⟩, hI29, hE30⟩
        · refine sx_RP.cu (as := [.ref 1]) (rest2 := []) (st3 := [.int 1]) rfl rfl (sx_inv_v2 (mi := 74) (k := 219) (st := [.ref 1]) (w := w19) rfl rfl (hI20.1.oC (Or.inl rfl)) rfl rfl rfl) rfl rfl (c24) rfl ?_
          refine sx_RP.step (pc2 := 81) (ls2 := [(2, .long v18), (0, .ref 0), (1, .int (nI x2))]) (st2 := []) (w3 := w19) rfl rfl ?_
          refine sx_RP.step (pc2 := 83) (ls2 := [(2, .long v18), (0, .ref 0), (1, .int (nI x2))]) (st2 := [.int 49]) (w3 := w19) rfl rfl ?_
          refine sx_RP.step (pc2 := 85) (ls2 := [(4, .int 49), (2, .long v18), (0, .ref 0), (1, .int (nI x2))]) (st2 := []) (w3 := w19) rfl rfl ?_
          refine sx_RP.step (pc2 := 86) (ls2 := [(4, .int 49), (2, .long v18), (0, .ref 0), (1, .int (nI x2))]) (st2 := [.int 0]) (w3 := w19) rfl rfl ?_
          refine sx_RP.step (pc2 := 88) (ls2 := [(5, .int 0), (4, .int 49), (2, .long v18), (0, .ref 0), (1, .int (nI x2))]) (st2 := []) (w3 := w19) rfl rfl ?_
          refine sx_RP.step (pc2 := 89) (ls2 := [(5, .int 0), (4, .int 49), (2, .long v18), (0, .ref 0), (1, .int (nI x2))]) (st2 := [.int 0]) (w3 := w19) rfl rfl ?_
          refine sx_RP.step (pc2 := 91) (ls2 := [(6, .int 0), (5, .int 0), (4, .int 49), (2, .long v18), (0, .ref 0), (1, .int (nI x2))]) (st2 := []) (w3 := w19) rfl rfl ?_
          exact sx_RP.ls (sx_lr.cons rfl (sx_lr.cons rfl (sx_lr.cons rfl (sx_lr.cons rfl (sx_lr.cons rfl (sx_lr.cons rfl sx_lr.nil)))))) (Q74L v18 (show x2 ≤ 5 by omega) 48 0 w19 49 0 (by omega) (by omega) hI20 hE21 )
      · replace q23 := Decidable.not_not.mp (of_decide_eq_false q23)
        refine sx_RP.step (pc2 := 58) (ls2 := [(2, .long v18), (0, .ref 0), (1, .int (nI x2))]) (st2 := [.ref 0]) (w3 := w19) rfl rfl ?_
        refine sx_RP.step (pc2 := 60) (ls2 := [(2, .long v18), (0, .ref 0), (1, .int (nI x2))]) (st2 := [.int (-1000000004), .ref 0]) (w3 := w19) rfl rfl ?_
        refine sx_RP.callp (as2 := [.ref 0, .int (-1000000004)]) (rest2 := []) rfl rfl (sx_inv_v2 (mi := 74) (k := 78) (st := [.int (-1000000004), .ref 0]) (w := w19) rfl rfl hI20.1.o0 rfl rfl rfl) rfl rfl rfl (Q9_3 hI20) (show _ = 63 from rfl) ?_
        rintro r4 w32 ⟨rfl, hI33, hE35⟩
        have hE34 := hE21.tr (hE35)
        show sx_RP _ _ _ _ _ [.int (-1000000004)] _ _
        refine sx_RP.ret (r := (some (.int (-1000000004)))) rfl rfl ?_
        exact ⟨⟨_, rfl⟩, hI33, hE34⟩
    · replace q13 := Decidable.not_not.mp (of_decide_eq_false q13)
      replace q13 := (nI_eq (a := x10) (b := 0) (by omega) (by omega)).mp q13
      refine sx_RP.step (pc2 := 25) (ls2 := [(0, .ref 0), (1, .int (nI x2))]) (st2 := [.ref 0]) (w3 := w) rfl rfl ?_
      refine sx_RP.step (pc2 := 27) (ls2 := [(0, .ref 0), (1, .int (nI x2))]) (st2 := [.int (-1000000004), .ref 0]) (w3 := w) rfl rfl ?_
      refine sx_RP.callp (as2 := [.ref 0, .int (-1000000004)]) (rest2 := []) rfl rfl (sx_inv_v2 (mi := 74) (k := 78) (st := [.int (-1000000004), .ref 0]) (w := w) rfl rfl hI.1.o0 rfl rfl rfl) rfl rfl rfl (Q9_3 hI) (show _ = 30 from rfl) ?_
      rintro r4 w36 ⟨rfl, hI37, hE39⟩
      have hE38 := hE.tr (hE39)
      show sx_RP _ _ _ _ _ [.int (-1000000004)] _ _
      refine sx_RP.ret (r := (some (.int (-1000000004)))) rfl rfl ?_
      exact ⟨⟨_, rfl⟩, hI37, hE38⟩
set_option maxRecDepth 20000 in
set_option maxHeartbeats 4000000 in
theorem Q81B {xs : Option (List Int32)} {d : Nat} {w w0 : List sx_C} {n : Nat} (hI : WI w) (hE : EQ w0 w) {j : Nat} (hj : j ≤ 48) (m : Int32) (l : Int32) (kk : ∀ (w4 : List sx_C) (um : Int32) (ul : Int32), WI w4 → EQ w0 w4 → j + 1 ≤ 48 → sx_RP xs (d + 7) 81 24 [(0, .ref 0), (1, .int (nI n)), (2, .int um), (3, .int ul), (4, .int (nI (j + 1)))] [] w4 (fun r w2 => (∃ v : Int32, r = some (.int v)) ∧ WI w2 ∧ EQ w0 w2)) : sx_RP xs (d + 7) 81 24 [(0, .ref 0), (1, .int (nI n)), (2, .int m), (3, .int l), (4, .int (nI j))] [] w (fun r w2 => (∃ v : Int32, r = some (.int v)) ∧ WI w2 ∧ EQ w0 w2) := by
  refine sx_RP.step (pc2 := 26) (ls2 := [(0, .ref 0), (1, .int (nI n)), (2, .int m), (3, .int l), (4, .int (nI j))]) (st2 := [.int (nI j)]) (w3 := w) rfl rfl ?_
  refine sx_RP.step (pc2 := 28) (ls2 := [(0, .ref 0), (1, .int (nI n)), (2, .int m), (3, .int l), (4, .int (nI j))]) (st2 := [.int 48, .int (nI j)]) (w3 := w) rfl rfl ?_
  refine sx_RP.br (p1 := 86) (l1 := [(0, .ref 0), (1, .int (nI n)), (2, .int m), (3, .int l), (4, .int (nI j))]) (s1 := []) (v1 := w) (p2 := 31) (l2 := [(0, .ref 0), (1, .int (nI n)), (2, .int m), (3, .int l), (4, .int (nI j))]) (s2 := []) (v2 := w) rfl rfl (fun q1 => ?_) (fun q1 => ?_)
  · replace q1 := of_decide_eq_true q1
    replace q1 := (nI_leI (a := 48) (b := j) (by omega) (by omega)).mp q1
    refine sx_RP.step (pc2 := 87) (ls2 := [(0, .ref 0), (1, .int (nI n)), (2, .int m), (3, .int l), (4, .int (nI j))]) (st2 := [.int l]) (w3 := w) rfl rfl ?_
    refine sx_RP.step (pc2 := 88) (ls2 := [(0, .ref 0), (1, .int (nI n)), (2, .int m), (3, .int l), (4, .int (nI j))]) (st2 := [.int (-1), .int l]) (w3 := w) rfl rfl ?_
    refine sx_RP.br (p1 := 100) (l1 := [(0, .ref 0), (1, .int (nI n)), (2, .int m), (3, .int l), (4, .int (nI j))]) (s1 := []) (v1 := w) (p2 := 91) (l2 := [(0, .ref 0), (1, .int (nI n)), (2, .int m), (3, .int l), (4, .int (nI j))]) (s2 := []) (v2 := w) rfl rfl (fun q2 => ?_) (fun q2 => ?_)
    · replace q2 := of_decide_eq_true q2
      refine sx_RP.step (pc2 := 101) (ls2 := [(0, .ref 0), (1, .int (nI n)), (2, .int m), (3, .int l), (4, .int (nI j))]) (st2 := [.int l]) (w3 := w) rfl rfl ?_
      refine sx_RP.ret (r := (some (.int l))) rfl rfl ?_
      exact ⟨⟨_, rfl⟩, hI, hE⟩
    · replace q2 := Decidable.not_not.mp (of_decide_eq_false q2)
      refine sx_RP.step (pc2 := 92) (ls2 := [(0, .ref 0), (1, .int (nI n)), (2, .int m), (3, .int l), (4, .int (nI j))]) (st2 := [.ref 0]) (w3 := w) rfl rfl ?_
      refine sx_RP.step (pc2 := 94) (ls2 := [(0, .ref 0), (1, .int (nI n)), (2, .int m), (3, .int l), (4, .int (nI j))]) (st2 := [.int (-1000000004), .ref 0]) (w3 := w) rfl rfl ?_
      refine sx_RP.callp (as2 := [.ref 0, .int (-1000000004)]) (rest2 := []) rfl rfl (sx_inv_v2 (mi := 81) (k := 78) (st := [.int (-1000000004), .ref 0]) (w := w) rfl rfl hI.1.o0 rfl rfl rfl) rfl rfl rfl (Q9_3 hI) (show _ = 97 from rfl) ?_
      rintro r4 w3 ⟨rfl, hI4, hE6⟩
      have hE5 := hE.tr (hE6)
      show sx_RP _ _ _ _ _ [.int (-1000000004)] _ _
      refine sx_RP.step (pc2 := 101) (ls2 := [(0, .ref 0), (1, .int (nI n)), (2, .int m), (3, .int l), (4, .int (nI j))]) (st2 := [.int (-1000000004)]) (w3 := w3) rfl rfl ?_
      refine sx_RP.ret (r := (some (.int (-1000000004)))) rfl rfl ?_
      exact ⟨⟨_, rfl⟩, hI4, hE5⟩
  · replace q1 := of_decide_eq_false q1
    replace q1 := mt (nI_leI (a := 48) (b := j) (by omega) (by omega)).mpr q1
    refine sx_RP.step (pc2 := 32) (ls2 := [(0, .ref 0), (1, .int (nI n)), (2, .int m), (3, .int l), (4, .int (nI j))]) (st2 := [.ref 0]) (w3 := w) rfl rfl ?_
    refine sx_RP.gf (v := .ref 1) rfl rfl hI.1.o0 rfl rfl (show _ = 35 from rfl) ?_
    refine sx_RP.step (pc2 := 37) (ls2 := [(0, .ref 0), (1, .int (nI n)), (2, .int m), (3, .int l), (4, .int (nI j))]) (st2 := [.int (nI j), .ref 1]) (w3 := w) rfl rfl ?_
    refine sx_RP.step (pc2 := 38) (ls2 := [(0, .ref 0), (1, .int (nI n)), (2, .int m), (3, .int l), (4, .int (nI j))]) (st2 := [.int (nI n), .int (nI j), .ref 1]) (w3 := w) rfl rfl ?_
    obtain ⟨v7, c8⟩ := p77 hI (Or.inl rfl) (nI j) (nI n)
    refine sx_RP.cu (as := [.ref 1, .int (nI j), .int (nI n)]) (rest2 := []) (st3 := [.long v7]) rfl rfl (sx_inv_v2 (mi := 81) (k := 253) (st := [.int (nI n), .int (nI j), .ref 1]) (w := w) rfl rfl (hI.1.oC (Or.inl rfl)) rfl rfl rfl) rfl rfl (c8) rfl ?_
    refine sx_RP.step (pc2 := 42) (ls2 := [(0, .ref 0), (1, .int (nI n)), (2, .int m), (3, .int l), (4, .int (nI j))]) (st2 := [.ref 0, .long v7]) (w3 := w) rfl rfl ?_
    refine sx_RP.gf (v := .ref 1) rfl rfl hI.1.o0 rfl rfl (show _ = 45 from rfl) ?_
    refine sx_RP.gw hI (Or.inl rfl) rfl rfl (show _ = 48 from rfl) ?_
    refine sx_RP.step (pc2 := 49) (ls2 := [(0, .ref 0), (1, .int (nI n)), (2, .int m), (3, .int l), (4, .int (nI j))]) (st2 := [.long (v7 &&& (fj w 1 1))]) (w3 := w) rfl rfl ?_
    obtain ⟨v9, c10⟩ := p78 hI (v7 &&& (fj w 1 1))
    refine sx_RP.cu (as := [.long (v7 &&& (fj w 1 1))]) (rest2 := []) (st3 := [.int v9]) rfl rfl rfl rfl rfl (c10) rfl ?_
    refine sx_RP.step (pc2 := 54) (ls2 := [(5, .int v9), (0, .ref 0), (1, .int (nI n)), (2, .int m), (3, .int l), (4, .int (nI j))]) (st2 := []) (w3 := w) rfl rfl ?_
    refine sx_RP.step (pc2 := 55) (ls2 := [(5, .int v9), (0, .ref 0), (1, .int (nI n)), (2, .int m), (3, .int l), (4, .int (nI j))]) (st2 := [.ref 0]) (w3 := w) rfl rfl ?_
    refine sx_RP.gf (v := .ref 1) rfl rfl hI.1.o0 rfl rfl (show _ = 58 from rfl) ?_
    refine sx_RP.gref (k := 0) (b := 2) hI (Or.inl rfl) rfl rfl (by omega) (show _ = 61 from rfl) ?_
    refine sx_RP.step (pc2 := 63) (ls2 := [(5, .int v9), (0, .ref 0), (1, .int (nI n)), (2, .int m), (3, .int l), (4, .int (nI j))]) (st2 := [.int (nI j), .ref 2]) (w3 := w) rfl rfl ?_
    refine sx_RP.ild (c := j) rfl (hI.1.aS (Or.inl rfl)).1 (hI.1.aS (Or.inl rfl)).2 (sx_in_nI (show j < 48 by omega) (by decide)) (show (nI j).toNatClampNeg = j from nI_clamp (by omega)) (show _ = 64 from rfl) ?_
    obtain ⟨x11, hx12, ex13⟩ : inR ((ia w 2).getD j 0) 3 := hI.st (Or.inl rfl) (show j < 48 by omega)
    rw [ex13]
    refine sx_RP.step (pc2 := 65) (ls2 := [(5, .int v9), (0, .ref 0), (1, .int (nI n)), (2, .int m), (3, .int l), (4, .int (nI j))]) (st2 := [.int 3, .int (nI x11)]) (w3 := w) rfl rfl ?_
    refine sx_RP.br (p1 := 80) (l1 := [(5, .int v9), (0, .ref 0), (1, .int (nI n)), (2, .int m), (3, .int l), (4, .int (nI j))]) (s1 := []) (v1 := w) (p2 := 68) (l2 := [(5, .int v9), (0, .ref 0), (1, .int (nI n)), (2, .int m), (3, .int l), (4, .int (nI j))]) (s2 := []) (v2 := w) rfl rfl (fun q14 => ?_) (fun q14 => ?_)
    · replace q14 := of_decide_eq_true q14
      replace q14 := (nI_eq (a := x11) (b := 3) (by omega) (by omega)).mp q14
      refine sx_RP.step (pc2 := 83) (ls2 := [(4, .int ((nI j) + 1)), (5, .int v9), (0, .ref 0), (1, .int (nI n)), (2, .int m), (3, .int l)]) (st2 := []) (w3 := w) rfl rfl ?_
      rw [nI_1 j]
      refine sx_RP.step (pc2 := 24) (ls2 := [(4, .int (nI (j + 1))), (5, .int v9), (0, .ref 0), (1, .int (nI n)), (2, .int m), (3, .int l)]) (st2 := []) (w3 := w) rfl rfl ?_
      exact sx_RP.ls (sx_lr.cons rfl (sx_lr.cons rfl (sx_lr.cons rfl (sx_lr.cons rfl (sx_lr.cons rfl sx_lr.nil))))) (kk w m l hI hE (by omega))
    · replace q14 := of_decide_eq_false q14
      replace q14 := mt (nI_eq (a := x11) (b := 3) (by omega) (by omega)).mpr q14
      refine sx_RP.step (pc2 := 70) (ls2 := [(5, .int v9), (0, .ref 0), (1, .int (nI n)), (2, .int m), (3, .int l), (4, .int (nI j))]) (st2 := [.int v9]) (w3 := w) rfl rfl ?_
      refine sx_RP.step (pc2 := 71) (ls2 := [(5, .int v9), (0, .ref 0), (1, .int (nI n)), (2, .int m), (3, .int l), (4, .int (nI j))]) (st2 := [.int m, .int v9]) (w3 := w) rfl rfl ?_
      refine sx_RP.br (p1 := 80) (l1 := [(5, .int v9), (0, .ref 0), (1, .int (nI n)), (2, .int m), (3, .int l), (4, .int (nI j))]) (s1 := []) (v1 := w) (p2 := 74) (l2 := [(5, .int v9), (0, .ref 0), (1, .int (nI n)), (2, .int m), (3, .int l), (4, .int (nI j))]) (s2 := []) (v2 := w) rfl rfl (fun q15 => ?_) (fun q15 => ?_)
      · replace q15 := of_decide_eq_true q15
        refine sx_RP.step (pc2 := 83) (ls2 := [(4, .int ((nI j) + 1)), (5, .int v9), (0, .ref 0), (1, .int (nI n)), (2, .int m), (3, .int l)]) (st2 := []) (w3 := w) rfl rfl ?_
        rw [nI_1 j]
        refine sx_RP.step (pc2 := 24) (ls2 := [(4, .int (nI (j + 1))), (5, .int v9), (0, .ref 0), (1, .int (nI n)), (2, .int m), (3, .int l)]) (st2 := []) (w3 := w) rfl rfl ?_
        exact sx_RP.ls (sx_lr.cons rfl (sx_lr.cons rfl (sx_lr.cons rfl (sx_lr.cons rfl (sx_lr.cons rfl sx_lr.nil))))) (kk w m l hI hE (by omega))
      · replace q15 := of_decide_eq_false q15
        refine sx_RP.step (pc2 := 76) (ls2 := [(5, .int v9), (0, .ref 0), (1, .int (nI n)), (2, .int m), (3, .int l), (4, .int (nI j))]) (st2 := [.int v9]) (w3 := w) rfl rfl ?_
        refine sx_RP.step (pc2 := 77) (ls2 := [(2, .int v9), (5, .int v9), (0, .ref 0), (1, .int (nI n)), (3, .int l), (4, .int (nI j))]) (st2 := []) (w3 := w) rfl rfl ?_
        refine sx_RP.step (pc2 := 79) (ls2 := [(2, .int v9), (5, .int v9), (0, .ref 0), (1, .int (nI n)), (3, .int l), (4, .int (nI j))]) (st2 := [.int (nI j)]) (w3 := w) rfl rfl ?_
        refine sx_RP.step (pc2 := 80) (ls2 := [(3, .int (nI j)), (2, .int v9), (5, .int v9), (0, .ref 0), (1, .int (nI n)), (4, .int (nI j))]) (st2 := []) (w3 := w) rfl rfl ?_
        refine sx_RP.step (pc2 := 83) (ls2 := [(4, .int ((nI j) + 1)), (3, .int (nI j)), (2, .int v9), (5, .int v9), (0, .ref 0), (1, .int (nI n))]) (st2 := []) (w3 := w) rfl rfl ?_
        rw [nI_1 j]
        refine sx_RP.step (pc2 := 24) (ls2 := [(4, .int (nI (j + 1))), (3, .int (nI j)), (2, .int v9), (5, .int v9), (0, .ref 0), (1, .int (nI n))]) (st2 := []) (w3 := w) rfl rfl ?_
        exact sx_RP.ls (sx_lr.cons rfl (sx_lr.cons rfl (sx_lr.cons rfl (sx_lr.cons rfl (sx_lr.cons rfl sx_lr.nil))))) (kk w v9 (nI j) hI hE (by omega))
set_option maxRecDepth 20000 in
set_option maxHeartbeats 4000000 in
theorem Q81L {xs : Option (List Int32)} {d : Nat} {w0 : List sx_C} {n : Nat} : ∀ (fz j : Nat) (w : List sx_C) (m : Int32) (l : Int32) , 48 ≤ j + fz * 1 → j ≤ 48 → WI w → EQ w0 w → sx_RP xs (d + 7) 81 24 [(0, .ref 0), (1, .int (nI n)), (2, .int m), (3, .int l), (4, .int (nI j))] [] w (fun r w2 => (∃ v : Int32, r = some (.int v)) ∧ WI w2 ∧ EQ w0 w2)
  | 0, j, w, m, l, h, hj, hI, hE => Q81B (n := n) hI hE hj m l  (fun w4 um ul hI4 hE4 hlt  => absurd hlt (by omega)) 
  | fz + 1, j, w, m, l, h, hj, hI, hE => Q81B (n := n) hI hE hj m l  (fun w4 um ul hI4 hE4 hlt  => Q81L (n := n)  fz (j + 1) w4 um ul (by omega) hlt hI4 hE4 ) 
set_option maxRecDepth 20000 in
set_option maxHeartbeats 4000000 in
theorem Q81 {xs : Option (List Int32)} {d : Nat} {w : List sx_C} (hI : WI w) (a1 : Int32) : sx_RP xs (d + 7) 81 0 (lv_args 0 [.ref 0, .int a1]) [] w (fun r w2 => (∃ v : Int32, r = some (.int v)) ∧ WI w2 ∧ EQ w w2) := by
  have hE : EQ w w := EQ.rf
  refine sx_RP.step (pc2 := 1) (ls2 := [(0, .ref 0), (1, .int a1)]) (st2 := [.int a1]) (w3 := w) rfl rfl ?_
  refine sx_RP.step (pc2 := 2) (ls2 := [(0, .ref 0), (1, .int a1)]) (st2 := [.int 1, .int a1]) (w3 := w) rfl rfl ?_
  refine sx_RP.step (pc2 := 4) (ls2 := [(0, .ref 0), (1, .int a1)]) (st2 := [.int 30, .int 1, .int a1]) (w3 := w) rfl rfl ?_
  rcases in_cases a1 1 30 (m := 1) (n := 30) rfl rfl (by decide) (by decide) with q1 | ⟨x2, hx3, hx4, rfl⟩
  · refine sx_RP.cu (as := [.int a1, .int 1, .int 30]) (rest2 := []) (st3 := [.int 0]) rfl rfl rfl rfl rfl (cx_8n q1) rfl ?_
    refine sx_RP.step (pc2 := 10) (ls2 := [(0, .ref 0), (1, .int a1)]) (st2 := []) (w3 := w) rfl rfl ?_
    refine sx_RP.step (pc2 := 11) (ls2 := [(0, .ref 0), (1, .int a1)]) (st2 := [.ref 0]) (w3 := w) rfl rfl ?_
    refine sx_RP.step (pc2 := 13) (ls2 := [(0, .ref 0), (1, .int a1)]) (st2 := [.int (-1000000001), .ref 0]) (w3 := w) rfl rfl ?_
    refine sx_RP.callp (as2 := [.ref 0, .int (-1000000001)]) (rest2 := []) rfl rfl (sx_inv_v2 (mi := 81) (k := 78) (st := [.int (-1000000001), .ref 0]) (w := w) rfl rfl hI.1.o0 rfl rfl rfl) rfl rfl rfl (Q9_0 hI) (show _ = 16 from rfl) ?_
    rintro r4 w6 ⟨rfl, hI7, hE9⟩
    have hE8 := hE.tr (hE9)
    show sx_RP _ _ _ _ _ [.int (-1000000001)] _ _
    refine sx_RP.ret (r := (some (.int (-1000000001)))) rfl rfl ?_
    exact ⟨⟨_, rfl⟩, hI7, hE8⟩
  · refine sx_RP.cu (as := [.int (nI x2), .int 1, .int 30]) (rest2 := []) (st3 := [.int 1]) rfl rfl rfl rfl rfl (cx_8p ⟨nI_le (a := 1) hx3 (by omega), nI_le (b := 30) hx4 (by decide)⟩) rfl ?_
    refine sx_RP.step (pc2 := 17) (ls2 := [(0, .ref 0), (1, .int (nI x2))]) (st2 := []) (w3 := w) rfl rfl ?_
    refine sx_RP.step (pc2 := 18) (ls2 := [(0, .ref 0), (1, .int (nI x2))]) (st2 := [.int 0]) (w3 := w) rfl rfl ?_
    refine sx_RP.step (pc2 := 19) (ls2 := [(2, .int 0), (0, .ref 0), (1, .int (nI x2))]) (st2 := []) (w3 := w) rfl rfl ?_
    refine sx_RP.step (pc2 := 20) (ls2 := [(2, .int 0), (0, .ref 0), (1, .int (nI x2))]) (st2 := [.int (-1)]) (w3 := w) rfl rfl ?_
    refine sx_RP.step (pc2 := 21) (ls2 := [(3, .int (-1)), (2, .int 0), (0, .ref 0), (1, .int (nI x2))]) (st2 := []) (w3 := w) rfl rfl ?_
    refine sx_RP.step (pc2 := 22) (ls2 := [(3, .int (-1)), (2, .int 0), (0, .ref 0), (1, .int (nI x2))]) (st2 := [.int 0]) (w3 := w) rfl rfl ?_
    refine sx_RP.step (pc2 := 24) (ls2 := [(4, .int 0), (3, .int (-1)), (2, .int 0), (0, .ref 0), (1, .int (nI x2))]) (st2 := []) (w3 := w) rfl rfl ?_
    exact sx_RP.ls (sx_lr.cons rfl (sx_lr.cons rfl (sx_lr.cons rfl (sx_lr.cons rfl (sx_lr.cons rfl sx_lr.nil))))) (Q81L  48 0 w 0 (-1) (by omega) (by omega) hI hE )
set_option maxRecDepth 20000 in
set_option maxHeartbeats 4000000 in
theorem Q122B {xs : Option (List Int32)} {d : Nat} {w w0 : List sx_C} {s : Nat} (a1 : Int32) (hs : s < 4) (hI : WI w) (hE : EQ w0 w) {j : Nat} (hj : j ≤ 61) (kk : ∀ (w4 : List sx_C), WI w4 → EQ w0 w4 → j + 1 ≤ 61 → sx_RP xs (d + 7) 122 82 [(0, .ref 0), (1, .int a1), (2, .ref (103 + 2 * s)), (3, .int (nI (j + 1)))] [] w4 (fun r w2 => (∃ v : Int32, r = some (.int v)) ∧ WI w2 ∧ EQ w0 w2)) : sx_RP xs (d + 7) 122 82 [(0, .ref 0), (1, .int a1), (2, .ref (103 + 2 * s)), (3, .int (nI j))] [] w (fun r w2 => (∃ v : Int32, r = some (.int v)) ∧ WI w2 ∧ EQ w0 w2) := by
  refine sx_RP.step (pc2 := 83) (ls2 := [(0, .ref 0), (1, .int a1), (2, .ref (103 + 2 * s)), (3, .int (nI j))]) (st2 := [.int (nI j)]) (w3 := w) rfl rfl ?_
  refine sx_RP.step (pc2 := 85) (ls2 := [(0, .ref 0), (1, .int a1), (2, .ref (103 + 2 * s)), (3, .int (nI j))]) (st2 := [.int 60, .int (nI j)]) (w3 := w) rfl rfl ?_
  refine sx_RP.br (p1 := 120) (l1 := [(0, .ref 0), (1, .int a1), (2, .ref (103 + 2 * s)), (3, .int (nI j))]) (s1 := []) (v1 := w) (p2 := 88) (l2 := [(0, .ref 0), (1, .int a1), (2, .ref (103 + 2 * s)), (3, .int (nI j))]) (s2 := []) (v2 := w) rfl rfl (fun q1 => ?_) (fun q1 => ?_)
  · replace q1 := of_decide_eq_true q1
    replace q1 := (nI_ltI (a := 60) (b := j) (by omega) (by omega)).mp q1
    refine sx_RP.step (pc2 := 121) (ls2 := [(0, .ref 0), (1, .int a1), (2, .ref (103 + 2 * s)), (3, .int (nI j))]) (st2 := [.ref 0]) (w3 := w) rfl rfl ?_
    refine sx_RP.step (pc2 := 123) (ls2 := [(0, .ref 0), (1, .int a1), (2, .ref (103 + 2 * s)), (3, .int (nI j))]) (st2 := [.int (-1000000004), .ref 0]) (w3 := w) rfl rfl ?_
    refine sx_RP.callp (as2 := [.ref 0, .int (-1000000004)]) (rest2 := []) rfl rfl (sx_inv_v2 (mi := 122) (k := 78) (st := [.int (-1000000004), .ref 0]) (w := w) rfl rfl hI.1.o0 rfl rfl rfl) rfl rfl rfl (Q9_3 hI) (show _ = 126 from rfl) ?_
    rintro r4 w2 ⟨rfl, hI3, hE5⟩
    have hE4 := hE.tr (hE5)
    show sx_RP _ _ _ _ _ [.int (-1000000004)] _ _
    refine sx_RP.ret (r := (some (.int (-1000000004)))) rfl rfl ?_
    exact ⟨⟨_, rfl⟩, hI3, hE4⟩
  · replace q1 := of_decide_eq_false q1
    replace q1 := mt (nI_ltI (a := 60) (b := j) (by omega) (by omega)).mpr q1
    refine sx_RP.step (pc2 := 89) (ls2 := [(0, .ref 0), (1, .int a1), (2, .ref (103 + 2 * s)), (3, .int (nI j))]) (st2 := [.int (nI j)]) (w3 := w) rfl rfl ?_
    refine sx_RP.br (p1 := 100) (l1 := [(0, .ref 0), (1, .int a1), (2, .ref (103 + 2 * s)), (3, .int (nI j))]) (s1 := []) (v1 := w) (p2 := 92) (l2 := [(0, .ref 0), (1, .int a1), (2, .ref (103 + 2 * s)), (3, .int (nI j))]) (s2 := []) (v2 := w) rfl rfl (fun q6 => ?_) (fun q6 => ?_)
    · replace q6 := of_decide_eq_true q6
      replace q6 := (nI_leI (a := j) (b := 0) (by omega) (by omega)).mp q6
      refine sx_RP.step (pc2 := 101) (ls2 := [(0, .ref 0), (1, .int a1), (2, .ref (103 + 2 * s)), (3, .int (nI j))]) (st2 := [.ref 0]) (w3 := w) rfl rfl ?_
      refine sx_RP.step (pc2 := 102) (ls2 := [(0, .ref 0), (1, .int a1), (2, .ref (103 + 2 * s)), (3, .int (nI j))]) (st2 := [.ref 0, .ref 0]) (w3 := w) rfl rfl ?_
      refine sx_RP.gf (v := .ref 29) rfl rfl hI.1.o0 rfl rfl (show _ = 105 from rfl) ?_
      refine sx_RP.step (pc2 := 106) (ls2 := [(0, .ref 0), (1, .int a1), (2, .ref (103 + 2 * s)), (3, .int (nI j))]) (st2 := [.ref (103 + 2 * s), .ref 29, .ref 0]) (w3 := w) rfl rfl ?_
      refine sx_RP.callp (as2 := [.ref 0, .ref 29, .ref (103 + 2 * s)]) (rest2 := []) rfl rfl (sx_inv_v2 (mi := 122) (k := 341) (st := [.ref (103 + 2 * s), .ref 29, .ref 0]) (w := w) rfl rfl hI.1.o0 rfl rfl rfl) rfl rfl rfl (Q123 hI (Or.inr (Or.inr rfl)) (show s < 4 by omega)) (show _ = 109 from rfl) ?_
      rintro r4 w9 ⟨⟨x7, hx8, rfl⟩, hI10, hE12⟩
      have hE11 := hE.tr (hE12)
      show sx_RP _ _ _ _ _ [.int (nI x7)] _ _
      refine sx_RP.br (p1 := 114) (l1 := [(0, .ref 0), (1, .int a1), (2, .ref (103 + 2 * s)), (3, .int (nI j))]) (s1 := []) (v1 := w9) (p2 := 112) (l2 := [(0, .ref 0), (1, .int a1), (2, .ref (103 + 2 * s)), (3, .int (nI j))]) (s2 := []) (v2 := w9) rfl rfl (fun q13 => ?_) (fun q13 => ?_)
      · replace q13 := of_decide_eq_true q13
        replace q13 := (nI_eq (a := x7) (b := 0) (by omega) (by omega)).mp q13
        refine sx_RP.step (pc2 := 117) (ls2 := [(3, .int ((nI j) + 1)), (0, .ref 0), (1, .int a1), (2, .ref (103 + 2 * s))]) (st2 := []) (w3 := w9) rfl rfl ?_
        rw [nI_1 j]
        refine sx_RP.step (pc2 := 82) (ls2 := [(3, .int (nI (j + 1))), (0, .ref 0), (1, .int a1), (2, .ref (103 + 2 * s))]) (st2 := []) (w3 := w9) rfl rfl ?_
        exact sx_RP.ls (sx_lr.cons rfl (sx_lr.cons rfl (sx_lr.cons rfl (sx_lr.cons rfl sx_lr.nil)))) (kk w9 hI10 hE11 (by omega))
      · replace q13 := of_decide_eq_false q13
        replace q13 := mt (nI_eq (a := x7) (b := 0) (by omega) (by omega)).mpr q13
        refine sx_RP.step (pc2 := 113) (ls2 := [(0, .ref 0), (1, .int a1), (2, .ref (103 + 2 * s)), (3, .int (nI j))]) (st2 := [.int (nI j)]) (w3 := w9) rfl rfl ?_
        refine sx_RP.ret (r := (some (.int (nI j)))) rfl rfl ?_
        exact ⟨⟨_, rfl⟩, hI10, hE11⟩
    · replace q6 := of_decide_eq_false q6
      replace q6 := mt (nI_leI (a := j) (b := 0) (by omega) (by omega)).mpr q6
      refine sx_RP.step (pc2 := 93) (ls2 := [(0, .ref 0), (1, .int a1), (2, .ref (103 + 2 * s)), (3, .int (nI j))]) (st2 := [.ref 0]) (w3 := w) rfl rfl ?_
      refine sx_RP.gf (v := .ref 29) rfl rfl hI.1.o0 rfl rfl (show _ = 96 from rfl) ?_
      refine sx_RP.callp (as2 := [.ref 29]) (rest2 := []) rfl rfl (sx_inv_v2 (mi := 122) (k := 166) (st := [.ref 29]) (w := w) rfl rfl (hI.1.oC (Or.inr (Or.inr rfl))) rfl rfl rfl) rfl rfl rfl (Q41 hI (Or.inr (Or.inr rfl)) (by omega)) (show _ = 99 from rfl) ?_
      rintro r4 w15 ⟨⟨v14, rfl⟩, hI16, hE18⟩
      have hE17 := hE.tr (hE18)
      show sx_RP _ _ _ _ _ [.int v14] _ _
      refine sx_RP.step (pc2 := 100) (ls2 := [(0, .ref 0), (1, .int a1), (2, .ref (103 + 2 * s)), (3, .int (nI j))]) (st2 := []) (w3 := w15) rfl rfl ?_
      refine sx_RP.step (pc2 := 101) (ls2 := [(0, .ref 0), (1, .int a1), (2, .ref (103 + 2 * s)), (3, .int (nI j))]) (st2 := [.ref 0]) (w3 := w15) rfl rfl ?_
      refine sx_RP.step (pc2 := 102) (ls2 := [(0, .ref 0), (1, .int a1), (2, .ref (103 + 2 * s)), (3, .int (nI j))]) (st2 := [.ref 0, .ref 0]) (w3 := w15) rfl rfl ?_
      refine sx_RP.gf (v := .ref 29) rfl rfl hI16.1.o0 rfl rfl (show _ = 105 from rfl) ?_
      refine sx_RP.step (pc2 := 106) (ls2 := [(0, .ref 0), (1, .int a1), (2, .ref (103 + 2 * s)), (3, .int (nI j))]) (st2 := [.ref (103 + 2 * s), .ref 29, .ref 0]) (w3 := w15) rfl rfl ?_
      refine sx_RP.callp (as2 := [.ref 0, .ref 29, .ref (103 + 2 * s)]) (rest2 := []) rfl rfl (sx_inv_v2 (mi := 122) (k := 341) (st := [.ref (103 + 2 * s), .ref 29, .ref 0]) (w := w15) rfl rfl hI16.1.o0 rfl rfl rfl) rfl rfl rfl (Q123 hI16 (Or.inr (Or.inr rfl)) (show s < 4 by omega)) (show _ = 109 from rfl) ?_
      rintro r4 w21 ⟨⟨x19, hx20, rfl⟩, hI22, hE24⟩
      have hE23 := hE17.tr (hE24)
      show sx_RP _ _ _ _ _ [.int (nI x19)] _ _
      refine sx_RP.br (p1 := 114) (l1 := [(0, .ref 0), (1, .int a1), (2, .ref (103 + 2 * s)), (3, .int (nI j))]) (s1 := []) (v1 := w21) (p2 := 112) (l2 := [(0, .ref 0), (1, .int a1), (2, .ref (103 + 2 * s)), (3, .int (nI j))]) (s2 := []) (v2 := w21) rfl rfl (fun q25 => ?_) (fun q25 => ?_)
      · replace q25 := of_decide_eq_true q25
        replace q25 := (nI_eq (a := x19) (b := 0) (by omega) (by omega)).mp q25
        refine sx_RP.step (pc2 := 117) (ls2 := [(3, .int ((nI j) + 1)), (0, .ref 0), (1, .int a1), (2, .ref (103 + 2 * s))]) (st2 := []) (w3 := w21) rfl rfl ?_
        rw [nI_1 j]
        refine sx_RP.step (pc2 := 82) (ls2 := [(3, .int (nI (j + 1))), (0, .ref 0), (1, .int a1), (2, .ref (103 + 2 * s))]) (st2 := []) (w3 := w21) rfl rfl ?_
        exact sx_RP.ls (sx_lr.cons rfl (sx_lr.cons rfl (sx_lr.cons rfl (sx_lr.cons rfl sx_lr.nil)))) (kk w21 hI22 hE23 (by omega))
      · replace q25 := of_decide_eq_false q25
        replace q25 := mt (nI_eq (a := x19) (b := 0) (by omega) (by omega)).mpr q25
        refine sx_RP.step (pc2 := 113) (ls2 := [(0, .ref 0), (1, .int a1), (2, .ref (103 + 2 * s)), (3, .int (nI j))]) (st2 := [.int (nI j)]) (w3 := w21) rfl rfl ?_
        refine sx_RP.ret (r := (some (.int (nI j)))) rfl rfl ?_
        exact ⟨⟨_, rfl⟩, hI22, hE23⟩
set_option maxRecDepth 20000 in
set_option maxHeartbeats 4000000 in
theorem Q122L {xs : Option (List Int32)} {d : Nat} {w0 : List sx_C} {s : Nat} (a1 : Int32) (hs : s < 4) : ∀ (fz j : Nat) (w : List sx_C) , 61 ≤ j + fz * 1 → j ≤ 61 → WI w → EQ w0 w → sx_RP xs (d + 7) 122 82 [(0, .ref 0), (1, .int a1), (2, .ref (103 + 2 * s)), (3, .int (nI j))] [] w (fun r w2 => (∃ v : Int32, r = some (.int v)) ∧ WI w2 ∧ EQ w0 w2)
  | 0, j, w, h, hj, hI, hE => Q122B a1 hs hI hE hj   (fun w4  hI4 hE4 hlt  => absurd hlt (by omega)) 
  | fz + 1, j, w, h, hj, hI, hE => Q122B a1 hs hI hE hj   (fun w4  hI4 hE4 hlt  => Q122L a1 hs  fz (j + 1) w4  (by omega) hlt hI4 hE4 ) 
set_option maxRecDepth 20000 in
set_option maxHeartbeats 4000000 in
theorem Q122 {xs : Option (List Int32)} {d : Nat} {w : List sx_C} (hI : WI w) (a1 : Int32) : sx_RP xs (d + 7) 122 0 (lv_args 0 [.ref 0, .int a1]) [] w (fun r w2 => (∃ v : Int32, r = some (.int v)) ∧ WI w2 ∧ EQ w w2) := by
  have hE : EQ w w := EQ.rf
  refine sx_RP.step (pc2 := 1) (ls2 := [(0, .ref 0), (1, .int a1)]) (st2 := [.int a1]) (w3 := w) rfl rfl ?_
  rcases in_cases a1 0 3 (m := 0) (n := 3) rfl rfl (by decide) (by decide) with q1 | ⟨x2, hx3, hx4, rfl⟩
  · refine sx_RP.cu (as := [.int a1]) (rest2 := []) (st3 := [.int 0]) rfl rfl rfl rfl rfl (cx_112n q1) rfl ?_
    refine sx_RP.step (pc2 := 7) (ls2 := [(0, .ref 0), (1, .int a1)]) (st2 := []) (w3 := w) rfl rfl ?_
    refine sx_RP.step (pc2 := 8) (ls2 := [(0, .ref 0), (1, .int a1)]) (st2 := [.ref 0]) (w3 := w) rfl rfl ?_
    refine sx_RP.step (pc2 := 10) (ls2 := [(0, .ref 0), (1, .int a1)]) (st2 := [.int (-1000000001), .ref 0]) (w3 := w) rfl rfl ?_
    refine sx_RP.callp (as2 := [.ref 0, .int (-1000000001)]) (rest2 := []) rfl rfl (sx_inv_v2 (mi := 122) (k := 78) (st := [.int (-1000000001), .ref 0]) (w := w) rfl rfl hI.1.o0 rfl rfl rfl) rfl rfl rfl (Q9_0 hI) (show _ = 13 from rfl) ?_
    rintro r4 w6 ⟨rfl, hI7, hE9⟩
    have hE8 := hE.tr (hE9)
    show sx_RP _ _ _ _ _ [.int (-1000000001)] _ _
    refine sx_RP.ret (r := (some (.int (-1000000001)))) rfl rfl ?_
    exact ⟨⟨_, rfl⟩, hI7, hE8⟩
  · refine sx_RP.cu (as := [.int (nI x2)]) (rest2 := []) (st3 := [.int 1]) rfl rfl rfl rfl rfl (cx_112p ⟨nI_le (a := 0) hx3 (by omega), nI_le (b := 3) hx4 (by decide)⟩) rfl ?_
    refine sx_RP.step (pc2 := 14) (ls2 := [(0, .ref 0), (1, .int (nI x2))]) (st2 := []) (w3 := w) rfl rfl ?_
    refine sx_RP.step (pc2 := 15) (ls2 := [(0, .ref 0), (1, .int (nI x2))]) (st2 := [.ref 0]) (w3 := w) rfl rfl ?_
    refine sx_RP.gf (v := .ref 98) rfl rfl hI.1.o0 rfl rfl (show _ = 18 from rfl) ?_
    refine sx_RP.step (pc2 := 19) (ls2 := [(0, .ref 0), (1, .int (nI x2))]) (st2 := [.int (nI x2), .ref 98]) (w3 := w) rfl rfl ?_
    refine sx_RP.ald (v := .ref (103 + 2 * x2)) rfl hI.1.a98 rfl (shA_at (show x2 < 4 by omega)) (show _ = 20 from rfl) ?_
    refine sx_RP.step (pc2 := 21) (ls2 := [(2, .ref (103 + 2 * x2)), (0, .ref 0), (1, .int (nI x2))]) (st2 := []) (w3 := w) rfl rfl ?_
    refine sx_RP.step (pc2 := 22) (ls2 := [(2, .ref (103 + 2 * x2)), (0, .ref 0), (1, .int (nI x2))]) (st2 := [.ref (103 + 2 * x2)]) (w3 := w) rfl rfl ?_
    obtain ⟨x10, hx11, c12⟩ := p116 hI (show x2 < 4 by omega)
    refine sx_RP.cu (as := [.ref (103 + 2 * x2)]) (rest2 := []) (st3 := [.int (nI x10)]) rfl rfl (sx_inv_v2 (mi := 122) (k := 310) (st := [.ref (103 + 2 * x2)]) (w := w) rfl rfl (hI.1.oS (show x2 < 4 by omega)) rfl rfl rfl) rfl rfl (c12) rfl ?_
    refine sx_RP.br (p1 := 36) (l1 := [(2, .ref (103 + 2 * x2)), (0, .ref 0), (1, .int (nI x2))]) (s1 := []) (v1 := w) (p2 := 28) (l2 := [(2, .ref (103 + 2 * x2)), (0, .ref 0), (1, .int (nI x2))]) (s2 := []) (v2 := w) rfl rfl (fun q13 => ?_) (fun q13 => ?_)
    · replace q13 := of_decide_eq_true q13
      replace q13 := (nI_eq (a := x10) (b := 0) (by omega) (by omega)).mp q13
      refine sx_RP.step (pc2 := 37) (ls2 := [(2, .ref (103 + 2 * x2)), (0, .ref 0), (1, .int (nI x2))]) (st2 := [.ref 0]) (w3 := w) rfl rfl ?_
      refine sx_RP.gf (v := .ref 1) rfl rfl hI.1.o0 rfl rfl (show _ = 40 from rfl) ?_
      refine sx_RP.step (pc2 := 42) (ls2 := [(2, .ref (103 + 2 * x2)), (0, .ref 0), (1, .int (nI x2))]) (st2 := [.int 60, .ref 1]) (w3 := w) rfl rfl ?_
      obtain ⟨x14, hx15, c16⟩ := p40 hI (Or.inl rfl) 60
      refine sx_RP.cu (as := [.ref 1, .int 60]) (rest2 := []) (st3 := [.int (nI x14)]) rfl rfl (sx_inv_v2 (mi := 122) (k := 163) (st := [.int 60, .ref 1]) (w := w) rfl rfl (hI.1.oC (Or.inl rfl)) rfl rfl rfl) rfl rfl (c16) rfl ?_
      refine sx_RP.br (p1 := 55) (l1 := [(2, .ref (103 + 2 * x2)), (0, .ref 0), (1, .int (nI x2))]) (s1 := []) (v1 := w) (p2 := 48) (l2 := [(2, .ref (103 + 2 * x2)), (0, .ref 0), (1, .int (nI x2))]) (s2 := []) (v2 := w) rfl rfl (fun q17 => ?_) (fun q17 => ?_)
      · replace q17 := of_decide_eq_true q17
        replace q17 := mt (nI_eq (a := x14) (b := 0) (by omega) (by omega)).mpr q17
        refine sx_RP.step (pc2 := 56) (ls2 := [(2, .ref (103 + 2 * x2)), (0, .ref 0), (1, .int (nI x2))]) (st2 := [.ref 0]) (w3 := w) rfl rfl ?_
        refine sx_RP.gf (v := .ref 44) rfl rfl hI.1.o0 rfl rfl (show _ = 59 from rfl) ?_
        refine sx_RP.step (pc2 := 60) (ls2 := [(2, .ref (103 + 2 * x2)), (0, .ref 0), (1, .int (nI x2))]) (st2 := [.ref 0, .ref 44]) (w3 := w) rfl rfl ?_
        refine sx_RP.gf (v := .ref 1) rfl rfl hI.1.o0 rfl rfl (show _ = 63 from rfl) ?_
        refine sx_RP.gref (k := 0) (b := 2) hI (Or.inl rfl) rfl rfl (by omega) (show _ = 66 from rfl) ?_
        refine sx_RP.callp (as2 := [.ref 44, .ref 2]) (rest2 := []) rfl rfl (sx_inv_v2 (mi := 122) (k := 95) (st := [.ref 2, .ref 44]) (w := w) rfl rfl hI.1.o44 rfl rfl rfl) rfl rfl rfl (Q16 hI (Or.inl rfl)) (show _ = 69 from rfl) ?_
        rintro r4 w18 ⟨rfl, hI19, hE21⟩
        have hE20 := hE.tr (hE21)
        show sx_RP _ _ _ _ _ [] _ _
        refine sx_RP.step (pc2 := 70) (ls2 := [(2, .ref (103 + 2 * x2)), (0, .ref 0), (1, .int (nI x2))]) (st2 := [.ref 0]) (w3 := w18) rfl rfl ?_
        refine sx_RP.gf (v := .ref 29) rfl rfl hI19.1.o0 rfl rfl (show _ = 73 from rfl) ?_
        refine sx_RP.step (pc2 := 74) (ls2 := [(2, .ref (103 + 2 * x2)), (0, .ref 0), (1, .int (nI x2))]) (st2 := [.ref 0, .ref 29]) (w3 := w18) rfl rfl ?_
        refine sx_RP.gf (v := .ref 1) rfl rfl hI19.1.o0 rfl rfl (show _ = 77 from rfl) ?_
        refine sx_RP.callp (as2 := [.ref 29, .ref 1]) (rest2 := []) rfl rfl (sx_inv_v2 (mi := 122) (k := 179) (st := [.ref 1, .ref 29]) (w := w18) rfl rfl (hI19.1.oC (Or.inr (Or.inr rfl))) rfl rfl rfl) rfl rfl rfl (Q50 hI19 (Or.inr (Or.inr rfl)) (Or.inl rfl) (by omega)) (show _ = 80 from rfl) ?_
        rintro r4 w22 ⟨rfl, hI23, hE25⟩
        have hE24 := hE20.tr (hE25)
        show sx_RP _ _ _ _ _ [] _ _
        refine sx_RP.step (pc2 := 81) (ls2 := [(2, .ref (103 + 2 * x2)), (0, .ref 0), (1, .int (nI x2))]) (st2 := [.int 0]) (w3 := w22) rfl rfl ?_
        refine sx_RP.step (pc2 := 82) (ls2 := [(3, .int 0), (2, .ref (103 + 2 * x2)), (0, .ref 0), (1, .int (nI x2))]) (st2 := []) (w3 := w22) rfl rfl ?_
        exact sx_RP.ls (sx_lr.cons rfl (sx_lr.cons rfl (sx_lr.cons rfl (sx_lr.cons rfl sx_lr.nil)))) (Q122L (nI x2) (show x2 < 4 by omega) 61 0 w22  (by omega) (by omega) hI23 hE24 )
      · replace q17 := Decidable.not_not.mp (of_decide_eq_false q17)
        replace q17 := (nI_eq (a := x14) (b := 0) (by omega) (by omega)).mp q17
        refine sx_RP.step (pc2 := 49) (ls2 := [(2, .ref (103 + 2 * x2)), (0, .ref 0), (1, .int (nI x2))]) (st2 := [.ref 0]) (w3 := w) rfl rfl ?_
        refine sx_RP.step (pc2 := 51) (ls2 := [(2, .ref (103 + 2 * x2)), (0, .ref 0), (1, .int (nI x2))]) (st2 := [.int (-1000000005), .ref 0]) (w3 := w) rfl rfl ?_
        refine sx_RP.callp (as2 := [.ref 0, .int (-1000000005)]) (rest2 := []) rfl rfl (sx_inv_v2 (mi := 122) (k := 78) (st := [.int (-1000000005), .ref 0]) (w := w) rfl rfl hI.1.o0 rfl rfl rfl) rfl rfl rfl (Q9_4 hI) (show _ = 54 from rfl) ?_
        rintro r4 w26 ⟨rfl, hI27, hE29⟩
        have hE28 := hE.tr (hE29)
        show sx_RP _ _ _ _ _ [.int (-1000000005)] _ _
        refine sx_RP.ret (r := (some (.int (-1000000005)))) rfl rfl ?_
        exact ⟨⟨_, rfl⟩, hI27, hE28⟩
    · replace q13 := of_decide_eq_false q13
      replace q13 := mt (nI_eq (a := x10) (b := 0) (by omega) (by omega)).mpr q13
      refine sx_RP.step (pc2 := 29) (ls2 := [(2, .ref (103 + 2 * x2)), (0, .ref 0), (1, .int (nI x2))]) (st2 := [.ref 0]) (w3 := w) rfl rfl ?_
      refine sx_RP.step (pc2 := 32) (ls2 := [(2, .ref (103 + 2 * x2)), (0, .ref 0), (1, .int (nI x2))]) (st2 := [.int (-1000000006), .ref 0]) (w3 := w) rfl rfl ?_
      refine sx_RP.callp (as2 := [.ref 0, .int (-1000000006)]) (rest2 := []) rfl rfl (sx_inv_v2 (mi := 122) (k := 78) (st := [.int (-1000000006), .ref 0]) (w := w) rfl rfl hI.1.o0 rfl rfl rfl) rfl rfl rfl (Q9_5 hI) (show _ = 35 from rfl) ?_
      rintro r4 w30 ⟨rfl, hI31, hE33⟩
      have hE32 := hE.tr (hE33)
      show sx_RP _ _ _ _ _ [.int (-1000000006)] _ _
      refine sx_RP.ret (r := (some (.int (-1000000006)))) rfl rfl ?_
      exact ⟨⟨_, rfl⟩, hI31, hE32⟩
set_option maxRecDepth 20000 in
set_option maxHeartbeats 4000000 in
theorem Q128B {xs : Option (List Int32)} {d : Nat} {w w0 : List sx_C} (a1 : Int32) (hI : WI w) (hE : EQ w0 w) {j : Nat} (hj : j ≤ 7) (m : Int32) (kk : ∀ (w4 : List sx_C) (um : Int32), WI w4 → EQ w0 w4 → j + 1 ≤ 7 → sx_RP xs (d + 7) 128 32 [(0, .ref 0), (1, .int a1), (2, .int um), (3, .int (nI (j + 1)))] [] w4 (fun r w2 => (∃ v : Int32, r = some (.int v)) ∧ WI w2 ∧ EQ w0 w2)) : sx_RP xs (d + 7) 128 32 [(0, .ref 0), (1, .int a1), (2, .int m), (3, .int (nI j))] [] w (fun r w2 => (∃ v : Int32, r = some (.int v)) ∧ WI w2 ∧ EQ w0 w2) := by
  refine sx_RP.step (pc2 := 33) (ls2 := [(0, .ref 0), (1, .int a1), (2, .int m), (3, .int (nI j))]) (st2 := [.int (nI j)]) (w3 := w) rfl rfl ?_
  refine sx_RP.step (pc2 := 35) (ls2 := [(0, .ref 0), (1, .int a1), (2, .int m), (3, .int (nI j))]) (st2 := [.int 7, .int (nI j)]) (w3 := w) rfl rfl ?_
  refine sx_RP.br (p1 := 53) (l1 := [(0, .ref 0), (1, .int a1), (2, .int m), (3, .int (nI j))]) (s1 := []) (v1 := w) (p2 := 38) (l2 := [(0, .ref 0), (1, .int a1), (2, .int m), (3, .int (nI j))]) (s2 := []) (v2 := w) rfl rfl (fun q1 => ?_) (fun q1 => ?_)
  · replace q1 := of_decide_eq_true q1
    replace q1 := (nI_leI (a := 7) (b := j) (by omega) (by omega)).mp q1
    refine sx_RP.step (pc2 := 54) (ls2 := [(0, .ref 0), (1, .int a1), (2, .int m), (3, .int (nI j))]) (st2 := [.int m]) (w3 := w) rfl rfl ?_
    refine sx_RP.ret (r := (some (.int m))) rfl rfl ?_
    exact ⟨⟨_, rfl⟩, hI, hE⟩
  · replace q1 := of_decide_eq_false q1
    replace q1 := mt (nI_leI (a := 7) (b := j) (by omega) (by omega)).mpr q1
    refine sx_RP.step (pc2 := 39) (ls2 := [(0, .ref 0), (1, .int a1), (2, .int m), (3, .int (nI j))]) (st2 := [.int m]) (w3 := w) rfl rfl ?_
    refine sx_RP.step (pc2 := 40) (ls2 := [(0, .ref 0), (1, .int a1), (2, .int m), (3, .int (nI j))]) (st2 := [.ref 0, .int m]) (w3 := w) rfl rfl ?_
    refine sx_RP.gf (v := .ref 99) rfl rfl hI.1.o0 rfl rfl (show _ = 43 from rfl) ?_
    refine sx_RP.step (pc2 := 44) (ls2 := [(0, .ref 0), (1, .int a1), (2, .int m), (3, .int (nI j))]) (st2 := [.int (nI j), .ref 99, .int m]) (w3 := w) rfl rfl ?_
    refine sx_RP.ild (c := j) rfl hI.1.a99.1 hI.1.a99.2 (sx_in_nI (show j < 7 by omega) (by decide)) (show (nI j).toNatClampNeg = j from nI_clamp (by omega)) (show _ = 45 from rfl) ?_
    refine sx_RP.step (pc2 := 46) (ls2 := [(0, .ref 0), (1, .int a1), (2, .int m), (3, .int (nI j))]) (st2 := [.int (m + ((ia w 99).getD j 0))]) (w3 := w) rfl rfl ?_
    refine sx_RP.step (pc2 := 47) (ls2 := [(2, .int (m + ((ia w 99).getD j 0))), (0, .ref 0), (1, .int a1), (3, .int (nI j))]) (st2 := []) (w3 := w) rfl rfl ?_
    refine sx_RP.step (pc2 := 50) (ls2 := [(3, .int ((nI j) + 1)), (2, .int (m + ((ia w 99).getD j 0))), (0, .ref 0), (1, .int a1)]) (st2 := []) (w3 := w) rfl rfl ?_
    rw [nI_1 j]
    refine sx_RP.step (pc2 := 32) (ls2 := [(3, .int (nI (j + 1))), (2, .int (m + ((ia w 99).getD j 0))), (0, .ref 0), (1, .int a1)]) (st2 := []) (w3 := w) rfl rfl ?_
    exact sx_RP.ls (sx_lr.cons rfl (sx_lr.cons rfl (sx_lr.cons rfl (sx_lr.cons rfl sx_lr.nil)))) (kk w (m + ((ia w 99).getD j 0)) hI hE (by omega))
set_option maxRecDepth 20000 in
set_option maxHeartbeats 4000000 in
theorem Q128L {xs : Option (List Int32)} {d : Nat} {w0 : List sx_C} (a1 : Int32) : ∀ (fz j : Nat) (w : List sx_C) (m : Int32) , 7 ≤ j + fz * 1 → j ≤ 7 → WI w → EQ w0 w → sx_RP xs (d + 7) 128 32 [(0, .ref 0), (1, .int a1), (2, .int m), (3, .int (nI j))] [] w (fun r w2 => (∃ v : Int32, r = some (.int v)) ∧ WI w2 ∧ EQ w0 w2)
  | 0, j, w, m, h, hj, hI, hE => Q128B a1 hI hE hj m  (fun w4 um hI4 hE4 hlt  => absurd hlt (by omega)) 
  | fz + 1, j, w, m, h, hj, hI, hE => Q128B a1 hI hE hj m  (fun w4 um hI4 hE4 hlt  => Q128L a1  fz (j + 1) w4 um (by omega) hlt hI4 hE4 ) 
set_option maxRecDepth 20000 in
set_option maxHeartbeats 4000000 in
theorem Q128 {xs : Option (List Int32)} {d : Nat} {w : List sx_C} (hI : WI w) (a1 : Int32) : sx_RP xs (d + 7) 128 0 (lv_args 0 [.ref 0, .int a1]) [] w (fun r w2 => (∃ v : Int32, r = some (.int v)) ∧ WI w2 ∧ EQ w w2) := by
  have hE : EQ w w := EQ.rf
  refine sx_RP.step (pc2 := 1) (ls2 := [(0, .ref 0), (1, .int a1)]) (st2 := [.int a1]) (w3 := w) rfl rfl ?_
  refine sx_RP.step (pc2 := 2) (ls2 := [(0, .ref 0), (1, .int a1)]) (st2 := [.int (-1), .int a1]) (w3 := w) rfl rfl ?_
  refine sx_RP.step (pc2 := 4) (ls2 := [(0, .ref 0), (1, .int a1)]) (st2 := [.int 6, .int (-1), .int a1]) (w3 := w) rfl rfl ?_
  rcases in_casesM a1 (n := 6) (by decide) with q1 | rfl | ⟨x2, hx3, rfl⟩
  · refine sx_RP.cu (as := [.int a1, .int (-1), .int 6]) (rest2 := []) (st3 := [.int 0]) rfl rfl rfl rfl rfl (cx_8n q1) rfl ?_
    refine sx_RP.step (pc2 := 10) (ls2 := [(0, .ref 0), (1, .int a1)]) (st2 := []) (w3 := w) rfl rfl ?_
    refine sx_RP.step (pc2 := 11) (ls2 := [(0, .ref 0), (1, .int a1)]) (st2 := [.ref 0]) (w3 := w) rfl rfl ?_
    refine sx_RP.step (pc2 := 13) (ls2 := [(0, .ref 0), (1, .int a1)]) (st2 := [.int (-1000000001), .ref 0]) (w3 := w) rfl rfl ?_
    refine sx_RP.callp (as2 := [.ref 0, .int (-1000000001)]) (rest2 := []) rfl rfl (sx_inv_v2 (mi := 128) (k := 78) (st := [.int (-1000000001), .ref 0]) (w := w) rfl rfl hI.1.o0 rfl rfl rfl) rfl rfl rfl (Q9_0 hI) (show _ = 16 from rfl) ?_
    rintro r4 w4 ⟨rfl, hI5, hE7⟩
    have hE6 := hE.tr (hE7)
    show sx_RP _ _ _ _ _ [.int (-1000000001)] _ _
    refine sx_RP.ret (r := (some (.int (-1000000001)))) rfl rfl ?_
    exact ⟨⟨_, rfl⟩, hI5, hE6⟩
  · refine sx_RP.cu (as := [.int (-1), .int (-1), .int 6]) (rest2 := []) (st3 := [.int 1]) rfl rfl rfl rfl rfl (cx_8p (by decide)) rfl ?_
    refine sx_RP.step (pc2 := 17) (ls2 := [(0, .ref 0), (1, .int (-1))]) (st2 := []) (w3 := w) rfl rfl ?_
    refine sx_RP.step (pc2 := 18) (ls2 := [(0, .ref 0), (1, .int (-1))]) (st2 := [.int (-1)]) (w3 := w) rfl rfl ?_
    refine sx_RP.step (pc2 := 28) (ls2 := [(0, .ref 0), (1, .int (-1))]) (st2 := []) (w3 := w) rfl rfl ?_
    refine sx_RP.step (pc2 := 29) (ls2 := [(0, .ref 0), (1, .int (-1))]) (st2 := [.int 0]) (w3 := w) rfl rfl ?_
    refine sx_RP.step (pc2 := 30) (ls2 := [(2, .int 0), (0, .ref 0), (1, .int (-1))]) (st2 := []) (w3 := w) rfl rfl ?_
    refine sx_RP.step (pc2 := 31) (ls2 := [(2, .int 0), (0, .ref 0), (1, .int (-1))]) (st2 := [.int 0]) (w3 := w) rfl rfl ?_
    refine sx_RP.step (pc2 := 32) (ls2 := [(3, .int 0), (2, .int 0), (0, .ref 0), (1, .int (-1))]) (st2 := []) (w3 := w) rfl rfl ?_
    exact sx_RP.ls (sx_lr.cons rfl (sx_lr.cons rfl (sx_lr.cons rfl (sx_lr.cons rfl sx_lr.nil)))) (Q128L (-1) 7 0 w 0 (by omega) (by omega) hI hE )
  · refine sx_RP.cu (as := [.int (nI x2), .int (-1), .int 6]) (rest2 := []) (st3 := [.int 1]) rfl rfl rfl rfl rfl (cx_8p ⟨Int32.le_iff_toInt_le.mpr (by rw [nI_toInt (by omega)]; exact Int.le_trans (by decide) (Int.natCast_nonneg _)), nI_le (b := 6) hx3 (by decide)⟩) rfl ?_
    refine sx_RP.step (pc2 := 17) (ls2 := [(0, .ref 0), (1, .int (nI x2))]) (st2 := []) (w3 := w) rfl rfl ?_
    refine sx_RP.step (pc2 := 18) (ls2 := [(0, .ref 0), (1, .int (nI x2))]) (st2 := [.int (nI x2)]) (w3 := w) rfl rfl ?_
    refine sx_RP.br (p2 := 21) (l2 := [(0, .ref 0), (1, .int (nI x2))]) (s2 := []) (v2 := w) rfl rfl (fun q => absurd (of_decide_eq_true q) (nI_pos (by omega))) (fun _ => ?_)
    refine sx_RP.step (pc2 := 22) (ls2 := [(0, .ref 0), (1, .int (nI x2))]) (st2 := [.ref 0]) (w3 := w) rfl rfl ?_
    refine sx_RP.gf (v := .ref 99) rfl rfl hI.1.o0 rfl rfl (show _ = 25 from rfl) ?_
    refine sx_RP.step (pc2 := 26) (ls2 := [(0, .ref 0), (1, .int (nI x2))]) (st2 := [.int (nI x2), .ref 99]) (w3 := w) rfl rfl ?_
    refine sx_RP.ild (c := x2) rfl hI.1.a99.1 hI.1.a99.2 (sx_in_nI (show x2 < 7 by omega) (by decide)) (show (nI x2).toNatClampNeg = x2 from nI_clamp (by omega)) (show _ = 27 from rfl) ?_
    refine sx_RP.ret (r := (some (.int ((ia w 99).getD x2 0)))) rfl rfl ?_
    exact ⟨⟨_, rfl⟩, hI, hE⟩
