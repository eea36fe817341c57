-- safety: leaves of the reference
set_option maxRecDepth 20000 in
set_option maxHeartbeats 4000000 in
theorem s133_0 {xs : Option (List Int32)} {d : Nat} {w : List sx_C} (hI : WI w) : sx_RP xs d 133 0 (lv_args 0 [.ref 111, .int 0]) [] w (fun r w2 => (r = some (.int (-1000000001))) ∧ WI w2 ∧ EM w w2) := by
  have hE : EM w w := EM.rf
  refine sx_RP.step (pc2 := 1) (ls2 := [(0, .ref 111), (1, .int 0)]) (st2 := [.ref 111]) (w3 := w) rfl rfl ?_
  refine sx_RP.gf (v := .ref 116) rfl rfl hI.1.o111 rfl rfl (show _ = 4 from rfl) ?_
  refine sx_RP.step (pc2 := 5) (ls2 := [(0, .ref 111), (1, .int 0)]) (st2 := [.int 0, .ref 116]) (w3 := w) rfl rfl ?_
  refine sx_RP.step (pc2 := 6) (ls2 := [(0, .ref 111), (1, .int 0)]) (st2 := [.int 0, .ref 116, .int 0, .ref 116]) (w3 := w) rfl rfl ?_
  refine sx_RP.ild (c := 0) rfl hI.1.a116.1 hI.1.a116.2 (sx_in_nI (show 0 < 7 by omega) (by decide)) (show (nI 0).toNatClampNeg = 0 from nI_clamp (by omega)) (show _ = 7 from rfl) ?_
  refine sx_RP.step (pc2 := 8) (ls2 := [(0, .ref 111), (1, .int 0)]) (st2 := [.int 1, .int ((ia w 116).getD 0 0), .int 0, .ref 116]) (w3 := w) rfl rfl ?_
  refine sx_RP.step (pc2 := 9) (ls2 := [(0, .ref 111), (1, .int 0)]) (st2 := [.int (((ia w 116).getD 0 0) + 1), .int 0, .ref 116]) (w3 := w) rfl rfl ?_
  refine sx_RP.mF hI hE rfl hI.1.a116 (sx_in_nI (show 0 < 7 by omega) (by decide)) (by decide) (show _ = 10 from rfl) (fun w1 hI2 hE3 hk4 => ?_)
  refine sx_RP.step (pc2 := 12) (ls2 := [(0, .ref 111), (1, .int 0)]) (st2 := [.int (-1000000001)]) (w3 := w1) rfl rfl ?_
  refine sx_RP.step (pc2 := 13) (ls2 := [(0, .ref 111), (1, .int 0)]) (st2 := [.int 0, .int (-1000000001)]) (w3 := w1) rfl rfl ?_
  refine sx_RP.step (pc2 := 14) (ls2 := [(0, .ref 111), (1, .int 0)]) (st2 := [.int (-1000000001)]) (w3 := w1) rfl rfl ?_
  refine sx_RP.ret (r := (some (.int (-1000000001)))) rfl rfl ?_
  exact ⟨rfl, hI2, hE3⟩
set_option maxRecDepth 20000 in
set_option maxHeartbeats 4000000 in
theorem s133_1 {xs : Option (List Int32)} {d : Nat} {w : List sx_C} (hI : WI w) : sx_RP xs d 133 0 (lv_args 0 [.ref 111, .int 1]) [] w (fun r w2 => (r = some (.int (-1000000002))) ∧ WI w2 ∧ EM w w2) := by
  have hE : EM w w := EM.rf
  refine sx_RP.step (pc2 := 1) (ls2 := [(0, .ref 111), (1, .int 1)]) (st2 := [.ref 111]) (w3 := w) rfl rfl ?_
  refine sx_RP.gf (v := .ref 116) rfl rfl hI.1.o111 rfl rfl (show _ = 4 from rfl) ?_
  refine sx_RP.step (pc2 := 5) (ls2 := [(0, .ref 111), (1, .int 1)]) (st2 := [.int 1, .ref 116]) (w3 := w) rfl rfl ?_
  refine sx_RP.step (pc2 := 6) (ls2 := [(0, .ref 111), (1, .int 1)]) (st2 := [.int 1, .ref 116, .int 1, .ref 116]) (w3 := w) rfl rfl ?_
  refine sx_RP.ild (c := 1) rfl hI.1.a116.1 hI.1.a116.2 (sx_in_nI (show 1 < 7 by omega) (by decide)) (show (nI 1).toNatClampNeg = 1 from nI_clamp (by omega)) (show _ = 7 from rfl) ?_
  refine sx_RP.step (pc2 := 8) (ls2 := [(0, .ref 111), (1, .int 1)]) (st2 := [.int 1, .int ((ia w 116).getD 1 0), .int 1, .ref 116]) (w3 := w) rfl rfl ?_
  refine sx_RP.step (pc2 := 9) (ls2 := [(0, .ref 111), (1, .int 1)]) (st2 := [.int (((ia w 116).getD 1 0) + 1), .int 1, .ref 116]) (w3 := w) rfl rfl ?_
  refine sx_RP.mF hI hE rfl hI.1.a116 (sx_in_nI (show 1 < 7 by omega) (by decide)) (by decide) (show _ = 10 from rfl) (fun w1 hI2 hE3 hk4 => ?_)
  refine sx_RP.step (pc2 := 12) (ls2 := [(0, .ref 111), (1, .int 1)]) (st2 := [.int (-1000000001)]) (w3 := w1) rfl rfl ?_
  refine sx_RP.step (pc2 := 13) (ls2 := [(0, .ref 111), (1, .int 1)]) (st2 := [.int 1, .int (-1000000001)]) (w3 := w1) rfl rfl ?_
  refine sx_RP.step (pc2 := 14) (ls2 := [(0, .ref 111), (1, .int 1)]) (st2 := [.int (-1000000002)]) (w3 := w1) rfl rfl ?_
  refine sx_RP.ret (r := (some (.int (-1000000002)))) rfl rfl ?_
  exact ⟨rfl, hI2, hE3⟩
set_option maxRecDepth 20000 in
set_option maxHeartbeats 4000000 in
theorem s133_2 {xs : Option (List Int32)} {d : Nat} {w : List sx_C} (hI : WI w) : sx_RP xs d 133 0 (lv_args 0 [.ref 111, .int 2]) [] w (fun r w2 => (r = some (.int (-1000000003))) ∧ WI w2 ∧ EM w w2) := by
  have hE : EM w w := EM.rf
  refine sx_RP.step (pc2 := 1) (ls2 := [(0, .ref 111), (1, .int 2)]) (st2 := [.ref 111]) (w3 := w) rfl rfl ?_
  refine sx_RP.gf (v := .ref 116) rfl rfl hI.1.o111 rfl rfl (show _ = 4 from rfl) ?_
  refine sx_RP.step (pc2 := 5) (ls2 := [(0, .ref 111), (1, .int 2)]) (st2 := [.int 2, .ref 116]) (w3 := w) rfl rfl ?_
  refine sx_RP.step (pc2 := 6) (ls2 := [(0, .ref 111), (1, .int 2)]) (st2 := [.int 2, .ref 116, .int 2, .ref 116]) (w3 := w) rfl rfl ?_
  refine sx_RP.ild (c := 2) rfl hI.1.a116.1 hI.1.a116.2 (sx_in_nI (show 2 < 7 by omega) (by decide)) (show (nI 2).toNatClampNeg = 2 from nI_clamp (by omega)) (show _ = 7 from rfl) ?_
  refine sx_RP.step (pc2 := 8) (ls2 := [(0, .ref 111), (1, .int 2)]) (st2 := [.int 1, .int ((ia w 116).getD 2 0), .int 2, .ref 116]) (w3 := w) rfl rfl ?_
  refine sx_RP.step (pc2 := 9) (ls2 := [(0, .ref 111), (1, .int 2)]) (st2 := [.int (((ia w 116).getD 2 0) + 1), .int 2, .ref 116]) (w3 := w) rfl rfl ?_
  refine sx_RP.mF hI hE rfl hI.1.a116 (sx_in_nI (show 2 < 7 by omega) (by decide)) (by decide) (show _ = 10 from rfl) (fun w1 hI2 hE3 hk4 => ?_)
  refine sx_RP.step (pc2 := 12) (ls2 := [(0, .ref 111), (1, .int 2)]) (st2 := [.int (-1000000001)]) (w3 := w1) rfl rfl ?_
  refine sx_RP.step (pc2 := 13) (ls2 := [(0, .ref 111), (1, .int 2)]) (st2 := [.int 2, .int (-1000000001)]) (w3 := w1) rfl rfl ?_
  refine sx_RP.step (pc2 := 14) (ls2 := [(0, .ref 111), (1, .int 2)]) (st2 := [.int (-1000000003)]) (w3 := w1) rfl rfl ?_
  refine sx_RP.ret (r := (some (.int (-1000000003)))) rfl rfl ?_
  exact ⟨rfl, hI2, hE3⟩
set_option maxRecDepth 20000 in
set_option maxHeartbeats 4000000 in
theorem s133_3 {xs : Option (List Int32)} {d : Nat} {w : List sx_C} (hI : WI w) : sx_RP xs d 133 0 (lv_args 0 [.ref 111, .int 3]) [] w (fun r w2 => (r = some (.int (-1000000004))) ∧ WI w2 ∧ EM w w2) := by
  have hE : EM w w := EM.rf
  refine sx_RP.step (pc2 := 1) (ls2 := [(0, .ref 111), (1, .int 3)]) (st2 := [.ref 111]) (w3 := w) rfl rfl ?_
  refine sx_RP.gf (v := .ref 116) rfl rfl hI.1.o111 rfl rfl (show _ = 4 from rfl) ?_
  refine sx_RP.step (pc2 := 5) (ls2 := [(0, .ref 111), (1, .int 3)]) (st2 := [.int 3, .ref 116]) (w3 := w) rfl rfl ?_
  refine sx_RP.step (pc2 := 6) (ls2 := [(0, .ref 111), (1, .int 3)]) (st2 := [.int 3, .ref 116, .int 3, .ref 116]) (w3 := w) rfl rfl ?_
  refine sx_RP.ild (c := 3) rfl hI.1.a116.1 hI.1.a116.2 (sx_in_nI (show 3 < 7 by omega) (by decide)) (show (nI 3).toNatClampNeg = 3 from nI_clamp (by omega)) (show _ = 7 from rfl) ?_
  refine sx_RP.step (pc2 := 8) (ls2 := [(0, .ref 111), (1, .int 3)]) (st2 := [.int 1, .int ((ia w 116).getD 3 0), .int 3, .ref 116]) (w3 := w) rfl rfl ?_
  refine sx_RP.step (pc2 := 9) (ls2 := [(0, .ref 111), (1, .int 3)]) (st2 := [.int (((ia w 116).getD 3 0) + 1), .int 3, .ref 116]) (w3 := w) rfl rfl ?_
  refine sx_RP.mF hI hE rfl hI.1.a116 (sx_in_nI (show 3 < 7 by omega) (by decide)) (by decide) (show _ = 10 from rfl) (fun w1 hI2 hE3 hk4 => ?_)
  refine sx_RP.step (pc2 := 12) (ls2 := [(0, .ref 111), (1, .int 3)]) (st2 := [.int (-1000000001)]) (w3 := w1) rfl rfl ?_
  refine sx_RP.step (pc2 := 13) (ls2 := [(0, .ref 111), (1, .int 3)]) (st2 := [.int 3, .int (-1000000001)]) (w3 := w1) rfl rfl ?_
  refine sx_RP.step (pc2 := 14) (ls2 := [(0, .ref 111), (1, .int 3)]) (st2 := [.int (-1000000004)]) (w3 := w1) rfl rfl ?_
  refine sx_RP.ret (r := (some (.int (-1000000004)))) rfl rfl ?_
  exact ⟨rfl, hI2, hE3⟩
set_option maxRecDepth 20000 in
set_option maxHeartbeats 4000000 in
theorem s133_4 {xs : Option (List Int32)} {d : Nat} {w : List sx_C} (hI : WI w) : sx_RP xs d 133 0 (lv_args 0 [.ref 111, .int 4]) [] w (fun r w2 => (r = some (.int (-1000000005))) ∧ WI w2 ∧ EM w w2) := by
  have hE : EM w w := EM.rf
  refine sx_RP.step (pc2 := 1) (ls2 := [(0, .ref 111), (1, .int 4)]) (st2 := [.ref 111]) (w3 := w) rfl rfl ?_
  refine sx_RP.gf (v := .ref 116) rfl rfl hI.1.o111 rfl rfl (show _ = 4 from rfl) ?_
  refine sx_RP.step (pc2 := 5) (ls2 := [(0, .ref 111), (1, .int 4)]) (st2 := [.int 4, .ref 116]) (w3 := w) rfl rfl ?_
  refine sx_RP.step (pc2 := 6) (ls2 := [(0, .ref 111), (1, .int 4)]) (st2 := [.int 4, .ref 116, .int 4, .ref 116]) (w3 := w) rfl rfl ?_
  refine sx_RP.ild (c := 4) rfl hI.1.a116.1 hI.1.a116.2 (sx_in_nI (show 4 < 7 by omega) (by decide)) (show (nI 4).toNatClampNeg = 4 from nI_clamp (by omega)) (show _ = 7 from rfl) ?_
  refine sx_RP.step (pc2 := 8) (ls2 := [(0, .ref 111), (1, .int 4)]) (st2 := [.int 1, .int ((ia w 116).getD 4 0), .int 4, .ref 116]) (w3 := w) rfl rfl ?_
  refine sx_RP.step (pc2 := 9) (ls2 := [(0, .ref 111), (1, .int 4)]) (st2 := [.int (((ia w 116).getD 4 0) + 1), .int 4, .ref 116]) (w3 := w) rfl rfl ?_
  refine sx_RP.mF hI hE rfl hI.1.a116 (sx_in_nI (show 4 < 7 by omega) (by decide)) (by decide) (show _ = 10 from rfl) (fun w1 hI2 hE3 hk4 => ?_)
  refine sx_RP.step (pc2 := 12) (ls2 := [(0, .ref 111), (1, .int 4)]) (st2 := [.int (-1000000001)]) (w3 := w1) rfl rfl ?_
  refine sx_RP.step (pc2 := 13) (ls2 := [(0, .ref 111), (1, .int 4)]) (st2 := [.int 4, .int (-1000000001)]) (w3 := w1) rfl rfl ?_
  refine sx_RP.step (pc2 := 14) (ls2 := [(0, .ref 111), (1, .int 4)]) (st2 := [.int (-1000000005)]) (w3 := w1) rfl rfl ?_
  refine sx_RP.ret (r := (some (.int (-1000000005)))) rfl rfl ?_
  exact ⟨rfl, hI2, hE3⟩
set_option maxRecDepth 20000 in
set_option maxHeartbeats 4000000 in
theorem s133_5 {xs : Option (List Int32)} {d : Nat} {w : List sx_C} (hI : WI w) : sx_RP xs d 133 0 (lv_args 0 [.ref 111, .int 5]) [] w (fun r w2 => (r = some (.int (-1000000006))) ∧ WI w2 ∧ EM w w2) := by
  have hE : EM w w := EM.rf
  refine sx_RP.step (pc2 := 1) (ls2 := [(0, .ref 111), (1, .int 5)]) (st2 := [.ref 111]) (w3 := w) rfl rfl ?_
  refine sx_RP.gf (v := .ref 116) rfl rfl hI.1.o111 rfl rfl (show _ = 4 from rfl) ?_
  refine sx_RP.step (pc2 := 5) (ls2 := [(0, .ref 111), (1, .int 5)]) (st2 := [.int 5, .ref 116]) (w3 := w) rfl rfl ?_
  refine sx_RP.step (pc2 := 6) (ls2 := [(0, .ref 111), (1, .int 5)]) (st2 := [.int 5, .ref 116, .int 5, .ref 116]) (w3 := w) rfl rfl ?_
  refine sx_RP.ild (c := 5) rfl hI.1.a116.1 hI.1.a116.2 (sx_in_nI (show 5 < 7 by omega) (by decide)) (show (nI 5).toNatClampNeg = 5 from nI_clamp (by omega)) (show _ = 7 from rfl) ?_
  refine sx_RP.step (pc2 := 8) (ls2 := [(0, .ref 111), (1, .int 5)]) (st2 := [.int 1, .int ((ia w 116).getD 5 0), .int 5, .ref 116]) (w3 := w) rfl rfl ?_
  refine sx_RP.step (pc2 := 9) (ls2 := [(0, .ref 111), (1, .int 5)]) (st2 := [.int (((ia w 116).getD 5 0) + 1), .int 5, .ref 116]) (w3 := w) rfl rfl ?_
  refine sx_RP.mF hI hE rfl hI.1.a116 (sx_in_nI (show 5 < 7 by omega) (by decide)) (by decide) (show _ = 10 from rfl) (fun w1 hI2 hE3 hk4 => ?_)
  refine sx_RP.step (pc2 := 12) (ls2 := [(0, .ref 111), (1, .int 5)]) (st2 := [.int (-1000000001)]) (w3 := w1) rfl rfl ?_
  refine sx_RP.step (pc2 := 13) (ls2 := [(0, .ref 111), (1, .int 5)]) (st2 := [.int 5, .int (-1000000001)]) (w3 := w1) rfl rfl ?_
  refine sx_RP.step (pc2 := 14) (ls2 := [(0, .ref 111), (1, .int 5)]) (st2 := [.int (-1000000006)]) (w3 := w1) rfl rfl ?_
  refine sx_RP.ret (r := (some (.int (-1000000006)))) rfl rfl ?_
  exact ⟨rfl, hI2, hE3⟩
set_option maxRecDepth 20000 in
set_option maxHeartbeats 4000000 in
theorem s133_6 {xs : Option (List Int32)} {d : Nat} {w : List sx_C} (hI : WI w) : sx_RP xs d 133 0 (lv_args 0 [.ref 111, .int 6]) [] w (fun r w2 => (r = some (.int (-1000000007))) ∧ WI w2 ∧ EM w w2) := by
  have hE : EM w w := EM.rf
  refine sx_RP.step (pc2 := 1) (ls2 := [(0, .ref 111), (1, .int 6)]) (st2 := [.ref 111]) (w3 := w) rfl rfl ?_
  refine sx_RP.gf (v := .ref 116) rfl rfl hI.1.o111 rfl rfl (show _ = 4 from rfl) ?_
  refine sx_RP.step (pc2 := 5) (ls2 := [(0, .ref 111), (1, .int 6)]) (st2 := [.int 6, .ref 116]) (w3 := w) rfl rfl ?_
  refine sx_RP.step (pc2 := 6) (ls2 := [(0, .ref 111), (1, .int 6)]) (st2 := [.int 6, .ref 116, .int 6, .ref 116]) (w3 := w) rfl rfl ?_
  refine sx_RP.ild (c := 6) rfl hI.1.a116.1 hI.1.a116.2 (sx_in_nI (show 6 < 7 by omega) (by decide)) (show (nI 6).toNatClampNeg = 6 from nI_clamp (by omega)) (show _ = 7 from rfl) ?_
  refine sx_RP.step (pc2 := 8) (ls2 := [(0, .ref 111), (1, .int 6)]) (st2 := [.int 1, .int ((ia w 116).getD 6 0), .int 6, .ref 116]) (w3 := w) rfl rfl ?_
  refine sx_RP.step (pc2 := 9) (ls2 := [(0, .ref 111), (1, .int 6)]) (st2 := [.int (((ia w 116).getD 6 0) + 1), .int 6, .ref 116]) (w3 := w) rfl rfl ?_
  refine sx_RP.mF hI hE rfl hI.1.a116 (sx_in_nI (show 6 < 7 by omega) (by decide)) (by decide) (show _ = 10 from rfl) (fun w1 hI2 hE3 hk4 => ?_)
  refine sx_RP.step (pc2 := 12) (ls2 := [(0, .ref 111), (1, .int 6)]) (st2 := [.int (-1000000001)]) (w3 := w1) rfl rfl ?_
  refine sx_RP.step (pc2 := 13) (ls2 := [(0, .ref 111), (1, .int 6)]) (st2 := [.int 6, .int (-1000000001)]) (w3 := w1) rfl rfl ?_
  refine sx_RP.step (pc2 := 14) (ls2 := [(0, .ref 111), (1, .int 6)]) (st2 := [.int (-1000000007)]) (w3 := w1) rfl rfl ?_
  refine sx_RP.ret (r := (some (.int (-1000000007)))) rfl rfl ?_
  exact ⟨rfl, hI2, hE3⟩
set_option maxRecDepth 20000 in
set_option maxHeartbeats 4000000 in
theorem p138_0 {xs : Option (List Int32)} {d : Nat} {w : List sx_C} (hI : WI w) {g : Nat} (hg : g < 10) : ∃ j, j ≤ 5 ∧ sx_RU xs d 138 0 (lv_args 0 [.ref 111, .int (nI g), .int 0]) [] w (some (.int (nI j))) w := by
  have h : sx_RP xs d 138 0 (lv_args 0 [.ref 111, .int (nI g), .int 0]) [] w (fun r w2 => (∃ j, j ≤ 5 ∧ r = some (.int (nI j))) ∧ w2 = w) := by
    refine sx_RP.step (pc2 := 1) (ls2 := [(0, .ref 111), (1, .int (nI g)), (2, .int 0)]) (st2 := [.ref 111]) (w3 := w) rfl rfl ?_
    refine sx_RP.gf (v := .ref 112) rfl rfl hI.1.o111 rfl rfl (show _ = 4 from rfl) ?_
    refine sx_RP.step (pc2 := 6) (ls2 := [(0, .ref 111), (1, .int (nI g)), (2, .int 0)]) (st2 := [.int 103, .ref 112]) (w3 := w) rfl rfl ?_
    refine sx_RP.step (pc2 := 8) (ls2 := [(0, .ref 111), (1, .int (nI g)), (2, .int 0)]) (st2 := [.int 6, .int 103, .ref 112]) (w3 := w) rfl rfl ?_
    refine sx_RP.step (pc2 := 9) (ls2 := [(0, .ref 111), (1, .int (nI g)), (2, .int 0)]) (st2 := [.int (nI g), .int 6, .int 103, .ref 112]) (w3 := w) rfl rfl ?_
    refine sx_RP.step (pc2 := 10) (ls2 := [(0, .ref 111), (1, .int (nI g)), (2, .int 0)]) (st2 := [.int (6 * (nI g)), .int 103, .ref 112]) (w3 := w) rfl rfl ?_
    rw [show (6 * (nI g) : Int32) = nI (6 * g) from nI_mul 6 g]
    refine sx_RP.step (pc2 := 11) (ls2 := [(0, .ref 111), (1, .int (nI g)), (2, .int 0)]) (st2 := [.int (103 + (nI (6 * g))), .ref 112]) (w3 := w) rfl rfl ?_
    rw [show (103 + (nI (6 * g)) : Int32) = nI (103 + (6 * g)) from nI_add 103 (6 * g)]
    refine sx_RP.step (pc2 := 12) (ls2 := [(0, .ref 111), (1, .int (nI g)), (2, .int 0)]) (st2 := [.int 0, .int (nI (103 + (6 * g))), .ref 112]) (w3 := w) rfl rfl ?_
    refine sx_RP.step (pc2 := 13) (ls2 := [(0, .ref 111), (1, .int (nI g)), (2, .int 0)]) (st2 := [.int ((nI (103 + (6 * g))) + 0), .ref 112]) (w3 := w) rfl rfl ?_
    rw [show ((nI (103 + (6 * g))) + 0 : Int32) = nI ((103 + (6 * g)) + 0) from nI_add (103 + (6 * g)) 0]
    refine sx_RP.ild (c := ((103 + (6 * g)) + 0)) rfl hI.1.a112.1 hI.1.a112.2 (sx_in_nI (show ((103 + (6 * g)) + 0) < 172 by omega) (by decide)) (show (nI ((103 + (6 * g)) + 0)).toNatClampNeg = ((103 + (6 * g)) + 0) from nI_clamp (by omega)) (show _ = 14 from rfl) ?_
    obtain ⟨x1, hx2, ex3⟩ : inR ((ia w 112).getD ((103 + (6 * g)) + 0) 0) 5 := (hI.s (((103 + (6 * g)) + 0)) (by omega)).2.2.2.1 (by omega)
    rw [ex3]
    refine sx_RP.ret (r := (some (.int (nI x1)))) rfl rfl ?_
    exact ⟨⟨x1, by omega, rfl⟩, rfl⟩
  obtain ⟨r, w2, h1, ⟨j, hj, rfl⟩, rfl⟩ := h
  exact ⟨j, hj, h1⟩
set_option maxRecDepth 20000 in
set_option maxHeartbeats 4000000 in
theorem p138_1 {xs : Option (List Int32)} {d : Nat} {w : List sx_C} (hI : WI w) {g : Nat} (hg : g < 10) : ∃ j, j ≤ 1 ∧ sx_RU xs d 138 0 (lv_args 0 [.ref 111, .int (nI g), .int 1]) [] w (some (.int (nI j))) w := by
  have h : sx_RP xs d 138 0 (lv_args 0 [.ref 111, .int (nI g), .int 1]) [] w (fun r w2 => (∃ j, j ≤ 1 ∧ r = some (.int (nI j))) ∧ w2 = w) := by
    refine sx_RP.step (pc2 := 1) (ls2 := [(0, .ref 111), (1, .int (nI g)), (2, .int 1)]) (st2 := [.ref 111]) (w3 := w) rfl rfl ?_
    refine sx_RP.gf (v := .ref 112) rfl rfl hI.1.o111 rfl rfl (show _ = 4 from rfl) ?_
    refine sx_RP.step (pc2 := 6) (ls2 := [(0, .ref 111), (1, .int (nI g)), (2, .int 1)]) (st2 := [.int 103, .ref 112]) (w3 := w) rfl rfl ?_
    refine sx_RP.step (pc2 := 8) (ls2 := [(0, .ref 111), (1, .int (nI g)), (2, .int 1)]) (st2 := [.int 6, .int 103, .ref 112]) (w3 := w) rfl rfl ?_
    refine sx_RP.step (pc2 := 9) (ls2 := [(0, .ref 111), (1, .int (nI g)), (2, .int 1)]) (st2 := [.int (nI g), .int 6, .int 103, .ref 112]) (w3 := w) rfl rfl ?_
    refine sx_RP.step (pc2 := 10) (ls2 := [(0, .ref 111), (1, .int (nI g)), (2, .int 1)]) (st2 := [.int (6 * (nI g)), .int 103, .ref 112]) (w3 := w) rfl rfl ?_
    rw [show (6 * (nI g) : Int32) = nI (6 * g) from nI_mul 6 g]
    refine sx_RP.step (pc2 := 11) (ls2 := [(0, .ref 111), (1, .int (nI g)), (2, .int 1)]) (st2 := [.int (103 + (nI (6 * g))), .ref 112]) (w3 := w) rfl rfl ?_
    rw [show (103 + (nI (6 * g)) : Int32) = nI (103 + (6 * g)) from nI_add 103 (6 * g)]
    refine sx_RP.step (pc2 := 12) (ls2 := [(0, .ref 111), (1, .int (nI g)), (2, .int 1)]) (st2 := [.int 1, .int (nI (103 + (6 * g))), .ref 112]) (w3 := w) rfl rfl ?_
    refine sx_RP.step (pc2 := 13) (ls2 := [(0, .ref 111), (1, .int (nI g)), (2, .int 1)]) (st2 := [.int ((nI (103 + (6 * g))) + 1), .ref 112]) (w3 := w) rfl rfl ?_
    rw [show ((nI (103 + (6 * g))) + 1 : Int32) = nI ((103 + (6 * g)) + 1) from nI_add (103 + (6 * g)) 1]
    refine sx_RP.ild (c := ((103 + (6 * g)) + 1)) rfl hI.1.a112.1 hI.1.a112.2 (sx_in_nI (show ((103 + (6 * g)) + 1) < 172 by omega) (by decide)) (show (nI ((103 + (6 * g)) + 1)).toNatClampNeg = ((103 + (6 * g)) + 1) from nI_clamp (by omega)) (show _ = 14 from rfl) ?_
    obtain ⟨x1, hx2, ex3⟩ : inR ((ia w 112).getD ((103 + (6 * g)) + 1) 0) 1 := (hI.s (((103 + (6 * g)) + 1)) (by omega)).2.2.2.2.1 (by omega)
    rw [ex3]
    refine sx_RP.ret (r := (some (.int (nI x1)))) rfl rfl ?_
    exact ⟨⟨x1, by omega, rfl⟩, rfl⟩
  obtain ⟨r, w2, h1, ⟨j, hj, rfl⟩, rfl⟩ := h
  exact ⟨j, hj, h1⟩
set_option maxRecDepth 20000 in
set_option maxHeartbeats 4000000 in
theorem p138_2 {xs : Option (List Int32)} {d : Nat} {w : List sx_C} (hI : WI w) {g : Nat} (hg : g < 10) : ∃ j, j ≤ 47 ∧ sx_RU xs d 138 0 (lv_args 0 [.ref 111, .int (nI g), .int 2]) [] w (some (.int (nI j))) w := by
  have h : sx_RP xs d 138 0 (lv_args 0 [.ref 111, .int (nI g), .int 2]) [] w (fun r w2 => (∃ j, j ≤ 47 ∧ r = some (.int (nI j))) ∧ w2 = w) := by
    refine sx_RP.step (pc2 := 1) (ls2 := [(0, .ref 111), (1, .int (nI g)), (2, .int 2)]) (st2 := [.ref 111]) (w3 := w) rfl rfl ?_
    refine sx_RP.gf (v := .ref 112) rfl rfl hI.1.o111 rfl rfl (show _ = 4 from rfl) ?_
    refine sx_RP.step (pc2 := 6) (ls2 := [(0, .ref 111), (1, .int (nI g)), (2, .int 2)]) (st2 := [.int 103, .ref 112]) (w3 := w) rfl rfl ?_
    refine sx_RP.step (pc2 := 8) (ls2 := [(0, .ref 111), (1, .int (nI g)), (2, .int 2)]) (st2 := [.int 6, .int 103, .ref 112]) (w3 := w) rfl rfl ?_
    refine sx_RP.step (pc2 := 9) (ls2 := [(0, .ref 111), (1, .int (nI g)), (2, .int 2)]) (st2 := [.int (nI g), .int 6, .int 103, .ref 112]) (w3 := w) rfl rfl ?_
    refine sx_RP.step (pc2 := 10) (ls2 := [(0, .ref 111), (1, .int (nI g)), (2, .int 2)]) (st2 := [.int (6 * (nI g)), .int 103, .ref 112]) (w3 := w) rfl rfl ?_
    rw [show (6 * (nI g) : Int32) = nI (6 * g) from nI_mul 6 g]
    refine sx_RP.step (pc2 := 11) (ls2 := [(0, .ref 111), (1, .int (nI g)), (2, .int 2)]) (st2 := [.int (103 + (nI (6 * g))), .ref 112]) (w3 := w) rfl rfl ?_
    rw [show (103 + (nI (6 * g)) : Int32) = nI (103 + (6 * g)) from nI_add 103 (6 * g)]
    refine sx_RP.step (pc2 := 12) (ls2 := [(0, .ref 111), (1, .int (nI g)), (2, .int 2)]) (st2 := [.int 2, .int (nI (103 + (6 * g))), .ref 112]) (w3 := w) rfl rfl ?_
    refine sx_RP.step (pc2 := 13) (ls2 := [(0, .ref 111), (1, .int (nI g)), (2, .int 2)]) (st2 := [.int ((nI (103 + (6 * g))) + 2), .ref 112]) (w3 := w) rfl rfl ?_
    rw [show ((nI (103 + (6 * g))) + 2 : Int32) = nI ((103 + (6 * g)) + 2) from nI_add (103 + (6 * g)) 2]
    refine sx_RP.ild (c := ((103 + (6 * g)) + 2)) rfl hI.1.a112.1 hI.1.a112.2 (sx_in_nI (show ((103 + (6 * g)) + 2) < 172 by omega) (by decide)) (show (nI ((103 + (6 * g)) + 2)).toNatClampNeg = ((103 + (6 * g)) + 2) from nI_clamp (by omega)) (show _ = 14 from rfl) ?_
    obtain ⟨x1, hx2, ex3⟩ : inR ((ia w 112).getD ((103 + (6 * g)) + 2) 0) 47 := (hI.s (((103 + (6 * g)) + 2)) (by omega)).2.2.2.2.2.1 (by omega)
    rw [ex3]
    refine sx_RP.ret (r := (some (.int (nI x1)))) rfl rfl ?_
    exact ⟨⟨x1, by omega, rfl⟩, rfl⟩
  obtain ⟨r, w2, h1, ⟨j, hj, rfl⟩, rfl⟩ := h
  exact ⟨j, hj, h1⟩
set_option maxRecDepth 20000 in
set_option maxHeartbeats 4000000 in
theorem p138_3 {xs : Option (List Int32)} {d : Nat} {w : List sx_C} (hI : WI w) {g : Nat} (hg : g < 10) : ∃ j, j ≤ 3 ∧ sx_RU xs d 138 0 (lv_args 0 [.ref 111, .int (nI g), .int 3]) [] w (some (.int (nI j))) w := by
  have h : sx_RP xs d 138 0 (lv_args 0 [.ref 111, .int (nI g), .int 3]) [] w (fun r w2 => (∃ j, j ≤ 3 ∧ r = some (.int (nI j))) ∧ w2 = w) := by
    refine sx_RP.step (pc2 := 1) (ls2 := [(0, .ref 111), (1, .int (nI g)), (2, .int 3)]) (st2 := [.ref 111]) (w3 := w) rfl rfl ?_
    refine sx_RP.gf (v := .ref 112) rfl rfl hI.1.o111 rfl rfl (show _ = 4 from rfl) ?_
    refine sx_RP.step (pc2 := 6) (ls2 := [(0, .ref 111), (1, .int (nI g)), (2, .int 3)]) (st2 := [.int 103, .ref 112]) (w3 := w) rfl rfl ?_
    refine sx_RP.step (pc2 := 8) (ls2 := [(0, .ref 111), (1, .int (nI g)), (2, .int 3)]) (st2 := [.int 6, .int 103, .ref 112]) (w3 := w) rfl rfl ?_
    refine sx_RP.step (pc2 := 9) (ls2 := [(0, .ref 111), (1, .int (nI g)), (2, .int 3)]) (st2 := [.int (nI g), .int 6, .int 103, .ref 112]) (w3 := w) rfl rfl ?_
    refine sx_RP.step (pc2 := 10) (ls2 := [(0, .ref 111), (1, .int (nI g)), (2, .int 3)]) (st2 := [.int (6 * (nI g)), .int 103, .ref 112]) (w3 := w) rfl rfl ?_
    rw [show (6 * (nI g) : Int32) = nI (6 * g) from nI_mul 6 g]
    refine sx_RP.step (pc2 := 11) (ls2 := [(0, .ref 111), (1, .int (nI g)), (2, .int 3)]) (st2 := [.int (103 + (nI (6 * g))), .ref 112]) (w3 := w) rfl rfl ?_
    rw [show (103 + (nI (6 * g)) : Int32) = nI (103 + (6 * g)) from nI_add 103 (6 * g)]
    refine sx_RP.step (pc2 := 12) (ls2 := [(0, .ref 111), (1, .int (nI g)), (2, .int 3)]) (st2 := [.int 3, .int (nI (103 + (6 * g))), .ref 112]) (w3 := w) rfl rfl ?_
    refine sx_RP.step (pc2 := 13) (ls2 := [(0, .ref 111), (1, .int (nI g)), (2, .int 3)]) (st2 := [.int ((nI (103 + (6 * g))) + 3), .ref 112]) (w3 := w) rfl rfl ?_
    rw [show ((nI (103 + (6 * g))) + 3 : Int32) = nI ((103 + (6 * g)) + 3) from nI_add (103 + (6 * g)) 3]
    refine sx_RP.ild (c := ((103 + (6 * g)) + 3)) rfl hI.1.a112.1 hI.1.a112.2 (sx_in_nI (show ((103 + (6 * g)) + 3) < 172 by omega) (by decide)) (show (nI ((103 + (6 * g)) + 3)).toNatClampNeg = ((103 + (6 * g)) + 3) from nI_clamp (by omega)) (show _ = 14 from rfl) ?_
    obtain ⟨x1, hx2, ex3⟩ : inR ((ia w 112).getD ((103 + (6 * g)) + 3) 0) 3 := (hI.s (((103 + (6 * g)) + 3)) (by omega)).2.2.2.2.2.2.1 (by omega)
    rw [ex3]
    refine sx_RP.ret (r := (some (.int (nI x1)))) rfl rfl ?_
    exact ⟨⟨x1, by omega, rfl⟩, rfl⟩
  obtain ⟨r, w2, h1, ⟨j, hj, rfl⟩, rfl⟩ := h
  exact ⟨j, hj, h1⟩
set_option maxRecDepth 20000 in
set_option maxHeartbeats 4000000 in
theorem p138_4 {xs : Option (List Int32)} {d : Nat} {w : List sx_C} (hI : WI w) {g : Nat} (hg : g < 10) : ∃ v : Int32, sx_RU xs d 138 0 (lv_args 0 [.ref 111, .int (nI g), .int 4]) [] w (some (.int v)) w := by
  have h : sx_RP xs d 138 0 (lv_args 0 [.ref 111, .int (nI g), .int 4]) [] w (fun r w2 => (∃ v : Int32, r = some (.int v)) ∧ w2 = w) := by
    refine sx_RP.step (pc2 := 1) (ls2 := [(0, .ref 111), (1, .int (nI g)), (2, .int 4)]) (st2 := [.ref 111]) (w3 := w) rfl rfl ?_
    refine sx_RP.gf (v := .ref 112) rfl rfl hI.1.o111 rfl rfl (show _ = 4 from rfl) ?_
    refine sx_RP.step (pc2 := 6) (ls2 := [(0, .ref 111), (1, .int (nI g)), (2, .int 4)]) (st2 := [.int 103, .ref 112]) (w3 := w) rfl rfl ?_
    refine sx_RP.step (pc2 := 8) (ls2 := [(0, .ref 111), (1, .int (nI g)), (2, .int 4)]) (st2 := [.int 6, .int 103, .ref 112]) (w3 := w) rfl rfl ?_
    refine sx_RP.step (pc2 := 9) (ls2 := [(0, .ref 111), (1, .int (nI g)), (2, .int 4)]) (st2 := [.int (nI g), .int 6, .int 103, .ref 112]) (w3 := w) rfl rfl ?_
    refine sx_RP.step (pc2 := 10) (ls2 := [(0, .ref 111), (1, .int (nI g)), (2, .int 4)]) (st2 := [.int (6 * (nI g)), .int 103, .ref 112]) (w3 := w) rfl rfl ?_
    rw [show (6 * (nI g) : Int32) = nI (6 * g) from nI_mul 6 g]
    refine sx_RP.step (pc2 := 11) (ls2 := [(0, .ref 111), (1, .int (nI g)), (2, .int 4)]) (st2 := [.int (103 + (nI (6 * g))), .ref 112]) (w3 := w) rfl rfl ?_
    rw [show (103 + (nI (6 * g)) : Int32) = nI (103 + (6 * g)) from nI_add 103 (6 * g)]
    refine sx_RP.step (pc2 := 12) (ls2 := [(0, .ref 111), (1, .int (nI g)), (2, .int 4)]) (st2 := [.int 4, .int (nI (103 + (6 * g))), .ref 112]) (w3 := w) rfl rfl ?_
    refine sx_RP.step (pc2 := 13) (ls2 := [(0, .ref 111), (1, .int (nI g)), (2, .int 4)]) (st2 := [.int ((nI (103 + (6 * g))) + 4), .ref 112]) (w3 := w) rfl rfl ?_
    rw [show ((nI (103 + (6 * g))) + 4 : Int32) = nI ((103 + (6 * g)) + 4) from nI_add (103 + (6 * g)) 4]
    refine sx_RP.ild (c := ((103 + (6 * g)) + 4)) rfl hI.1.a112.1 hI.1.a112.2 (sx_in_nI (show ((103 + (6 * g)) + 4) < 172 by omega) (by decide)) (show (nI ((103 + (6 * g)) + 4)).toNatClampNeg = ((103 + (6 * g)) + 4) from nI_clamp (by omega)) (show _ = 14 from rfl) ?_
    refine sx_RP.ret (r := (some (.int ((ia w 112).getD ((103 + (6 * g)) + 4) 0)))) rfl rfl ?_
    exact ⟨⟨_, rfl⟩, rfl⟩
  obtain ⟨r, w2, h1, ⟨v, rfl⟩, rfl⟩ := h
  exact ⟨v, h1⟩
set_option maxRecDepth 20000 in
set_option maxHeartbeats 4000000 in
theorem p138_5 {xs : Option (List Int32)} {d : Nat} {w : List sx_C} (hI : WI w) {g : Nat} (hg : g < 10) : ∃ j, j ≤ 1 ∧ sx_RU xs d 138 0 (lv_args 0 [.ref 111, .int (nI g), .int 5]) [] w (some (.int (nI j))) w := by
  have h : sx_RP xs d 138 0 (lv_args 0 [.ref 111, .int (nI g), .int 5]) [] w (fun r w2 => (∃ j, j ≤ 1 ∧ r = some (.int (nI j))) ∧ w2 = w) := by
    refine sx_RP.step (pc2 := 1) (ls2 := [(0, .ref 111), (1, .int (nI g)), (2, .int 5)]) (st2 := [.ref 111]) (w3 := w) rfl rfl ?_
    refine sx_RP.gf (v := .ref 112) rfl rfl hI.1.o111 rfl rfl (show _ = 4 from rfl) ?_
    refine sx_RP.step (pc2 := 6) (ls2 := [(0, .ref 111), (1, .int (nI g)), (2, .int 5)]) (st2 := [.int 103, .ref 112]) (w3 := w) rfl rfl ?_
    refine sx_RP.step (pc2 := 8) (ls2 := [(0, .ref 111), (1, .int (nI g)), (2, .int 5)]) (st2 := [.int 6, .int 103, .ref 112]) (w3 := w) rfl rfl ?_
    refine sx_RP.step (pc2 := 9) (ls2 := [(0, .ref 111), (1, .int (nI g)), (2, .int 5)]) (st2 := [.int (nI g), .int 6, .int 103, .ref 112]) (w3 := w) rfl rfl ?_
    refine sx_RP.step (pc2 := 10) (ls2 := [(0, .ref 111), (1, .int (nI g)), (2, .int 5)]) (st2 := [.int (6 * (nI g)), .int 103, .ref 112]) (w3 := w) rfl rfl ?_
    rw [show (6 * (nI g) : Int32) = nI (6 * g) from nI_mul 6 g]
    refine sx_RP.step (pc2 := 11) (ls2 := [(0, .ref 111), (1, .int (nI g)), (2, .int 5)]) (st2 := [.int (103 + (nI (6 * g))), .ref 112]) (w3 := w) rfl rfl ?_
    rw [show (103 + (nI (6 * g)) : Int32) = nI (103 + (6 * g)) from nI_add 103 (6 * g)]
    refine sx_RP.step (pc2 := 12) (ls2 := [(0, .ref 111), (1, .int (nI g)), (2, .int 5)]) (st2 := [.int 5, .int (nI (103 + (6 * g))), .ref 112]) (w3 := w) rfl rfl ?_
    refine sx_RP.step (pc2 := 13) (ls2 := [(0, .ref 111), (1, .int (nI g)), (2, .int 5)]) (st2 := [.int ((nI (103 + (6 * g))) + 5), .ref 112]) (w3 := w) rfl rfl ?_
    rw [show ((nI (103 + (6 * g))) + 5 : Int32) = nI ((103 + (6 * g)) + 5) from nI_add (103 + (6 * g)) 5]
    refine sx_RP.ild (c := ((103 + (6 * g)) + 5)) rfl hI.1.a112.1 hI.1.a112.2 (sx_in_nI (show ((103 + (6 * g)) + 5) < 172 by omega) (by decide)) (show (nI ((103 + (6 * g)) + 5)).toNatClampNeg = ((103 + (6 * g)) + 5) from nI_clamp (by omega)) (show _ = 14 from rfl) ?_
    obtain ⟨x1, hx2, ex3⟩ : inR ((ia w 112).getD ((103 + (6 * g)) + 5) 0) 1 := (hI.s (((103 + (6 * g)) + 5)) (by omega)).2.2.2.2.2.2.2.1 (by omega)
    rw [ex3]
    refine sx_RP.ret (r := (some (.int (nI x1)))) rfl rfl ?_
    exact ⟨⟨x1, by omega, rfl⟩, rfl⟩
  obtain ⟨r, w2, h1, ⟨j, hj, rfl⟩, rfl⟩ := h
  exact ⟨j, hj, h1⟩
set_option maxRecDepth 20000 in
set_option maxHeartbeats 4000000 in
theorem p138a {xs : Option (List Int32)} {d : Nat} {w : List sx_C} (hI : WI w) {g c : Nat} (hg : g < 10) (hc : c ≤ 5) : ∃ v : Int32, sx_RU xs d 138 0 (lv_args 0 [.ref 111, .int (nI g), .int (nI c)]) [] w (some (.int v)) w := by
  have h : sx_RP xs d 138 0 (lv_args 0 [.ref 111, .int (nI g), .int (nI c)]) [] w (fun r w2 => (∃ v : Int32, r = some (.int v)) ∧ w2 = w) := by
    refine sx_RP.step (pc2 := 1) (ls2 := [(0, .ref 111), (1, .int (nI g)), (2, .int (nI c))]) (st2 := [.ref 111]) (w3 := w) rfl rfl ?_
    refine sx_RP.gf (v := .ref 112) rfl rfl hI.1.o111 rfl rfl (show _ = 4 from rfl) ?_
    refine sx_RP.step (pc2 := 6) (ls2 := [(0, .ref 111), (1, .int (nI g)), (2, .int (nI c))]) (st2 := [.int 103, .ref 112]) (w3 := w) rfl rfl ?_
    refine sx_RP.step (pc2 := 8) (ls2 := [(0, .ref 111), (1, .int (nI g)), (2, .int (nI c))]) (st2 := [.int 6, .int 103, .ref 112]) (w3 := w) rfl rfl ?_
    refine sx_RP.step (pc2 := 9) (ls2 := [(0, .ref 111), (1, .int (nI g)), (2, .int (nI c))]) (st2 := [.int (nI g), .int 6, .int 103, .ref 112]) (w3 := w) rfl rfl ?_
    refine sx_RP.step (pc2 := 10) (ls2 := [(0, .ref 111), (1, .int (nI g)), (2, .int (nI c))]) (st2 := [.int (6 * (nI g)), .int 103, .ref 112]) (w3 := w) rfl rfl ?_
    rw [show (6 * (nI g) : Int32) = nI (6 * g) from nI_mul 6 g]
    refine sx_RP.step (pc2 := 11) (ls2 := [(0, .ref 111), (1, .int (nI g)), (2, .int (nI c))]) (st2 := [.int (103 + (nI (6 * g))), .ref 112]) (w3 := w) rfl rfl ?_
    rw [show (103 + (nI (6 * g)) : Int32) = nI (103 + (6 * g)) from nI_add 103 (6 * g)]
    refine sx_RP.step (pc2 := 12) (ls2 := [(0, .ref 111), (1, .int (nI g)), (2, .int (nI c))]) (st2 := [.int (nI c), .int (nI (103 + (6 * g))), .ref 112]) (w3 := w) rfl rfl ?_
    refine sx_RP.step (pc2 := 13) (ls2 := [(0, .ref 111), (1, .int (nI g)), (2, .int (nI c))]) (st2 := [.int ((nI (103 + (6 * g))) + (nI c)), .ref 112]) (w3 := w) rfl rfl ?_
    rw [show ((nI (103 + (6 * g))) + (nI c) : Int32) = nI ((103 + (6 * g)) + c) from nI_add (103 + (6 * g)) c]
    refine sx_RP.ild (c := ((103 + (6 * g)) + c)) rfl hI.1.a112.1 hI.1.a112.2 (sx_in_nI (show ((103 + (6 * g)) + c) < 172 by omega) (by decide)) (show (nI ((103 + (6 * g)) + c)).toNatClampNeg = ((103 + (6 * g)) + c) from nI_clamp (by omega)) (show _ = 14 from rfl) ?_
    refine sx_RP.ret (r := (some (.int ((ia w 112).getD ((103 + (6 * g)) + c) 0)))) rfl rfl ?_
    exact ⟨⟨_, rfl⟩, rfl⟩
  obtain ⟨r, w2, h1, ⟨v, rfl⟩, rfl⟩ := h
  exact ⟨v, h1⟩
set_option maxRecDepth 20000 in
set_option maxHeartbeats 4000000 in
theorem p137 {xs : Option (List Int32)} {d : Nat} {w : List sx_C} (hI : WI w) {g : Nat} (hg : g < 10) : ∃ j, j ≤ 1 ∧ sx_RU xs (d + 1) 137 0 (lv_args 0 [.ref 111, .int (nI g)]) [] w (some (.int (nI j))) w := by
  have h : sx_RP xs (d + 1) 137 0 (lv_args 0 [.ref 111, .int (nI g)]) [] w (fun r w2 => (∃ j, j ≤ 1 ∧ r = some (.int (nI j))) ∧ w2 = w) := by
    refine sx_RP.step (pc2 := 1) (ls2 := [(0, .ref 111), (1, .int (nI g))]) (st2 := [.ref 111]) (w3 := w) rfl rfl ?_
    refine sx_RP.step (pc2 := 2) (ls2 := [(0, .ref 111), (1, .int (nI g))]) (st2 := [.int (nI g), .ref 111]) (w3 := w) rfl rfl ?_
    refine sx_RP.step (pc2 := 3) (ls2 := [(0, .ref 111), (1, .int (nI g))]) (st2 := [.int 5, .int (nI g), .ref 111]) (w3 := w) rfl rfl ?_
    obtain ⟨x1, hx2, c3⟩ := p138_5 hI (show g < 10 by omega)
    refine sx_RP.cu (as := [.ref 111, .int (nI g), .int 5]) (rest2 := []) (st3 := [.int (nI x1)]) rfl rfl (sx_inv_v2 (mi := 137) (k := 59) (st := [.int 5, .int (nI g), .ref 111]) (w := w) rfl rfl hI.1.o111 rfl rfl rfl) rfl rfl (c3) rfl ?_
    refine sx_RP.br (p1 := 13) (l1 := [(0, .ref 111), (1, .int (nI g))]) (s1 := []) (v1 := w) (p2 := 9) (l2 := [(0, .ref 111), (1, .int (nI g))]) (s2 := []) (v2 := w) rfl rfl (fun q4 => ?_) (fun q4 => ?_)
    · replace q4 := of_decide_eq_true q4
      replace q4 := mt (nI_eq (a := x1) (b := 0) (by omega) (by omega)).mpr q4
      refine sx_RP.step (pc2 := 14) (ls2 := [(0, .ref 111), (1, .int (nI g))]) (st2 := [.int 0]) (w3 := w) rfl rfl ?_
      refine sx_RP.ret (r := (some (.int 0))) rfl rfl ?_
      exact ⟨⟨0, by decide, rfl⟩, rfl⟩
    · replace q4 := Decidable.not_not.mp (of_decide_eq_false q4)
      replace q4 := (nI_eq (a := x1) (b := 0) (by omega) (by omega)).mp q4
      refine sx_RP.step (pc2 := 10) (ls2 := [(0, .ref 111), (1, .int (nI g))]) (st2 := [.int 1]) (w3 := w) rfl rfl ?_
      refine sx_RP.step (pc2 := 14) (ls2 := [(0, .ref 111), (1, .int (nI g))]) (st2 := [.int 1]) (w3 := w) rfl rfl ?_
      refine sx_RP.ret (r := (some (.int 1))) rfl rfl ?_
      exact ⟨⟨1, by decide, rfl⟩, rfl⟩
  obtain ⟨r, w2, h1, ⟨j, hj, rfl⟩, rfl⟩ := h
  exact ⟨j, hj, h1⟩
set_option maxRecDepth 20000 in
set_option maxHeartbeats 4000000 in
theorem s154_0 {xs : Option (List Int32)} {d : Nat} {w : List sx_C} (hI : WI w) {g : Nat} (hg : g < 10) {v : Nat} (hv : v ≤ 5) : sx_RP xs (d + 1) 154 0 (lv_args 0 [.ref 111, .int (nI g), .int 0, .int (nI v)]) [] w (fun r w2 => (∃ v : Int32, r = some (.int v)) ∧ WI w2 ∧ EM w w2) := by
  have hE : EM w w := EM.rf
  refine sx_RP.step (pc2 := 1) (ls2 := [(0, .ref 111), (1, .int (nI g)), (2, .int 0), (3, .int (nI v))]) (st2 := [.ref 111]) (w3 := w) rfl rfl ?_
  refine sx_RP.step (pc2 := 2) (ls2 := [(0, .ref 111), (1, .int (nI g)), (2, .int 0), (3, .int (nI v))]) (st2 := [.int (nI g), .ref 111]) (w3 := w) rfl rfl ?_
  refine sx_RP.step (pc2 := 3) (ls2 := [(0, .ref 111), (1, .int (nI g)), (2, .int 0), (3, .int (nI v))]) (st2 := [.int 0, .int (nI g), .ref 111]) (w3 := w) rfl rfl ?_
  obtain ⟨x1, hx2, c3⟩ := p138_0 hI (show g < 10 by omega)
  refine sx_RP.cu (as := [.ref 111, .int (nI g), .int 0]) (rest2 := []) (st3 := [.int (nI x1)]) rfl rfl (sx_inv_v2 (mi := 154) (k := 59) (st := [.int 0, .int (nI g), .ref 111]) (w := w) rfl rfl hI.1.o111 rfl rfl rfl) rfl rfl (c3) rfl ?_
  refine sx_RP.step (pc2 := 8) (ls2 := [(4, .int (nI x1)), (0, .ref 111), (1, .int (nI g)), (2, .int 0), (3, .int (nI v))]) (st2 := []) (w3 := w) rfl rfl ?_
  refine sx_RP.step (pc2 := 9) (ls2 := [(4, .int (nI x1)), (0, .ref 111), (1, .int (nI g)), (2, .int 0), (3, .int (nI v))]) (st2 := [.ref 111]) (w3 := w) rfl rfl ?_
  refine sx_RP.gf (v := .ref 112) rfl rfl hI.1.o111 rfl rfl (show _ = 12 from rfl) ?_
  refine sx_RP.step (pc2 := 14) (ls2 := [(4, .int (nI x1)), (0, .ref 111), (1, .int (nI g)), (2, .int 0), (3, .int (nI v))]) (st2 := [.int 103, .ref 112]) (w3 := w) rfl rfl ?_
  refine sx_RP.step (pc2 := 16) (ls2 := [(4, .int (nI x1)), (0, .ref 111), (1, .int (nI g)), (2, .int 0), (3, .int (nI v))]) (st2 := [.int 6, .int 103, .ref 112]) (w3 := w) rfl rfl ?_
  refine sx_RP.step (pc2 := 17) (ls2 := [(4, .int (nI x1)), (0, .ref 111), (1, .int (nI g)), (2, .int 0), (3, .int (nI v))]) (st2 := [.int (nI g), .int 6, .int 103, .ref 112]) (w3 := w) rfl rfl ?_
  refine sx_RP.step (pc2 := 18) (ls2 := [(4, .int (nI x1)), (0, .ref 111), (1, .int (nI g)), (2, .int 0), (3, .int (nI v))]) (st2 := [.int (6 * (nI g)), .int 103, .ref 112]) (w3 := w) rfl rfl ?_
  rw [show (6 * (nI g) : Int32) = nI (6 * g) from nI_mul 6 g]
  refine sx_RP.step (pc2 := 19) (ls2 := [(4, .int (nI x1)), (0, .ref 111), (1, .int (nI g)), (2, .int 0), (3, .int (nI v))]) (st2 := [.int (103 + (nI (6 * g))), .ref 112]) (w3 := w) rfl rfl ?_
  rw [show (103 + (nI (6 * g)) : Int32) = nI (103 + (6 * g)) from nI_add 103 (6 * g)]
  refine sx_RP.step (pc2 := 20) (ls2 := [(4, .int (nI x1)), (0, .ref 111), (1, .int (nI g)), (2, .int 0), (3, .int (nI v))]) (st2 := [.int 0, .int (nI (103 + (6 * g))), .ref 112]) (w3 := w) rfl rfl ?_
  refine sx_RP.step (pc2 := 21) (ls2 := [(4, .int (nI x1)), (0, .ref 111), (1, .int (nI g)), (2, .int 0), (3, .int (nI v))]) (st2 := [.int ((nI (103 + (6 * g))) + 0), .ref 112]) (w3 := w) rfl rfl ?_
  rw [show ((nI (103 + (6 * g))) + 0 : Int32) = nI ((103 + (6 * g)) + 0) from nI_add (103 + (6 * g)) 0]
  refine sx_RP.step (pc2 := 22) (ls2 := [(4, .int (nI x1)), (0, .ref 111), (1, .int (nI g)), (2, .int 0), (3, .int (nI v))]) (st2 := [.int (nI v), .int (nI ((103 + (6 * g)) + 0)), .ref 112]) (w3 := w) rfl rfl ?_
  refine sx_RP.mS (k := ((103 + (6 * g)) + 0)) hI hE (by decide) rfl rfl (by omega) (eOK_g (g := g) (c := 0) (by omega) (by decide) (inR.n (show v ≤ 5 by omega))) (show _ = 23 from rfl) (fun w4 hI5 hE6 hk7 => ?_)
  refine sx_RP.step (pc2 := 25) (ls2 := [(4, .int (nI x1)), (0, .ref 111), (1, .int (nI g)), (2, .int 0), (3, .int (nI v))]) (st2 := [.int (nI x1)]) (w3 := w4) rfl rfl ?_
  refine sx_RP.ret (r := (some (.int (nI x1)))) rfl rfl ?_
  exact ⟨⟨_, rfl⟩, hI5, hE6⟩
set_option maxRecDepth 20000 in
set_option maxHeartbeats 4000000 in
theorem s154_1 {xs : Option (List Int32)} {d : Nat} {w : List sx_C} (hI : WI w) {g : Nat} (hg : g < 10) {v : Nat} (hv : v ≤ 1) : sx_RP xs (d + 1) 154 0 (lv_args 0 [.ref 111, .int (nI g), .int 1, .int (nI v)]) [] w (fun r w2 => (∃ v : Int32, r = some (.int v)) ∧ WI w2 ∧ EM w w2) := by
  have hE : EM w w := EM.rf
  refine sx_RP.step (pc2 := 1) (ls2 := [(0, .ref 111), (1, .int (nI g)), (2, .int 1), (3, .int (nI v))]) (st2 := [.ref 111]) (w3 := w) rfl rfl ?_
  refine sx_RP.step (pc2 := 2) (ls2 := [(0, .ref 111), (1, .int (nI g)), (2, .int 1), (3, .int (nI v))]) (st2 := [.int (nI g), .ref 111]) (w3 := w) rfl rfl ?_
  refine sx_RP.step (pc2 := 3) (ls2 := [(0, .ref 111), (1, .int (nI g)), (2, .int 1), (3, .int (nI v))]) (st2 := [.int 1, .int (nI g), .ref 111]) (w3 := w) rfl rfl ?_
  obtain ⟨x1, hx2, c3⟩ := p138_1 hI (show g < 10 by omega)
  refine sx_RP.cu (as := [.ref 111, .int (nI g), .int 1]) (rest2 := []) (st3 := [.int (nI x1)]) rfl rfl (sx_inv_v2 (mi := 154) (k := 59) (st := [.int 1, .int (nI g), .ref 111]) (w := w) rfl rfl hI.1.o111 rfl rfl rfl) rfl rfl (c3) rfl ?_
  refine sx_RP.step (pc2 := 8) (ls2 := [(4, .int (nI x1)), (0, .ref 111), (1, .int (nI g)), (2, .int 1), (3, .int (nI v))]) (st2 := []) (w3 := w) rfl rfl ?_
  refine sx_RP.step (pc2 := 9) (ls2 := [(4, .int (nI x1)), (0, .ref 111), (1, .int (nI g)), (2, .int 1), (3, .int (nI v))]) (st2 := [.ref 111]) (w3 := w) rfl rfl ?_
  refine sx_RP.gf (v := .ref 112) rfl rfl hI.1.o111 rfl rfl (show _ = 12 from rfl) ?_
  refine sx_RP.step (pc2 := 14) (ls2 := [(4, .int (nI x1)), (0, .ref 111), (1, .int (nI g)), (2, .int 1), (3, .int (nI v))]) (st2 := [.int 103, .ref 112]) (w3 := w) rfl rfl ?_
  refine sx_RP.step (pc2 := 16) (ls2 := [(4, .int (nI x1)), (0, .ref 111), (1, .int (nI g)), (2, .int 1), (3, .int (nI v))]) (st2 := [.int 6, .int 103, .ref 112]) (w3 := w) rfl rfl ?_
  refine sx_RP.step (pc2 := 17) (ls2 := [(4, .int (nI x1)), (0, .ref 111), (1, .int (nI g)), (2, .int 1), (3, .int (nI v))]) (st2 := [.int (nI g), .int 6, .int 103, .ref 112]) (w3 := w) rfl rfl ?_
  refine sx_RP.step (pc2 := 18) (ls2 := [(4, .int (nI x1)), (0, .ref 111), (1, .int (nI g)), (2, .int 1), (3, .int (nI v))]) (st2 := [.int (6 * (nI g)), .int 103, .ref 112]) (w3 := w) rfl rfl ?_
  rw [show (6 * (nI g) : Int32) = nI (6 * g) from nI_mul 6 g]
  refine sx_RP.step (pc2 := 19) (ls2 := [(4, .int (nI x1)), (0, .ref 111), (1, .int (nI g)), (2, .int 1), (3, .int (nI v))]) (st2 := [.int (103 + (nI (6 * g))), .ref 112]) (w3 := w) rfl rfl ?_
  rw [show (103 + (nI (6 * g)) : Int32) = nI (103 + (6 * g)) from nI_add 103 (6 * g)]
  refine sx_RP.step (pc2 := 20) (ls2 := [(4, .int (nI x1)), (0, .ref 111), (1, .int (nI g)), (2, .int 1), (3, .int (nI v))]) (st2 := [.int 1, .int (nI (103 + (6 * g))), .ref 112]) (w3 := w) rfl rfl ?_
  refine sx_RP.step (pc2 := 21) (ls2 := [(4, .int (nI x1)), (0, .ref 111), (1, .int (nI g)), (2, .int 1), (3, .int (nI v))]) (st2 := [.int ((nI (103 + (6 * g))) + 1), .ref 112]) (w3 := w) rfl rfl ?_
  rw [show ((nI (103 + (6 * g))) + 1 : Int32) = nI ((103 + (6 * g)) + 1) from nI_add (103 + (6 * g)) 1]
  refine sx_RP.step (pc2 := 22) (ls2 := [(4, .int (nI x1)), (0, .ref 111), (1, .int (nI g)), (2, .int 1), (3, .int (nI v))]) (st2 := [.int (nI v), .int (nI ((103 + (6 * g)) + 1)), .ref 112]) (w3 := w) rfl rfl ?_
  refine sx_RP.mS (k := ((103 + (6 * g)) + 1)) hI hE (by decide) rfl rfl (by omega) (eOK_g (g := g) (c := 1) (by omega) (by decide) (inR.n (show v ≤ 1 by omega))) (show _ = 23 from rfl) (fun w4 hI5 hE6 hk7 => ?_)
  refine sx_RP.step (pc2 := 25) (ls2 := [(4, .int (nI x1)), (0, .ref 111), (1, .int (nI g)), (2, .int 1), (3, .int (nI v))]) (st2 := [.int (nI x1)]) (w3 := w4) rfl rfl ?_
  refine sx_RP.ret (r := (some (.int (nI x1)))) rfl rfl ?_
  exact ⟨⟨_, rfl⟩, hI5, hE6⟩
set_option maxRecDepth 20000 in
set_option maxHeartbeats 4000000 in
theorem s154_2 {xs : Option (List Int32)} {d : Nat} {w : List sx_C} (hI : WI w) {g : Nat} (hg : g < 10) {v : Nat} (hv : v ≤ 47) : sx_RP xs (d + 1) 154 0 (lv_args 0 [.ref 111, .int (nI g), .int 2, .int (nI v)]) [] w (fun r w2 => (∃ v : Int32, r = some (.int v)) ∧ WI w2 ∧ EM w w2) := by
  have hE : EM w w := EM.rf
  refine sx_RP.step (pc2 := 1) (ls2 := [(0, .ref 111), (1, .int (nI g)), (2, .int 2), (3, .int (nI v))]) (st2 := [.ref 111]) (w3 := w) rfl rfl ?_
  refine sx_RP.step (pc2 := 2) (ls2 := [(0, .ref 111), (1, .int (nI g)), (2, .int 2), (3, .int (nI v))]) (st2 := [.int (nI g), .ref 111]) (w3 := w) rfl rfl ?_
  refine sx_RP.step (pc2 := 3) (ls2 := [(0, .ref 111), (1, .int (nI g)), (2, .int 2), (3, .int (nI v))]) (st2 := [.int 2, .int (nI g), .ref 111]) (w3 := w) rfl rfl ?_
  obtain ⟨x1, hx2, c3⟩ := p138_2 hI (show g < 10 by omega)
  refine sx_RP.cu (as := [.ref 111, .int (nI g), .int 2]) (rest2 := []) (st3 := [.int (nI x1)]) rfl rfl (sx_inv_v2 (mi := 154) (k := 59) (st := [.int 2, .int (nI g), .ref 111]) (w := w) rfl rfl hI.1.o111 rfl rfl rfl) rfl rfl (c3) rfl ?_
  refine sx_RP.step (pc2 := 8) (ls2 := [(4, .int (nI x1)), (0, .ref 111), (1, .int (nI g)), (2, .int 2), (3, .int (nI v))]) (st2 := []) (w3 := w) rfl rfl ?_
  refine sx_RP.step (pc2 := 9) (ls2 := [(4, .int (nI x1)), (0, .ref 111), (1, .int (nI g)), (2, .int 2), (3, .int (nI v))]) (st2 := [.ref 111]) (w3 := w) rfl rfl ?_
  refine sx_RP.gf (v := .ref 112) rfl rfl hI.1.o111 rfl rfl (show _ = 12 from rfl) ?_
  refine sx_RP.step (pc2 := 14) (ls2 := [(4, .int (nI x1)), (0, .ref 111), (1, .int (nI g)), (2, .int 2), (3, .int (nI v))]) (st2 := [.int 103, .ref 112]) (w3 := w) rfl rfl ?_
  refine sx_RP.step (pc2 := 16) (ls2 := [(4, .int (nI x1)), (0, .ref 111), (1, .int (nI g)), (2, .int 2), (3, .int (nI v))]) (st2 := [.int 6, .int 103, .ref 112]) (w3 := w) rfl rfl ?_
  refine sx_RP.step (pc2 := 17) (ls2 := [(4, .int (nI x1)), (0, .ref 111), (1, .int (nI g)), (2, .int 2), (3, .int (nI v))]) (st2 := [.int (nI g), .int 6, .int 103, .ref 112]) (w3 := w) rfl rfl ?_
  refine sx_RP.step (pc2 := 18) (ls2 := [(4, .int (nI x1)), (0, .ref 111), (1, .int (nI g)), (2, .int 2), (3, .int (nI v))]) (st2 := [.int (6 * (nI g)), .int 103, .ref 112]) (w3 := w) rfl rfl ?_
  rw [show (6 * (nI g) : Int32) = nI (6 * g) from nI_mul 6 g]
  refine sx_RP.step (pc2 := 19) (ls2 := [(4, .int (nI x1)), (0, .ref 111), (1, .int (nI g)), (2, .int 2), (3, .int (nI v))]) (st2 := [.int (103 + (nI (6 * g))), .ref 112]) (w3 := w) rfl rfl ?_
  rw [show (103 + (nI (6 * g)) : Int32) = nI (103 + (6 * g)) from nI_add 103 (6 * g)]
  refine sx_RP.step (pc2 := 20) (ls2 := [(4, .int (nI x1)), (0, .ref 111), (1, .int (nI g)), (2, .int 2), (3, .int (nI v))]) (st2 := [.int 2, .int (nI (103 + (6 * g))), .ref 112]) (w3 := w) rfl rfl ?_
  refine sx_RP.step (pc2 := 21) (ls2 := [(4, .int (nI x1)), (0, .ref 111), (1, .int (nI g)), (2, .int 2), (3, .int (nI v))]) (st2 := [.int ((nI (103 + (6 * g))) + 2), .ref 112]) (w3 := w) rfl rfl ?_
  rw [show ((nI (103 + (6 * g))) + 2 : Int32) = nI ((103 + (6 * g)) + 2) from nI_add (103 + (6 * g)) 2]
  refine sx_RP.step (pc2 := 22) (ls2 := [(4, .int (nI x1)), (0, .ref 111), (1, .int (nI g)), (2, .int 2), (3, .int (nI v))]) (st2 := [.int (nI v), .int (nI ((103 + (6 * g)) + 2)), .ref 112]) (w3 := w) rfl rfl ?_
  refine sx_RP.mS (k := ((103 + (6 * g)) + 2)) hI hE (by decide) rfl rfl (by omega) (eOK_g (g := g) (c := 2) (by omega) (by decide) (inR.n (show v ≤ 47 by omega))) (show _ = 23 from rfl) (fun w4 hI5 hE6 hk7 => ?_)
  refine sx_RP.step (pc2 := 25) (ls2 := [(4, .int (nI x1)), (0, .ref 111), (1, .int (nI g)), (2, .int 2), (3, .int (nI v))]) (st2 := [.int (nI x1)]) (w3 := w4) rfl rfl ?_
  refine sx_RP.ret (r := (some (.int (nI x1)))) rfl rfl ?_
  exact ⟨⟨_, rfl⟩, hI5, hE6⟩
set_option maxRecDepth 20000 in
set_option maxHeartbeats 4000000 in
theorem s154_3 {xs : Option (List Int32)} {d : Nat} {w : List sx_C} (hI : WI w) {g : Nat} (hg : g < 10) {v : Nat} (hv : v ≤ 3) : sx_RP xs (d + 1) 154 0 (lv_args 0 [.ref 111, .int (nI g), .int 3, .int (nI v)]) [] w (fun r w2 => (∃ v : Int32, r = some (.int v)) ∧ WI w2 ∧ EM w w2) := by
  have hE : EM w w := EM.rf
  refine sx_RP.step (pc2 := 1) (ls2 := [(0, .ref 111), (1, .int (nI g)), (2, .int 3), (3, .int (nI v))]) (st2 := [.ref 111]) (w3 := w) rfl rfl ?_
  refine sx_RP.step (pc2 := 2) (ls2 := [(0, .ref 111), (1, .int (nI g)), (2, .int 3), (3, .int (nI v))]) (st2 := [.int (nI g), .ref 111]) (w3 := w) rfl rfl ?_
  refine sx_RP.step (pc2 := 3) (ls2 := [(0, .ref 111), (1, .int (nI g)), (2, .int 3), (3, .int (nI v))]) (st2 := [.int 3, .int (nI g), .ref 111]) (w3 := w) rfl rfl ?_
  obtain ⟨x1, hx2, c3⟩ := p138_3 hI (show g < 10 by omega)
  refine sx_RP.cu (as := [.ref 111, .int (nI g), .int 3]) (rest2 := []) (st3 := [.int (nI x1)]) rfl rfl (sx_inv_v2 (mi := 154) (k := 59) (st := [.int 3, .int (nI g), .ref 111]) (w := w) rfl rfl hI.1.o111 rfl rfl rfl) rfl rfl (c3) rfl ?_
  refine sx_RP.step (pc2 := 8) (ls2 := [(4, .int (nI x1)), (0, .ref 111), (1, .int (nI g)), (2, .int 3), (3, .int (nI v))]) (st2 := []) (w3 := w) rfl rfl ?_
  refine sx_RP.step (pc2 := 9) (ls2 := [(4, .int (nI x1)), (0, .ref 111), (1, .int (nI g)), (2, .int 3), (3, .int (nI v))]) (st2 := [.ref 111]) (w3 := w) rfl rfl ?_
  refine sx_RP.gf (v := .ref 112) rfl rfl hI.1.o111 rfl rfl (show _ = 12 from rfl) ?_
  refine sx_RP.step (pc2 := 14) (ls2 := [(4, .int (nI x1)), (0, .ref 111), (1, .int (nI g)), (2, .int 3), (3, .int (nI v))]) (st2 := [.int 103, .ref 112]) (w3 := w) rfl rfl ?_
  refine sx_RP.step (pc2 := 16) (ls2 := [(4, .int (nI x1)), (0, .ref 111), (1, .int (nI g)), (2, .int 3), (3, .int (nI v))]) (st2 := [.int 6, .int 103, .ref 112]) (w3 := w) rfl rfl ?_
  refine sx_RP.step (pc2 := 17) (ls2 := [(4, .int (nI x1)), (0, .ref 111), (1, .int (nI g)), (2, .int 3), (3, .int (nI v))]) (st2 := [.int (nI g), .int 6, .int 103, .ref 112]) (w3 := w) rfl rfl ?_
  refine sx_RP.step (pc2 := 18) (ls2 := [(4, .int (nI x1)), (0, .ref 111), (1, .int (nI g)), (2, .int 3), (3, .int (nI v))]) (st2 := [.int (6 * (nI g)), .int 103, .ref 112]) (w3 := w) rfl rfl ?_
  rw [show (6 * (nI g) : Int32) = nI (6 * g) from nI_mul 6 g]
  refine sx_RP.step (pc2 := 19) (ls2 := [(4, .int (nI x1)), (0, .ref 111), (1, .int (nI g)), (2, .int 3), (3, .int (nI v))]) (st2 := [.int (103 + (nI (6 * g))), .ref 112]) (w3 := w) rfl rfl ?_
  rw [show (103 + (nI (6 * g)) : Int32) = nI (103 + (6 * g)) from nI_add 103 (6 * g)]
  refine sx_RP.step (pc2 := 20) (ls2 := [(4, .int (nI x1)), (0, .ref 111), (1, .int (nI g)), (2, .int 3), (3, .int (nI v))]) (st2 := [.int 3, .int (nI (103 + (6 * g))), .ref 112]) (w3 := w) rfl rfl ?_
  refine sx_RP.step (pc2 := 21) (ls2 := [(4, .int (nI x1)), (0, .ref 111), (1, .int (nI g)), (2, .int 3), (3, .int (nI v))]) (st2 := [.int ((nI (103 + (6 * g))) + 3), .ref 112]) (w3 := w) rfl rfl ?_
  rw [show ((nI (103 + (6 * g))) + 3 : Int32) = nI ((103 + (6 * g)) + 3) from nI_add (103 + (6 * g)) 3]
  refine sx_RP.step (pc2 := 22) (ls2 := [(4, .int (nI x1)), (0, .ref 111), (1, .int (nI g)), (2, .int 3), (3, .int (nI v))]) (st2 := [.int (nI v), .int (nI ((103 + (6 * g)) + 3)), .ref 112]) (w3 := w) rfl rfl ?_
  refine sx_RP.mS (k := ((103 + (6 * g)) + 3)) hI hE (by decide) rfl rfl (by omega) (eOK_g (g := g) (c := 3) (by omega) (by decide) (inR.n (show v ≤ 3 by omega))) (show _ = 23 from rfl) (fun w4 hI5 hE6 hk7 => ?_)
  refine sx_RP.step (pc2 := 25) (ls2 := [(4, .int (nI x1)), (0, .ref 111), (1, .int (nI g)), (2, .int 3), (3, .int (nI v))]) (st2 := [.int (nI x1)]) (w3 := w4) rfl rfl ?_
  refine sx_RP.ret (r := (some (.int (nI x1)))) rfl rfl ?_
  exact ⟨⟨_, rfl⟩, hI5, hE6⟩
set_option maxRecDepth 20000 in
set_option maxHeartbeats 4000000 in
theorem s154_4 {xs : Option (List Int32)} {d : Nat} {w : List sx_C} (hI : WI w) {g : Nat} (hg : g < 10) (v : Int32) : sx_RP xs (d + 1) 154 0 (lv_args 0 [.ref 111, .int (nI g), .int 4, .int v]) [] w (fun r w2 => (∃ v : Int32, r = some (.int v)) ∧ WI w2 ∧ EM w w2) := by
  have hE : EM w w := EM.rf
  refine sx_RP.step (pc2 := 1) (ls2 := [(0, .ref 111), (1, .int (nI g)), (2, .int 4), (3, .int v)]) (st2 := [.ref 111]) (w3 := w) rfl rfl ?_
  refine sx_RP.step (pc2 := 2) (ls2 := [(0, .ref 111), (1, .int (nI g)), (2, .int 4), (3, .int v)]) (st2 := [.int (nI g), .ref 111]) (w3 := w) rfl rfl ?_
  refine sx_RP.step (pc2 := 3) (ls2 := [(0, .ref 111), (1, .int (nI g)), (2, .int 4), (3, .int v)]) (st2 := [.int 4, .int (nI g), .ref 111]) (w3 := w) rfl rfl ?_
  obtain ⟨v1, c2⟩ := p138_4 hI (show g < 10 by omega)
  refine sx_RP.cu (as := [.ref 111, .int (nI g), .int 4]) (rest2 := []) (st3 := [.int v1]) rfl rfl (sx_inv_v2 (mi := 154) (k := 59) (st := [.int 4, .int (nI g), .ref 111]) (w := w) rfl rfl hI.1.o111 rfl rfl rfl) rfl rfl (c2) rfl ?_
  refine sx_RP.step (pc2 := 8) (ls2 := [(4, .int v1), (0, .ref 111), (1, .int (nI g)), (2, .int 4), (3, .int v)]) (st2 := []) (w3 := w) rfl rfl ?_
  refine sx_RP.step (pc2 := 9) (ls2 := [(4, .int v1), (0, .ref 111), (1, .int (nI g)), (2, .int 4), (3, .int v)]) (st2 := [.ref 111]) (w3 := w) rfl rfl ?_
  refine sx_RP.gf (v := .ref 112) rfl rfl hI.1.o111 rfl rfl (show _ = 12 from rfl) ?_
  refine sx_RP.step (pc2 := 14) (ls2 := [(4, .int v1), (0, .ref 111), (1, .int (nI g)), (2, .int 4), (3, .int v)]) (st2 := [.int 103, .ref 112]) (w3 := w) rfl rfl ?_
  refine sx_RP.step (pc2 := 16) (ls2 := [(4, .int v1), (0, .ref 111), (1, .int (nI g)), (2, .int 4), (3, .int v)]) (st2 := [.int 6, .int 103, .ref 112]) (w3 := w) rfl rfl ?_
  refine sx_RP.step (pc2 := 17) (ls2 := [(4, .int v1), (0, .ref 111), (1, .int (nI g)), (2, .int 4), (3, .int v)]) (st2 := [.int (nI g), .int 6, .int 103, .ref 112]) (w3 := w) rfl rfl ?_
  refine sx_RP.step (pc2 := 18) (ls2 := [(4, .int v1), (0, .ref 111), (1, .int (nI g)), (2, .int 4), (3, .int v)]) (st2 := [.int (6 * (nI g)), .int 103, .ref 112]) (w3 := w) rfl rfl ?_
  rw [show (6 * (nI g) : Int32) = nI (6 * g) from nI_mul 6 g]
  refine sx_RP.step (pc2 := 19) (ls2 := [(4, .int v1), (0, .ref 111), (1, .int (nI g)), (2, .int 4), (3, .int v)]) (st2 := [.int (103 + (nI (6 * g))), .ref 112]) (w3 := w) rfl rfl ?_
  rw [show (103 + (nI (6 * g)) : Int32) = nI (103 + (6 * g)) from nI_add 103 (6 * g)]
  refine sx_RP.step (pc2 := 20) (ls2 := [(4, .int v1), (0, .ref 111), (1, .int (nI g)), (2, .int 4), (3, .int v)]) (st2 := [.int 4, .int (nI (103 + (6 * g))), .ref 112]) (w3 := w) rfl rfl ?_
  refine sx_RP.step (pc2 := 21) (ls2 := [(4, .int v1), (0, .ref 111), (1, .int (nI g)), (2, .int 4), (3, .int v)]) (st2 := [.int ((nI (103 + (6 * g))) + 4), .ref 112]) (w3 := w) rfl rfl ?_
  rw [show ((nI (103 + (6 * g))) + 4 : Int32) = nI ((103 + (6 * g)) + 4) from nI_add (103 + (6 * g)) 4]
  refine sx_RP.step (pc2 := 22) (ls2 := [(4, .int v1), (0, .ref 111), (1, .int (nI g)), (2, .int 4), (3, .int v)]) (st2 := [.int v, .int (nI ((103 + (6 * g)) + 4)), .ref 112]) (w3 := w) rfl rfl ?_
  refine sx_RP.mS (k := ((103 + (6 * g)) + 4)) hI hE (by decide) rfl rfl (by omega) (eOK_g (g := g) (c := 4) (by omega) (by decide) trivial) (show _ = 23 from rfl) (fun w3 hI4 hE5 hk6 => ?_)
  refine sx_RP.step (pc2 := 25) (ls2 := [(4, .int v1), (0, .ref 111), (1, .int (nI g)), (2, .int 4), (3, .int v)]) (st2 := [.int v1]) (w3 := w3) rfl rfl ?_
  refine sx_RP.ret (r := (some (.int v1))) rfl rfl ?_
  exact ⟨⟨_, rfl⟩, hI4, hE5⟩
set_option maxRecDepth 20000 in
set_option maxHeartbeats 4000000 in
theorem s154_5 {xs : Option (List Int32)} {d : Nat} {w : List sx_C} (hI : WI w) {g : Nat} (hg : g < 10) {v : Nat} (hv : v ≤ 1) : sx_RP xs (d + 1) 154 0 (lv_args 0 [.ref 111, .int (nI g), .int 5, .int (nI v)]) [] w (fun r w2 => (∃ v : Int32, r = some (.int v)) ∧ WI w2 ∧ EM w w2) := by
  have hE : EM w w := EM.rf
  refine sx_RP.step (pc2 := 1) (ls2 := [(0, .ref 111), (1, .int (nI g)), (2, .int 5), (3, .int (nI v))]) (st2 := [.ref 111]) (w3 := w) rfl rfl ?_
  refine sx_RP.step (pc2 := 2) (ls2 := [(0, .ref 111), (1, .int (nI g)), (2, .int 5), (3, .int (nI v))]) (st2 := [.int (nI g), .ref 111]) (w3 := w) rfl rfl ?_
  refine sx_RP.step (pc2 := 3) (ls2 := [(0, .ref 111), (1, .int (nI g)), (2, .int 5), (3, .int (nI v))]) (st2 := [.int 5, .int (nI g), .ref 111]) (w3 := w) rfl rfl ?_
  obtain ⟨x1, hx2, c3⟩ := p138_5 hI (show g < 10 by omega)
  refine sx_RP.cu (as := [.ref 111, .int (nI g), .int 5]) (rest2 := []) (st3 := [.int (nI x1)]) rfl rfl (sx_inv_v2 (mi := 154) (k := 59) (st := [.int 5, .int (nI g), .ref 111]) (w := w) rfl rfl hI.1.o111 rfl rfl rfl) rfl rfl (c3) rfl ?_
  refine sx_RP.step (pc2 := 8) (ls2 := [(4, .int (nI x1)), (0, .ref 111), (1, .int (nI g)), (2, .int 5), (3, .int (nI v))]) (st2 := []) (w3 := w) rfl rfl ?_
  refine sx_RP.step (pc2 := 9) (ls2 := [(4, .int (nI x1)), (0, .ref 111), (1, .int (nI g)), (2, .int 5), (3, .int (nI v))]) (st2 := [.ref 111]) (w3 := w) rfl rfl ?_
  refine sx_RP.gf (v := .ref 112) rfl rfl hI.1.o111 rfl rfl (show _ = 12 from rfl) ?_
  refine sx_RP.step (pc2 := 14) (ls2 := [(4, .int (nI x1)), (0, .ref 111), (1, .int (nI g)), (2, .int 5), (3, .int (nI v))]) (st2 := [.int 103, .ref 112]) (w3 := w) rfl rfl ?_
  refine sx_RP.step (pc2 := 16) (ls2 := [(4, .int (nI x1)), (0, .ref 111), (1, .int (nI g)), (2, .int 5), (3, .int (nI v))]) (st2 := [.int 6, .int 103, .ref 112]) (w3 := w) rfl rfl ?_
  refine sx_RP.step (pc2 := 17) (ls2 := [(4, .int (nI x1)), (0, .ref 111), (1, .int (nI g)), (2, .int 5), (3, .int (nI v))]) (st2 := [.int (nI g), .int 6, .int 103, .ref 112]) (w3 := w) rfl rfl ?_
  refine sx_RP.step (pc2 := 18) (ls2 := [(4, .int (nI x1)), (0, .ref 111), (1, .int (nI g)), (2, .int 5), (3, .int (nI v))]) (st2 := [.int (6 * (nI g)), .int 103, .ref 112]) (w3 := w) rfl rfl ?_
  rw [show (6 * (nI g) : Int32) = nI (6 * g) from nI_mul 6 g]
  refine sx_RP.step (pc2 := 19) (ls2 := [(4, .int (nI x1)), (0, .ref 111), (1, .int (nI g)), (2, .int 5), (3, .int (nI v))]) (st2 := [.int (103 + (nI (6 * g))), .ref 112]) (w3 := w) rfl rfl ?_
  rw [show (103 + (nI (6 * g)) : Int32) = nI (103 + (6 * g)) from nI_add 103 (6 * g)]
  refine sx_RP.step (pc2 := 20) (ls2 := [(4, .int (nI x1)), (0, .ref 111), (1, .int (nI g)), (2, .int 5), (3, .int (nI v))]) (st2 := [.int 5, .int (nI (103 + (6 * g))), .ref 112]) (w3 := w) rfl rfl ?_
  refine sx_RP.step (pc2 := 21) (ls2 := [(4, .int (nI x1)), (0, .ref 111), (1, .int (nI g)), (2, .int 5), (3, .int (nI v))]) (st2 := [.int ((nI (103 + (6 * g))) + 5), .ref 112]) (w3 := w) rfl rfl ?_
  rw [show ((nI (103 + (6 * g))) + 5 : Int32) = nI ((103 + (6 * g)) + 5) from nI_add (103 + (6 * g)) 5]
  refine sx_RP.step (pc2 := 22) (ls2 := [(4, .int (nI x1)), (0, .ref 111), (1, .int (nI g)), (2, .int 5), (3, .int (nI v))]) (st2 := [.int (nI v), .int (nI ((103 + (6 * g)) + 5)), .ref 112]) (w3 := w) rfl rfl ?_
  refine sx_RP.mS (k := ((103 + (6 * g)) + 5)) hI hE (by decide) rfl rfl (by omega) (eOK_g (g := g) (c := 5) (by omega) (by decide) (inR.n (show v ≤ 1 by omega))) (show _ = 23 from rfl) (fun w4 hI5 hE6 hk7 => ?_)
  refine sx_RP.step (pc2 := 25) (ls2 := [(4, .int (nI x1)), (0, .ref 111), (1, .int (nI g)), (2, .int 5), (3, .int (nI v))]) (st2 := [.int (nI x1)]) (w3 := w4) rfl rfl ?_
  refine sx_RP.ret (r := (some (.int (nI x1)))) rfl rfl ?_
  exact ⟨⟨_, rfl⟩, hI5, hE6⟩
set_option maxRecDepth 20000 in
set_option maxHeartbeats 4000000 in
theorem p145 {xs : Option (List Int32)} {d : Nat} {w : List sx_C} (hI : WI w) (x : Int32) : ∃ j, j ≤ 1 ∧ sx_RU xs d 145 0 (lv_args 0 [.int x]) [] w (some (.int (nI j))) w := by
  have h : sx_RP xs d 145 0 (lv_args 0 [.int x]) [] w (fun r w2 => (∃ j, j ≤ 1 ∧ r = some (.int (nI j))) ∧ w2 = w) := by
    refine sx_RP.step (pc2 := 1) (ls2 := [(0, .int x)]) (st2 := [.int x]) (w3 := w) rfl rfl ?_
    refine sx_RP.step (pc2 := 2) (ls2 := [(0, .int x)]) (st2 := [.int 1, .int x]) (w3 := w) rfl rfl ?_
    refine sx_RP.br (p1 := 15) (l1 := [(0, .int x)]) (s1 := []) (v1 := w) (p2 := 5) (l2 := [(0, .int x)]) (s2 := []) (v2 := w) rfl rfl (fun q1 => ?_) (fun q1 => ?_)
    · replace q1 := of_decide_eq_true q1
      refine sx_RP.step (pc2 := 16) (ls2 := [(0, .int x)]) (st2 := [.int 1]) (w3 := w) rfl rfl ?_
      refine sx_RP.step (pc2 := 20) (ls2 := [(0, .int x)]) (st2 := [.int 1]) (w3 := w) rfl rfl ?_
      refine sx_RP.ret (r := (some (.int 1))) rfl rfl ?_
      exact ⟨⟨1, by decide, rfl⟩, rfl⟩
    · replace q1 := of_decide_eq_false q1
      refine sx_RP.step (pc2 := 6) (ls2 := [(0, .int x)]) (st2 := [.int x]) (w3 := w) rfl rfl ?_
      refine sx_RP.step (pc2 := 7) (ls2 := [(0, .int x)]) (st2 := [.int 3, .int x]) (w3 := w) rfl rfl ?_
      refine sx_RP.br (p1 := 15) (l1 := [(0, .int x)]) (s1 := []) (v1 := w) (p2 := 10) (l2 := [(0, .int x)]) (s2 := []) (v2 := w) rfl rfl (fun q2 => ?_) (fun q2 => ?_)
      · replace q2 := of_decide_eq_true q2
        refine sx_RP.step (pc2 := 16) (ls2 := [(0, .int x)]) (st2 := [.int 1]) (w3 := w) rfl rfl ?_
        refine sx_RP.step (pc2 := 20) (ls2 := [(0, .int x)]) (st2 := [.int 1]) (w3 := w) rfl rfl ?_
        refine sx_RP.ret (r := (some (.int 1))) rfl rfl ?_
        exact ⟨⟨1, by decide, rfl⟩, rfl⟩
      · replace q2 := of_decide_eq_false q2
        refine sx_RP.step (pc2 := 11) (ls2 := [(0, .int x)]) (st2 := [.int x]) (w3 := w) rfl rfl ?_
        refine sx_RP.step (pc2 := 12) (ls2 := [(0, .int x)]) (st2 := [.int 5, .int x]) (w3 := w) rfl rfl ?_
        refine sx_RP.br (p1 := 19) (l1 := [(0, .int x)]) (s1 := []) (v1 := w) (p2 := 15) (l2 := [(0, .int x)]) (s2 := []) (v2 := w) rfl rfl (fun q3 => ?_) (fun q3 => ?_)
        · replace q3 := of_decide_eq_true q3
          refine sx_RP.step (pc2 := 20) (ls2 := [(0, .int x)]) (st2 := [.int 0]) (w3 := w) rfl rfl ?_
          refine sx_RP.ret (r := (some (.int 0))) rfl rfl ?_
          exact ⟨⟨0, by decide, rfl⟩, rfl⟩
        · replace q3 := Decidable.not_not.mp (of_decide_eq_false q3)
          refine sx_RP.step (pc2 := 16) (ls2 := [(0, .int x)]) (st2 := [.int 1]) (w3 := w) rfl rfl ?_
          refine sx_RP.step (pc2 := 20) (ls2 := [(0, .int x)]) (st2 := [.int 1]) (w3 := w) rfl rfl ?_
          refine sx_RP.ret (r := (some (.int 1))) rfl rfl ?_
          exact ⟨⟨1, by decide, rfl⟩, rfl⟩
  obtain ⟨r, w2, h1, ⟨j, hj, rfl⟩, rfl⟩ := h
  exact ⟨j, hj, h1⟩
set_option maxRecDepth 20000 in
set_option maxHeartbeats 4000000 in
theorem p148 {xs : Option (List Int32)} {d : Nat} {w : List sx_C} (hI : WI w) (x : Int32) : ∃ v : Int32, sx_RU xs d 148 0 (lv_args 0 [.int x]) [] w (some (.int v)) w := by
  have h : sx_RP xs d 148 0 (lv_args 0 [.int x]) [] w (fun r w2 => (∃ v : Int32, r = some (.int v)) ∧ w2 = w) := by
    refine sx_RP.step (pc2 := 1) (ls2 := [(0, .int x)]) (st2 := [.int x]) (w3 := w) rfl rfl ?_
    refine sx_RP.br (p1 := 8) (l1 := [(0, .int x)]) (s1 := []) (v1 := w) (p2 := 4) (l2 := [(0, .int x)]) (s2 := []) (v2 := w) rfl rfl (fun q1 => ?_) (fun q1 => ?_)
    · replace q1 := of_decide_eq_true q1
      refine sx_RP.step (pc2 := 9) (ls2 := [(0, .int x)]) (st2 := [.int x]) (w3 := w) rfl rfl ?_
      refine sx_RP.step (pc2 := 10) (ls2 := [(0, .int x)]) (st2 := [.int 1, .int x]) (w3 := w) rfl rfl ?_
      refine sx_RP.br (p1 := 17) (l1 := [(0, .int x)]) (s1 := []) (v1 := w) (p2 := 13) (l2 := [(0, .int x)]) (s2 := []) (v2 := w) rfl rfl (fun q2 => ?_) (fun q2 => ?_)
      · replace q2 := of_decide_eq_true q2
        refine sx_RP.step (pc2 := 18) (ls2 := [(0, .int x)]) (st2 := [.int 4]) (w3 := w) rfl rfl ?_
        refine sx_RP.ret (r := (some (.int 4))) rfl rfl ?_
        exact ⟨⟨_, rfl⟩, rfl⟩
      · replace q2 := Decidable.not_not.mp (of_decide_eq_false q2)
        refine sx_RP.step (pc2 := 14) (ls2 := [(0, .int x)]) (st2 := [.int 2]) (w3 := w) rfl rfl ?_
        refine sx_RP.step (pc2 := 18) (ls2 := [(0, .int x)]) (st2 := [.int 2]) (w3 := w) rfl rfl ?_
        refine sx_RP.ret (r := (some (.int 2))) rfl rfl ?_
        exact ⟨⟨_, rfl⟩, rfl⟩
    · replace q1 := Decidable.not_not.mp (of_decide_eq_false q1)
      refine sx_RP.step (pc2 := 5) (ls2 := [(0, .int x)]) (st2 := [.int 1]) (w3 := w) rfl rfl ?_
      refine sx_RP.step (pc2 := 18) (ls2 := [(0, .int x)]) (st2 := [.int 1]) (w3 := w) rfl rfl ?_
      refine sx_RP.ret (r := (some (.int 1))) rfl rfl ?_
      exact ⟨⟨_, rfl⟩, rfl⟩
  obtain ⟨r, w2, h1, ⟨v, rfl⟩, rfl⟩ := h
  exact ⟨v, h1⟩
set_option maxRecDepth 20000 in
set_option maxHeartbeats 4000000 in
theorem p163 {xs : Option (List Int32)} {d : Nat} {w : List sx_C} (hI : WI w) (x : Int32) : ∃ v : Int32, sx_RU xs d 163 0 (lv_args 0 [.int x]) [] w (some (.int v)) w := by
  have h : sx_RP xs d 163 0 (lv_args 0 [.int x]) [] w (fun r w2 => (∃ v : Int32, r = some (.int v)) ∧ w2 = w) := by
    refine sx_RP.step (pc2 := 1) (ls2 := [(0, .int x)]) (st2 := [.int x]) (w3 := w) rfl rfl ?_
    refine sx_RP.br (p1 := 9) (l1 := [(0, .int x)]) (s1 := []) (v1 := w) (p2 := 4) (l2 := [(0, .int x)]) (s2 := []) (v2 := w) rfl rfl (fun q1 => ?_) (fun q1 => ?_)
    · replace q1 := of_decide_eq_true q1
      refine sx_RP.step (pc2 := 10) (ls2 := [(0, .int x)]) (st2 := [.int x]) (w3 := w) rfl rfl ?_
      refine sx_RP.step (pc2 := 11) (ls2 := [(0, .int x)]) (st2 := [.int 1, .int x]) (w3 := w) rfl rfl ?_
      refine sx_RP.br (p1 := 19) (l1 := [(0, .int x)]) (s1 := []) (v1 := w) (p2 := 14) (l2 := [(0, .int x)]) (s2 := []) (v2 := w) rfl rfl (fun q2 => ?_) (fun q2 => ?_)
      · replace q2 := of_decide_eq_true q2
        refine sx_RP.step (pc2 := 20) (ls2 := [(0, .int x)]) (st2 := [.int x]) (w3 := w) rfl rfl ?_
        refine sx_RP.step (pc2 := 21) (ls2 := [(0, .int x)]) (st2 := [.int 2, .int x]) (w3 := w) rfl rfl ?_
        refine sx_RP.br (p1 := 29) (l1 := [(0, .int x)]) (s1 := []) (v1 := w) (p2 := 24) (l2 := [(0, .int x)]) (s2 := []) (v2 := w) rfl rfl (fun q3 => ?_) (fun q3 => ?_)
        · replace q3 := of_decide_eq_true q3
          refine sx_RP.step (pc2 := 30) (ls2 := [(0, .int x)]) (st2 := [.int 0]) (w3 := w) rfl rfl ?_
          refine sx_RP.ret (r := (some (.int 0))) rfl rfl ?_
          exact ⟨⟨_, rfl⟩, rfl⟩
        · replace q3 := Decidable.not_not.mp (of_decide_eq_false q3)
          refine sx_RP.step (pc2 := 26) (ls2 := [(0, .int x)]) (st2 := [.int 20]) (w3 := w) rfl rfl ?_
          refine sx_RP.step (pc2 := 30) (ls2 := [(0, .int x)]) (st2 := [.int 20]) (w3 := w) rfl rfl ?_
          refine sx_RP.ret (r := (some (.int 20))) rfl rfl ?_
          exact ⟨⟨_, rfl⟩, rfl⟩
      · replace q2 := Decidable.not_not.mp (of_decide_eq_false q2)
        refine sx_RP.step (pc2 := 16) (ls2 := [(0, .int x)]) (st2 := [.int 8]) (w3 := w) rfl rfl ?_
        refine sx_RP.step (pc2 := 30) (ls2 := [(0, .int x)]) (st2 := [.int 8]) (w3 := w) rfl rfl ?_
        refine sx_RP.ret (r := (some (.int 8))) rfl rfl ?_
        exact ⟨⟨_, rfl⟩, rfl⟩
    · replace q1 := Decidable.not_not.mp (of_decide_eq_false q1)
      refine sx_RP.step (pc2 := 6) (ls2 := [(0, .int x)]) (st2 := [.int 12]) (w3 := w) rfl rfl ?_
      refine sx_RP.step (pc2 := 30) (ls2 := [(0, .int x)]) (st2 := [.int 12]) (w3 := w) rfl rfl ?_
      refine sx_RP.ret (r := (some (.int 12))) rfl rfl ?_
      exact ⟨⟨_, rfl⟩, rfl⟩
  obtain ⟨r, w2, h1, ⟨v, rfl⟩, rfl⟩ := h
  exact ⟨v, h1⟩
set_option maxRecDepth 20000 in
set_option maxHeartbeats 4000000 in
theorem p144 {xs : Option (List Int32)} {d : Nat} {w : List sx_C} (hI : WI w) {g c : Nat} (hg : g < 10) (hc : c < 48) : ∃ j, j ≤ 1 ∧ sx_RU xs (d + 1) 144 0 (lv_args 0 [.ref 111, .int (nI g), .int (nI c)]) [] w (some (.int (nI j))) w := by
  have h : sx_RP xs (d + 1) 144 0 (lv_args 0 [.ref 111, .int (nI g), .int (nI c)]) [] w (fun r w2 => (∃ j, j ≤ 1 ∧ r = some (.int (nI j))) ∧ w2 = w) := by
    refine sx_RP.step (pc2 := 1) (ls2 := [(0, .ref 111), (1, .int (nI g)), (2, .int (nI c))]) (st2 := [.ref 111]) (w3 := w) rfl rfl ?_
    refine sx_RP.step (pc2 := 2) (ls2 := [(0, .ref 111), (1, .int (nI g)), (2, .int (nI c))]) (st2 := [.int (nI g), .ref 111]) (w3 := w) rfl rfl ?_
    refine sx_RP.step (pc2 := 3) (ls2 := [(0, .ref 111), (1, .int (nI g)), (2, .int (nI c))]) (st2 := [.int 0, .int (nI g), .ref 111]) (w3 := w) rfl rfl ?_
    obtain ⟨x1, hx2, c3⟩ := p138_0 hI (show g < 10 by omega)
    refine sx_RP.cu (as := [.ref 111, .int (nI g), .int 0]) (rest2 := []) (st3 := [.int (nI x1)]) rfl rfl (sx_inv_v2 (mi := 144) (k := 59) (st := [.int 0, .int (nI g), .ref 111]) (w := w) rfl rfl hI.1.o111 rfl rfl rfl) rfl rfl (c3) rfl ?_
    obtain ⟨x4, hx5, c6⟩ := p145 hI (nI x1)
    refine sx_RP.cu (as := [.int (nI x1)]) (rest2 := []) (st3 := [.int (nI x4)]) rfl rfl rfl rfl rfl (c6) rfl ?_
    refine sx_RP.br (p1 := 25) (l1 := [(0, .ref 111), (1, .int (nI g)), (2, .int (nI c))]) (s1 := []) (v1 := w) (p2 := 12) (l2 := [(0, .ref 111), (1, .int (nI g)), (2, .int (nI c))]) (s2 := []) (v2 := w) rfl rfl (fun q7 => ?_) (fun q7 => ?_)
    · replace q7 := of_decide_eq_true q7
      replace q7 := mt (nI_eq (a := x4) (b := 0) (by omega) (by omega)).mpr q7
      refine sx_RP.step (pc2 := 26) (ls2 := [(0, .ref 111), (1, .int (nI g)), (2, .int (nI c))]) (st2 := [.int 1]) (w3 := w) rfl rfl ?_
      refine sx_RP.step (pc2 := 30) (ls2 := [(0, .ref 111), (1, .int (nI g)), (2, .int (nI c))]) (st2 := [.int 1]) (w3 := w) rfl rfl ?_
      refine sx_RP.ret (r := (some (.int 1))) rfl rfl ?_
      exact ⟨⟨1, by decide, rfl⟩, rfl⟩
    · replace q7 := Decidable.not_not.mp (of_decide_eq_false q7)
      replace q7 := (nI_eq (a := x4) (b := 0) (by omega) (by omega)).mp q7
      refine sx_RP.step (pc2 := 13) (ls2 := [(0, .ref 111), (1, .int (nI g)), (2, .int (nI c))]) (st2 := [.ref 111]) (w3 := w) rfl rfl ?_
      refine sx_RP.gf (v := .ref 112) rfl rfl hI.1.o111 rfl rfl (show _ = 16 from rfl) ?_
      refine sx_RP.step (pc2 := 18) (ls2 := [(0, .ref 111), (1, .int (nI g)), (2, .int (nI c))]) (st2 := [.int 7, .ref 112]) (w3 := w) rfl rfl ?_
      refine sx_RP.step (pc2 := 19) (ls2 := [(0, .ref 111), (1, .int (nI g)), (2, .int (nI c))]) (st2 := [.int (nI c), .int 7, .ref 112]) (w3 := w) rfl rfl ?_
      refine sx_RP.step (pc2 := 20) (ls2 := [(0, .ref 111), (1, .int (nI g)), (2, .int (nI c))]) (st2 := [.int (7 + (nI c)), .ref 112]) (w3 := w) rfl rfl ?_
      rw [show (7 + (nI c) : Int32) = nI (7 + c) from nI_add 7 c]
      refine sx_RP.ild (c := (7 + c)) rfl hI.1.a112.1 hI.1.a112.2 (sx_in_nI (show (7 + c) < 172 by omega) (by decide)) (show (nI (7 + c)).toNatClampNeg = (7 + c) from nI_clamp (by omega)) (show _ = 21 from rfl) ?_
      obtain ⟨x8, hx9, ex10⟩ : inR ((ia w 112).getD (7 + c) 0) 3 := (hI.s ((7 + c)) (by omega)).2.2.1 (by omega)
      rw [ex10]
      refine sx_RP.step (pc2 := 22) (ls2 := [(0, .ref 111), (1, .int (nI g)), (2, .int (nI c))]) (st2 := [.int 1, .int (nI x8)]) (w3 := w) rfl rfl ?_
      refine sx_RP.br (p1 := 29) (l1 := [(0, .ref 111), (1, .int (nI g)), (2, .int (nI c))]) (s1 := []) (v1 := w) (p2 := 25) (l2 := [(0, .ref 111), (1, .int (nI g)), (2, .int (nI c))]) (s2 := []) (v2 := w) rfl rfl (fun q11 => ?_) (fun q11 => ?_)
      · replace q11 := of_decide_eq_true q11
        replace q11 := (nI_eq (a := x8) (b := 1) (by omega) (by omega)).mp q11
        refine sx_RP.step (pc2 := 30) (ls2 := [(0, .ref 111), (1, .int (nI g)), (2, .int (nI c))]) (st2 := [.int 0]) (w3 := w) rfl rfl ?_
        refine sx_RP.ret (r := (some (.int 0))) rfl rfl ?_
        exact ⟨⟨0, by decide, rfl⟩, rfl⟩
      · replace q11 := of_decide_eq_false q11
        replace q11 := mt (nI_eq (a := x8) (b := 1) (by omega) (by omega)).mpr q11
        refine sx_RP.step (pc2 := 26) (ls2 := [(0, .ref 111), (1, .int (nI g)), (2, .int (nI c))]) (st2 := [.int 1]) (w3 := w) rfl rfl ?_
        refine sx_RP.step (pc2 := 30) (ls2 := [(0, .ref 111), (1, .int (nI g)), (2, .int (nI c))]) (st2 := [.int 1]) (w3 := w) rfl rfl ?_
        refine sx_RP.ret (r := (some (.int 1))) rfl rfl ?_
        exact ⟨⟨1, by decide, rfl⟩, rfl⟩
  obtain ⟨r, w2, h1, ⟨j, hj, rfl⟩, rfl⟩ := h
  exact ⟨j, hj, h1⟩
set_option maxRecDepth 20000 in
set_option maxHeartbeats 4000000 in
theorem p143 {xs : Option (List Int32)} {d : Nat} {w : List sx_C} (hI : WI w) {g c : Nat} (hg : g < 10) (hc : c < 48) : ∃ j, j ≤ 1 ∧ sx_RU xs (d + 2) 143 0 (lv_args 0 [.ref 111, .int (nI g), .int (nI c)]) [] w (some (.int (nI j))) w := by
  have h : sx_RP xs (d + 2) 143 0 (lv_args 0 [.ref 111, .int (nI g), .int (nI c)]) [] w (fun r w2 => (∃ j, j ≤ 1 ∧ r = some (.int (nI j))) ∧ w2 = w) := by
    refine sx_RP.step (pc2 := 1) (ls2 := [(0, .ref 111), (1, .int (nI g)), (2, .int (nI c))]) (st2 := [.ref 111]) (w3 := w) rfl rfl ?_
    refine sx_RP.gf (v := .ref 112) rfl rfl hI.1.o111 rfl rfl (show _ = 4 from rfl) ?_
    refine sx_RP.step (pc2 := 6) (ls2 := [(0, .ref 111), (1, .int (nI g)), (2, .int (nI c))]) (st2 := [.int 7, .ref 112]) (w3 := w) rfl rfl ?_
    refine sx_RP.step (pc2 := 7) (ls2 := [(0, .ref 111), (1, .int (nI g)), (2, .int (nI c))]) (st2 := [.int (nI c), .int 7, .ref 112]) (w3 := w) rfl rfl ?_
    refine sx_RP.step (pc2 := 8) (ls2 := [(0, .ref 111), (1, .int (nI g)), (2, .int (nI c))]) (st2 := [.int (7 + (nI c)), .ref 112]) (w3 := w) rfl rfl ?_
    rw [show (7 + (nI c) : Int32) = nI (7 + c) from nI_add 7 c]
    refine sx_RP.ild (c := (7 + c)) rfl hI.1.a112.1 hI.1.a112.2 (sx_in_nI (show (7 + c) < 172 by omega) (by decide)) (show (nI (7 + c)).toNatClampNeg = (7 + c) from nI_clamp (by omega)) (show _ = 9 from rfl) ?_
    obtain ⟨x1, hx2, ex3⟩ : inR ((ia w 112).getD (7 + c) 0) 3 := (hI.s ((7 + c)) (by omega)).2.2.1 (by omega)
    rw [ex3]
    refine sx_RP.step (pc2 := 10) (ls2 := [(0, .ref 111), (1, .int (nI g)), (2, .int (nI c))]) (st2 := [.int 3, .int (nI x1)]) (w3 := w) rfl rfl ?_
    refine sx_RP.br (p1 := 26) (l1 := [(0, .ref 111), (1, .int (nI g)), (2, .int (nI c))]) (s1 := []) (v1 := w) (p2 := 13) (l2 := [(0, .ref 111), (1, .int (nI g)), (2, .int (nI c))]) (s2 := []) (v2 := w) rfl rfl (fun q4 => ?_) (fun q4 => ?_)
    · replace q4 := of_decide_eq_true q4
      replace q4 := (nI_eq (a := x1) (b := 3) (by omega) (by omega)).mp q4
      refine sx_RP.step (pc2 := 27) (ls2 := [(0, .ref 111), (1, .int (nI g)), (2, .int (nI c))]) (st2 := [.int 0]) (w3 := w) rfl rfl ?_
      refine sx_RP.ret (r := (some (.int 0))) rfl rfl ?_
      exact ⟨⟨0, by decide, rfl⟩, rfl⟩
    · replace q4 := of_decide_eq_false q4
      replace q4 := mt (nI_eq (a := x1) (b := 3) (by omega) (by omega)).mpr q4
      refine sx_RP.step (pc2 := 14) (ls2 := [(0, .ref 111), (1, .int (nI g)), (2, .int (nI c))]) (st2 := [.ref 111]) (w3 := w) rfl rfl ?_
      refine sx_RP.step (pc2 := 15) (ls2 := [(0, .ref 111), (1, .int (nI g)), (2, .int (nI c))]) (st2 := [.int (nI g), .ref 111]) (w3 := w) rfl rfl ?_
      refine sx_RP.step (pc2 := 16) (ls2 := [(0, .ref 111), (1, .int (nI g)), (2, .int (nI c))]) (st2 := [.int (nI c), .int (nI g), .ref 111]) (w3 := w) rfl rfl ?_
      obtain ⟨x5, hx6, c7⟩ := p144 hI (show g < 10 by omega) (show c < 48 by omega)
      refine sx_RP.cu (as := [.ref 111, .int (nI g), .int (nI c)]) (rest2 := []) (st3 := [.int (nI x5)]) rfl rfl (sx_inv_v2 (mi := 143) (k := 107) (st := [.int (nI c), .int (nI g), .ref 111]) (w := w) rfl rfl hI.1.o111 rfl rfl rfl) rfl rfl (c7) rfl ?_
      refine sx_RP.br (p1 := 26) (l1 := [(0, .ref 111), (1, .int (nI g)), (2, .int (nI c))]) (s1 := []) (v1 := w) (p2 := 22) (l2 := [(0, .ref 111), (1, .int (nI g)), (2, .int (nI c))]) (s2 := []) (v2 := w) rfl rfl (fun q8 => ?_) (fun q8 => ?_)
      · replace q8 := of_decide_eq_true q8
        replace q8 := (nI_eq (a := x5) (b := 0) (by omega) (by omega)).mp q8
        refine sx_RP.step (pc2 := 27) (ls2 := [(0, .ref 111), (1, .int (nI g)), (2, .int (nI c))]) (st2 := [.int 0]) (w3 := w) rfl rfl ?_
        refine sx_RP.ret (r := (some (.int 0))) rfl rfl ?_
        exact ⟨⟨0, by decide, rfl⟩, rfl⟩
      · replace q8 := of_decide_eq_false q8
        replace q8 := mt (nI_eq (a := x5) (b := 0) (by omega) (by omega)).mpr q8
        refine sx_RP.step (pc2 := 23) (ls2 := [(0, .ref 111), (1, .int (nI g)), (2, .int (nI c))]) (st2 := [.int 1]) (w3 := w) rfl rfl ?_
        refine sx_RP.step (pc2 := 27) (ls2 := [(0, .ref 111), (1, .int (nI g)), (2, .int (nI c))]) (st2 := [.int 1]) (w3 := w) rfl rfl ?_
        refine sx_RP.ret (r := (some (.int 1))) rfl rfl ?_
        exact ⟨⟨1, by decide, rfl⟩, rfl⟩
  obtain ⟨r, w2, h1, ⟨j, hj, rfl⟩, rfl⟩ := h
  exact ⟨j, hj, h1⟩
set_option maxRecDepth 20000 in
set_option maxHeartbeats 4000000 in
theorem p147 {xs : Option (List Int32)} {d : Nat} {w : List sx_C} (hI : WI w) {g c : Nat} (hg : g < 10) (hc : c < 48) : ∃ v : Int32, sx_RU xs (d + 1) 147 0 (lv_args 0 [.ref 111, .int (nI g), .int (nI c)]) [] w (some (.int v)) w := by
  have h : sx_RP xs (d + 1) 147 0 (lv_args 0 [.ref 111, .int (nI g), .int (nI c)]) [] w (fun r w2 => (∃ v : Int32, r = some (.int v)) ∧ w2 = w) := by
    refine sx_RP.step (pc2 := 1) (ls2 := [(0, .ref 111), (1, .int (nI g)), (2, .int (nI c))]) (st2 := [.ref 111]) (w3 := w) rfl rfl ?_
    refine sx_RP.gf (v := .ref 112) rfl rfl hI.1.o111 rfl rfl (show _ = 4 from rfl) ?_
    refine sx_RP.step (pc2 := 6) (ls2 := [(0, .ref 111), (1, .int (nI g)), (2, .int (nI c))]) (st2 := [.int 7, .ref 112]) (w3 := w) rfl rfl ?_
    refine sx_RP.step (pc2 := 7) (ls2 := [(0, .ref 111), (1, .int (nI g)), (2, .int (nI c))]) (st2 := [.int (nI c), .int 7, .ref 112]) (w3 := w) rfl rfl ?_
    refine sx_RP.step (pc2 := 8) (ls2 := [(0, .ref 111), (1, .int (nI g)), (2, .int (nI c))]) (st2 := [.int (7 + (nI c)), .ref 112]) (w3 := w) rfl rfl ?_
    rw [show (7 + (nI c) : Int32) = nI (7 + c) from nI_add 7 c]
    refine sx_RP.ild (c := (7 + c)) rfl hI.1.a112.1 hI.1.a112.2 (sx_in_nI (show (7 + c) < 172 by omega) (by decide)) (show (nI (7 + c)).toNatClampNeg = (7 + c) from nI_clamp (by omega)) (show _ = 9 from rfl) ?_
    obtain ⟨x1, hx2, ex3⟩ : inR ((ia w 112).getD (7 + c) 0) 3 := (hI.s ((7 + c)) (by omega)).2.2.1 (by omega)
    rw [ex3]
    refine sx_RP.step (pc2 := 10) (ls2 := [(3, .int (nI x1)), (0, .ref 111), (1, .int (nI g)), (2, .int (nI c))]) (st2 := []) (w3 := w) rfl rfl ?_
    refine sx_RP.step (pc2 := 11) (ls2 := [(3, .int (nI x1)), (0, .ref 111), (1, .int (nI g)), (2, .int (nI c))]) (st2 := [.int (nI x1)]) (w3 := w) rfl rfl ?_
    refine sx_RP.step (pc2 := 12) (ls2 := [(3, .int (nI x1)), (0, .ref 111), (1, .int (nI g)), (2, .int (nI c))]) (st2 := [.int 3, .int (nI x1)]) (w3 := w) rfl rfl ?_
    refine sx_RP.br (p1 := 17) (l1 := [(3, .int (nI x1)), (0, .ref 111), (1, .int (nI g)), (2, .int (nI c))]) (s1 := []) (v1 := w) (p2 := 15) (l2 := [(3, .int (nI x1)), (0, .ref 111), (1, .int (nI g)), (2, .int (nI c))]) (s2 := []) (v2 := w) rfl rfl (fun q4 => ?_) (fun q4 => ?_)
    · replace q4 := of_decide_eq_true q4
      replace q4 := mt (nI_eq (a := x1) (b := 3) (by omega) (by omega)).mpr q4
      refine sx_RP.step (pc2 := 18) (ls2 := [(3, .int (nI x1)), (0, .ref 111), (1, .int (nI g)), (2, .int (nI c))]) (st2 := [.ref 111]) (w3 := w) rfl rfl ?_
      refine sx_RP.step (pc2 := 19) (ls2 := [(3, .int (nI x1)), (0, .ref 111), (1, .int (nI g)), (2, .int (nI c))]) (st2 := [.int (nI g), .ref 111]) (w3 := w) rfl rfl ?_
      refine sx_RP.step (pc2 := 20) (ls2 := [(3, .int (nI x1)), (0, .ref 111), (1, .int (nI g)), (2, .int (nI c))]) (st2 := [.int 0, .int (nI g), .ref 111]) (w3 := w) rfl rfl ?_
      obtain ⟨x5, hx6, c7⟩ := p138_0 hI (show g < 10 by omega)
      refine sx_RP.cu (as := [.ref 111, .int (nI g), .int 0]) (rest2 := []) (st3 := [.int (nI x5)]) rfl rfl (sx_inv_v2 (mi := 147) (k := 59) (st := [.int 0, .int (nI g), .ref 111]) (w := w) rfl rfl hI.1.o111 rfl rfl rfl) rfl rfl (c7) rfl ?_
      refine sx_RP.step (pc2 := 25) (ls2 := [(4, .int (nI x5)), (3, .int (nI x1)), (0, .ref 111), (1, .int (nI g)), (2, .int (nI c))]) (st2 := []) (w3 := w) rfl rfl ?_
      refine sx_RP.step (pc2 := 26) (ls2 := [(4, .int (nI x5)), (3, .int (nI x1)), (0, .ref 111), (1, .int (nI g)), (2, .int (nI c))]) (st2 := [.int (nI x1)]) (w3 := w) rfl rfl ?_
      obtain ⟨v8, c9⟩ := p148 hI (nI x1)
      refine sx_RP.cu (as := [.int (nI x1)]) (rest2 := []) (st3 := [.int v8]) rfl rfl rfl rfl rfl (c9) rfl ?_
      refine sx_RP.step (pc2 := 31) (ls2 := [(5, .int v8), (4, .int (nI x5)), (3, .int (nI x1)), (0, .ref 111), (1, .int (nI g)), (2, .int (nI c))]) (st2 := []) (w3 := w) rfl rfl ?_
      refine sx_RP.step (pc2 := 33) (ls2 := [(5, .int v8), (4, .int (nI x5)), (3, .int (nI x1)), (0, .ref 111), (1, .int (nI g)), (2, .int (nI c))]) (st2 := [.int (nI x5)]) (w3 := w) rfl rfl ?_
      rcases sw_cases (n := 5) (nI x5) with q10 | ⟨x11, hx12, ex13⟩
      · refine sx_RP.swo (t := 116) rfl q10 rfl ?_
        refine sx_RP.step (pc2 := 118) (ls2 := [(5, .int v8), (4, .int (nI x5)), (3, .int (nI x1)), (0, .ref 111), (1, .int (nI g)), (2, .int (nI c))]) (st2 := [.int v8]) (w3 := w) rfl rfl ?_
        refine sx_RP.step (pc2 := 119) (ls2 := [(5, .int v8), (4, .int (nI x5)), (3, .int (nI x1)), (0, .ref 111), (1, .int (nI g)), (2, .int (nI c))]) (st2 := [.int 1, .int v8]) (w3 := w) rfl rfl ?_
        refine sx_RP.step (pc2 := 120) (ls2 := [(5, .int v8), (4, .int (nI x5)), (3, .int (nI x1)), (0, .ref 111), (1, .int (nI g)), (2, .int (nI c))]) (st2 := [.int (v8 + 1)]) (w3 := w) rfl rfl ?_
        refine sx_RP.step (pc2 := 121) (ls2 := [(5, .int v8), (4, .int (nI x5)), (3, .int (nI x1)), (0, .ref 111), (1, .int (nI g)), (2, .int (nI c))]) (st2 := [.ref 111, .int (v8 + 1)]) (w3 := w) rfl rfl ?_
        refine sx_RP.gf (v := .ref 112) rfl rfl hI.1.o111 rfl rfl (show _ = 124 from rfl) ?_
        refine sx_RP.step (pc2 := 126) (ls2 := [(5, .int v8), (4, .int (nI x5)), (3, .int (nI x1)), (0, .ref 111), (1, .int (nI g)), (2, .int (nI c))]) (st2 := [.int 55, .ref 112, .int (v8 + 1)]) (w3 := w) rfl rfl ?_
        refine sx_RP.step (pc2 := 127) (ls2 := [(5, .int v8), (4, .int (nI x5)), (3, .int (nI x1)), (0, .ref 111), (1, .int (nI g)), (2, .int (nI c))]) (st2 := [.int (nI c), .int 55, .ref 112, .int (v8 + 1)]) (w3 := w) rfl rfl ?_
        refine sx_RP.step (pc2 := 128) (ls2 := [(5, .int v8), (4, .int (nI x5)), (3, .int (nI x1)), (0, .ref 111), (1, .int (nI g)), (2, .int (nI c))]) (st2 := [.int (55 + (nI c)), .ref 112, .int (v8 + 1)]) (w3 := w) rfl rfl ?_
        rw [show (55 + (nI c) : Int32) = nI (55 + c) from nI_add 55 c]
        refine sx_RP.ild (c := (55 + c)) rfl hI.1.a112.1 hI.1.a112.2 (sx_in_nI (show (55 + c) < 172 by omega) (by decide)) (show (nI (55 + c)).toNatClampNeg = (55 + c) from nI_clamp (by omega)) (show _ = 129 from rfl) ?_
        refine sx_RP.step (pc2 := 130) (ls2 := [(5, .int v8), (4, .int (nI x5)), (3, .int (nI x1)), (0, .ref 111), (1, .int (nI g)), (2, .int (nI c))]) (st2 := [.int ((v8 + 1) + ((ia w 112).getD (55 + c) 0))]) (w3 := w) rfl rfl ?_
        refine sx_RP.ret (r := (some (.int ((v8 + 1) + ((ia w 112).getD (55 + c) 0))))) rfl rfl ?_
        exact ⟨⟨_, rfl⟩, rfl⟩
      · rw [ex13]
        rcases (show x11 = 0 ∨ x11 = 1 ∨ x11 = 2 ∨ x11 = 3 ∨ x11 = 4 ∨ x11 = 5 by omega) with rfl | rfl | rfl | rfl | rfl | rfl
        · refine sx_RP.step (pc2 := 72) (ls2 := [(5, .int v8), (4, .int (nI 0)), (3, .int (nI x1)), (0, .ref 111), (1, .int (nI g)), (2, .int (nI c))]) (st2 := []) (w3 := w) rfl rfl ?_
          refine sx_RP.step (pc2 := 74) (ls2 := [(5, .int v8), (4, .int (nI 0)), (3, .int (nI x1)), (0, .ref 111), (1, .int (nI g)), (2, .int (nI c))]) (st2 := [.int v8]) (w3 := w) rfl rfl ?_
          refine sx_RP.ret (r := (some (.int v8))) rfl rfl ?_
          exact ⟨⟨_, rfl⟩, rfl⟩
        · refine sx_RP.step (pc2 := 75) (ls2 := [(5, .int v8), (4, .int (nI 1)), (3, .int (nI x1)), (0, .ref 111), (1, .int (nI g)), (2, .int (nI c))]) (st2 := []) (w3 := w) rfl rfl ?_
          refine sx_RP.step (pc2 := 77) (ls2 := [(5, .int v8), (4, .int (nI 1)), (3, .int (nI x1)), (0, .ref 111), (1, .int (nI g)), (2, .int (nI c))]) (st2 := [.int v8]) (w3 := w) rfl rfl ?_
          refine sx_RP.step (pc2 := 78) (ls2 := [(5, .int v8), (4, .int (nI 1)), (3, .int (nI x1)), (0, .ref 111), (1, .int (nI g)), (2, .int (nI c))]) (st2 := [.int 1, .int v8]) (w3 := w) rfl rfl ?_
          refine sx_RP.step (pc2 := 79) (ls2 := [(5, .int v8), (4, .int (nI 1)), (3, .int (nI x1)), (0, .ref 111), (1, .int (nI g)), (2, .int (nI c))]) (st2 := [.int (v8 + 1)]) (w3 := w) rfl rfl ?_
          refine sx_RP.ret (r := (some (.int (v8 + 1)))) rfl rfl ?_
          exact ⟨⟨_, rfl⟩, rfl⟩
        · refine sx_RP.step (pc2 := 80) (ls2 := [(5, .int v8), (4, .int (nI 2)), (3, .int (nI x1)), (0, .ref 111), (1, .int (nI g)), (2, .int (nI c))]) (st2 := []) (w3 := w) rfl rfl ?_
          refine sx_RP.step (pc2 := 82) (ls2 := [(5, .int v8), (4, .int (nI 2)), (3, .int (nI x1)), (0, .ref 111), (1, .int (nI g)), (2, .int (nI c))]) (st2 := [.int v8]) (w3 := w) rfl rfl ?_
          refine sx_RP.step (pc2 := 83) (ls2 := [(5, .int v8), (4, .int (nI 2)), (3, .int (nI x1)), (0, .ref 111), (1, .int (nI g)), (2, .int (nI c))]) (st2 := [.int 4, .int v8]) (w3 := w) rfl rfl ?_
          refine sx_RP.br (p1 := 90) (l1 := [(5, .int v8), (4, .int (nI 2)), (3, .int (nI x1)), (0, .ref 111), (1, .int (nI g)), (2, .int (nI c))]) (s1 := []) (v1 := w) (p2 := 86) (l2 := [(5, .int v8), (4, .int (nI 2)), (3, .int (nI x1)), (0, .ref 111), (1, .int (nI g)), (2, .int (nI c))]) (s2 := []) (v2 := w) rfl rfl (fun q14 => ?_) (fun q14 => ?_)
          · replace q14 := of_decide_eq_true q14
            refine sx_RP.step (pc2 := 91) (ls2 := [(5, .int v8), (4, .int (nI 2)), (3, .int (nI x1)), (0, .ref 111), (1, .int (nI g)), (2, .int (nI c))]) (st2 := [.int 2]) (w3 := w) rfl rfl ?_
            refine sx_RP.ret (r := (some (.int 2))) rfl rfl ?_
            exact ⟨⟨_, rfl⟩, rfl⟩
          · replace q14 := of_decide_eq_false q14
            refine sx_RP.step (pc2 := 87) (ls2 := [(5, .int v8), (4, .int (nI 2)), (3, .int (nI x1)), (0, .ref 111), (1, .int (nI g)), (2, .int (nI c))]) (st2 := [.int 1]) (w3 := w) rfl rfl ?_
            refine sx_RP.step (pc2 := 91) (ls2 := [(5, .int v8), (4, .int (nI 2)), (3, .int (nI x1)), (0, .ref 111), (1, .int (nI g)), (2, .int (nI c))]) (st2 := [.int 1]) (w3 := w) rfl rfl ?_
            refine sx_RP.ret (r := (some (.int 1))) rfl rfl ?_
            exact ⟨⟨_, rfl⟩, rfl⟩
        · refine sx_RP.step (pc2 := 116) (ls2 := [(5, .int v8), (4, .int (nI 3)), (3, .int (nI x1)), (0, .ref 111), (1, .int (nI g)), (2, .int (nI c))]) (st2 := []) (w3 := w) rfl rfl ?_
          refine sx_RP.step (pc2 := 118) (ls2 := [(5, .int v8), (4, .int (nI 3)), (3, .int (nI x1)), (0, .ref 111), (1, .int (nI g)), (2, .int (nI c))]) (st2 := [.int v8]) (w3 := w) rfl rfl ?_
          refine sx_RP.step (pc2 := 119) (ls2 := [(5, .int v8), (4, .int (nI 3)), (3, .int (nI x1)), (0, .ref 111), (1, .int (nI g)), (2, .int (nI c))]) (st2 := [.int 1, .int v8]) (w3 := w) rfl rfl ?_
          refine sx_RP.step (pc2 := 120) (ls2 := [(5, .int v8), (4, .int (nI 3)), (3, .int (nI x1)), (0, .ref 111), (1, .int (nI g)), (2, .int (nI c))]) (st2 := [.int (v8 + 1)]) (w3 := w) rfl rfl ?_
          refine sx_RP.step (pc2 := 121) (ls2 := [(5, .int v8), (4, .int (nI 3)), (3, .int (nI x1)), (0, .ref 111), (1, .int (nI g)), (2, .int (nI c))]) (st2 := [.ref 111, .int (v8 + 1)]) (w3 := w) rfl rfl ?_
          refine sx_RP.gf (v := .ref 112) rfl rfl hI.1.o111 rfl rfl (show _ = 124 from rfl) ?_
          refine sx_RP.step (pc2 := 126) (ls2 := [(5, .int v8), (4, .int (nI 3)), (3, .int (nI x1)), (0, .ref 111), (1, .int (nI g)), (2, .int (nI c))]) (st2 := [.int 55, .ref 112, .int (v8 + 1)]) (w3 := w) rfl rfl ?_
          refine sx_RP.step (pc2 := 127) (ls2 := [(5, .int v8), (4, .int (nI 3)), (3, .int (nI x1)), (0, .ref 111), (1, .int (nI g)), (2, .int (nI c))]) (st2 := [.int (nI c), .int 55, .ref 112, .int (v8 + 1)]) (w3 := w) rfl rfl ?_
          refine sx_RP.step (pc2 := 128) (ls2 := [(5, .int v8), (4, .int (nI 3)), (3, .int (nI x1)), (0, .ref 111), (1, .int (nI g)), (2, .int (nI c))]) (st2 := [.int (55 + (nI c)), .ref 112, .int (v8 + 1)]) (w3 := w) rfl rfl ?_
          rw [show (55 + (nI c) : Int32) = nI (55 + c) from nI_add 55 c]
          refine sx_RP.ild (c := (55 + c)) rfl hI.1.a112.1 hI.1.a112.2 (sx_in_nI (show (55 + c) < 172 by omega) (by decide)) (show (nI (55 + c)).toNatClampNeg = (55 + c) from nI_clamp (by omega)) (show _ = 129 from rfl) ?_
          refine sx_RP.step (pc2 := 130) (ls2 := [(5, .int v8), (4, .int (nI 3)), (3, .int (nI x1)), (0, .ref 111), (1, .int (nI g)), (2, .int (nI c))]) (st2 := [.int ((v8 + 1) + ((ia w 112).getD (55 + c) 0))]) (w3 := w) rfl rfl ?_
          refine sx_RP.ret (r := (some (.int ((v8 + 1) + ((ia w 112).getD (55 + c) 0))))) rfl rfl ?_
          exact ⟨⟨_, rfl⟩, rfl⟩
        · refine sx_RP.step (pc2 := 80) (ls2 := [(5, .int v8), (4, .int (nI 4)), (3, .int (nI x1)), (0, .ref 111), (1, .int (nI g)), (2, .int (nI c))]) (st2 := []) (w3 := w) rfl rfl ?_
          refine sx_RP.step (pc2 := 82) (ls2 := [(5, .int v8), (4, .int (nI 4)), (3, .int (nI x1)), (0, .ref 111), (1, .int (nI g)), (2, .int (nI c))]) (st2 := [.int v8]) (w3 := w) rfl rfl ?_
          refine sx_RP.step (pc2 := 83) (ls2 := [(5, .int v8), (4, .int (nI 4)), (3, .int (nI x1)), (0, .ref 111), (1, .int (nI g)), (2, .int (nI c))]) (st2 := [.int 4, .int v8]) (w3 := w) rfl rfl ?_
          refine sx_RP.br (p1 := 90) (l1 := [(5, .int v8), (4, .int (nI 4)), (3, .int (nI x1)), (0, .ref 111), (1, .int (nI g)), (2, .int (nI c))]) (s1 := []) (v1 := w) (p2 := 86) (l2 := [(5, .int v8), (4, .int (nI 4)), (3, .int (nI x1)), (0, .ref 111), (1, .int (nI g)), (2, .int (nI c))]) (s2 := []) (v2 := w) rfl rfl (fun q15 => ?_) (fun q15 => ?_)
          · replace q15 := of_decide_eq_true q15
            refine sx_RP.step (pc2 := 91) (ls2 := [(5, .int v8), (4, .int (nI 4)), (3, .int (nI x1)), (0, .ref 111), (1, .int (nI g)), (2, .int (nI c))]) (st2 := [.int 2]) (w3 := w) rfl rfl ?_
            refine sx_RP.ret (r := (some (.int 2))) rfl rfl ?_
            exact ⟨⟨_, rfl⟩, rfl⟩
          · replace q15 := of_decide_eq_false q15
            refine sx_RP.step (pc2 := 87) (ls2 := [(5, .int v8), (4, .int (nI 4)), (3, .int (nI x1)), (0, .ref 111), (1, .int (nI g)), (2, .int (nI c))]) (st2 := [.int 1]) (w3 := w) rfl rfl ?_
            refine sx_RP.step (pc2 := 91) (ls2 := [(5, .int v8), (4, .int (nI 4)), (3, .int (nI x1)), (0, .ref 111), (1, .int (nI g)), (2, .int (nI c))]) (st2 := [.int 1]) (w3 := w) rfl rfl ?_
            refine sx_RP.ret (r := (some (.int 1))) rfl rfl ?_
            exact ⟨⟨_, rfl⟩, rfl⟩
        · refine sx_RP.step (pc2 := 92) (ls2 := [(5, .int v8), (4, .int (nI 5)), (3, .int (nI x1)), (0, .ref 111), (1, .int (nI g)), (2, .int (nI c))]) (st2 := []) (w3 := w) rfl rfl ?_
          refine sx_RP.step (pc2 := 93) (ls2 := [(5, .int v8), (4, .int (nI 5)), (3, .int (nI x1)), (0, .ref 111), (1, .int (nI g)), (2, .int (nI c))]) (st2 := [.int (nI x1)]) (w3 := w) rfl rfl ?_
          refine sx_RP.step (pc2 := 94) (ls2 := [(5, .int v8), (4, .int (nI 5)), (3, .int (nI x1)), (0, .ref 111), (1, .int (nI g)), (2, .int (nI c))]) (st2 := [.int 2, .int (nI x1)]) (w3 := w) rfl rfl ?_
          refine sx_RP.br (p1 := 101) (l1 := [(5, .int v8), (4, .int (nI 5)), (3, .int (nI x1)), (0, .ref 111), (1, .int (nI g)), (2, .int (nI c))]) (s1 := []) (v1 := w) (p2 := 97) (l2 := [(5, .int v8), (4, .int (nI 5)), (3, .int (nI x1)), (0, .ref 111), (1, .int (nI g)), (2, .int (nI c))]) (s2 := []) (v2 := w) rfl rfl (fun q16 => ?_) (fun q16 => ?_)
          · replace q16 := of_decide_eq_true q16
            replace q16 := mt (nI_eq (a := x1) (b := 2) (by omega) (by omega)).mpr q16
            refine sx_RP.step (pc2 := 103) (ls2 := [(5, .int v8), (4, .int (nI 5)), (3, .int (nI x1)), (0, .ref 111), (1, .int (nI g)), (2, .int (nI c))]) (st2 := [.int v8]) (w3 := w) rfl rfl ?_
            refine sx_RP.step (pc2 := 104) (ls2 := [(5, .int v8), (4, .int (nI 5)), (3, .int (nI x1)), (0, .ref 111), (1, .int (nI g)), (2, .int (nI c))]) (st2 := [.int 1, .int v8]) (w3 := w) rfl rfl ?_
            refine sx_RP.step (pc2 := 105) (ls2 := [(5, .int v8), (4, .int (nI 5)), (3, .int (nI x1)), (0, .ref 111), (1, .int (nI g)), (2, .int (nI c))]) (st2 := [.int (v8 + 1)]) (w3 := w) rfl rfl ?_
            refine sx_RP.step (pc2 := 106) (ls2 := [(5, .int v8), (4, .int (nI 5)), (3, .int (nI x1)), (0, .ref 111), (1, .int (nI g)), (2, .int (nI c))]) (st2 := [.ref 111, .int (v8 + 1)]) (w3 := w) rfl rfl ?_
            refine sx_RP.gf (v := .ref 112) rfl rfl hI.1.o111 rfl rfl (show _ = 109 from rfl) ?_
            refine sx_RP.step (pc2 := 111) (ls2 := [(5, .int v8), (4, .int (nI 5)), (3, .int (nI x1)), (0, .ref 111), (1, .int (nI g)), (2, .int (nI c))]) (st2 := [.int 55, .ref 112, .int (v8 + 1)]) (w3 := w) rfl rfl ?_
            refine sx_RP.step (pc2 := 112) (ls2 := [(5, .int v8), (4, .int (nI 5)), (3, .int (nI x1)), (0, .ref 111), (1, .int (nI g)), (2, .int (nI c))]) (st2 := [.int (nI c), .int 55, .ref 112, .int (v8 + 1)]) (w3 := w) rfl rfl ?_
            refine sx_RP.step (pc2 := 113) (ls2 := [(5, .int v8), (4, .int (nI 5)), (3, .int (nI x1)), (0, .ref 111), (1, .int (nI g)), (2, .int (nI c))]) (st2 := [.int (55 + (nI c)), .ref 112, .int (v8 + 1)]) (w3 := w) rfl rfl ?_
            rw [show (55 + (nI c) : Int32) = nI (55 + c) from nI_add 55 c]
            refine sx_RP.ild (c := (55 + c)) rfl hI.1.a112.1 hI.1.a112.2 (sx_in_nI (show (55 + c) < 172 by omega) (by decide)) (show (nI (55 + c)).toNatClampNeg = (55 + c) from nI_clamp (by omega)) (show _ = 114 from rfl) ?_
            refine sx_RP.step (pc2 := 115) (ls2 := [(5, .int v8), (4, .int (nI 5)), (3, .int (nI x1)), (0, .ref 111), (1, .int (nI g)), (2, .int (nI c))]) (st2 := [.int ((v8 + 1) + ((ia w 112).getD (55 + c) 0))]) (w3 := w) rfl rfl ?_
            refine sx_RP.ret (r := (some (.int ((v8 + 1) + ((ia w 112).getD (55 + c) 0))))) rfl rfl ?_
            exact ⟨⟨_, rfl⟩, rfl⟩
          · replace q16 := Decidable.not_not.mp (of_decide_eq_false q16)
            replace q16 := (nI_eq (a := x1) (b := 2) (by omega) (by omega)).mp q16
            refine sx_RP.step (pc2 := 98) (ls2 := [(5, .int v8), (4, .int (nI 5)), (3, .int (nI x1)), (0, .ref 111), (1, .int (nI g)), (2, .int (nI c))]) (st2 := [.int 3]) (w3 := w) rfl rfl ?_
            refine sx_RP.step (pc2 := 115) (ls2 := [(5, .int v8), (4, .int (nI 5)), (3, .int (nI x1)), (0, .ref 111), (1, .int (nI g)), (2, .int (nI c))]) (st2 := [.int 3]) (w3 := w) rfl rfl ?_
            refine sx_RP.ret (r := (some (.int 3))) rfl rfl ?_
            exact ⟨⟨_, rfl⟩, rfl⟩
    · replace q4 := Decidable.not_not.mp (of_decide_eq_false q4)
      replace q4 := (nI_eq (a := x1) (b := 3) (by omega) (by omega)).mp q4
      refine sx_RP.step (pc2 := 16) (ls2 := [(3, .int (nI x1)), (0, .ref 111), (1, .int (nI g)), (2, .int (nI c))]) (st2 := [.int (-1)]) (w3 := w) rfl rfl ?_
      refine sx_RP.ret (r := (some (.int (-1)))) rfl rfl ?_
      exact ⟨⟨_, rfl⟩, rfl⟩
  obtain ⟨r, w2, h1, ⟨v, rfl⟩, rfl⟩ := h
  exact ⟨v, h1⟩
set_option maxRecDepth 20000 in
set_option maxHeartbeats 4000000 in
theorem q146 {xs : Option (List Int32)} {d : Nat} {w : List sx_C} (hI : WI w) {c : Nat} (hc : c < 48) : ∃ v : Int32, sx_RU xs d 146 0 (lv_args 0 [.ref 111, .int (nI c)]) [] w (some (.int v)) w := by
  have h : sx_RP xs d 146 0 (lv_args 0 [.ref 111, .int (nI c)]) [] w (fun r w2 => (∃ v : Int32, r = some (.int v)) ∧ w2 = w) := by
    refine sx_RP.step (pc2 := 1) (ls2 := [(0, .ref 111), (1, .int (nI c))]) (st2 := [.ref 111]) (w3 := w) rfl rfl ?_
    refine sx_RP.gf (v := .ref 112) rfl rfl hI.1.o111 rfl rfl (show _ = 4 from rfl) ?_
    refine sx_RP.step (pc2 := 6) (ls2 := [(0, .ref 111), (1, .int (nI c))]) (st2 := [.int 7, .ref 112]) (w3 := w) rfl rfl ?_
    refine sx_RP.step (pc2 := 7) (ls2 := [(0, .ref 111), (1, .int (nI c))]) (st2 := [.int (nI c), .int 7, .ref 112]) (w3 := w) rfl rfl ?_
    refine sx_RP.step (pc2 := 8) (ls2 := [(0, .ref 111), (1, .int (nI c))]) (st2 := [.int (7 + (nI c)), .ref 112]) (w3 := w) rfl rfl ?_
    rw [show (7 + (nI c) : Int32) = nI (7 + c) from nI_add 7 c]
    refine sx_RP.ild (c := (7 + c)) rfl hI.1.a112.1 hI.1.a112.2 (sx_in_nI (show (7 + c) < 172 by omega) (by decide)) (show (nI (7 + c)).toNatClampNeg = (7 + c) from nI_clamp (by omega)) (show _ = 9 from rfl) ?_
    obtain ⟨x1, hx2, ex3⟩ : inR ((ia w 112).getD (7 + c) 0) 3 := (hI.s ((7 + c)) (by omega)).2.2.1 (by omega)
    rw [ex3]
    refine sx_RP.step (pc2 := 10) (ls2 := [(2, .int (nI x1)), (0, .ref 111), (1, .int (nI c))]) (st2 := []) (w3 := w) rfl rfl ?_
    refine sx_RP.step (pc2 := 11) (ls2 := [(2, .int (nI x1)), (0, .ref 111), (1, .int (nI c))]) (st2 := [.int (nI x1)]) (w3 := w) rfl rfl ?_
    refine sx_RP.step (pc2 := 12) (ls2 := [(2, .int (nI x1)), (0, .ref 111), (1, .int (nI c))]) (st2 := [.int 1, .int (nI x1)]) (w3 := w) rfl rfl ?_
    refine sx_RP.br (p1 := 19) (l1 := [(2, .int (nI x1)), (0, .ref 111), (1, .int (nI c))]) (s1 := []) (v1 := w) (p2 := 15) (l2 := [(2, .int (nI x1)), (0, .ref 111), (1, .int (nI c))]) (s2 := []) (v2 := w) rfl rfl (fun q4 => ?_) (fun q4 => ?_)
    · replace q4 := of_decide_eq_true q4
      replace q4 := mt (nI_eq (a := x1) (b := 1) (by omega) (by omega)).mpr q4
      refine sx_RP.step (pc2 := 20) (ls2 := [(2, .int (nI x1)), (0, .ref 111), (1, .int (nI c))]) (st2 := [.int (nI x1)]) (w3 := w) rfl rfl ?_
      refine sx_RP.step (pc2 := 21) (ls2 := [(2, .int (nI x1)), (0, .ref 111), (1, .int (nI c))]) (st2 := [.int 3, .int (nI x1)]) (w3 := w) rfl rfl ?_
      refine sx_RP.br (p1 := 28) (l1 := [(2, .int (nI x1)), (0, .ref 111), (1, .int (nI c))]) (s1 := []) (v1 := w) (p2 := 24) (l2 := [(2, .int (nI x1)), (0, .ref 111), (1, .int (nI c))]) (s2 := []) (v2 := w) rfl rfl (fun q5 => ?_) (fun q5 => ?_)
      · replace q5 := of_decide_eq_true q5
        replace q5 := mt (nI_eq (a := x1) (b := 3) (by omega) (by omega)).mpr q5
        refine sx_RP.step (pc2 := 29) (ls2 := [(2, .int (nI x1)), (0, .ref 111), (1, .int (nI c))]) (st2 := [.int 1]) (w3 := w) rfl rfl ?_
        refine sx_RP.ret (r := (some (.int 1))) rfl rfl ?_
        exact ⟨⟨_, rfl⟩, rfl⟩
      · replace q5 := Decidable.not_not.mp (of_decide_eq_false q5)
        replace q5 := (nI_eq (a := x1) (b := 3) (by omega) (by omega)).mp q5
        refine sx_RP.step (pc2 := 25) (ls2 := [(2, .int (nI x1)), (0, .ref 111), (1, .int (nI c))]) (st2 := [.int 4]) (w3 := w) rfl rfl ?_
        refine sx_RP.step (pc2 := 29) (ls2 := [(2, .int (nI x1)), (0, .ref 111), (1, .int (nI c))]) (st2 := [.int 4]) (w3 := w) rfl rfl ?_
        refine sx_RP.ret (r := (some (.int 4))) rfl rfl ?_
        exact ⟨⟨_, rfl⟩, rfl⟩
    · replace q4 := Decidable.not_not.mp (of_decide_eq_false q4)
      replace q4 := (nI_eq (a := x1) (b := 1) (by omega) (by omega)).mp q4
      refine sx_RP.step (pc2 := 16) (ls2 := [(2, .int (nI x1)), (0, .ref 111), (1, .int (nI c))]) (st2 := [.int 2]) (w3 := w) rfl rfl ?_
      refine sx_RP.step (pc2 := 29) (ls2 := [(2, .int (nI x1)), (0, .ref 111), (1, .int (nI c))]) (st2 := [.int 2]) (w3 := w) rfl rfl ?_
      refine sx_RP.ret (r := (some (.int 2))) rfl rfl ?_
      exact ⟨⟨_, rfl⟩, rfl⟩
  obtain ⟨r, w2, h1, ⟨v, rfl⟩, rfl⟩ := h
  exact ⟨v, h1⟩
set_option maxRecDepth 20000 in
set_option maxHeartbeats 4000000 in
theorem p162 {xs : Option (List Int32)} {d : Nat} {w : List sx_C} (hI : WI w) {c : Nat} (x : Int32) (hc : c < 48) : ∃ v : Int32, sx_RU xs (d + 1) 162 0 (lv_args 0 [.ref 111, .int x, .int (nI c)]) [] w (some (.int v)) w := by
  have h : sx_RP xs (d + 1) 162 0 (lv_args 0 [.ref 111, .int x, .int (nI c)]) [] w (fun r w2 => (∃ v : Int32, r = some (.int v)) ∧ w2 = w) := by
    refine sx_RP.step (pc2 := 1) (ls2 := [(0, .ref 111), (1, .int x), (2, .int (nI c))]) (st2 := [.ref 111]) (w3 := w) rfl rfl ?_
    refine sx_RP.gf (v := .ref 112) rfl rfl hI.1.o111 rfl rfl (show _ = 4 from rfl) ?_
    refine sx_RP.step (pc2 := 6) (ls2 := [(0, .ref 111), (1, .int x), (2, .int (nI c))]) (st2 := [.int 7, .ref 112]) (w3 := w) rfl rfl ?_
    refine sx_RP.step (pc2 := 7) (ls2 := [(0, .ref 111), (1, .int x), (2, .int (nI c))]) (st2 := [.int (nI c), .int 7, .ref 112]) (w3 := w) rfl rfl ?_
    refine sx_RP.step (pc2 := 8) (ls2 := [(0, .ref 111), (1, .int x), (2, .int (nI c))]) (st2 := [.int (7 + (nI c)), .ref 112]) (w3 := w) rfl rfl ?_
    rw [show (7 + (nI c) : Int32) = nI (7 + c) from nI_add 7 c]
    refine sx_RP.ild (c := (7 + c)) rfl hI.1.a112.1 hI.1.a112.2 (sx_in_nI (show (7 + c) < 172 by omega) (by decide)) (show (nI (7 + c)).toNatClampNeg = (7 + c) from nI_clamp (by omega)) (show _ = 9 from rfl) ?_
    obtain ⟨x1, hx2, ex3⟩ : inR ((ia w 112).getD (7 + c) 0) 3 := (hI.s ((7 + c)) (by omega)).2.2.1 (by omega)
    rw [ex3]
    obtain ⟨v4, c5⟩ := p163 hI (nI x1)
    refine sx_RP.cu (as := [.int (nI x1)]) (rest2 := []) (st3 := [.int v4]) rfl rfl rfl rfl rfl (c5) rfl ?_
    refine sx_RP.step (pc2 := 13) (ls2 := [(3, .int v4), (0, .ref 111), (1, .int x), (2, .int (nI c))]) (st2 := []) (w3 := w) rfl rfl ?_
    refine sx_RP.step (pc2 := 14) (ls2 := [(3, .int v4), (0, .ref 111), (1, .int x), (2, .int (nI c))]) (st2 := [.int v4]) (w3 := w) rfl rfl ?_
    refine sx_RP.step (pc2 := 15) (ls2 := [(3, .int v4), (0, .ref 111), (1, .int x), (2, .int (nI c))]) (st2 := [.int 2, .int v4]) (w3 := w) rfl rfl ?_
    refine sx_RP.br (p1 := 22) (l1 := [(3, .int v4), (0, .ref 111), (1, .int x), (2, .int (nI c))]) (s1 := []) (v1 := w) (p2 := 18) (l2 := [(3, .int v4), (0, .ref 111), (1, .int x), (2, .int (nI c))]) (s2 := []) (v2 := w) rfl rfl (fun q6 => ?_) (fun q6 => ?_)
    · replace q6 := of_decide_eq_true q6
      refine sx_RP.step (pc2 := 23) (ls2 := [(3, .int v4), (0, .ref 111), (1, .int x), (2, .int (nI c))]) (st2 := [.int v4]) (w3 := w) rfl rfl ?_
      refine sx_RP.step (pc2 := 24) (ls2 := [(3, .int v4), (0, .ref 111), (1, .int x), (2, .int (nI c))]) (st2 := [.int 2, .int v4]) (w3 := w) rfl rfl ?_
      refine sx_RP.step (pc2 := 25) (ls2 := [(3, .int v4), (0, .ref 111), (1, .int x), (2, .int (nI c))]) (st2 := [.int (v4 - 2)]) (w3 := w) rfl rfl ?_
      refine sx_RP.step (pc2 := 27) (ls2 := [(4, .int (v4 - 2)), (3, .int v4), (0, .ref 111), (1, .int x), (2, .int (nI c))]) (st2 := []) (w3 := w) rfl rfl ?_
      refine sx_RP.step (pc2 := 28) (ls2 := [(4, .int (v4 - 2)), (3, .int v4), (0, .ref 111), (1, .int x), (2, .int (nI c))]) (st2 := [.int x]) (w3 := w) rfl rfl ?_
      rcases sw_cases (n := 4) (x) with q7 | ⟨x8, hx9, ex10⟩
      · refine sx_RP.swo (t := 79) rfl q7 rfl ?_
        refine sx_RP.step (pc2 := 81) (ls2 := [(4, .int (v4 - 2)), (3, .int v4), (0, .ref 111), (1, .int x), (2, .int (nI c))]) (st2 := [.int (v4 - 2)]) (w3 := w) rfl rfl ?_
        refine sx_RP.step (pc2 := 82) (ls2 := [(4, .int (v4 - 2)), (3, .int v4), (0, .ref 111), (1, .int x), (2, .int (nI c))]) (st2 := [.int 2, .int (v4 - 2)]) (w3 := w) rfl rfl ?_
        refine sx_RP.step (pc2 := 83) (ls2 := [(4, .int (v4 - 2)), (3, .int v4), (0, .ref 111), (1, .int x), (2, .int (nI c))]) (st2 := [.int ((v4 - 2) / 2)]) (w3 := w) rfl rfl ?_
        refine sx_RP.ret (r := (some (.int ((v4 - 2) / 2)))) rfl rfl ?_
        exact ⟨⟨_, rfl⟩, rfl⟩
      · rw [ex10]
        rcases (show x8 = 0 ∨ x8 = 1 ∨ x8 = 2 ∨ x8 = 3 ∨ x8 = 4 by omega) with rfl | rfl | rfl | rfl | rfl
        · refine sx_RP.step (pc2 := 64) (ls2 := [(4, .int (v4 - 2)), (3, .int v4), (0, .ref 111), (1, .int (nI 0)), (2, .int (nI c))]) (st2 := []) (w3 := w) rfl rfl ?_
          refine sx_RP.step (pc2 := 65) (ls2 := [(4, .int (v4 - 2)), (3, .int v4), (0, .ref 111), (1, .int (nI 0)), (2, .int (nI c))]) (st2 := [.int v4]) (w3 := w) rfl rfl ?_
          refine sx_RP.ret (r := (some (.int v4))) rfl rfl ?_
          exact ⟨⟨_, rfl⟩, rfl⟩
        · refine sx_RP.step (pc2 := 66) (ls2 := [(4, .int (v4 - 2)), (3, .int v4), (0, .ref 111), (1, .int (nI 1)), (2, .int (nI c))]) (st2 := []) (w3 := w) rfl rfl ?_
          refine sx_RP.step (pc2 := 68) (ls2 := [(4, .int (v4 - 2)), (3, .int v4), (0, .ref 111), (1, .int (nI 1)), (2, .int (nI c))]) (st2 := [.int (v4 - 2)]) (w3 := w) rfl rfl ?_
          refine sx_RP.ret (r := (some (.int (v4 - 2)))) rfl rfl ?_
          exact ⟨⟨_, rfl⟩, rfl⟩
        · refine sx_RP.step (pc2 := 69) (ls2 := [(4, .int (v4 - 2)), (3, .int v4), (0, .ref 111), (1, .int (nI 2)), (2, .int (nI c))]) (st2 := []) (w3 := w) rfl rfl ?_
          refine sx_RP.step (pc2 := 70) (ls2 := [(4, .int (v4 - 2)), (3, .int v4), (0, .ref 111), (1, .int (nI 2)), (2, .int (nI c))]) (st2 := [.int v4]) (w3 := w) rfl rfl ?_
          refine sx_RP.step (pc2 := 71) (ls2 := [(4, .int (v4 - 2)), (3, .int v4), (0, .ref 111), (1, .int (nI 2)), (2, .int (nI c))]) (st2 := [.int 2, .int v4]) (w3 := w) rfl rfl ?_
          refine sx_RP.step (pc2 := 72) (ls2 := [(4, .int (v4 - 2)), (3, .int v4), (0, .ref 111), (1, .int (nI 2)), (2, .int (nI c))]) (st2 := [.int (v4 / 2)]) (w3 := w) rfl rfl ?_
          refine sx_RP.ret (r := (some (.int (v4 / 2)))) rfl rfl ?_
          exact ⟨⟨_, rfl⟩, rfl⟩
        · refine sx_RP.step (pc2 := 79) (ls2 := [(4, .int (v4 - 2)), (3, .int v4), (0, .ref 111), (1, .int (nI 3)), (2, .int (nI c))]) (st2 := []) (w3 := w) rfl rfl ?_
          refine sx_RP.step (pc2 := 81) (ls2 := [(4, .int (v4 - 2)), (3, .int v4), (0, .ref 111), (1, .int (nI 3)), (2, .int (nI c))]) (st2 := [.int (v4 - 2)]) (w3 := w) rfl rfl ?_
          refine sx_RP.step (pc2 := 82) (ls2 := [(4, .int (v4 - 2)), (3, .int v4), (0, .ref 111), (1, .int (nI 3)), (2, .int (nI c))]) (st2 := [.int 2, .int (v4 - 2)]) (w3 := w) rfl rfl ?_
          refine sx_RP.step (pc2 := 83) (ls2 := [(4, .int (v4 - 2)), (3, .int v4), (0, .ref 111), (1, .int (nI 3)), (2, .int (nI c))]) (st2 := [.int ((v4 - 2) / 2)]) (w3 := w) rfl rfl ?_
          refine sx_RP.ret (r := (some (.int ((v4 - 2) / 2)))) rfl rfl ?_
          exact ⟨⟨_, rfl⟩, rfl⟩
        · refine sx_RP.step (pc2 := 73) (ls2 := [(4, .int (v4 - 2)), (3, .int v4), (0, .ref 111), (1, .int (nI 4)), (2, .int (nI c))]) (st2 := []) (w3 := w) rfl rfl ?_
          refine sx_RP.step (pc2 := 74) (ls2 := [(4, .int (v4 - 2)), (3, .int v4), (0, .ref 111), (1, .int (nI 4)), (2, .int (nI c))]) (st2 := [.int 3]) (w3 := w) rfl rfl ?_
          refine sx_RP.step (pc2 := 75) (ls2 := [(4, .int (v4 - 2)), (3, .int v4), (0, .ref 111), (1, .int (nI 4)), (2, .int (nI c))]) (st2 := [.int v4, .int 3]) (w3 := w) rfl rfl ?_
          refine sx_RP.step (pc2 := 76) (ls2 := [(4, .int (v4 - 2)), (3, .int v4), (0, .ref 111), (1, .int (nI 4)), (2, .int (nI c))]) (st2 := [.int 2, .int v4, .int 3]) (w3 := w) rfl rfl ?_
          refine sx_RP.step (pc2 := 77) (ls2 := [(4, .int (v4 - 2)), (3, .int v4), (0, .ref 111), (1, .int (nI 4)), (2, .int (nI c))]) (st2 := [.int (v4 / 2), .int 3]) (w3 := w) rfl rfl ?_
          refine sx_RP.step (pc2 := 78) (ls2 := [(4, .int (v4 - 2)), (3, .int v4), (0, .ref 111), (1, .int (nI 4)), (2, .int (nI c))]) (st2 := [.int (3 * (v4 / 2))]) (w3 := w) rfl rfl ?_
          refine sx_RP.ret (r := (some (.int (3 * (v4 / 2))))) rfl rfl ?_
          exact ⟨⟨_, rfl⟩, rfl⟩
    · replace q6 := of_decide_eq_false q6
      refine sx_RP.step (pc2 := 19) (ls2 := [(3, .int v4), (0, .ref 111), (1, .int x), (2, .int (nI c))]) (st2 := [.int 0]) (w3 := w) rfl rfl ?_
      refine sx_RP.step (pc2 := 25) (ls2 := [(3, .int v4), (0, .ref 111), (1, .int x), (2, .int (nI c))]) (st2 := [.int 0]) (w3 := w) rfl rfl ?_
      refine sx_RP.step (pc2 := 27) (ls2 := [(4, .int 0), (3, .int v4), (0, .ref 111), (1, .int x), (2, .int (nI c))]) (st2 := []) (w3 := w) rfl rfl ?_
      refine sx_RP.step (pc2 := 28) (ls2 := [(4, .int 0), (3, .int v4), (0, .ref 111), (1, .int x), (2, .int (nI c))]) (st2 := [.int x]) (w3 := w) rfl rfl ?_
      rcases sw_cases (n := 4) (x) with q11 | ⟨x12, hx13, ex14⟩
      · refine sx_RP.swo (t := 79) rfl q11 rfl ?_
        refine sx_RP.step (pc2 := 81) (ls2 := [(4, .int 0), (3, .int v4), (0, .ref 111), (1, .int x), (2, .int (nI c))]) (st2 := [.int 0]) (w3 := w) rfl rfl ?_
        refine sx_RP.step (pc2 := 82) (ls2 := [(4, .int 0), (3, .int v4), (0, .ref 111), (1, .int x), (2, .int (nI c))]) (st2 := [.int 2, .int 0]) (w3 := w) rfl rfl ?_
        refine sx_RP.step (pc2 := 83) (ls2 := [(4, .int 0), (3, .int v4), (0, .ref 111), (1, .int x), (2, .int (nI c))]) (st2 := [.int 0]) (w3 := w) rfl rfl ?_
        refine sx_RP.ret (r := (some (.int 0))) rfl rfl ?_
        exact ⟨⟨_, rfl⟩, rfl⟩
      · rw [ex14]
        rcases (show x12 = 0 ∨ x12 = 1 ∨ x12 = 2 ∨ x12 = 3 ∨ x12 = 4 by omega) with rfl | rfl | rfl | rfl | rfl
        · refine sx_RP.step (pc2 := 64) (ls2 := [(4, .int 0), (3, .int v4), (0, .ref 111), (1, .int (nI 0)), (2, .int (nI c))]) (st2 := []) (w3 := w) rfl rfl ?_
          refine sx_RP.step (pc2 := 65) (ls2 := [(4, .int 0), (3, .int v4), (0, .ref 111), (1, .int (nI 0)), (2, .int (nI c))]) (st2 := [.int v4]) (w3 := w) rfl rfl ?_
          refine sx_RP.ret (r := (some (.int v4))) rfl rfl ?_
          exact ⟨⟨_, rfl⟩, rfl⟩
        · refine sx_RP.step (pc2 := 66) (ls2 := [(4, .int 0), (3, .int v4), (0, .ref 111), (1, .int (nI 1)), (2, .int (nI c))]) (st2 := []) (w3 := w) rfl rfl ?_
          refine sx_RP.step (pc2 := 68) (ls2 := [(4, .int 0), (3, .int v4), (0, .ref 111), (1, .int (nI 1)), (2, .int (nI c))]) (st2 := [.int 0]) (w3 := w) rfl rfl ?_
          refine sx_RP.ret (r := (some (.int 0))) rfl rfl ?_
          exact ⟨⟨_, rfl⟩, rfl⟩
        · refine sx_RP.step (pc2 := 69) (ls2 := [(4, .int 0), (3, .int v4), (0, .ref 111), (1, .int (nI 2)), (2, .int (nI c))]) (st2 := []) (w3 := w) rfl rfl ?_
          refine sx_RP.step (pc2 := 70) (ls2 := [(4, .int 0), (3, .int v4), (0, .ref 111), (1, .int (nI 2)), (2, .int (nI c))]) (st2 := [.int v4]) (w3 := w) rfl rfl ?_
          refine sx_RP.step (pc2 := 71) (ls2 := [(4, .int 0), (3, .int v4), (0, .ref 111), (1, .int (nI 2)), (2, .int (nI c))]) (st2 := [.int 2, .int v4]) (w3 := w) rfl rfl ?_
          refine sx_RP.step (pc2 := 72) (ls2 := [(4, .int 0), (3, .int v4), (0, .ref 111), (1, .int (nI 2)), (2, .int (nI c))]) (st2 := [.int (v4 / 2)]) (w3 := w) rfl rfl ?_
          refine sx_RP.ret (r := (some (.int (v4 / 2)))) rfl rfl ?_
          exact ⟨⟨_, rfl⟩, rfl⟩
        · refine sx_RP.step (pc2 := 79) (ls2 := [(4, .int 0), (3, .int v4), (0, .ref 111), (1, .int (nI 3)), (2, .int (nI c))]) (st2 := []) (w3 := w) rfl rfl ?_
          refine sx_RP.step (pc2 := 81) (ls2 := [(4, .int 0), (3, .int v4), (0, .ref 111), (1, .int (nI 3)), (2, .int (nI c))]) (st2 := [.int 0]) (w3 := w) rfl rfl ?_
          refine sx_RP.step (pc2 := 82) (ls2 := [(4, .int 0), (3, .int v4), (0, .ref 111), (1, .int (nI 3)), (2, .int (nI c))]) (st2 := [.int 2, .int 0]) (w3 := w) rfl rfl ?_
          refine sx_RP.step (pc2 := 83) (ls2 := [(4, .int 0), (3, .int v4), (0, .ref 111), (1, .int (nI 3)), (2, .int (nI c))]) (st2 := [.int 0]) (w3 := w) rfl rfl ?_
          refine sx_RP.ret (r := (some (.int 0))) rfl rfl ?_
          exact ⟨⟨_, rfl⟩, rfl⟩
        · refine sx_RP.step (pc2 := 73) (ls2 := [(4, .int 0), (3, .int v4), (0, .ref 111), (1, .int (nI 4)), (2, .int (nI c))]) (st2 := []) (w3 := w) rfl rfl ?_
          refine sx_RP.step (pc2 := 74) (ls2 := [(4, .int 0), (3, .int v4), (0, .ref 111), (1, .int (nI 4)), (2, .int (nI c))]) (st2 := [.int 3]) (w3 := w) rfl rfl ?_
          refine sx_RP.step (pc2 := 75) (ls2 := [(4, .int 0), (3, .int v4), (0, .ref 111), (1, .int (nI 4)), (2, .int (nI c))]) (st2 := [.int v4, .int 3]) (w3 := w) rfl rfl ?_
          refine sx_RP.step (pc2 := 76) (ls2 := [(4, .int 0), (3, .int v4), (0, .ref 111), (1, .int (nI 4)), (2, .int (nI c))]) (st2 := [.int 2, .int v4, .int 3]) (w3 := w) rfl rfl ?_
          refine sx_RP.step (pc2 := 77) (ls2 := [(4, .int 0), (3, .int v4), (0, .ref 111), (1, .int (nI 4)), (2, .int (nI c))]) (st2 := [.int (v4 / 2), .int 3]) (w3 := w) rfl rfl ?_
          refine sx_RP.step (pc2 := 78) (ls2 := [(4, .int 0), (3, .int v4), (0, .ref 111), (1, .int (nI 4)), (2, .int (nI c))]) (st2 := [.int (3 * (v4 / 2))]) (w3 := w) rfl rfl ?_
          refine sx_RP.ret (r := (some (.int (3 * (v4 / 2))))) rfl rfl ?_
          exact ⟨⟨_, rfl⟩, rfl⟩
  obtain ⟨r, w2, h1, ⟨v, rfl⟩, rfl⟩ := h
  exact ⟨v, h1⟩
set_option maxRecDepth 20000 in
set_option maxHeartbeats 4000000 in
theorem p165 {xs : Option (List Int32)} {d : Nat} {w : List sx_C} (hI : WI w) (x : Int32) : ∃ j, j ≤ 1 ∧ sx_RU xs d 165 0 (lv_args 0 [.ref 111, .int x]) [] w (some (.int (nI j))) w := by
  have h : sx_RP xs d 165 0 (lv_args 0 [.ref 111, .int x]) [] w (fun r w2 => (∃ j, j ≤ 1 ∧ r = some (.int (nI j))) ∧ w2 = w) := by
    refine sx_RP.step (pc2 := 1) (ls2 := [(0, .ref 111), (1, .int x)]) (st2 := [.ref 111]) (w3 := w) rfl rfl ?_
    refine sx_RP.gf (v := .ref 112) rfl rfl hI.1.o111 rfl rfl (show _ = 4 from rfl) ?_
    refine sx_RP.step (pc2 := 5) (ls2 := [(0, .ref 111), (1, .int x)]) (st2 := [.int 0, .ref 112]) (w3 := w) rfl rfl ?_
    refine sx_RP.ild (c := 0) rfl hI.1.a112.1 hI.1.a112.2 (sx_in_nI (show 0 < 172 by omega) (by decide)) (show (nI 0).toNatClampNeg = 0 from nI_clamp (by omega)) (show _ = 6 from rfl) ?_
    refine sx_RP.step (pc2 := 7) (ls2 := [(0, .ref 111), (1, .int x)]) (st2 := [.int x, .int ((ia w 112).getD 0 0)]) (w3 := w) rfl rfl ?_
    refine sx_RP.step (pc2 := 8) (ls2 := [(0, .ref 111), (1, .int x)]) (st2 := [.int (((ia w 112).getD 0 0) + x)]) (w3 := w) rfl rfl ?_
    refine sx_RP.step (pc2 := 11) (ls2 := [(0, .ref 111), (1, .int x)]) (st2 := [.int 999, .int (((ia w 112).getD 0 0) + x)]) (w3 := w) rfl rfl ?_
    refine sx_RP.br (p1 := 18) (l1 := [(0, .ref 111), (1, .int x)]) (s1 := []) (v1 := w) (p2 := 14) (l2 := [(0, .ref 111), (1, .int x)]) (s2 := []) (v2 := w) rfl rfl (fun q1 => ?_) (fun q1 => ?_)
    · replace q1 := of_decide_eq_true q1
      refine sx_RP.step (pc2 := 19) (ls2 := [(0, .ref 111), (1, .int x)]) (st2 := [.int 0]) (w3 := w) rfl rfl ?_
      refine sx_RP.ret (r := (some (.int 0))) rfl rfl ?_
      exact ⟨⟨0, by decide, rfl⟩, rfl⟩
    · replace q1 := of_decide_eq_false q1
      refine sx_RP.step (pc2 := 15) (ls2 := [(0, .ref 111), (1, .int x)]) (st2 := [.int 1]) (w3 := w) rfl rfl ?_
      refine sx_RP.step (pc2 := 19) (ls2 := [(0, .ref 111), (1, .int x)]) (st2 := [.int 1]) (w3 := w) rfl rfl ?_
      refine sx_RP.ret (r := (some (.int 1))) rfl rfl ?_
      exact ⟨⟨1, by decide, rfl⟩, rfl⟩
  obtain ⟨r, w2, h1, ⟨j, hj, rfl⟩, rfl⟩ := h
  exact ⟨j, hj, h1⟩
set_option maxRecDepth 20000 in
set_option maxHeartbeats 4000000 in
theorem p160 {xs : Option (List Int32)} {d : Nat} {w : List sx_C} (hI : WI w) (x y : Int32) : ∃ j, j ≤ 1 ∧ sx_RU xs (d + 1) 160 0 (lv_args 0 [.int x, .int y]) [] w (some (.int (nI j))) w := by
  have h : sx_RP xs (d + 1) 160 0 (lv_args 0 [.int x, .int y]) [] w (fun r w2 => (∃ j, j ≤ 1 ∧ r = some (.int (nI j))) ∧ w2 = w) := by
    refine sx_RP.step (pc2 := 1) (ls2 := [(0, .int x), (1, .int y)]) (st2 := [.int y]) (w3 := w) rfl rfl ?_
    rcases sw_cases (n := 3) (y) with q1 | ⟨x2, hx3, ex4⟩
    · refine sx_RP.swo (t := 71) rfl q1 rfl ?_
      refine sx_RP.step (pc2 := 72) (ls2 := [(0, .int x), (1, .int y)]) (st2 := [.int x]) (w3 := w) rfl rfl ?_
      refine sx_RP.step (pc2 := 73) (ls2 := [(0, .int x), (1, .int y)]) (st2 := [.int y, .int x]) (w3 := w) rfl rfl ?_
      refine sx_RP.br (p1 := 80) (l1 := [(0, .int x), (1, .int y)]) (s1 := []) (v1 := w) (p2 := 76) (l2 := [(0, .int x), (1, .int y)]) (s2 := []) (v2 := w) rfl rfl (fun q5 => ?_) (fun q5 => ?_)
      · replace q5 := of_decide_eq_true q5
        refine sx_RP.step (pc2 := 81) (ls2 := [(0, .int x), (1, .int y)]) (st2 := [.int 0]) (w3 := w) rfl rfl ?_
        refine sx_RP.ret (r := (some (.int 0))) rfl rfl ?_
        exact ⟨⟨0, by decide, rfl⟩, rfl⟩
      · replace q5 := Decidable.not_not.mp (of_decide_eq_false q5)
        refine sx_RP.step (pc2 := 77) (ls2 := [(0, .int x), (1, .int y)]) (st2 := [.int 1]) (w3 := w) rfl rfl ?_
        refine sx_RP.step (pc2 := 81) (ls2 := [(0, .int x), (1, .int y)]) (st2 := [.int 1]) (w3 := w) rfl rfl ?_
        refine sx_RP.ret (r := (some (.int 1))) rfl rfl ?_
        exact ⟨⟨1, by decide, rfl⟩, rfl⟩
    · rw [ex4]
      rcases (show x2 = 0 ∨ x2 = 1 ∨ x2 = 2 ∨ x2 = 3 by omega) with rfl | rfl | rfl | rfl
      · refine sx_RP.step (pc2 := 32) (ls2 := [(0, .int x), (1, .int (nI 0))]) (st2 := []) (w3 := w) rfl rfl ?_
        refine sx_RP.step (pc2 := 33) (ls2 := [(0, .int x), (1, .int (nI 0))]) (st2 := [.int 1]) (w3 := w) rfl rfl ?_
        refine sx_RP.ret (r := (some (.int 1))) rfl rfl ?_
        exact ⟨⟨1, by decide, rfl⟩, rfl⟩
      · refine sx_RP.step (pc2 := 34) (ls2 := [(0, .int x), (1, .int (nI 1))]) (st2 := []) (w3 := w) rfl rfl ?_
        refine sx_RP.step (pc2 := 35) (ls2 := [(0, .int x), (1, .int (nI 1))]) (st2 := [.int x]) (w3 := w) rfl rfl ?_
        obtain ⟨x6, hx7, c8⟩ := p145 hI x
        refine sx_RP.cu (as := [.int x]) (rest2 := []) (st3 := [.int (nI x6)]) rfl rfl rfl rfl rfl (c8) rfl ?_
        refine sx_RP.ret (r := (some (.int (nI x6)))) rfl (bo_ret rfl (inR.n (show x6 ≤ 1 by omega))) ?_
        exact ⟨⟨x6, by omega, rfl⟩, rfl⟩
      · refine sx_RP.step (pc2 := 39) (ls2 := [(0, .int x), (1, .int (nI 2))]) (st2 := []) (w3 := w) rfl rfl ?_
        refine sx_RP.step (pc2 := 40) (ls2 := [(0, .int x), (1, .int (nI 2))]) (st2 := [.int x]) (w3 := w) rfl rfl ?_
        refine sx_RP.step (pc2 := 41) (ls2 := [(0, .int x), (1, .int (nI 2))]) (st2 := [.int 2, .int x]) (w3 := w) rfl rfl ?_
        refine sx_RP.br (p1 := 49) (l1 := [(0, .int x), (1, .int (nI 2))]) (s1 := []) (v1 := w) (p2 := 44) (l2 := [(0, .int x), (1, .int (nI 2))]) (s2 := []) (v2 := w) rfl rfl (fun q9 => ?_) (fun q9 => ?_)
        · replace q9 := of_decide_eq_true q9
          refine sx_RP.step (pc2 := 50) (ls2 := [(0, .int x), (1, .int (nI 2))]) (st2 := [.int 1]) (w3 := w) rfl rfl ?_
          refine sx_RP.step (pc2 := 54) (ls2 := [(0, .int x), (1, .int (nI 2))]) (st2 := [.int 1]) (w3 := w) rfl rfl ?_
          refine sx_RP.ret (r := (some (.int 1))) rfl rfl ?_
          exact ⟨⟨1, by decide, rfl⟩, rfl⟩
        · replace q9 := of_decide_eq_false q9
          refine sx_RP.step (pc2 := 45) (ls2 := [(0, .int x), (1, .int (nI 2))]) (st2 := [.int x]) (w3 := w) rfl rfl ?_
          refine sx_RP.step (pc2 := 46) (ls2 := [(0, .int x), (1, .int (nI 2))]) (st2 := [.int 4, .int x]) (w3 := w) rfl rfl ?_
          refine sx_RP.br (p1 := 53) (l1 := [(0, .int x), (1, .int (nI 2))]) (s1 := []) (v1 := w) (p2 := 49) (l2 := [(0, .int x), (1, .int (nI 2))]) (s2 := []) (v2 := w) rfl rfl (fun q10 => ?_) (fun q10 => ?_)
          · replace q10 := of_decide_eq_true q10
            refine sx_RP.step (pc2 := 54) (ls2 := [(0, .int x), (1, .int (nI 2))]) (st2 := [.int 0]) (w3 := w) rfl rfl ?_
            refine sx_RP.ret (r := (some (.int 0))) rfl rfl ?_
            exact ⟨⟨0, by decide, rfl⟩, rfl⟩
          · replace q10 := Decidable.not_not.mp (of_decide_eq_false q10)
            refine sx_RP.step (pc2 := 50) (ls2 := [(0, .int x), (1, .int (nI 2))]) (st2 := [.int 1]) (w3 := w) rfl rfl ?_
            refine sx_RP.step (pc2 := 54) (ls2 := [(0, .int x), (1, .int (nI 2))]) (st2 := [.int 1]) (w3 := w) rfl rfl ?_
            refine sx_RP.ret (r := (some (.int 1))) rfl rfl ?_
            exact ⟨⟨1, by decide, rfl⟩, rfl⟩
      · refine sx_RP.step (pc2 := 55) (ls2 := [(0, .int x), (1, .int (nI 3))]) (st2 := []) (w3 := w) rfl rfl ?_
        refine sx_RP.step (pc2 := 56) (ls2 := [(0, .int x), (1, .int (nI 3))]) (st2 := [.int x]) (w3 := w) rfl rfl ?_
        refine sx_RP.step (pc2 := 57) (ls2 := [(0, .int x), (1, .int (nI 3))]) (st2 := [.int 3, .int x]) (w3 := w) rfl rfl ?_
        refine sx_RP.br (p1 := 65) (l1 := [(0, .int x), (1, .int (nI 3))]) (s1 := []) (v1 := w) (p2 := 60) (l2 := [(0, .int x), (1, .int (nI 3))]) (s2 := []) (v2 := w) rfl rfl (fun q11 => ?_) (fun q11 => ?_)
        · replace q11 := of_decide_eq_true q11
          refine sx_RP.step (pc2 := 66) (ls2 := [(0, .int x), (1, .int (nI 3))]) (st2 := [.int 1]) (w3 := w) rfl rfl ?_
          refine sx_RP.step (pc2 := 70) (ls2 := [(0, .int x), (1, .int (nI 3))]) (st2 := [.int 1]) (w3 := w) rfl rfl ?_
          refine sx_RP.ret (r := (some (.int 1))) rfl rfl ?_
          exact ⟨⟨1, by decide, rfl⟩, rfl⟩
        · replace q11 := of_decide_eq_false q11
          refine sx_RP.step (pc2 := 61) (ls2 := [(0, .int x), (1, .int (nI 3))]) (st2 := [.int x]) (w3 := w) rfl rfl ?_
          refine sx_RP.step (pc2 := 62) (ls2 := [(0, .int x), (1, .int (nI 3))]) (st2 := [.int 5, .int x]) (w3 := w) rfl rfl ?_
          refine sx_RP.br (p1 := 69) (l1 := [(0, .int x), (1, .int (nI 3))]) (s1 := []) (v1 := w) (p2 := 65) (l2 := [(0, .int x), (1, .int (nI 3))]) (s2 := []) (v2 := w) rfl rfl (fun q12 => ?_) (fun q12 => ?_)
          · replace q12 := of_decide_eq_true q12
            refine sx_RP.step (pc2 := 70) (ls2 := [(0, .int x), (1, .int (nI 3))]) (st2 := [.int 0]) (w3 := w) rfl rfl ?_
            refine sx_RP.ret (r := (some (.int 0))) rfl rfl ?_
            exact ⟨⟨0, by decide, rfl⟩, rfl⟩
          · replace q12 := Decidable.not_not.mp (of_decide_eq_false q12)
            refine sx_RP.step (pc2 := 66) (ls2 := [(0, .int x), (1, .int (nI 3))]) (st2 := [.int 1]) (w3 := w) rfl rfl ?_
            refine sx_RP.step (pc2 := 70) (ls2 := [(0, .int x), (1, .int (nI 3))]) (st2 := [.int 1]) (w3 := w) rfl rfl ?_
            refine sx_RP.ret (r := (some (.int 1))) rfl rfl ?_
            exact ⟨⟨1, by decide, rfl⟩, rfl⟩
  obtain ⟨r, w2, h1, ⟨j, hj, rfl⟩, rfl⟩ := h
  exact ⟨j, hj, h1⟩
set_option maxRecDepth 20000 in
set_option maxHeartbeats 4000000 in
theorem q200 {xs : Option (List Int32)} {d : Nat} {w : List sx_C} (hI : WI w) (x y : Int32) : ∃ v : Int32, sx_RU xs d 200 0 (lv_args 0 [.int x, .int y]) [] w (some (.int v)) w := by
  have h : sx_RP xs d 200 0 (lv_args 0 [.int x, .int y]) [] w (fun r w2 => (∃ v : Int32, r = some (.int v)) ∧ w2 = w) := by
    refine sx_RP.step (pc2 := 1) (ls2 := [(0, .int x), (1, .int y)]) (st2 := [.int x]) (w3 := w) rfl rfl ?_
    refine sx_RP.step (pc2 := 3) (ls2 := [(0, .int x), (1, .int y)]) (st2 := [.int 8, .int x]) (w3 := w) rfl rfl ?_
    refine sx_RP.step (pc2 := 4) (ls2 := [(0, .int x), (1, .int y)]) (st2 := [.int (x / 8)]) (w3 := w) rfl rfl ?_
    refine sx_RP.step (pc2 := 5) (ls2 := [(0, .int x), (1, .int y)]) (st2 := [.int y, .int (x / 8)]) (w3 := w) rfl rfl ?_
    refine sx_RP.step (pc2 := 7) (ls2 := [(0, .int x), (1, .int y)]) (st2 := [.int 8, .int y, .int (x / 8)]) (w3 := w) rfl rfl ?_
    refine sx_RP.step (pc2 := 8) (ls2 := [(0, .int x), (1, .int y)]) (st2 := [.int (y / 8), .int (x / 8)]) (w3 := w) rfl rfl ?_
    refine sx_RP.step (pc2 := 9) (ls2 := [(0, .int x), (1, .int y)]) (st2 := [.int ((x / 8) - (y / 8))]) (w3 := w) rfl rfl ?_
    refine sx_RP.step (pc2 := 10) (ls2 := [(2, .int ((x / 8) - (y / 8))), (0, .int x), (1, .int y)]) (st2 := []) (w3 := w) rfl rfl ?_
    refine sx_RP.step (pc2 := 11) (ls2 := [(2, .int ((x / 8) - (y / 8))), (0, .int x), (1, .int y)]) (st2 := [.int x]) (w3 := w) rfl rfl ?_
    refine sx_RP.step (pc2 := 13) (ls2 := [(2, .int ((x / 8) - (y / 8))), (0, .int x), (1, .int y)]) (st2 := [.int 8, .int x]) (w3 := w) rfl rfl ?_
    refine sx_RP.step (pc2 := 14) (ls2 := [(2, .int ((x / 8) - (y / 8))), (0, .int x), (1, .int y)]) (st2 := [.int (x - x / 8 * 8)]) (w3 := w) rfl rfl ?_
    refine sx_RP.step (pc2 := 15) (ls2 := [(2, .int ((x / 8) - (y / 8))), (0, .int x), (1, .int y)]) (st2 := [.int y, .int (x - x / 8 * 8)]) (w3 := w) rfl rfl ?_
    refine sx_RP.step (pc2 := 17) (ls2 := [(2, .int ((x / 8) - (y / 8))), (0, .int x), (1, .int y)]) (st2 := [.int 8, .int y, .int (x - x / 8 * 8)]) (w3 := w) rfl rfl ?_
    refine sx_RP.step (pc2 := 18) (ls2 := [(2, .int ((x / 8) - (y / 8))), (0, .int x), (1, .int y)]) (st2 := [.int (y - y / 8 * 8), .int (x - x / 8 * 8)]) (w3 := w) rfl rfl ?_
    refine sx_RP.step (pc2 := 19) (ls2 := [(2, .int ((x / 8) - (y / 8))), (0, .int x), (1, .int y)]) (st2 := [.int ((x - x / 8 * 8) - (y - y / 8 * 8))]) (w3 := w) rfl rfl ?_
    refine sx_RP.step (pc2 := 20) (ls2 := [(3, .int ((x - x / 8 * 8) - (y - y / 8 * 8))), (2, .int ((x / 8) - (y / 8))), (0, .int x), (1, .int y)]) (st2 := []) (w3 := w) rfl rfl ?_
    refine sx_RP.step (pc2 := 21) (ls2 := [(3, .int ((x - x / 8 * 8) - (y - y / 8 * 8))), (2, .int ((x / 8) - (y / 8))), (0, .int x), (1, .int y)]) (st2 := [.int ((x / 8) - (y / 8))]) (w3 := w) rfl rfl ?_
    refine sx_RP.br (p1 := 29) (l1 := [(3, .int ((x - x / 8 * 8) - (y - y / 8 * 8))), (2, .int ((x / 8) - (y / 8))), (0, .int x), (1, .int y)]) (s1 := []) (v1 := w) (p2 := 24) (l2 := [(3, .int ((x - x / 8 * 8) - (y - y / 8 * 8))), (2, .int ((x / 8) - (y / 8))), (0, .int x), (1, .int y)]) (s2 := []) (v2 := w) rfl rfl (fun q1 => ?_) (fun q1 => ?_)
    · replace q1 := of_decide_eq_true q1
      refine sx_RP.step (pc2 := 30) (ls2 := [(3, .int ((x - x / 8 * 8) - (y - y / 8 * 8))), (2, .int ((x / 8) - (y / 8))), (0, .int x), (1, .int y)]) (st2 := [.int ((x / 8) - (y / 8))]) (w3 := w) rfl rfl ?_
      refine sx_RP.step (pc2 := 31) (ls2 := [(3, .int ((x - x / 8 * 8) - (y - y / 8 * 8))), (2, .int ((x / 8) - (y / 8))), (0, .int x), (1, .int y)]) (st2 := [.int ((x - x / 8 * 8) - (y - y / 8 * 8)), .int ((x / 8) - (y / 8))]) (w3 := w) rfl rfl ?_
      refine sx_RP.br (p1 := 39) (l1 := [(3, .int ((x - x / 8 * 8) - (y - y / 8 * 8))), (2, .int ((x / 8) - (y / 8))), (0, .int x), (1, .int y)]) (s1 := [.int ((x / 8) - (y / 8))]) (v1 := w) (p2 := 34) (l2 := [(3, .int ((x - x / 8 * 8) - (y - y / 8 * 8))), (2, .int ((x / 8) - (y / 8))), (0, .int x), (1, .int y)]) (s2 := [.int ((x / 8) - (y / 8))]) (v2 := w) rfl rfl (fun q2 => ?_) (fun q2 => ?_)
      · replace q2 := of_decide_eq_true q2
        refine sx_RP.step (pc2 := 40) (ls2 := [(3, .int ((x - x / 8 * 8) - (y - y / 8 * 8))), (2, .int ((x / 8) - (y / 8))), (0, .int x), (1, .int y)]) (st2 := [.int ((x - x / 8 * 8) - (y - y / 8 * 8)), .int ((x / 8) - (y / 8))]) (w3 := w) rfl rfl ?_
        refine sx_RP.step (pc2 := 41) (ls2 := [(3, .int ((x - x / 8 * 8) - (y - y / 8 * 8))), (2, .int ((x / 8) - (y / 8))), (0, .int x), (1, .int y)]) (st2 := [.int (((x / 8) - (y / 8)) + ((x - x / 8 * 8) - (y - y / 8 * 8)))]) (w3 := w) rfl rfl ?_
        refine sx_RP.ret (r := (some (.int (((x / 8) - (y / 8)) + ((x - x / 8 * 8) - (y - y / 8 * 8)))))) rfl rfl ?_
        exact ⟨⟨_, rfl⟩, rfl⟩
      · replace q2 := of_decide_eq_false q2
        refine sx_RP.step (pc2 := 35) (ls2 := [(3, .int ((x - x / 8 * 8) - (y - y / 8 * 8))), (2, .int ((x / 8) - (y / 8))), (0, .int x), (1, .int y)]) (st2 := [.int ((x - x / 8 * 8) - (y - y / 8 * 8)), .int ((x / 8) - (y / 8))]) (w3 := w) rfl rfl ?_
        refine sx_RP.step (pc2 := 36) (ls2 := [(3, .int ((x - x / 8 * 8) - (y - y / 8 * 8))), (2, .int ((x / 8) - (y / 8))), (0, .int x), (1, .int y)]) (st2 := [.int (-((x - x / 8 * 8) - (y - y / 8 * 8))), .int ((x / 8) - (y / 8))]) (w3 := w) rfl rfl ?_
        refine sx_RP.step (pc2 := 40) (ls2 := [(3, .int ((x - x / 8 * 8) - (y - y / 8 * 8))), (2, .int ((x / 8) - (y / 8))), (0, .int x), (1, .int y)]) (st2 := [.int (-((x - x / 8 * 8) - (y - y / 8 * 8))), .int ((x / 8) - (y / 8))]) (w3 := w) rfl rfl ?_
        refine sx_RP.step (pc2 := 41) (ls2 := [(3, .int ((x - x / 8 * 8) - (y - y / 8 * 8))), (2, .int ((x / 8) - (y / 8))), (0, .int x), (1, .int y)]) (st2 := [.int (((x / 8) - (y / 8)) + (-((x - x / 8 * 8) - (y - y / 8 * 8))))]) (w3 := w) rfl rfl ?_
        refine sx_RP.ret (r := (some (.int (((x / 8) - (y / 8)) + (-((x - x / 8 * 8) - (y - y / 8 * 8))))))) rfl rfl ?_
        exact ⟨⟨_, rfl⟩, rfl⟩
    · replace q1 := of_decide_eq_false q1
      refine sx_RP.step (pc2 := 25) (ls2 := [(3, .int ((x - x / 8 * 8) - (y - y / 8 * 8))), (2, .int ((x / 8) - (y / 8))), (0, .int x), (1, .int y)]) (st2 := [.int ((x / 8) - (y / 8))]) (w3 := w) rfl rfl ?_
      refine sx_RP.step (pc2 := 26) (ls2 := [(3, .int ((x - x / 8 * 8) - (y - y / 8 * 8))), (2, .int ((x / 8) - (y / 8))), (0, .int x), (1, .int y)]) (st2 := [.int (-((x / 8) - (y / 8)))]) (w3 := w) rfl rfl ?_
      refine sx_RP.step (pc2 := 30) (ls2 := [(3, .int ((x - x / 8 * 8) - (y - y / 8 * 8))), (2, .int ((x / 8) - (y / 8))), (0, .int x), (1, .int y)]) (st2 := [.int (-((x / 8) - (y / 8)))]) (w3 := w) rfl rfl ?_
      refine sx_RP.step (pc2 := 31) (ls2 := [(3, .int ((x - x / 8 * 8) - (y - y / 8 * 8))), (2, .int ((x / 8) - (y / 8))), (0, .int x), (1, .int y)]) (st2 := [.int ((x - x / 8 * 8) - (y - y / 8 * 8)), .int (-((x / 8) - (y / 8)))]) (w3 := w) rfl rfl ?_
      refine sx_RP.br (p1 := 39) (l1 := [(3, .int ((x - x / 8 * 8) - (y - y / 8 * 8))), (2, .int ((x / 8) - (y / 8))), (0, .int x), (1, .int y)]) (s1 := [.int (-((x / 8) - (y / 8)))]) (v1 := w) (p2 := 34) (l2 := [(3, .int ((x - x / 8 * 8) - (y - y / 8 * 8))), (2, .int ((x / 8) - (y / 8))), (0, .int x), (1, .int y)]) (s2 := [.int (-((x / 8) - (y / 8)))]) (v2 := w) rfl rfl (fun q3 => ?_) (fun q3 => ?_)
      · replace q3 := of_decide_eq_true q3
        refine sx_RP.step (pc2 := 40) (ls2 := [(3, .int ((x - x / 8 * 8) - (y - y / 8 * 8))), (2, .int ((x / 8) - (y / 8))), (0, .int x), (1, .int y)]) (st2 := [.int ((x - x / 8 * 8) - (y - y / 8 * 8)), .int (-((x / 8) - (y / 8)))]) (w3 := w) rfl rfl ?_
        refine sx_RP.step (pc2 := 41) (ls2 := [(3, .int ((x - x / 8 * 8) - (y - y / 8 * 8))), (2, .int ((x / 8) - (y / 8))), (0, .int x), (1, .int y)]) (st2 := [.int ((-((x / 8) - (y / 8))) + ((x - x / 8 * 8) - (y - y / 8 * 8)))]) (w3 := w) rfl rfl ?_
        refine sx_RP.ret (r := (some (.int ((-((x / 8) - (y / 8))) + ((x - x / 8 * 8) - (y - y / 8 * 8)))))) rfl rfl ?_
        exact ⟨⟨_, rfl⟩, rfl⟩
      · replace q3 := of_decide_eq_false q3
        refine sx_RP.step (pc2 := 35) (ls2 := [(3, .int ((x - x / 8 * 8) - (y - y / 8 * 8))), (2, .int ((x / 8) - (y / 8))), (0, .int x), (1, .int y)]) (st2 := [.int ((x - x / 8 * 8) - (y - y / 8 * 8)), .int (-((x / 8) - (y / 8)))]) (w3 := w) rfl rfl ?_
        refine sx_RP.step (pc2 := 36) (ls2 := [(3, .int ((x - x / 8 * 8) - (y - y / 8 * 8))), (2, .int ((x / 8) - (y / 8))), (0, .int x), (1, .int y)]) (st2 := [.int (-((x - x / 8 * 8) - (y - y / 8 * 8))), .int (-((x / 8) - (y / 8)))]) (w3 := w) rfl rfl ?_
        refine sx_RP.step (pc2 := 40) (ls2 := [(3, .int ((x - x / 8 * 8) - (y - y / 8 * 8))), (2, .int ((x / 8) - (y / 8))), (0, .int x), (1, .int y)]) (st2 := [.int (-((x - x / 8 * 8) - (y - y / 8 * 8))), .int (-((x / 8) - (y / 8)))]) (w3 := w) rfl rfl ?_
        refine sx_RP.step (pc2 := 41) (ls2 := [(3, .int ((x - x / 8 * 8) - (y - y / 8 * 8))), (2, .int ((x / 8) - (y / 8))), (0, .int x), (1, .int y)]) (st2 := [.int ((-((x / 8) - (y / 8))) + (-((x - x / 8 * 8) - (y - y / 8 * 8))))]) (w3 := w) rfl rfl ?_
        refine sx_RP.ret (r := (some (.int ((-((x / 8) - (y / 8))) + (-((x - x / 8 * 8) - (y - y / 8 * 8))))))) rfl rfl ?_
        exact ⟨⟨_, rfl⟩, rfl⟩
  obtain ⟨r, w2, h1, ⟨v, rfl⟩, rfl⟩ := h
  exact ⟨v, h1⟩
set_option maxRecDepth 20000 in
set_option maxHeartbeats 4000000 in
theorem p199 {xs : Option (List Int32)} {d : Nat} {w : List sx_C} (hI : WI w) {c : Nat} (x y : Int32) (hc : c < 48) : ∃ j, j ≤ 1 ∧ sx_RU xs (d + 1) 199 0 (lv_args 0 [.ref 111, .int x, .int y, .int (nI c)]) [] w (some (.int (nI j))) w := by
  have h : sx_RP xs (d + 1) 199 0 (lv_args 0 [.ref 111, .int x, .int y, .int (nI c)]) [] w (fun r w2 => (∃ j, j ≤ 1 ∧ r = some (.int (nI j))) ∧ w2 = w) := by
    refine sx_RP.step (pc2 := 1) (ls2 := [(0, .ref 111), (1, .int x), (2, .int y), (3, .int (nI c))]) (st2 := [.int y]) (w3 := w) rfl rfl ?_
    refine sx_RP.step (pc2 := 2) (ls2 := [(0, .ref 111), (1, .int x), (2, .int y), (3, .int (nI c))]) (st2 := [.int 3, .int y]) (w3 := w) rfl rfl ?_
    refine sx_RP.step (pc2 := 3) (ls2 := [(0, .ref 111), (1, .int x), (2, .int y), (3, .int (nI c))]) (st2 := [.int x, .int 3, .int y]) (w3 := w) rfl rfl ?_
    refine sx_RP.step (pc2 := 4) (ls2 := [(0, .ref 111), (1, .int x), (2, .int y), (3, .int (nI c))]) (st2 := [.int (nI c), .int x, .int 3, .int y]) (w3 := w) rfl rfl ?_
    obtain ⟨v1, c2⟩ := q200 hI x (nI c)
    refine sx_RP.cu (as := [.int x, .int (nI c)]) (rest2 := [.int 3, .int y]) (st3 := [.int v1, .int 3, .int y]) rfl rfl rfl rfl rfl (c2) rfl ?_
    refine sx_RP.step (pc2 := 8) (ls2 := [(0, .ref 111), (1, .int x), (2, .int y), (3, .int (nI c))]) (st2 := [.int (3 * v1), .int y]) (w3 := w) rfl rfl ?_
    refine sx_RP.step (pc2 := 9) (ls2 := [(0, .ref 111), (1, .int x), (2, .int y), (3, .int (nI c))]) (st2 := [.int (y - (3 * v1))]) (w3 := w) rfl rfl ?_
    refine sx_RP.step (pc2 := 10) (ls2 := [(0, .ref 111), (1, .int x), (2, .int y), (3, .int (nI c))]) (st2 := [.ref 111, .int (y - (3 * v1))]) (w3 := w) rfl rfl ?_
    refine sx_RP.gf (v := .ref 112) rfl rfl hI.1.o111 rfl rfl (show _ = 13 from rfl) ?_
    refine sx_RP.step (pc2 := 15) (ls2 := [(0, .ref 111), (1, .int x), (2, .int y), (3, .int (nI c))]) (st2 := [.int 7, .ref 112, .int (y - (3 * v1))]) (w3 := w) rfl rfl ?_
    refine sx_RP.step (pc2 := 16) (ls2 := [(0, .ref 111), (1, .int x), (2, .int y), (3, .int (nI c))]) (st2 := [.int (nI c), .int 7, .ref 112, .int (y - (3 * v1))]) (w3 := w) rfl rfl ?_
    refine sx_RP.step (pc2 := 17) (ls2 := [(0, .ref 111), (1, .int x), (2, .int y), (3, .int (nI c))]) (st2 := [.int (7 + (nI c)), .ref 112, .int (y - (3 * v1))]) (w3 := w) rfl rfl ?_
    rw [show (7 + (nI c) : Int32) = nI (7 + c) from nI_add 7 c]
    refine sx_RP.ild (c := (7 + c)) rfl hI.1.a112.1 hI.1.a112.2 (sx_in_nI (show (7 + c) < 172 by omega) (by decide)) (show (nI (7 + c)).toNatClampNeg = (7 + c) from nI_clamp (by omega)) (show _ = 18 from rfl) ?_
    obtain ⟨x3, hx4, ex5⟩ : inR ((ia w 112).getD (7 + c) 0) 3 := (hI.s ((7 + c)) (by omega)).2.2.1 (by omega)
    rw [ex5]
    refine sx_RP.step (pc2 := 19) (ls2 := [(0, .ref 111), (1, .int x), (2, .int y), (3, .int (nI c))]) (st2 := [.int 2, .int (nI x3), .int (y - (3 * v1))]) (w3 := w) rfl rfl ?_
    refine sx_RP.br (p1 := 26) (l1 := [(0, .ref 111), (1, .int x), (2, .int y), (3, .int (nI c))]) (s1 := [.int (y - (3 * v1))]) (v1 := w) (p2 := 22) (l2 := [(0, .ref 111), (1, .int x), (2, .int y), (3, .int (nI c))]) (s2 := [.int (y - (3 * v1))]) (v2 := w) rfl rfl (fun q6 => ?_) (fun q6 => ?_)
    · replace q6 := of_decide_eq_true q6
      replace q6 := mt (nI_eq (a := x3) (b := 2) (by omega) (by omega)).mpr q6
      refine sx_RP.step (pc2 := 27) (ls2 := [(0, .ref 111), (1, .int x), (2, .int y), (3, .int (nI c))]) (st2 := [.int 0, .int (y - (3 * v1))]) (w3 := w) rfl rfl ?_
      refine sx_RP.br (p1 := 34) (l1 := [(0, .ref 111), (1, .int x), (2, .int y), (3, .int (nI c))]) (s1 := []) (v1 := w) (p2 := 30) (l2 := [(0, .ref 111), (1, .int x), (2, .int y), (3, .int (nI c))]) (s2 := []) (v2 := w) rfl rfl (fun q7 => ?_) (fun q7 => ?_)
      · replace q7 := of_decide_eq_true q7
        refine sx_RP.step (pc2 := 35) (ls2 := [(0, .ref 111), (1, .int x), (2, .int y), (3, .int (nI c))]) (st2 := [.int 0]) (w3 := w) rfl rfl ?_
        refine sx_RP.ret (r := (some (.int 0))) rfl rfl ?_
        exact ⟨⟨0, by decide, rfl⟩, rfl⟩
      · replace q7 := of_decide_eq_false q7
        refine sx_RP.step (pc2 := 31) (ls2 := [(0, .ref 111), (1, .int x), (2, .int y), (3, .int (nI c))]) (st2 := [.int 1]) (w3 := w) rfl rfl ?_
        refine sx_RP.step (pc2 := 35) (ls2 := [(0, .ref 111), (1, .int x), (2, .int y), (3, .int (nI c))]) (st2 := [.int 1]) (w3 := w) rfl rfl ?_
        refine sx_RP.ret (r := (some (.int 1))) rfl rfl ?_
        exact ⟨⟨1, by decide, rfl⟩, rfl⟩
    · replace q6 := Decidable.not_not.mp (of_decide_eq_false q6)
      replace q6 := (nI_eq (a := x3) (b := 2) (by omega) (by omega)).mp q6
      refine sx_RP.step (pc2 := 23) (ls2 := [(0, .ref 111), (1, .int x), (2, .int y), (3, .int (nI c))]) (st2 := [.int 4, .int (y - (3 * v1))]) (w3 := w) rfl rfl ?_
      refine sx_RP.step (pc2 := 27) (ls2 := [(0, .ref 111), (1, .int x), (2, .int y), (3, .int (nI c))]) (st2 := [.int 4, .int (y - (3 * v1))]) (w3 := w) rfl rfl ?_
      refine sx_RP.br (p1 := 34) (l1 := [(0, .ref 111), (1, .int x), (2, .int y), (3, .int (nI c))]) (s1 := []) (v1 := w) (p2 := 30) (l2 := [(0, .ref 111), (1, .int x), (2, .int y), (3, .int (nI c))]) (s2 := []) (v2 := w) rfl rfl (fun q8 => ?_) (fun q8 => ?_)
      · replace q8 := of_decide_eq_true q8
        refine sx_RP.step (pc2 := 35) (ls2 := [(0, .ref 111), (1, .int x), (2, .int y), (3, .int (nI c))]) (st2 := [.int 0]) (w3 := w) rfl rfl ?_
        refine sx_RP.ret (r := (some (.int 0))) rfl rfl ?_
        exact ⟨⟨0, by decide, rfl⟩, rfl⟩
      · replace q8 := of_decide_eq_false q8
        refine sx_RP.step (pc2 := 31) (ls2 := [(0, .ref 111), (1, .int x), (2, .int y), (3, .int (nI c))]) (st2 := [.int 1]) (w3 := w) rfl rfl ?_
        refine sx_RP.step (pc2 := 35) (ls2 := [(0, .ref 111), (1, .int x), (2, .int y), (3, .int (nI c))]) (st2 := [.int 1]) (w3 := w) rfl rfl ?_
        refine sx_RP.ret (r := (some (.int 1))) rfl rfl ?_
        exact ⟨⟨1, by decide, rfl⟩, rfl⟩
  obtain ⟨r, w2, h1, ⟨j, hj, rfl⟩, rfl⟩ := h
  exact ⟨j, hj, h1⟩
set_option maxRecDepth 20000 in
set_option maxHeartbeats 4000000 in
theorem p156 {xs : Option (List Int32)} {d : Nat} {w : List sx_C} (hI : WI w) (x : Int32) : sx_RU xs (d + 1) 156 0 (lv_args 0 [.ref 111, .int x]) [] w (some (.int 0)) w ∨ ((∃ j, j < 10 ∧ x = nI j) ∧ sx_RU xs (d + 1) 156 0 (lv_args 0 [.ref 111, .int x]) [] w (some (.int 1)) w) := by
  have h : sx_RP xs (d + 1) 156 0 (lv_args 0 [.ref 111, .int x]) [] w (fun r w2 => (r = some (.int 0) ∨ ((∃ j, j < 10 ∧ x = nI j) ∧ r = some (.int 1))) ∧ w2 = w) := by
    refine sx_RP.step (pc2 := 1) (ls2 := [(0, .ref 111), (1, .int x)]) (st2 := [.int x]) (w3 := w) rfl rfl ?_
    refine sx_RP.step (pc2 := 2) (ls2 := [(0, .ref 111), (1, .int x)]) (st2 := [.int 0, .int x]) (w3 := w) rfl rfl ?_
    refine sx_RP.step (pc2 := 3) (ls2 := [(0, .ref 111), (1, .int x)]) (st2 := [.ref 111, .int 0, .int x]) (w3 := w) rfl rfl ?_
    refine sx_RP.gf (v := .ref 112) rfl rfl hI.1.o111 rfl rfl (show _ = 6 from rfl) ?_
    refine sx_RP.step (pc2 := 7) (ls2 := [(0, .ref 111), (1, .int x)]) (st2 := [.int 1, .ref 112, .int 0, .int x]) (w3 := w) rfl rfl ?_
    refine sx_RP.ild (c := 1) rfl hI.1.a112.1 hI.1.a112.2 (sx_in_nI (show 1 < 172 by omega) (by decide)) (show (nI 1).toNatClampNeg = 1 from nI_clamp (by omega)) (show _ = 8 from rfl) ?_
    obtain ⟨x1, hx2, ex3⟩ : inR ((ia w 112).getD 1 0) 10 := (hI.s (1) (by omega)).1 rfl
    rw [ex3]
    refine sx_RP.step (pc2 := 9) (ls2 := [(0, .ref 111), (1, .int x)]) (st2 := [.int 1, .int (nI x1), .int 0, .int x]) (w3 := w) rfl rfl ?_
    refine sx_RP.step (pc2 := 10) (ls2 := [(0, .ref 111), (1, .int x)]) (st2 := [.int ((nI x1) - 1), .int 0, .int x]) (w3 := w) rfl rfl ?_
    rcases in_casesS x (n := x1) (by omega) with q4 | ⟨q4, x5, hx6, rfl⟩
    · refine sx_RP.cu (as := [.int x, .int 0, .int ((nI x1) - 1)]) (rest2 := []) (st3 := [.int 0]) rfl rfl rfl rfl rfl (cx_132o q4) rfl ?_
      refine sx_RP.ret (r := (some (.int 0))) rfl rfl ?_
      exact ⟨Or.inl rfl, rfl⟩
    · refine sx_RP.cu (as := [.int (nI x5), .int 0, .int ((nI x1) - 1)]) (rest2 := []) (st3 := [.int 1]) rfl rfl rfl rfl rfl (cx_132p q4) rfl ?_
      refine sx_RP.ret (r := (some (.int 1))) rfl rfl ?_
      exact ⟨Or.inr ⟨⟨_, by omega, rfl⟩, rfl⟩, rfl⟩
  obtain ⟨r, w2, h1, h2, rfl⟩ := h
  rcases h2 with rfl | ⟨hc, rfl⟩
  · exact Or.inl h1
  · exact Or.inr ⟨hc, h1⟩
set_option maxRecDepth 20000 in
set_option maxHeartbeats 4000000 in
theorem p186 {xs : Option (List Int32)} {d : Nat} {w : List sx_C} (hI : WI w) (x : Int32) : sx_RU xs (d + 1) 186 0 (lv_args 0 [.ref 111, .int x]) [] w (some (.int 0)) w ∨ ((∃ j, j < 9 ∧ x = nI j) ∧ sx_RU xs (d + 1) 186 0 (lv_args 0 [.ref 111, .int x]) [] w (some (.int 1)) w) := by
  have h : sx_RP xs (d + 1) 186 0 (lv_args 0 [.ref 111, .int x]) [] w (fun r w2 => (r = some (.int 0) ∨ ((∃ j, j < 9 ∧ x = nI j) ∧ r = some (.int 1))) ∧ w2 = w) := by
    refine sx_RP.step (pc2 := 1) (ls2 := [(0, .ref 111), (1, .int x)]) (st2 := [.int x]) (w3 := w) rfl rfl ?_
    refine sx_RP.step (pc2 := 2) (ls2 := [(0, .ref 111), (1, .int x)]) (st2 := [.int 0, .int x]) (w3 := w) rfl rfl ?_
    refine sx_RP.step (pc2 := 3) (ls2 := [(0, .ref 111), (1, .int x)]) (st2 := [.ref 111, .int 0, .int x]) (w3 := w) rfl rfl ?_
    refine sx_RP.gf (v := .ref 112) rfl rfl hI.1.o111 rfl rfl (show _ = 6 from rfl) ?_
    refine sx_RP.step (pc2 := 7) (ls2 := [(0, .ref 111), (1, .int x)]) (st2 := [.int 2, .ref 112, .int 0, .int x]) (w3 := w) rfl rfl ?_
    refine sx_RP.ild (c := 2) rfl hI.1.a112.1 hI.1.a112.2 (sx_in_nI (show 2 < 172 by omega) (by decide)) (show (nI 2).toNatClampNeg = 2 from nI_clamp (by omega)) (show _ = 8 from rfl) ?_
    obtain ⟨x1, hx2, ex3⟩ : inR ((ia w 112).getD 2 0) 9 := (hI.s (2) (by omega)).2.1 rfl
    rw [ex3]
    refine sx_RP.step (pc2 := 9) (ls2 := [(0, .ref 111), (1, .int x)]) (st2 := [.int 1, .int (nI x1), .int 0, .int x]) (w3 := w) rfl rfl ?_
    refine sx_RP.step (pc2 := 10) (ls2 := [(0, .ref 111), (1, .int x)]) (st2 := [.int ((nI x1) - 1), .int 0, .int x]) (w3 := w) rfl rfl ?_
    rcases in_casesS x (n := x1) (by omega) with q4 | ⟨q4, x5, hx6, rfl⟩
    · refine sx_RP.cu (as := [.int x, .int 0, .int ((nI x1) - 1)]) (rest2 := []) (st3 := [.int 0]) rfl rfl rfl rfl rfl (cx_132o q4) rfl ?_
      refine sx_RP.ret (r := (some (.int 0))) rfl rfl ?_
      exact ⟨Or.inl rfl, rfl⟩
    · refine sx_RP.cu (as := [.int (nI x5), .int 0, .int ((nI x1) - 1)]) (rest2 := []) (st3 := [.int 1]) rfl rfl rfl rfl rfl (cx_132p q4) rfl ?_
      refine sx_RP.ret (r := (some (.int 1))) rfl rfl ?_
      exact ⟨Or.inr ⟨⟨_, by omega, rfl⟩, rfl⟩, rfl⟩
  obtain ⟨r, w2, h1, h2, rfl⟩ := h
  rcases h2 with rfl | ⟨hc, rfl⟩
  · exact Or.inl h1
  · exact Or.inr ⟨hc, h1⟩
