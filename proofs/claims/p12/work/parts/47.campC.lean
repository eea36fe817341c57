-- safety: what the class writes
set_option maxRecDepth 20000 in
set_option maxHeartbeats 4000000 in
theorem s9_0 {xs : Option (List Int32)} {d : Nat} {w : List sx_C} (hI : WI w) : sx_RP xs (d + 1) 9 0 (lv_args 0 [.ref 0, .int (-1000000001)]) [] w (fun r w2 => (r = some (.int (-1000000001))) ∧ WI w2 ∧ EC w w2) := by
  have hE : EC w w := EC.rf
  refine sx_RP.step (pc2 := 2) (ls2 := [(0, .ref 0), (1, .int (-1000000001))]) (st2 := [.int (-1000000001)]) (w3 := w) rfl rfl ?_
  refine sx_RP.step (pc2 := 3) (ls2 := [(0, .ref 0), (1, .int (-1000000001))]) (st2 := [.int (-1000000001), .int (-1000000001)]) (w3 := w) rfl rfl ?_
  refine sx_RP.step (pc2 := 4) (ls2 := [(0, .ref 0), (1, .int (-1000000001))]) (st2 := [.int 0]) (w3 := w) rfl rfl ?_
  refine sx_RP.step (pc2 := 5) (ls2 := [(2, .int 0), (0, .ref 0), (1, .int (-1000000001))]) (st2 := []) (w3 := w) rfl rfl ?_
  refine sx_RP.step (pc2 := 6) (ls2 := [(2, .int 0), (0, .ref 0), (1, .int (-1000000001))]) (st2 := [.int 0]) (w3 := w) rfl rfl ?_
  refine sx_RP.step (pc2 := 7) (ls2 := [(2, .int 0), (0, .ref 0), (1, .int (-1000000001))]) (st2 := [.int 0, .int 0]) (w3 := w) rfl rfl ?_
  refine sx_RP.step (pc2 := 9) (ls2 := [(2, .int 0), (0, .ref 0), (1, .int (-1000000001))]) (st2 := [.int 6, .int 0, .int 0]) (w3 := w) rfl rfl ?_
  refine sx_RP.cu (as := [.int 0, .int 0, .int 6]) (rest2 := []) (st3 := [.int 1]) rfl rfl rfl rfl rfl (cx_8p (by decide)) rfl ?_
  refine sx_RP.step (pc2 := 15) (ls2 := [(2, .int 0), (0, .ref 0), (1, .int (-1000000001))]) (st2 := []) (w3 := w) rfl rfl ?_
  refine sx_RP.step (pc2 := 16) (ls2 := [(2, .int 0), (0, .ref 0), (1, .int (-1000000001))]) (st2 := [.ref 0]) (w3 := w) rfl rfl ?_
  refine sx_RP.gf (v := .ref 99) rfl rfl hI.1.o0 rfl rfl (show _ = 19 from rfl) ?_
  refine sx_RP.step (pc2 := 20) (ls2 := [(2, .int 0), (0, .ref 0), (1, .int (-1000000001))]) (st2 := [.int 0, .ref 99]) (w3 := w) rfl rfl ?_
  refine sx_RP.step (pc2 := 21) (ls2 := [(2, .int 0), (0, .ref 0), (1, .int (-1000000001))]) (st2 := [.int 0, .ref 99, .int 0, .ref 99]) (w3 := w) rfl rfl ?_
  refine sx_RP.ild (c := 0) rfl hI.1.a99.1 hI.1.a99.2 (sx_in_nI (show 0 < 7 by omega) (by decide)) (show (nI 0).toNatClampNeg = 0 from nI_clamp (by omega)) (show _ = 22 from rfl) ?_
  refine sx_RP.step (pc2 := 23) (ls2 := [(2, .int 0), (0, .ref 0), (1, .int (-1000000001))]) (st2 := [.int 1, .int ((ia w 99).getD 0 0), .int 0, .ref 99]) (w3 := w) rfl rfl ?_
  refine sx_RP.step (pc2 := 24) (ls2 := [(2, .int 0), (0, .ref 0), (1, .int (-1000000001))]) (st2 := [.int (((ia w 99).getD 0 0) + 1), .int 0, .ref 99]) (w3 := w) rfl rfl ?_
  refine sx_RP.stF hI hE rfl hI.1.a99 (sx_in_nI (show 0 < 7 by omega) (by decide)) (by omega) (show _ = 25 from rfl) (fun w1 hI2 hE3 => ?_)
  refine sx_RP.step (pc2 := 26) (ls2 := [(2, .int 0), (0, .ref 0), (1, .int (-1000000001))]) (st2 := [.int (-1000000001)]) (w3 := w1) rfl rfl ?_
  refine sx_RP.ret (r := (some (.int (-1000000001)))) rfl rfl ?_
  exact ⟨rfl, hI2, hE3⟩
set_option maxRecDepth 20000 in
set_option maxHeartbeats 4000000 in
theorem s9_1 {xs : Option (List Int32)} {d : Nat} {w : List sx_C} (hI : WI w) : sx_RP xs (d + 1) 9 0 (lv_args 0 [.ref 0, .int (-1000000002)]) [] w (fun r w2 => (r = some (.int (-1000000002))) ∧ WI w2 ∧ EC w w2) := by
  have hE : EC w w := EC.rf
  refine sx_RP.step (pc2 := 2) (ls2 := [(0, .ref 0), (1, .int (-1000000002))]) (st2 := [.int (-1000000001)]) (w3 := w) rfl rfl ?_
  refine sx_RP.step (pc2 := 3) (ls2 := [(0, .ref 0), (1, .int (-1000000002))]) (st2 := [.int (-1000000002), .int (-1000000001)]) (w3 := w) rfl rfl ?_
  refine sx_RP.step (pc2 := 4) (ls2 := [(0, .ref 0), (1, .int (-1000000002))]) (st2 := [.int 1]) (w3 := w) rfl rfl ?_
  refine sx_RP.step (pc2 := 5) (ls2 := [(2, .int 1), (0, .ref 0), (1, .int (-1000000002))]) (st2 := []) (w3 := w) rfl rfl ?_
  refine sx_RP.step (pc2 := 6) (ls2 := [(2, .int 1), (0, .ref 0), (1, .int (-1000000002))]) (st2 := [.int 1]) (w3 := w) rfl rfl ?_
  refine sx_RP.step (pc2 := 7) (ls2 := [(2, .int 1), (0, .ref 0), (1, .int (-1000000002))]) (st2 := [.int 0, .int 1]) (w3 := w) rfl rfl ?_
  refine sx_RP.step (pc2 := 9) (ls2 := [(2, .int 1), (0, .ref 0), (1, .int (-1000000002))]) (st2 := [.int 6, .int 0, .int 1]) (w3 := w) rfl rfl ?_
  refine sx_RP.cu (as := [.int 1, .int 0, .int 6]) (rest2 := []) (st3 := [.int 1]) rfl rfl rfl rfl rfl (cx_8p (by decide)) rfl ?_
  refine sx_RP.step (pc2 := 15) (ls2 := [(2, .int 1), (0, .ref 0), (1, .int (-1000000002))]) (st2 := []) (w3 := w) rfl rfl ?_
  refine sx_RP.step (pc2 := 16) (ls2 := [(2, .int 1), (0, .ref 0), (1, .int (-1000000002))]) (st2 := [.ref 0]) (w3 := w) rfl rfl ?_
  refine sx_RP.gf (v := .ref 99) rfl rfl hI.1.o0 rfl rfl (show _ = 19 from rfl) ?_
  refine sx_RP.step (pc2 := 20) (ls2 := [(2, .int 1), (0, .ref 0), (1, .int (-1000000002))]) (st2 := [.int 1, .ref 99]) (w3 := w) rfl rfl ?_
  refine sx_RP.step (pc2 := 21) (ls2 := [(2, .int 1), (0, .ref 0), (1, .int (-1000000002))]) (st2 := [.int 1, .ref 99, .int 1, .ref 99]) (w3 := w) rfl rfl ?_
  refine sx_RP.ild (c := 1) rfl hI.1.a99.1 hI.1.a99.2 (sx_in_nI (show 1 < 7 by omega) (by decide)) (show (nI 1).toNatClampNeg = 1 from nI_clamp (by omega)) (show _ = 22 from rfl) ?_
  refine sx_RP.step (pc2 := 23) (ls2 := [(2, .int 1), (0, .ref 0), (1, .int (-1000000002))]) (st2 := [.int 1, .int ((ia w 99).getD 1 0), .int 1, .ref 99]) (w3 := w) rfl rfl ?_
  refine sx_RP.step (pc2 := 24) (ls2 := [(2, .int 1), (0, .ref 0), (1, .int (-1000000002))]) (st2 := [.int (((ia w 99).getD 1 0) + 1), .int 1, .ref 99]) (w3 := w) rfl rfl ?_
  refine sx_RP.stF hI hE rfl hI.1.a99 (sx_in_nI (show 1 < 7 by omega) (by decide)) (by omega) (show _ = 25 from rfl) (fun w1 hI2 hE3 => ?_)
  refine sx_RP.step (pc2 := 26) (ls2 := [(2, .int 1), (0, .ref 0), (1, .int (-1000000002))]) (st2 := [.int (-1000000002)]) (w3 := w1) rfl rfl ?_
  refine sx_RP.ret (r := (some (.int (-1000000002)))) rfl rfl ?_
  exact ⟨rfl, hI2, hE3⟩
set_option maxRecDepth 20000 in
set_option maxHeartbeats 4000000 in
theorem s9_2 {xs : Option (List Int32)} {d : Nat} {w : List sx_C} (hI : WI w) : sx_RP xs (d + 1) 9 0 (lv_args 0 [.ref 0, .int (-1000000003)]) [] w (fun r w2 => (r = some (.int (-1000000003))) ∧ WI w2 ∧ EC w w2) := by
  have hE : EC w w := EC.rf
  refine sx_RP.step (pc2 := 2) (ls2 := [(0, .ref 0), (1, .int (-1000000003))]) (st2 := [.int (-1000000001)]) (w3 := w) rfl rfl ?_
  refine sx_RP.step (pc2 := 3) (ls2 := [(0, .ref 0), (1, .int (-1000000003))]) (st2 := [.int (-1000000003), .int (-1000000001)]) (w3 := w) rfl rfl ?_
  refine sx_RP.step (pc2 := 4) (ls2 := [(0, .ref 0), (1, .int (-1000000003))]) (st2 := [.int 2]) (w3 := w) rfl rfl ?_
  refine sx_RP.step (pc2 := 5) (ls2 := [(2, .int 2), (0, .ref 0), (1, .int (-1000000003))]) (st2 := []) (w3 := w) rfl rfl ?_
  refine sx_RP.step (pc2 := 6) (ls2 := [(2, .int 2), (0, .ref 0), (1, .int (-1000000003))]) (st2 := [.int 2]) (w3 := w) rfl rfl ?_
  refine sx_RP.step (pc2 := 7) (ls2 := [(2, .int 2), (0, .ref 0), (1, .int (-1000000003))]) (st2 := [.int 0, .int 2]) (w3 := w) rfl rfl ?_
  refine sx_RP.step (pc2 := 9) (ls2 := [(2, .int 2), (0, .ref 0), (1, .int (-1000000003))]) (st2 := [.int 6, .int 0, .int 2]) (w3 := w) rfl rfl ?_
  refine sx_RP.cu (as := [.int 2, .int 0, .int 6]) (rest2 := []) (st3 := [.int 1]) rfl rfl rfl rfl rfl (cx_8p (by decide)) rfl ?_
  refine sx_RP.step (pc2 := 15) (ls2 := [(2, .int 2), (0, .ref 0), (1, .int (-1000000003))]) (st2 := []) (w3 := w) rfl rfl ?_
  refine sx_RP.step (pc2 := 16) (ls2 := [(2, .int 2), (0, .ref 0), (1, .int (-1000000003))]) (st2 := [.ref 0]) (w3 := w) rfl rfl ?_
  refine sx_RP.gf (v := .ref 99) rfl rfl hI.1.o0 rfl rfl (show _ = 19 from rfl) ?_
  refine sx_RP.step (pc2 := 20) (ls2 := [(2, .int 2), (0, .ref 0), (1, .int (-1000000003))]) (st2 := [.int 2, .ref 99]) (w3 := w) rfl rfl ?_
  refine sx_RP.step (pc2 := 21) (ls2 := [(2, .int 2), (0, .ref 0), (1, .int (-1000000003))]) (st2 := [.int 2, .ref 99, .int 2, .ref 99]) (w3 := w) rfl rfl ?_
  refine sx_RP.ild (c := 2) rfl hI.1.a99.1 hI.1.a99.2 (sx_in_nI (show 2 < 7 by omega) (by decide)) (show (nI 2).toNatClampNeg = 2 from nI_clamp (by omega)) (show _ = 22 from rfl) ?_
  refine sx_RP.step (pc2 := 23) (ls2 := [(2, .int 2), (0, .ref 0), (1, .int (-1000000003))]) (st2 := [.int 1, .int ((ia w 99).getD 2 0), .int 2, .ref 99]) (w3 := w) rfl rfl ?_
  refine sx_RP.step (pc2 := 24) (ls2 := [(2, .int 2), (0, .ref 0), (1, .int (-1000000003))]) (st2 := [.int (((ia w 99).getD 2 0) + 1), .int 2, .ref 99]) (w3 := w) rfl rfl ?_
  refine sx_RP.stF hI hE rfl hI.1.a99 (sx_in_nI (show 2 < 7 by omega) (by decide)) (by omega) (show _ = 25 from rfl) (fun w1 hI2 hE3 => ?_)
  refine sx_RP.step (pc2 := 26) (ls2 := [(2, .int 2), (0, .ref 0), (1, .int (-1000000003))]) (st2 := [.int (-1000000003)]) (w3 := w1) rfl rfl ?_
  refine sx_RP.ret (r := (some (.int (-1000000003)))) rfl rfl ?_
  exact ⟨rfl, hI2, hE3⟩
set_option maxRecDepth 20000 in
set_option maxHeartbeats 4000000 in
theorem s9_3 {xs : Option (List Int32)} {d : Nat} {w : List sx_C} (hI : WI w) : sx_RP xs (d + 1) 9 0 (lv_args 0 [.ref 0, .int (-1000000004)]) [] w (fun r w2 => (r = some (.int (-1000000004))) ∧ WI w2 ∧ EC w w2) := by
  have hE : EC w w := EC.rf
  refine sx_RP.step (pc2 := 2) (ls2 := [(0, .ref 0), (1, .int (-1000000004))]) (st2 := [.int (-1000000001)]) (w3 := w) rfl rfl ?_
  refine sx_RP.step (pc2 := 3) (ls2 := [(0, .ref 0), (1, .int (-1000000004))]) (st2 := [.int (-1000000004), .int (-1000000001)]) (w3 := w) rfl rfl ?_
  refine sx_RP.step (pc2 := 4) (ls2 := [(0, .ref 0), (1, .int (-1000000004))]) (st2 := [.int 3]) (w3 := w) rfl rfl ?_
  refine sx_RP.step (pc2 := 5) (ls2 := [(2, .int 3), (0, .ref 0), (1, .int (-1000000004))]) (st2 := []) (w3 := w) rfl rfl ?_
  refine sx_RP.step (pc2 := 6) (ls2 := [(2, .int 3), (0, .ref 0), (1, .int (-1000000004))]) (st2 := [.int 3]) (w3 := w) rfl rfl ?_
  refine sx_RP.step (pc2 := 7) (ls2 := [(2, .int 3), (0, .ref 0), (1, .int (-1000000004))]) (st2 := [.int 0, .int 3]) (w3 := w) rfl rfl ?_
  refine sx_RP.step (pc2 := 9) (ls2 := [(2, .int 3), (0, .ref 0), (1, .int (-1000000004))]) (st2 := [.int 6, .int 0, .int 3]) (w3 := w) rfl rfl ?_
  refine sx_RP.cu (as := [.int 3, .int 0, .int 6]) (rest2 := []) (st3 := [.int 1]) rfl rfl rfl rfl rfl (cx_8p (by decide)) rfl ?_
  refine sx_RP.step (pc2 := 15) (ls2 := [(2, .int 3), (0, .ref 0), (1, .int (-1000000004))]) (st2 := []) (w3 := w) rfl rfl ?_
  refine sx_RP.step (pc2 := 16) (ls2 := [(2, .int 3), (0, .ref 0), (1, .int (-1000000004))]) (st2 := [.ref 0]) (w3 := w) rfl rfl ?_
  refine sx_RP.gf (v := .ref 99) rfl rfl hI.1.o0 rfl rfl (show _ = 19 from rfl) ?_
  refine sx_RP.step (pc2 := 20) (ls2 := [(2, .int 3), (0, .ref 0), (1, .int (-1000000004))]) (st2 := [.int 3, .ref 99]) (w3 := w) rfl rfl ?_
  refine sx_RP.step (pc2 := 21) (ls2 := [(2, .int 3), (0, .ref 0), (1, .int (-1000000004))]) (st2 := [.int 3, .ref 99, .int 3, .ref 99]) (w3 := w) rfl rfl ?_
  refine sx_RP.ild (c := 3) rfl hI.1.a99.1 hI.1.a99.2 (sx_in_nI (show 3 < 7 by omega) (by decide)) (show (nI 3).toNatClampNeg = 3 from nI_clamp (by omega)) (show _ = 22 from rfl) ?_
  refine sx_RP.step (pc2 := 23) (ls2 := [(2, .int 3), (0, .ref 0), (1, .int (-1000000004))]) (st2 := [.int 1, .int ((ia w 99).getD 3 0), .int 3, .ref 99]) (w3 := w) rfl rfl ?_
  refine sx_RP.step (pc2 := 24) (ls2 := [(2, .int 3), (0, .ref 0), (1, .int (-1000000004))]) (st2 := [.int (((ia w 99).getD 3 0) + 1), .int 3, .ref 99]) (w3 := w) rfl rfl ?_
  refine sx_RP.stF hI hE rfl hI.1.a99 (sx_in_nI (show 3 < 7 by omega) (by decide)) (by omega) (show _ = 25 from rfl) (fun w1 hI2 hE3 => ?_)
  refine sx_RP.step (pc2 := 26) (ls2 := [(2, .int 3), (0, .ref 0), (1, .int (-1000000004))]) (st2 := [.int (-1000000004)]) (w3 := w1) rfl rfl ?_
  refine sx_RP.ret (r := (some (.int (-1000000004)))) rfl rfl ?_
  exact ⟨rfl, hI2, hE3⟩
set_option maxRecDepth 20000 in
set_option maxHeartbeats 4000000 in
theorem s9_4 {xs : Option (List Int32)} {d : Nat} {w : List sx_C} (hI : WI w) : sx_RP xs (d + 1) 9 0 (lv_args 0 [.ref 0, .int (-1000000005)]) [] w (fun r w2 => (r = some (.int (-1000000005))) ∧ WI w2 ∧ EC w w2) := by
  have hE : EC w w := EC.rf
  refine sx_RP.step (pc2 := 2) (ls2 := [(0, .ref 0), (1, .int (-1000000005))]) (st2 := [.int (-1000000001)]) (w3 := w) rfl rfl ?_
  refine sx_RP.step (pc2 := 3) (ls2 := [(0, .ref 0), (1, .int (-1000000005))]) (st2 := [.int (-1000000005), .int (-1000000001)]) (w3 := w) rfl rfl ?_
  refine sx_RP.step (pc2 := 4) (ls2 := [(0, .ref 0), (1, .int (-1000000005))]) (st2 := [.int 4]) (w3 := w) rfl rfl ?_
  refine sx_RP.step (pc2 := 5) (ls2 := [(2, .int 4), (0, .ref 0), (1, .int (-1000000005))]) (st2 := []) (w3 := w) rfl rfl ?_
  refine sx_RP.step (pc2 := 6) (ls2 := [(2, .int 4), (0, .ref 0), (1, .int (-1000000005))]) (st2 := [.int 4]) (w3 := w) rfl rfl ?_
  refine sx_RP.step (pc2 := 7) (ls2 := [(2, .int 4), (0, .ref 0), (1, .int (-1000000005))]) (st2 := [.int 0, .int 4]) (w3 := w) rfl rfl ?_
  refine sx_RP.step (pc2 := 9) (ls2 := [(2, .int 4), (0, .ref 0), (1, .int (-1000000005))]) (st2 := [.int 6, .int 0, .int 4]) (w3 := w) rfl rfl ?_
  refine sx_RP.cu (as := [.int 4, .int 0, .int 6]) (rest2 := []) (st3 := [.int 1]) rfl rfl rfl rfl rfl (cx_8p (by decide)) rfl ?_
  refine sx_RP.step (pc2 := 15) (ls2 := [(2, .int 4), (0, .ref 0), (1, .int (-1000000005))]) (st2 := []) (w3 := w) rfl rfl ?_
  refine sx_RP.step (pc2 := 16) (ls2 := [(2, .int 4), (0, .ref 0), (1, .int (-1000000005))]) (st2 := [.ref 0]) (w3 := w) rfl rfl ?_
  refine sx_RP.gf (v := .ref 99) rfl rfl hI.1.o0 rfl rfl (show _ = 19 from rfl) ?_
  refine sx_RP.step (pc2 := 20) (ls2 := [(2, .int 4), (0, .ref 0), (1, .int (-1000000005))]) (st2 := [.int 4, .ref 99]) (w3 := w) rfl rfl ?_
  refine sx_RP.step (pc2 := 21) (ls2 := [(2, .int 4), (0, .ref 0), (1, .int (-1000000005))]) (st2 := [.int 4, .ref 99, .int 4, .ref 99]) (w3 := w) rfl rfl ?_
  refine sx_RP.ild (c := 4) rfl hI.1.a99.1 hI.1.a99.2 (sx_in_nI (show 4 < 7 by omega) (by decide)) (show (nI 4).toNatClampNeg = 4 from nI_clamp (by omega)) (show _ = 22 from rfl) ?_
  refine sx_RP.step (pc2 := 23) (ls2 := [(2, .int 4), (0, .ref 0), (1, .int (-1000000005))]) (st2 := [.int 1, .int ((ia w 99).getD 4 0), .int 4, .ref 99]) (w3 := w) rfl rfl ?_
  refine sx_RP.step (pc2 := 24) (ls2 := [(2, .int 4), (0, .ref 0), (1, .int (-1000000005))]) (st2 := [.int (((ia w 99).getD 4 0) + 1), .int 4, .ref 99]) (w3 := w) rfl rfl ?_
  refine sx_RP.stF hI hE rfl hI.1.a99 (sx_in_nI (show 4 < 7 by omega) (by decide)) (by omega) (show _ = 25 from rfl) (fun w1 hI2 hE3 => ?_)
  refine sx_RP.step (pc2 := 26) (ls2 := [(2, .int 4), (0, .ref 0), (1, .int (-1000000005))]) (st2 := [.int (-1000000005)]) (w3 := w1) rfl rfl ?_
  refine sx_RP.ret (r := (some (.int (-1000000005)))) rfl rfl ?_
  exact ⟨rfl, hI2, hE3⟩
set_option maxRecDepth 20000 in
set_option maxHeartbeats 4000000 in
theorem s9_5 {xs : Option (List Int32)} {d : Nat} {w : List sx_C} (hI : WI w) : sx_RP xs (d + 1) 9 0 (lv_args 0 [.ref 0, .int (-1000000006)]) [] w (fun r w2 => (r = some (.int (-1000000006))) ∧ WI w2 ∧ EC w w2) := by
  have hE : EC w w := EC.rf
  refine sx_RP.step (pc2 := 2) (ls2 := [(0, .ref 0), (1, .int (-1000000006))]) (st2 := [.int (-1000000001)]) (w3 := w) rfl rfl ?_
  refine sx_RP.step (pc2 := 3) (ls2 := [(0, .ref 0), (1, .int (-1000000006))]) (st2 := [.int (-1000000006), .int (-1000000001)]) (w3 := w) rfl rfl ?_
  refine sx_RP.step (pc2 := 4) (ls2 := [(0, .ref 0), (1, .int (-1000000006))]) (st2 := [.int 5]) (w3 := w) rfl rfl ?_
  refine sx_RP.step (pc2 := 5) (ls2 := [(2, .int 5), (0, .ref 0), (1, .int (-1000000006))]) (st2 := []) (w3 := w) rfl rfl ?_
  refine sx_RP.step (pc2 := 6) (ls2 := [(2, .int 5), (0, .ref 0), (1, .int (-1000000006))]) (st2 := [.int 5]) (w3 := w) rfl rfl ?_
  refine sx_RP.step (pc2 := 7) (ls2 := [(2, .int 5), (0, .ref 0), (1, .int (-1000000006))]) (st2 := [.int 0, .int 5]) (w3 := w) rfl rfl ?_
  refine sx_RP.step (pc2 := 9) (ls2 := [(2, .int 5), (0, .ref 0), (1, .int (-1000000006))]) (st2 := [.int 6, .int 0, .int 5]) (w3 := w) rfl rfl ?_
  refine sx_RP.cu (as := [.int 5, .int 0, .int 6]) (rest2 := []) (st3 := [.int 1]) rfl rfl rfl rfl rfl (cx_8p (by decide)) rfl ?_
  refine sx_RP.step (pc2 := 15) (ls2 := [(2, .int 5), (0, .ref 0), (1, .int (-1000000006))]) (st2 := []) (w3 := w) rfl rfl ?_
  refine sx_RP.step (pc2 := 16) (ls2 := [(2, .int 5), (0, .ref 0), (1, .int (-1000000006))]) (st2 := [.ref 0]) (w3 := w) rfl rfl ?_
  refine sx_RP.gf (v := .ref 99) rfl rfl hI.1.o0 rfl rfl (show _ = 19 from rfl) ?_
  refine sx_RP.step (pc2 := 20) (ls2 := [(2, .int 5), (0, .ref 0), (1, .int (-1000000006))]) (st2 := [.int 5, .ref 99]) (w3 := w) rfl rfl ?_
  refine sx_RP.step (pc2 := 21) (ls2 := [(2, .int 5), (0, .ref 0), (1, .int (-1000000006))]) (st2 := [.int 5, .ref 99, .int 5, .ref 99]) (w3 := w) rfl rfl ?_
  refine sx_RP.ild (c := 5) rfl hI.1.a99.1 hI.1.a99.2 (sx_in_nI (show 5 < 7 by omega) (by decide)) (show (nI 5).toNatClampNeg = 5 from nI_clamp (by omega)) (show _ = 22 from rfl) ?_
  refine sx_RP.step (pc2 := 23) (ls2 := [(2, .int 5), (0, .ref 0), (1, .int (-1000000006))]) (st2 := [.int 1, .int ((ia w 99).getD 5 0), .int 5, .ref 99]) (w3 := w) rfl rfl ?_
  refine sx_RP.step (pc2 := 24) (ls2 := [(2, .int 5), (0, .ref 0), (1, .int (-1000000006))]) (st2 := [.int (((ia w 99).getD 5 0) + 1), .int 5, .ref 99]) (w3 := w) rfl rfl ?_
  refine sx_RP.stF hI hE rfl hI.1.a99 (sx_in_nI (show 5 < 7 by omega) (by decide)) (by omega) (show _ = 25 from rfl) (fun w1 hI2 hE3 => ?_)
  refine sx_RP.step (pc2 := 26) (ls2 := [(2, .int 5), (0, .ref 0), (1, .int (-1000000006))]) (st2 := [.int (-1000000006)]) (w3 := w1) rfl rfl ?_
  refine sx_RP.ret (r := (some (.int (-1000000006)))) rfl rfl ?_
  exact ⟨rfl, hI2, hE3⟩
set_option maxRecDepth 20000 in
set_option maxHeartbeats 4000000 in
theorem s9_6 {xs : Option (List Int32)} {d : Nat} {w : List sx_C} (hI : WI w) : sx_RP xs (d + 1) 9 0 (lv_args 0 [.ref 0, .int (-1000000007)]) [] w (fun r w2 => (r = some (.int (-1000000007))) ∧ WI w2 ∧ EC w w2) := by
  have hE : EC w w := EC.rf
  refine sx_RP.step (pc2 := 2) (ls2 := [(0, .ref 0), (1, .int (-1000000007))]) (st2 := [.int (-1000000001)]) (w3 := w) rfl rfl ?_
  refine sx_RP.step (pc2 := 3) (ls2 := [(0, .ref 0), (1, .int (-1000000007))]) (st2 := [.int (-1000000007), .int (-1000000001)]) (w3 := w) rfl rfl ?_
  refine sx_RP.step (pc2 := 4) (ls2 := [(0, .ref 0), (1, .int (-1000000007))]) (st2 := [.int 6]) (w3 := w) rfl rfl ?_
  refine sx_RP.step (pc2 := 5) (ls2 := [(2, .int 6), (0, .ref 0), (1, .int (-1000000007))]) (st2 := []) (w3 := w) rfl rfl ?_
  refine sx_RP.step (pc2 := 6) (ls2 := [(2, .int 6), (0, .ref 0), (1, .int (-1000000007))]) (st2 := [.int 6]) (w3 := w) rfl rfl ?_
  refine sx_RP.step (pc2 := 7) (ls2 := [(2, .int 6), (0, .ref 0), (1, .int (-1000000007))]) (st2 := [.int 0, .int 6]) (w3 := w) rfl rfl ?_
  refine sx_RP.step (pc2 := 9) (ls2 := [(2, .int 6), (0, .ref 0), (1, .int (-1000000007))]) (st2 := [.int 6, .int 0, .int 6]) (w3 := w) rfl rfl ?_
  refine sx_RP.cu (as := [.int 6, .int 0, .int 6]) (rest2 := []) (st3 := [.int 1]) rfl rfl rfl rfl rfl (cx_8p (by decide)) rfl ?_
  refine sx_RP.step (pc2 := 15) (ls2 := [(2, .int 6), (0, .ref 0), (1, .int (-1000000007))]) (st2 := []) (w3 := w) rfl rfl ?_
  refine sx_RP.step (pc2 := 16) (ls2 := [(2, .int 6), (0, .ref 0), (1, .int (-1000000007))]) (st2 := [.ref 0]) (w3 := w) rfl rfl ?_
  refine sx_RP.gf (v := .ref 99) rfl rfl hI.1.o0 rfl rfl (show _ = 19 from rfl) ?_
  refine sx_RP.step (pc2 := 20) (ls2 := [(2, .int 6), (0, .ref 0), (1, .int (-1000000007))]) (st2 := [.int 6, .ref 99]) (w3 := w) rfl rfl ?_
  refine sx_RP.step (pc2 := 21) (ls2 := [(2, .int 6), (0, .ref 0), (1, .int (-1000000007))]) (st2 := [.int 6, .ref 99, .int 6, .ref 99]) (w3 := w) rfl rfl ?_
  refine sx_RP.ild (c := 6) rfl hI.1.a99.1 hI.1.a99.2 (sx_in_nI (show 6 < 7 by omega) (by decide)) (show (nI 6).toNatClampNeg = 6 from nI_clamp (by omega)) (show _ = 22 from rfl) ?_
  refine sx_RP.step (pc2 := 23) (ls2 := [(2, .int 6), (0, .ref 0), (1, .int (-1000000007))]) (st2 := [.int 1, .int ((ia w 99).getD 6 0), .int 6, .ref 99]) (w3 := w) rfl rfl ?_
  refine sx_RP.step (pc2 := 24) (ls2 := [(2, .int 6), (0, .ref 0), (1, .int (-1000000007))]) (st2 := [.int (((ia w 99).getD 6 0) + 1), .int 6, .ref 99]) (w3 := w) rfl rfl ?_
  refine sx_RP.stF hI hE rfl hI.1.a99 (sx_in_nI (show 6 < 7 by omega) (by decide)) (by omega) (show _ = 25 from rfl) (fun w1 hI2 hE3 => ?_)
  refine sx_RP.step (pc2 := 26) (ls2 := [(2, .int 6), (0, .ref 0), (1, .int (-1000000007))]) (st2 := [.int (-1000000007)]) (w3 := w1) rfl rfl ?_
  refine sx_RP.ret (r := (some (.int (-1000000007)))) rfl rfl ?_
  exact ⟨rfl, hI2, hE3⟩
set_option maxRecDepth 20000 in
set_option maxHeartbeats 4000000 in
theorem s51 {xs : Option (List Int32)} {d : Nat} {w : List sx_C} (hI : WI w) {ga gb : Nat} (hg : gAd ga) (hb : gAd gb) : sx_RP xs d 51 0 (lv_args 0 [.ref ga, .ref gb]) [] w (fun r w2 => (r = none) ∧ WI w2 ∧ EC w w2) := by
  have hE : EC w w := EC.rf
  refine sx_RP.step (pc2 := 1) (ls2 := [(0, .ref ga), (1, .ref gb)]) (st2 := [.ref ga]) (w3 := w) rfl rfl ?_
  refine sx_RP.step (pc2 := 2) (ls2 := [(0, .ref ga), (1, .ref gb)]) (st2 := [.ref gb, .ref ga]) (w3 := w) rfl rfl ?_
  refine sx_RP.gg (k := 0) hI hb rfl rfl (by decide) (show _ = 5 from rfl) ?_
  obtain ⟨x1, hx2, ex3⟩ : inR (fi w gb 0) 5 := hI.gk (k := 0) hb (by decide)
  rw [ex3]
  refine sx_RP.pg (k := 0) hI hE hg rfl rfl (by decide) rfl (inR.n (show x1 ≤ 5 by omega)) (show _ = 8 from rfl) (fun w4 hI5 hE6 hk7 => ?_)
  refine sx_RP.step (pc2 := 9) (ls2 := [(0, .ref ga), (1, .ref gb)]) (st2 := [.ref ga]) (w3 := w4) rfl rfl ?_
  refine sx_RP.step (pc2 := 10) (ls2 := [(0, .ref ga), (1, .ref gb)]) (st2 := [.ref gb, .ref ga]) (w3 := w4) rfl rfl ?_
  refine sx_RP.gg (k := 1) hI5 hb rfl rfl (by decide) (show _ = 13 from rfl) ?_
  obtain ⟨x8, hx9, ex10⟩ : inR (fi w4 gb 1) 1 := hI5.gk (k := 1) hb (by decide)
  rw [ex10]
  refine sx_RP.pg (k := 1) hI5 hE6 hg rfl rfl (by decide) rfl (inR.n (show x8 ≤ 1 by omega)) (show _ = 16 from rfl) (fun w11 hI12 hE13 hk14 => ?_)
  refine sx_RP.step (pc2 := 17) (ls2 := [(0, .ref ga), (1, .ref gb)]) (st2 := [.ref ga]) (w3 := w11) rfl rfl ?_
  refine sx_RP.step (pc2 := 18) (ls2 := [(0, .ref ga), (1, .ref gb)]) (st2 := [.ref gb, .ref ga]) (w3 := w11) rfl rfl ?_
  refine sx_RP.gg (k := 2) hI12 hb rfl rfl (by decide) (show _ = 21 from rfl) ?_
  obtain ⟨x15, hx16, ex17⟩ : inR (fi w11 gb 2) 47 := hI12.gk (k := 2) hb (by decide)
  rw [ex17]
  refine sx_RP.pg (k := 2) hI12 hE13 hg rfl rfl (by decide) rfl (inR.n (show x15 ≤ 47 by omega)) (show _ = 24 from rfl) (fun w18 hI19 hE20 hk21 => ?_)
  refine sx_RP.step (pc2 := 25) (ls2 := [(0, .ref ga), (1, .ref gb)]) (st2 := [.ref ga]) (w3 := w18) rfl rfl ?_
  refine sx_RP.step (pc2 := 26) (ls2 := [(0, .ref ga), (1, .ref gb)]) (st2 := [.ref gb, .ref ga]) (w3 := w18) rfl rfl ?_
  refine sx_RP.gg (k := 3) hI19 hb rfl rfl (by decide) (show _ = 29 from rfl) ?_
  obtain ⟨x22, hx23, ex24⟩ : inR (fi w18 gb 3) 3 := hI19.gk (k := 3) hb (by decide)
  rw [ex24]
  refine sx_RP.pg (k := 3) hI19 hE20 hg rfl rfl (by decide) rfl (inR.n (show x22 ≤ 3 by omega)) (show _ = 32 from rfl) (fun w25 hI26 hE27 hk28 => ?_)
  refine sx_RP.step (pc2 := 33) (ls2 := [(0, .ref ga), (1, .ref gb)]) (st2 := [.ref ga]) (w3 := w25) rfl rfl ?_
  refine sx_RP.step (pc2 := 34) (ls2 := [(0, .ref ga), (1, .ref gb)]) (st2 := [.ref gb, .ref ga]) (w3 := w25) rfl rfl ?_
  refine sx_RP.gg (k := 4) hI26 hb rfl rfl (by decide) (show _ = 37 from rfl) ?_
  refine sx_RP.pg (k := 4) hI26 hE27 hg rfl rfl (by decide) rfl trivial (show _ = 40 from rfl) (fun w29 hI30 hE31 hk32 => ?_)
  refine sx_RP.step (pc2 := 41) (ls2 := [(0, .ref ga), (1, .ref gb)]) (st2 := [.ref ga]) (w3 := w29) rfl rfl ?_
  refine sx_RP.step (pc2 := 42) (ls2 := [(0, .ref ga), (1, .ref gb)]) (st2 := [.ref gb, .ref ga]) (w3 := w29) rfl rfl ?_
  refine sx_RP.gg (k := 5) hI30 hb rfl rfl (by decide) (show _ = 45 from rfl) ?_
  obtain ⟨x33, hx34, ex35⟩ : inR (fi w29 gb 5) 1 := hI30.gk (k := 5) hb (by decide)
  rw [ex35]
  refine sx_RP.pg (k := 5) hI30 hE31 hg rfl rfl (by decide) rfl (inR.n (show x33 ≤ 1 by omega)) (show _ = 48 from rfl) (fun w36 hI37 hE38 hk39 => ?_)
  refine sx_RP.ret (r := none) rfl rfl ?_
  exact ⟨rfl, hI37, hE38⟩
set_option maxRecDepth 20000 in
set_option maxHeartbeats 4000000 in
theorem s44 {xs : Option (List Int32)} {d : Nat} {w : List sx_C} (hI : WI w) {A : Nat} (hA : isA A) {ga : Nat} (hg : gAd ga) : sx_RP xs (d + 4) 44 0 (lv_args 0 [.ref A, .ref ga]) [] w (fun r w2 => (r = none) ∧ WI w2 ∧ EC w w2) := by
  have hE : EC w w := EC.rf
  refine sx_RP.step (pc2 := 1) (ls2 := [(0, .ref A), (1, .ref ga)]) (st2 := [.ref ga]) (w3 := w) rfl rfl ?_
  refine sx_RP.gg (k := 2) hI hg rfl rfl (by decide) (show _ = 4 from rfl) ?_
  obtain ⟨x1, hx2, ex3⟩ : inR (fi w ga 2) 47 := hI.gk (k := 2) hg (by decide)
  rw [ex3]
  refine sx_RP.step (pc2 := 5) (ls2 := [(0, .ref A), (1, .ref ga)]) (st2 := [.ref ga, .int (nI x1)]) (w3 := w) rfl rfl ?_
  refine sx_RP.gg (k := 3) hI hg rfl rfl (by decide) (show _ = 8 from rfl) ?_
  obtain ⟨x4, hx5, ex6⟩ : inR (fi w ga 3) 3 := hI.gk (k := 3) hg (by decide)
  rw [ex6]
  rcases bes_cases (c := x1) (j := x4) (by omega) (by omega) with q7 | ⟨x8, hx9, q7⟩
  · refine sx_RP.cu (as := [.int (nI x1), .int (nI x4)]) (rest2 := []) (st3 := [.int (-1)]) rfl rfl rfl rfl rfl (cb_20e (by omega) (by omega) q7) rfl ?_
    refine sx_RP.step (pc2 := 12) (ls2 := [(2, .int (-1)), (0, .ref A), (1, .ref ga)]) (st2 := []) (w3 := w) rfl rfl ?_
    refine sx_RP.step (pc2 := 13) (ls2 := [(2, .int (-1)), (0, .ref A), (1, .ref ga)]) (st2 := [.int (-1)]) (w3 := w) rfl rfl ?_
    refine sx_RP.step (pc2 := 14) (ls2 := [(2, .int (-1)), (0, .ref A), (1, .ref ga)]) (st2 := [.int (-1), .int (-1)]) (w3 := w) rfl rfl ?_
    refine sx_RP.step (pc2 := 17) (ls2 := [(2, .int (-1)), (0, .ref A), (1, .ref ga)]) (st2 := []) (w3 := w) rfl rfl ?_
    refine sx_RP.ret (r := none) rfl rfl ?_
    exact ⟨rfl, hI, hE⟩
  · refine sx_RP.cu (as := [.int (nI x1), .int (nI x4)]) (rest2 := []) (st3 := [.int (nI x8)]) rfl rfl rfl rfl rfl (cb_20e (by omega) (by omega) q7) rfl ?_
    refine sx_RP.step (pc2 := 12) (ls2 := [(2, .int (nI x8)), (0, .ref A), (1, .ref ga)]) (st2 := []) (w3 := w) rfl rfl ?_
    refine sx_RP.step (pc2 := 13) (ls2 := [(2, .int (nI x8)), (0, .ref A), (1, .ref ga)]) (st2 := [.int (nI x8)]) (w3 := w) rfl rfl ?_
    refine sx_RP.step (pc2 := 14) (ls2 := [(2, .int (nI x8)), (0, .ref A), (1, .ref ga)]) (st2 := [.int (-1), .int (nI x8)]) (w3 := w) rfl rfl ?_
    refine sx_RP.br (p1 := 18) (l1 := [(2, .int (nI x8)), (0, .ref A), (1, .ref ga)]) (s1 := []) (v1 := w) rfl rfl (fun _ => ?_) (fun q => absurd (nI_ne1 (by omega)) (of_decide_eq_false q))
    refine sx_RP.step (pc2 := 19) (ls2 := [(2, .int (nI x8)), (0, .ref A), (1, .ref ga)]) (st2 := [.ref A]) (w3 := w) rfl rfl ?_
    refine sx_RP.gref (k := 0) (b := A + 1) hI hA rfl rfl (by omega) (show _ = 22 from rfl) ?_
    refine sx_RP.step (pc2 := 23) (ls2 := [(2, .int (nI x8)), (0, .ref A), (1, .ref ga)]) (st2 := [.int (nI x8), .ref (A + 1)]) (w3 := w) rfl rfl ?_
    refine sx_RP.ild (c := x8) rfl (hI.1.aS hA).1 (hI.1.aS hA).2 (sx_in_nI (show x8 < 48 by omega) (by decide)) (show (nI x8).toNatClampNeg = x8 from nI_clamp (by omega)) (show _ = 24 from rfl) ?_
    obtain ⟨x10, hx11, ex12⟩ : inR ((ia w (A + 1)).getD x8 0) 3 := hI.st hA (show x8 < 48 by omega)
    rw [ex12]
    refine sx_RP.step (pc2 := 25) (ls2 := [(2, .int (nI x8)), (0, .ref A), (1, .ref ga)]) (st2 := [.int 3, .int (nI x10)]) (w3 := w) rfl rfl ?_
    refine sx_RP.br (p1 := 34) (l1 := [(2, .int (nI x8)), (0, .ref A), (1, .ref ga)]) (s1 := []) (v1 := w) (p2 := 28) (l2 := [(2, .int (nI x8)), (0, .ref A), (1, .ref ga)]) (s2 := []) (v2 := w) rfl rfl (fun q13 => ?_) (fun q13 => ?_)
    · replace q13 := of_decide_eq_true q13
      replace q13 := mt (nI_eq (a := x10) (b := 3) (by omega) (by omega)).mpr q13
      refine sx_RP.step (pc2 := 35) (ls2 := [(2, .int (nI x8)), (0, .ref A), (1, .ref ga)]) (st2 := [.ref ga]) (w3 := w) rfl rfl ?_
      refine sx_RP.step (pc2 := 36) (ls2 := [(2, .int (nI x8)), (0, .ref A), (1, .ref ga)]) (st2 := [.ref ga, .ref ga]) (w3 := w) rfl rfl ?_
      refine sx_RP.gg (k := 4) hI hg rfl rfl (by decide) (show _ = 39 from rfl) ?_
      refine sx_RP.step (pc2 := 40) (ls2 := [(2, .int (nI x8)), (0, .ref A), (1, .ref ga)]) (st2 := [.int 1, .int (fi w ga 4), .ref ga]) (w3 := w) rfl rfl ?_
      refine sx_RP.step (pc2 := 41) (ls2 := [(2, .int (nI x8)), (0, .ref A), (1, .ref ga)]) (st2 := [.int ((fi w ga 4) + 1), .ref ga]) (w3 := w) rfl rfl ?_
      refine sx_RP.pg (k := 4) hI hE hg rfl rfl (by decide) rfl trivial (show _ = 44 from rfl) (fun w14 hI15 hE16 hk17 => ?_)
      refine sx_RP.step (pc2 := 45) (ls2 := [(2, .int (nI x8)), (0, .ref A), (1, .ref ga)]) (st2 := [.ref ga]) (w3 := w14) rfl rfl ?_
      refine sx_RP.gg (k := 4) hI15 hg rfl rfl (by decide) (show _ = 48 from rfl) ?_
      refine sx_RP.step (pc2 := 49) (ls2 := [(2, .int (nI x8)), (0, .ref A), (1, .ref ga)]) (st2 := [.ref A, .int (fi w14 ga 4)]) (w3 := w14) rfl rfl ?_
      refine sx_RP.step (pc2 := 50) (ls2 := [(2, .int (nI x8)), (0, .ref A), (1, .ref ga)]) (st2 := [.ref ga, .ref A, .int (fi w14 ga 4)]) (w3 := w14) rfl rfl ?_
      refine sx_RP.gg (k := 0) hI15 hg rfl rfl (by decide) (show _ = 53 from rfl) ?_
      obtain ⟨x18, hx19, ex20⟩ : inR (fi w14 ga 0) 5 := hI15.gk (k := 0) hg (by decide)
      rw [ex20]
      refine sx_RP.step (pc2 := 54) (ls2 := [(2, .int (nI x8)), (0, .ref A), (1, .ref ga)]) (st2 := [.int (nI x8), .int (nI x18), .ref A, .int (fi w14 ga 4)]) (w3 := w14) rfl rfl ?_
      obtain ⟨v21, c22⟩ := p33 hI15 hA (show x18 ≤ 5 by omega) (show x8 < 48 by omega)
      refine sx_RP.cu (as := [.ref A, .int (nI x18), .int (nI x8)]) (rest2 := [.int (fi w14 ga 4)]) (st3 := [.int v21, .int (fi w14 ga 4)]) rfl rfl (sx_inv_v2 (mi := 44) (k := 119) (st := [.int (nI x8), .int (nI x18), .ref A, .int (fi w14 ga 4)]) (w := w14) rfl rfl (hI15.1.oC hA) rfl rfl rfl) rfl rfl (c22) rfl ?_
      refine sx_RP.br (p1 := 91) (l1 := [(2, .int (nI x8)), (0, .ref A), (1, .ref ga)]) (s1 := []) (v1 := w14) (p2 := 60) (l2 := [(2, .int (nI x8)), (0, .ref A), (1, .ref ga)]) (s2 := []) (v2 := w14) rfl rfl (fun q23 => ?_) (fun q23 => ?_)
      · replace q23 := of_decide_eq_true q23
        refine sx_RP.ret (r := none) rfl rfl ?_
        exact ⟨rfl, hI15, hE16⟩
      · replace q23 := of_decide_eq_false q23
        refine sx_RP.step (pc2 := 61) (ls2 := [(2, .int (nI x8)), (0, .ref A), (1, .ref ga)]) (st2 := [.ref ga]) (w3 := w14) rfl rfl ?_
        refine sx_RP.step (pc2 := 62) (ls2 := [(2, .int (nI x8)), (0, .ref A), (1, .ref ga)]) (st2 := [.int (nI x8), .ref ga]) (w3 := w14) rfl rfl ?_
        refine sx_RP.pg (k := 2) hI15 hE16 hg rfl rfl (by decide) rfl (inR.n (show x8 ≤ 47 by omega)) (show _ = 65 from rfl) (fun w24 hI25 hE26 hk27 => ?_)
        refine sx_RP.step (pc2 := 66) (ls2 := [(2, .int (nI x8)), (0, .ref A), (1, .ref ga)]) (st2 := [.ref ga]) (w3 := w24) rfl rfl ?_
        refine sx_RP.step (pc2 := 67) (ls2 := [(2, .int (nI x8)), (0, .ref A), (1, .ref ga)]) (st2 := [.int 0, .ref ga]) (w3 := w24) rfl rfl ?_
        refine sx_RP.pg (k := 4) hI25 hE26 hg rfl rfl (by decide) rfl trivial (show _ = 70 from rfl) (fun w28 hI29 hE30 hk31 => ?_)
        refine sx_RP.step (pc2 := 71) (ls2 := [(2, .int (nI x8)), (0, .ref A), (1, .ref ga)]) (st2 := [.ref ga]) (w3 := w28) rfl rfl ?_
        refine sx_RP.step (pc2 := 72) (ls2 := [(2, .int (nI x8)), (0, .ref A), (1, .ref ga)]) (st2 := [.ref A, .ref ga]) (w3 := w28) rfl rfl ?_
        refine sx_RP.step (pc2 := 73) (ls2 := [(2, .int (nI x8)), (0, .ref A), (1, .ref ga)]) (st2 := [.ref ga, .ref A, .ref ga]) (w3 := w28) rfl rfl ?_
        refine sx_RP.gg (k := 0) hI29 hg rfl rfl (by decide) (show _ = 76 from rfl) ?_
        obtain ⟨x32, hx33, ex34⟩ : inR (fi w28 ga 0) 5 := hI29.gk (k := 0) hg (by decide)
        rw [ex34]
        refine sx_RP.step (pc2 := 77) (ls2 := [(2, .int (nI x8)), (0, .ref A), (1, .ref ga)]) (st2 := [.int (nI x8), .int (nI x32), .ref A, .ref ga]) (w3 := w28) rfl rfl ?_
        obtain ⟨x35, hx36, c37⟩ := p37 hI29 hA (show x32 ≤ 5 by omega) (show x8 < 48 by omega)
        refine sx_RP.cu (as := [.ref A, .int (nI x32), .int (nI x8)]) (rest2 := [.ref ga]) (st3 := [.int (nI x35), .ref ga]) rfl rfl (sx_inv_v2 (mi := 44) (k := 103) (st := [.int (nI x8), .int (nI x32), .ref A, .ref ga]) (w := w28) rfl rfl (hI29.1.oC hA) rfl rfl rfl) rfl rfl (c37) rfl ?_
        refine sx_RP.br (p1 := 87) (l1 := [(2, .int (nI x8)), (0, .ref A), (1, .ref ga)]) (s1 := [.ref ga]) (v1 := w28) (p2 := 83) (l2 := [(2, .int (nI x8)), (0, .ref A), (1, .ref ga)]) (s2 := [.ref ga]) (v2 := w28) rfl rfl (fun q38 => ?_) (fun q38 => ?_)
        · replace q38 := of_decide_eq_true q38
          replace q38 := mt (nI_eq (a := x35) (b := 0) (by omega) (by omega)).mpr q38
          refine sx_RP.step (pc2 := 88) (ls2 := [(2, .int (nI x8)), (0, .ref A), (1, .ref ga)]) (st2 := [.int 0, .ref ga]) (w3 := w28) rfl rfl ?_
          refine sx_RP.pg (k := 5) hI29 hE30 hg rfl rfl (by decide) rfl (show inR 0 1 from ⟨0, by decide, rfl⟩) (show _ = 91 from rfl) (fun w39 hI40 hE41 hk42 => ?_)
          refine sx_RP.ret (r := none) rfl rfl ?_
          exact ⟨rfl, hI40, hE41⟩
        · replace q38 := Decidable.not_not.mp (of_decide_eq_false q38)
          replace q38 := (nI_eq (a := x35) (b := 0) (by omega) (by omega)).mp q38
          refine sx_RP.step (pc2 := 84) (ls2 := [(2, .int (nI x8)), (0, .ref A), (1, .ref ga)]) (st2 := [.int 1, .ref ga]) (w3 := w28) rfl rfl ?_
          refine sx_RP.step (pc2 := 88) (ls2 := [(2, .int (nI x8)), (0, .ref A), (1, .ref ga)]) (st2 := [.int 1, .ref ga]) (w3 := w28) rfl rfl ?_
          refine sx_RP.pg (k := 5) hI29 hE30 hg rfl rfl (by decide) rfl (show inR 1 1 from ⟨1, by decide, rfl⟩) (show _ = 91 from rfl) (fun w43 hI44 hE45 hk46 => ?_)
          refine sx_RP.ret (r := none) rfl rfl ?_
          exact ⟨rfl, hI44, hE45⟩
    · replace q13 := Decidable.not_not.mp (of_decide_eq_false q13)
      replace q13 := (nI_eq (a := x10) (b := 3) (by omega) (by omega)).mp q13
      refine sx_RP.step (pc2 := 29) (ls2 := [(2, .int (nI x8)), (0, .ref A), (1, .ref ga)]) (st2 := [.ref ga]) (w3 := w) rfl rfl ?_
      refine sx_RP.step (pc2 := 30) (ls2 := [(2, .int (nI x8)), (0, .ref A), (1, .ref ga)]) (st2 := [.int 1, .ref ga]) (w3 := w) rfl rfl ?_
      refine sx_RP.pg (k := 5) hI hE hg rfl rfl (by decide) rfl (show inR 1 1 from ⟨1, by decide, rfl⟩) (show _ = 33 from rfl) (fun w47 hI48 hE49 hk50 => ?_)
      refine sx_RP.ret (r := none) rfl rfl ?_
      exact ⟨rfl, hI48, hE49⟩
set_option maxRecDepth 20000 in
set_option maxHeartbeats 4000000 in
theorem s50B {xs : Option (List Int32)} {d : Nat} {w w0 : List sx_C} {A B : Nat} (hA : isA A) (hB : isA B) (hI : WI w) (hE : EC w0 w) {j : Nat} (hj : j ≤ 10) (kk : ∀ (w4 : List sx_C), WI w4 → EC w0 w4 → j + 1 ≤ 10 → sx_RP xs (d + 1) 50 33 [(0, .ref A), (1, .ref B), (2, .int (nI (j + 1)))] [] w4 (fun r w2 => (r = none) ∧ WI w2 ∧ EC w0 w2)) : sx_RP xs (d + 1) 50 33 [(0, .ref A), (1, .ref B), (2, .int (nI j))] [] w (fun r w2 => (r = none) ∧ WI w2 ∧ EC w0 w2) := by
  refine sx_RP.step (pc2 := 34) (ls2 := [(0, .ref A), (1, .ref B), (2, .int (nI j))]) (st2 := [.int (nI j)]) (w3 := w) rfl rfl ?_
  refine sx_RP.step (pc2 := 35) (ls2 := [(0, .ref A), (1, .ref B), (2, .int (nI j))]) (st2 := [.ref A, .int (nI j)]) (w3 := w) rfl rfl ?_
  refine sx_RP.gc (k := 3) hI hA rfl rfl (by omega) (show _ = 38 from rfl) ?_
  obtain ⟨x1, hx2, ex3⟩ : inR (fi w A 3) 10 := (hI.c hA).1
  rw [ex3]
  refine sx_RP.br (p1 := 62) (l1 := [(0, .ref A), (1, .ref B), (2, .int (nI j))]) (s1 := []) (v1 := w) (p2 := 41) (l2 := [(0, .ref A), (1, .ref B), (2, .int (nI j))]) (s2 := []) (v2 := w) rfl rfl (fun q4 => ?_) (fun q4 => ?_)
  · replace q4 := of_decide_eq_true q4
    replace q4 := (nI_leI (a := x1) (b := j) (by omega) (by omega)).mp q4
    refine sx_RP.step (pc2 := 63) (ls2 := [(0, .ref A), (1, .ref B), (2, .int (nI j))]) (st2 := [.ref B]) (w3 := w) rfl rfl ?_
    refine sx_RP.gref (k := 4) (b := B + 3) hI hB rfl rfl (by omega) (show _ = 66 from rfl) ?_
    refine sx_RP.step (pc2 := 67) (ls2 := [(0, .ref A), (1, .ref B), (2, .int (nI j))]) (st2 := [.int 0, .ref (B + 3)]) (w3 := w) rfl rfl ?_
    refine sx_RP.step (pc2 := 68) (ls2 := [(0, .ref A), (1, .ref B), (2, .int (nI j))]) (st2 := [.ref A, .int 0, .ref (B + 3)]) (w3 := w) rfl rfl ?_
    refine sx_RP.gref (k := 4) (b := A + 3) hI hA rfl rfl (by omega) (show _ = 71 from rfl) ?_
    refine sx_RP.step (pc2 := 72) (ls2 := [(0, .ref A), (1, .ref B), (2, .int (nI j))]) (st2 := [.int 0, .ref (A + 3), .int 0, .ref (B + 3)]) (w3 := w) rfl rfl ?_
    refine sx_RP.step (pc2 := 74) (ls2 := [(0, .ref A), (1, .ref B), (2, .int (nI j))]) (st2 := [.int 9, .int 0, .ref (A + 3), .int 0, .ref (B + 3)]) (w3 := w) rfl rfl ?_
    refine sx_RP.acD hI hE hA hB rfl rfl rfl (show _ = 77 from rfl) (fun w5 hI6 hE7 => ?_)
    refine sx_RP.step (pc2 := 78) (ls2 := [(0, .ref A), (1, .ref B), (2, .int (nI j))]) (st2 := [.ref A]) (w3 := w5) rfl rfl ?_
    refine sx_RP.step (pc2 := 79) (ls2 := [(0, .ref A), (1, .ref B), (2, .int (nI j))]) (st2 := [.ref B, .ref A]) (w3 := w5) rfl rfl ?_
    refine sx_RP.gc (k := 5) hI6 hB rfl rfl (by omega) (show _ = 82 from rfl) ?_
    obtain ⟨x8, hx9, ex10⟩ : inR (fi w5 B 5) 9 := (hI6.c hB).2
    rw [ex10]
    refine sx_RP.putc (k := 5) hI6 hE7 hA rfl rfl (by omega) rfl (inR.n (show x8 ≤ 9 by omega)) (show _ = 85 from rfl) (fun w11 hI12 hE13 => ?_)
    refine sx_RP.step (pc2 := 86) (ls2 := [(0, .ref A), (1, .ref B), (2, .int (nI j))]) (st2 := [.ref A]) (w3 := w11) rfl rfl ?_
    refine sx_RP.step (pc2 := 87) (ls2 := [(0, .ref A), (1, .ref B), (2, .int (nI j))]) (st2 := [.ref B, .ref A]) (w3 := w11) rfl rfl ?_
    refine sx_RP.gc (k := 6) hI12 hB rfl rfl (by omega) (show _ = 90 from rfl) ?_
    refine sx_RP.putc (k := 6) hI12 hE13 hA rfl rfl (by omega) rfl trivial (show _ = 93 from rfl) (fun w14 hI15 hE16 => ?_)
    refine sx_RP.step (pc2 := 94) (ls2 := [(0, .ref A), (1, .ref B), (2, .int (nI j))]) (st2 := [.ref A]) (w3 := w14) rfl rfl ?_
    refine sx_RP.step (pc2 := 95) (ls2 := [(0, .ref A), (1, .ref B), (2, .int (nI j))]) (st2 := [.ref B, .ref A]) (w3 := w14) rfl rfl ?_
    refine sx_RP.gc (k := 7) hI15 hB rfl rfl (by omega) (show _ = 98 from rfl) ?_
    refine sx_RP.putc (k := 7) hI15 hE16 hA rfl rfl (by omega) rfl trivial (show _ = 101 from rfl) (fun w17 hI18 hE19 => ?_)
    refine sx_RP.step (pc2 := 102) (ls2 := [(0, .ref A), (1, .ref B), (2, .int (nI j))]) (st2 := [.ref A]) (w3 := w17) rfl rfl ?_
    refine sx_RP.step (pc2 := 103) (ls2 := [(0, .ref A), (1, .ref B), (2, .int (nI j))]) (st2 := [.ref B, .ref A]) (w3 := w17) rfl rfl ?_
    refine sx_RP.gc (k := 8) hI18 hB rfl rfl (by omega) (show _ = 106 from rfl) ?_
    refine sx_RP.putc (k := 8) hI18 hE19 hA rfl rfl (by omega) rfl trivial (show _ = 109 from rfl) (fun w20 hI21 hE22 => ?_)
    refine sx_RP.step (pc2 := 110) (ls2 := [(0, .ref A), (1, .ref B), (2, .int (nI j))]) (st2 := [.ref A]) (w3 := w20) rfl rfl ?_
    refine sx_RP.step (pc2 := 111) (ls2 := [(0, .ref A), (1, .ref B), (2, .int (nI j))]) (st2 := [.ref B, .ref A]) (w3 := w20) rfl rfl ?_
    refine sx_RP.gc (k := 9) hI21 hB rfl rfl (by omega) (show _ = 114 from rfl) ?_
    refine sx_RP.putc (k := 9) hI21 hE22 hA rfl rfl (by omega) rfl trivial (show _ = 117 from rfl) (fun w23 hI24 hE25 => ?_)
    refine sx_RP.step (pc2 := 118) (ls2 := [(0, .ref A), (1, .ref B), (2, .int (nI j))]) (st2 := [.ref A]) (w3 := w23) rfl rfl ?_
    refine sx_RP.step (pc2 := 119) (ls2 := [(0, .ref A), (1, .ref B), (2, .int (nI j))]) (st2 := [.ref B, .ref A]) (w3 := w23) rfl rfl ?_
    refine sx_RP.gc (k := 10) hI24 hB rfl rfl (by omega) (show _ = 122 from rfl) ?_
    refine sx_RP.putc (k := 10) hI24 hE25 hA rfl rfl (by omega) rfl trivial (show _ = 125 from rfl) (fun w26 hI27 hE28 => ?_)
    refine sx_RP.ret (r := none) rfl rfl ?_
    exact ⟨rfl, hI27, hE28⟩
  · replace q4 := of_decide_eq_false q4
    replace q4 := mt (nI_leI (a := x1) (b := j) (by omega) (by omega)).mpr q4
    refine sx_RP.step (pc2 := 42) (ls2 := [(0, .ref A), (1, .ref B), (2, .int (nI j))]) (st2 := [.ref A]) (w3 := w) rfl rfl ?_
    refine sx_RP.gref (k := 2) (b := A + 2) hI hA rfl rfl (by omega) (show _ = 45 from rfl) ?_
    refine sx_RP.step (pc2 := 46) (ls2 := [(0, .ref A), (1, .ref B), (2, .int (nI j))]) (st2 := [.int (nI j), .ref (A + 2)]) (w3 := w) rfl rfl ?_
    refine sx_RP.ald (v := .ref (A + 4 + j)) rfl (hI.1.aG hA) rfl (grA_at (show j < 10 by omega)) (show _ = 47 from rfl) ?_
    refine sx_RP.step (pc2 := 48) (ls2 := [(0, .ref A), (1, .ref B), (2, .int (nI j))]) (st2 := [.ref B, .ref (A + 4 + j)]) (w3 := w) rfl rfl ?_
    refine sx_RP.gref (k := 2) (b := B + 2) hI hB rfl rfl (by omega) (show _ = 51 from rfl) ?_
    refine sx_RP.step (pc2 := 52) (ls2 := [(0, .ref A), (1, .ref B), (2, .int (nI j))]) (st2 := [.int (nI j), .ref (B + 2), .ref (A + 4 + j)]) (w3 := w) rfl rfl ?_
    refine sx_RP.ald (v := .ref (B + 4 + j)) rfl (hI.1.aG hB) rfl (grA_at (show j < 10 by omega)) (show _ = 53 from rfl) ?_
    refine sx_RP.callp (as2 := [.ref (A + 4 + j), .ref (B + 4 + j)]) (rest2 := []) rfl rfl (sx_inv_v2 (mi := 50) (k := 59) (st := [.ref (B + 4 + j), .ref (A + 4 + j)]) (w := w) rfl rfl (hI.1.oG (gAd.of hA (show j < 10 by omega))) rfl rfl rfl) rfl rfl rfl (s51 hI (gAd.of hA (show j < 10 by omega)) (gAd.of hB (show j < 10 by omega))) (show _ = 56 from rfl) ?_
    rintro r4 w29 ⟨rfl, hI30, hE32⟩
    have hE31 := hE.tr hE32
    show sx_RP _ _ _ _ _ [] _ _
    refine sx_RP.step (pc2 := 59) (ls2 := [(2, .int ((nI j) + 1)), (0, .ref A), (1, .ref B)]) (st2 := []) (w3 := w29) rfl rfl ?_
    rw [nI_1 j]
    refine sx_RP.step (pc2 := 33) (ls2 := [(2, .int (nI (j + 1))), (0, .ref A), (1, .ref B)]) (st2 := []) (w3 := w29) rfl rfl ?_
    exact sx_RP.ls (sx_lr.cons rfl (sx_lr.cons rfl (sx_lr.cons rfl sx_lr.nil))) (kk w29 hI30 hE31 (by omega))
set_option maxRecDepth 20000 in
set_option maxHeartbeats 4000000 in
theorem s50L {xs : Option (List Int32)} {d : Nat} {w0 : List sx_C} {A B : Nat} (hA : isA A) (hB : isA B) : ∀ (fz j : Nat) (w : List sx_C) , 10 ≤ j + fz * 1 → j ≤ 10 → WI w → EC w0 w → sx_RP xs (d + 1) 50 33 [(0, .ref A), (1, .ref B), (2, .int (nI j))] [] w (fun r w2 => (r = none) ∧ WI w2 ∧ EC w0 w2)
  | 0, j, w, h, hj, hI, hE => s50B hA hB hI hE hj   (fun w4  hI4 hE4 hlt  => absurd hlt (by omega)) 
  | fz + 1, j, w, h, hj, hI, hE => s50B hA hB hI hE hj   (fun w4  hI4 hE4 hlt  => s50L hA hB  fz (j + 1) w4  (by omega) hlt hI4 hE4 ) 
set_option maxRecDepth 20000 in
set_option maxHeartbeats 4000000 in
theorem s50 {xs : Option (List Int32)} {d : Nat} {w : List sx_C} (hI : WI w) {A B : Nat} (hA : isA A) (hB : isA B) : sx_RP xs (d + 1) 50 0 (lv_args 0 [.ref A, .ref B]) [] w (fun r w2 => (r = none) ∧ WI w2 ∧ EC w w2) := by
  have hE : EC w w := EC.rf
  refine sx_RP.step (pc2 := 1) (ls2 := [(0, .ref A), (1, .ref B)]) (st2 := [.ref B]) (w3 := w) rfl rfl ?_
  refine sx_RP.gref (k := 0) (b := B + 1) hI hB rfl rfl (by omega) (show _ = 4 from rfl) ?_
  refine sx_RP.step (pc2 := 5) (ls2 := [(0, .ref A), (1, .ref B)]) (st2 := [.int 0, .ref (B + 1)]) (w3 := w) rfl rfl ?_
  refine sx_RP.step (pc2 := 6) (ls2 := [(0, .ref A), (1, .ref B)]) (st2 := [.ref A, .int 0, .ref (B + 1)]) (w3 := w) rfl rfl ?_
  refine sx_RP.gref (k := 0) (b := A + 1) hI hA rfl rfl (by omega) (show _ = 9 from rfl) ?_
  refine sx_RP.step (pc2 := 10) (ls2 := [(0, .ref A), (1, .ref B)]) (st2 := [.int 0, .ref (A + 1), .int 0, .ref (B + 1)]) (w3 := w) rfl rfl ?_
  refine sx_RP.step (pc2 := 12) (ls2 := [(0, .ref A), (1, .ref B)]) (st2 := [.int 48, .int 0, .ref (A + 1), .int 0, .ref (B + 1)]) (w3 := w) rfl rfl ?_
  refine sx_RP.acS hI hE hA hB rfl rfl rfl (show _ = 15 from rfl) (fun w1 hI2 hE3 => ?_)
  refine sx_RP.step (pc2 := 16) (ls2 := [(0, .ref A), (1, .ref B)]) (st2 := [.ref A]) (w3 := w1) rfl rfl ?_
  refine sx_RP.step (pc2 := 17) (ls2 := [(0, .ref A), (1, .ref B)]) (st2 := [.ref B, .ref A]) (w3 := w1) rfl rfl ?_
  refine sx_RP.gw hI2 hB rfl rfl (show _ = 20 from rfl) ?_
  refine sx_RP.pw hI2 hE3 hA rfl rfl rfl (show _ = 23 from rfl) (fun w4 hI5 hE6 => ?_)
  refine sx_RP.step (pc2 := 24) (ls2 := [(0, .ref A), (1, .ref B)]) (st2 := [.ref A]) (w3 := w4) rfl rfl ?_
  refine sx_RP.step (pc2 := 25) (ls2 := [(0, .ref A), (1, .ref B)]) (st2 := [.ref B, .ref A]) (w3 := w4) rfl rfl ?_
  refine sx_RP.gc (k := 3) hI5 hB rfl rfl (by omega) (show _ = 28 from rfl) ?_
  obtain ⟨x7, hx8, ex9⟩ : inR (fi w4 B 3) 10 := (hI5.c hB).1
  rw [ex9]
  refine sx_RP.putc (k := 3) hI5 hE6 hA rfl rfl (by omega) rfl (inR.n (show x7 ≤ 10 by omega)) (show _ = 31 from rfl) (fun w10 hI11 hE12 => ?_)
  refine sx_RP.step (pc2 := 32) (ls2 := [(0, .ref A), (1, .ref B)]) (st2 := [.int 0]) (w3 := w10) rfl rfl ?_
  refine sx_RP.step (pc2 := 33) (ls2 := [(2, .int 0), (0, .ref A), (1, .ref B)]) (st2 := []) (w3 := w10) rfl rfl ?_
  exact sx_RP.ls (sx_lr.cons rfl (sx_lr.cons rfl (sx_lr.cons rfl sx_lr.nil))) (s50L hA hB 10 0 w10  (by omega) (by omega) hI11 hE12 )
set_option maxRecDepth 20000 in
set_option maxHeartbeats 4000000 in
theorem s41bB {xs : Option (List Int32)} {d : Nat} {w w0 : List sx_C} {A : Nat} (hA : isA A) (hI : WI w) (hE : EC w0 w) {j : Nat} (hj : j ≤ 10) (l : Int32) (kk : ∀ (w4 : List sx_C) (ul : Int32), WI w4 → EC w0 w4 → j + 1 ≤ 10 → sx_RP xs (d + 5) 41 52 [(0, .ref A), (1, .int ul), (2, .int (nI (j + 1)))] [] w4 (fun r w2 => (∃ v : Int32, r = some (.int v)) ∧ WI w2 ∧ EC w0 w2)) : sx_RP xs (d + 5) 41 52 [(0, .ref A), (1, .int l), (2, .int (nI j))] [] w (fun r w2 => (∃ v : Int32, r = some (.int v)) ∧ WI w2 ∧ EC w0 w2) := by
  refine sx_RP.step (pc2 := 53) (ls2 := [(0, .ref A), (1, .int l), (2, .int (nI j))]) (st2 := [.int (nI j)]) (w3 := w) rfl rfl ?_
  refine sx_RP.step (pc2 := 54) (ls2 := [(0, .ref A), (1, .int l), (2, .int (nI j))]) (st2 := [.ref A, .int (nI j)]) (w3 := w) rfl rfl ?_
  refine sx_RP.gc (k := 3) hI hA rfl rfl (by omega) (show _ = 57 from rfl) ?_
  obtain ⟨x1, hx2, ex3⟩ : inR (fi w A 3) 10 := (hI.c hA).1
  rw [ex3]
  refine sx_RP.br (p1 := 115) (l1 := [(0, .ref A), (1, .int l), (2, .int (nI j))]) (s1 := []) (v1 := w) (p2 := 60) (l2 := [(0, .ref A), (1, .int l), (2, .int (nI j))]) (s2 := []) (v2 := w) rfl rfl (fun q4 => ?_) (fun q4 => ?_)
  · replace q4 := of_decide_eq_true q4
    replace q4 := (nI_leI (a := x1) (b := j) (by omega) (by omega)).mp q4
    refine sx_RP.step (pc2 := 116) (ls2 := [(0, .ref A), (1, .int l), (2, .int (nI j))]) (st2 := [.ref A]) (w3 := w) rfl rfl ?_
    refine sx_RP.step (pc2 := 117) (ls2 := [(0, .ref A), (1, .int l), (2, .int (nI j))]) (st2 := [.ref A, .ref A]) (w3 := w) rfl rfl ?_
    refine sx_RP.gc (k := 6) hI hA rfl rfl (by omega) (show _ = 120 from rfl) ?_
    refine sx_RP.step (pc2 := 121) (ls2 := [(0, .ref A), (1, .int l), (2, .int (nI j))]) (st2 := [.int 1, .int (fi w A 6), .ref A]) (w3 := w) rfl rfl ?_
    refine sx_RP.step (pc2 := 122) (ls2 := [(0, .ref A), (1, .int l), (2, .int (nI j))]) (st2 := [.int ((fi w A 6) + 1), .ref A]) (w3 := w) rfl rfl ?_
    refine sx_RP.putc (k := 6) hI hE hA rfl rfl (by omega) rfl trivial (show _ = 125 from rfl) (fun w5 hI6 hE7 => ?_)
    refine sx_RP.step (pc2 := 126) (ls2 := [(0, .ref A), (1, .int l), (2, .int (nI j))]) (st2 := [.int l]) (w3 := w5) rfl rfl ?_
    refine sx_RP.step (pc2 := 127) (ls2 := [(0, .ref A), (1, .int l), (2, .int (nI j))]) (st2 := [.ref A, .int l]) (w3 := w5) rfl rfl ?_
    refine sx_RP.step (pc2 := 128) (ls2 := [(0, .ref A), (1, .int l), (2, .int (nI j))]) (st2 := [.int 0, .ref A, .int l]) (w3 := w5) rfl rfl ?_
    obtain ⟨v8, c9⟩ := p42 hI6 hA 0
    refine sx_RP.cu (as := [.ref A, .int 0]) (rest2 := [.int l]) (st3 := [.int v8, .int l]) rfl rfl (sx_inv_v2 (mi := 41) (k := 106) (st := [.int 0, .ref A, .int l]) (w := w5) rfl rfl (hI6.1.oC hA) rfl rfl rfl) rfl rfl (c9) rfl ?_
    refine sx_RP.step (pc2 := 132) (ls2 := [(0, .ref A), (1, .int l), (2, .int (nI j))]) (st2 := [.int (l - v8)]) (w3 := w5) rfl rfl ?_
    refine sx_RP.step (pc2 := 133) (ls2 := [(0, .ref A), (1, .int l), (2, .int (nI j))]) (st2 := [.ref A, .int (l - v8)]) (w3 := w5) rfl rfl ?_
    refine sx_RP.step (pc2 := 134) (ls2 := [(0, .ref A), (1, .int l), (2, .int (nI j))]) (st2 := [.int 1, .ref A, .int (l - v8)]) (w3 := w5) rfl rfl ?_
    obtain ⟨v10, c11⟩ := p42 hI6 hA 1
    refine sx_RP.cu (as := [.ref A, .int 1]) (rest2 := [.int (l - v8)]) (st3 := [.int v10, .int (l - v8)]) rfl rfl (sx_inv_v2 (mi := 41) (k := 106) (st := [.int 1, .ref A, .int (l - v8)]) (w := w5) rfl rfl (hI6.1.oC hA) rfl rfl rfl) rfl rfl (c11) rfl ?_
    refine sx_RP.step (pc2 := 138) (ls2 := [(0, .ref A), (1, .int l), (2, .int (nI j))]) (st2 := [.int ((l - v8) - v10)]) (w3 := w5) rfl rfl ?_
    refine sx_RP.ret (r := (some (.int ((l - v8) - v10)))) rfl rfl ?_
    exact ⟨⟨_, rfl⟩, hI6, hE7⟩
  · replace q4 := of_decide_eq_false q4
    replace q4 := mt (nI_leI (a := x1) (b := j) (by omega) (by omega)).mpr q4
    refine sx_RP.step (pc2 := 61) (ls2 := [(0, .ref A), (1, .int l), (2, .int (nI j))]) (st2 := [.ref A]) (w3 := w) rfl rfl ?_
    refine sx_RP.gref (k := 2) (b := A + 2) hI hA rfl rfl (by omega) (show _ = 64 from rfl) ?_
    refine sx_RP.step (pc2 := 65) (ls2 := [(0, .ref A), (1, .int l), (2, .int (nI j))]) (st2 := [.int (nI j), .ref (A + 2)]) (w3 := w) rfl rfl ?_
    refine sx_RP.ald (v := .ref (A + 4 + j)) rfl (hI.1.aG hA) rfl (grA_at (show j < 10 by omega)) (show _ = 66 from rfl) ?_
    refine sx_RP.step (pc2 := 67) (ls2 := [(0, .ref A), (1, .int l), (2, .int (nI j))]) (st2 := [.int 0, .ref (A + 4 + j)]) (w3 := w) rfl rfl ?_
    obtain ⟨x12, hx13, c14⟩ := p43 hI (gAd.of hA (show j < 10 by omega)) 0
    refine sx_RP.cu (as := [.ref (A + 4 + j), .int 0]) (rest2 := []) (st3 := [.int (nI x12)]) rfl rfl (sx_inv_v2 (mi := 41) (k := 82) (st := [.int 0, .ref (A + 4 + j)]) (w := w) rfl rfl (hI.1.oG (gAd.of hA (show j < 10 by omega))) rfl rfl rfl) rfl rfl (c14) rfl ?_
    refine sx_RP.br (p1 := 109) (l1 := [(0, .ref A), (1, .int l), (2, .int (nI j))]) (s1 := []) (v1 := w) (p2 := 73) (l2 := [(0, .ref A), (1, .int l), (2, .int (nI j))]) (s2 := []) (v2 := w) rfl rfl (fun q15 => ?_) (fun q15 => ?_)
    · replace q15 := of_decide_eq_true q15
      replace q15 := (nI_eq (a := x12) (b := 0) (by omega) (by omega)).mp q15
      refine sx_RP.step (pc2 := 112) (ls2 := [(2, .int ((nI j) + 1)), (0, .ref A), (1, .int l)]) (st2 := []) (w3 := w) rfl rfl ?_
      rw [nI_1 j]
      refine sx_RP.step (pc2 := 52) (ls2 := [(2, .int (nI (j + 1))), (0, .ref A), (1, .int l)]) (st2 := []) (w3 := w) rfl rfl ?_
      exact sx_RP.ls (sx_lr.cons rfl (sx_lr.cons rfl (sx_lr.cons rfl sx_lr.nil))) (kk w l hI hE (by omega))
    · replace q15 := of_decide_eq_false q15
      replace q15 := mt (nI_eq (a := x12) (b := 0) (by omega) (by omega)).mpr q15
      refine sx_RP.step (pc2 := 74) (ls2 := [(0, .ref A), (1, .int l), (2, .int (nI j))]) (st2 := [.ref A]) (w3 := w) rfl rfl ?_
      refine sx_RP.step (pc2 := 75) (ls2 := [(0, .ref A), (1, .int l), (2, .int (nI j))]) (st2 := [.ref A, .ref A]) (w3 := w) rfl rfl ?_
      refine sx_RP.gref (k := 2) (b := A + 2) hI hA rfl rfl (by omega) (show _ = 78 from rfl) ?_
      refine sx_RP.step (pc2 := 79) (ls2 := [(0, .ref A), (1, .int l), (2, .int (nI j))]) (st2 := [.int (nI j), .ref (A + 2), .ref A]) (w3 := w) rfl rfl ?_
      refine sx_RP.ald (v := .ref (A + 4 + j)) rfl (hI.1.aG hA) rfl (grA_at (show j < 10 by omega)) (show _ = 80 from rfl) ?_
      refine sx_RP.gg (k := 2) hI (gAd.of hA (show j < 10 by omega)) rfl rfl (by decide) (show _ = 83 from rfl) ?_
      obtain ⟨x16, hx17, ex18⟩ : inR (fi w (A + 4 + j) 2) 47 := hI.gk (k := 2) (gAd.of hA (show j < 10 by omega)) (by decide)
      rw [ex18]
      obtain ⟨x19, hx20, c21⟩ := p45 hI hA (nI x16)
      refine sx_RP.cu (as := [.ref A, .int (nI x16)]) (rest2 := []) (st3 := [.int (nI x19)]) rfl rfl (sx_inv_v2 (mi := 41) (k := 113) (st := [.int (nI x16), .ref A]) (w := w) rfl rfl (hI.1.oC hA) rfl rfl rfl) rfl rfl (c21) rfl ?_
      refine sx_RP.br (p1 := 109) (l1 := [(0, .ref A), (1, .int l), (2, .int (nI j))]) (s1 := []) (v1 := w) (p2 := 89) (l2 := [(0, .ref A), (1, .int l), (2, .int (nI j))]) (s2 := []) (v2 := w) rfl rfl (fun q22 => ?_) (fun q22 => ?_)
      · replace q22 := of_decide_eq_true q22
        replace q22 := (nI_eq (a := x19) (b := 0) (by omega) (by omega)).mp q22
        refine sx_RP.step (pc2 := 112) (ls2 := [(2, .int ((nI j) + 1)), (0, .ref A), (1, .int l)]) (st2 := []) (w3 := w) rfl rfl ?_
        rw [nI_1 j]
        refine sx_RP.step (pc2 := 52) (ls2 := [(2, .int (nI (j + 1))), (0, .ref A), (1, .int l)]) (st2 := []) (w3 := w) rfl rfl ?_
        exact sx_RP.ls (sx_lr.cons rfl (sx_lr.cons rfl (sx_lr.cons rfl sx_lr.nil))) (kk w l hI hE (by omega))
      · replace q22 := of_decide_eq_false q22
        replace q22 := mt (nI_eq (a := x19) (b := 0) (by omega) (by omega)).mpr q22
        refine sx_RP.step (pc2 := 90) (ls2 := [(0, .ref A), (1, .int l), (2, .int (nI j))]) (st2 := [.ref A]) (w3 := w) rfl rfl ?_
        refine sx_RP.gref (k := 2) (b := A + 2) hI hA rfl rfl (by omega) (show _ = 93 from rfl) ?_
        refine sx_RP.step (pc2 := 94) (ls2 := [(0, .ref A), (1, .int l), (2, .int (nI j))]) (st2 := [.int (nI j), .ref (A + 2)]) (w3 := w) rfl rfl ?_
        refine sx_RP.ald (v := .ref (A + 4 + j)) rfl (hI.1.aG hA) rfl (grA_at (show j < 10 by omega)) (show _ = 95 from rfl) ?_
        refine sx_RP.step (pc2 := 96) (ls2 := [(0, .ref A), (1, .int l), (2, .int (nI j))]) (st2 := [.int 1, .ref (A + 4 + j)]) (w3 := w) rfl rfl ?_
        refine sx_RP.pg (k := 5) hI hE (gAd.of hA (show j < 10 by omega)) rfl rfl (by decide) rfl (show inR 1 1 from ⟨1, by decide, rfl⟩) (show _ = 99 from rfl) (fun w23 hI24 hE25 hk26 => ?_)
        have ex27 := (hk26 A 3 hA).trans ex3
        refine sx_RP.step (pc2 := 100) (ls2 := [(0, .ref A), (1, .int l), (2, .int (nI j))]) (st2 := [.ref A]) (w3 := w23) rfl rfl ?_
        refine sx_RP.step (pc2 := 101) (ls2 := [(0, .ref A), (1, .int l), (2, .int (nI j))]) (st2 := [.ref A, .ref A]) (w3 := w23) rfl rfl ?_
        refine sx_RP.gc (k := 7) hI24 hA rfl rfl (by omega) (show _ = 104 from rfl) ?_
        refine sx_RP.step (pc2 := 105) (ls2 := [(0, .ref A), (1, .int l), (2, .int (nI j))]) (st2 := [.int 1, .int (fi w23 A 7), .ref A]) (w3 := w23) rfl rfl ?_
        refine sx_RP.step (pc2 := 106) (ls2 := [(0, .ref A), (1, .int l), (2, .int (nI j))]) (st2 := [.int ((fi w23 A 7) + 1), .ref A]) (w3 := w23) rfl rfl ?_
        refine sx_RP.putc (k := 7) hI24 hE25 hA rfl rfl (by omega) rfl trivial (show _ = 109 from rfl) (fun w28 hI29 hE30 => ?_)
        refine sx_RP.step (pc2 := 112) (ls2 := [(2, .int ((nI j) + 1)), (0, .ref A), (1, .int l)]) (st2 := []) (w3 := w28) rfl rfl ?_
        rw [nI_1 j]
        refine sx_RP.step (pc2 := 52) (ls2 := [(2, .int (nI (j + 1))), (0, .ref A), (1, .int l)]) (st2 := []) (w3 := w28) rfl rfl ?_
        exact sx_RP.ls (sx_lr.cons rfl (sx_lr.cons rfl (sx_lr.cons rfl sx_lr.nil))) (kk w28 l hI29 hE30 (by omega))
set_option maxRecDepth 20000 in
set_option maxHeartbeats 4000000 in
theorem s41bL {xs : Option (List Int32)} {d : Nat} {w0 : List sx_C} {A : Nat} (hA : isA A) : ∀ (fz j : Nat) (w : List sx_C) (l : Int32) , 10 ≤ j + fz * 1 → j ≤ 10 → WI w → EC w0 w → sx_RP xs (d + 5) 41 52 [(0, .ref A), (1, .int l), (2, .int (nI j))] [] w (fun r w2 => (∃ v : Int32, r = some (.int v)) ∧ WI w2 ∧ EC w0 w2)
  | 0, j, w, l, h, hj, hI, hE => s41bB hA hI hE hj l  (fun w4 ul hI4 hE4 hlt  => absurd hlt (by omega)) 
  | fz + 1, j, w, l, h, hj, hI, hE => s41bB hA hI hE hj l  (fun w4 ul hI4 hE4 hlt  => s41bL hA  fz (j + 1) w4 ul (by omega) hlt hI4 hE4 ) 
set_option maxRecDepth 20000 in
set_option maxHeartbeats 4000000 in
theorem s41aB {xs : Option (List Int32)} {d : Nat} {w w0 : List sx_C} {A : Nat} (hA : isA A) (hI : WI w) (hE : EC w0 w) {j : Nat} (hj : j ≤ 10) (l : Int32) (kk : ∀ (w4 : List sx_C) (ul : Int32), WI w4 → EC w0 w4 → j + 1 ≤ 10 → sx_RP xs (d + 5) 41 14 [(0, .ref A), (1, .int ul), (2, .int (nI (j + 1)))] [] w4 (fun r w2 => (∃ v : Int32, r = some (.int v)) ∧ WI w2 ∧ EC w0 w2)) (kx50 : ∀ (w4 : List sx_C) (ul : Int32), WI w4 → EC w0 w4 → sx_RP xs (d + 5) 41 50 [(0, .ref A), (1, .int ul)] [] w4 (fun r w2 => (∃ v : Int32, r = some (.int v)) ∧ WI w2 ∧ EC w0 w2)) : sx_RP xs (d + 5) 41 14 [(0, .ref A), (1, .int l), (2, .int (nI j))] [] w (fun r w2 => (∃ v : Int32, r = some (.int v)) ∧ WI w2 ∧ EC w0 w2) := by
  refine sx_RP.step (pc2 := 15) (ls2 := [(0, .ref A), (1, .int l), (2, .int (nI j))]) (st2 := [.int (nI j)]) (w3 := w) rfl rfl ?_
  refine sx_RP.step (pc2 := 16) (ls2 := [(0, .ref A), (1, .int l), (2, .int (nI j))]) (st2 := [.ref A, .int (nI j)]) (w3 := w) rfl rfl ?_
  refine sx_RP.gc (k := 3) hI hA rfl rfl (by omega) (show _ = 19 from rfl) ?_
  obtain ⟨x1, hx2, ex3⟩ : inR (fi w A 3) 10 := (hI.c hA).1
  rw [ex3]
  refine sx_RP.br (p1 := 50) (l1 := [(0, .ref A), (1, .int l), (2, .int (nI j))]) (s1 := []) (v1 := w) (p2 := 22) (l2 := [(0, .ref A), (1, .int l), (2, .int (nI j))]) (s2 := []) (v2 := w) rfl rfl (fun q4 => ?_) (fun q4 => ?_)
  · replace q4 := of_decide_eq_true q4
    replace q4 := (nI_leI (a := x1) (b := j) (by omega) (by omega)).mp q4
    exact sx_RP.ls (sx_lr.cons rfl (sx_lr.cons rfl sx_lr.nil)) (kx50 w l hI hE)
  · replace q4 := of_decide_eq_false q4
    replace q4 := mt (nI_leI (a := x1) (b := j) (by omega) (by omega)).mpr q4
    refine sx_RP.step (pc2 := 23) (ls2 := [(0, .ref A), (1, .int l), (2, .int (nI j))]) (st2 := [.ref A]) (w3 := w) rfl rfl ?_
    refine sx_RP.gref (k := 2) (b := A + 2) hI hA rfl rfl (by omega) (show _ = 26 from rfl) ?_
    refine sx_RP.step (pc2 := 27) (ls2 := [(0, .ref A), (1, .int l), (2, .int (nI j))]) (st2 := [.int (nI j), .ref (A + 2)]) (w3 := w) rfl rfl ?_
    refine sx_RP.ald (v := .ref (A + 4 + j)) rfl (hI.1.aG hA) rfl (grA_at (show j < 10 by omega)) (show _ = 28 from rfl) ?_
    refine sx_RP.gg (k := 5) hI (gAd.of hA (show j < 10 by omega)) rfl rfl (by decide) (show _ = 31 from rfl) ?_
    obtain ⟨x5, hx6, ex7⟩ : inR (fi w (A + 4 + j) 5) 1 := hI.gk (k := 5) (gAd.of hA (show j < 10 by omega)) (by decide)
    rw [ex7]
    refine sx_RP.br (p1 := 44) (l1 := [(0, .ref A), (1, .int l), (2, .int (nI j))]) (s1 := []) (v1 := w) (p2 := 34) (l2 := [(0, .ref A), (1, .int l), (2, .int (nI j))]) (s2 := []) (v2 := w) rfl rfl (fun q8 => ?_) (fun q8 => ?_)
    · replace q8 := of_decide_eq_true q8
      replace q8 := mt (nI_eq (a := x5) (b := 0) (by omega) (by omega)).mpr q8
      refine sx_RP.step (pc2 := 47) (ls2 := [(2, .int ((nI j) + 1)), (0, .ref A), (1, .int l)]) (st2 := []) (w3 := w) rfl rfl ?_
      rw [nI_1 j]
      refine sx_RP.step (pc2 := 14) (ls2 := [(2, .int (nI (j + 1))), (0, .ref A), (1, .int l)]) (st2 := []) (w3 := w) rfl rfl ?_
      exact sx_RP.ls (sx_lr.cons rfl (sx_lr.cons rfl (sx_lr.cons rfl sx_lr.nil))) (kk w l hI hE (by omega))
    · replace q8 := Decidable.not_not.mp (of_decide_eq_false q8)
      replace q8 := (nI_eq (a := x5) (b := 0) (by omega) (by omega)).mp q8
      refine sx_RP.step (pc2 := 35) (ls2 := [(0, .ref A), (1, .int l), (2, .int (nI j))]) (st2 := [.ref A]) (w3 := w) rfl rfl ?_
      refine sx_RP.step (pc2 := 36) (ls2 := [(0, .ref A), (1, .int l), (2, .int (nI j))]) (st2 := [.ref A, .ref A]) (w3 := w) rfl rfl ?_
      refine sx_RP.gref (k := 2) (b := A + 2) hI hA rfl rfl (by omega) (show _ = 39 from rfl) ?_
      refine sx_RP.step (pc2 := 40) (ls2 := [(0, .ref A), (1, .int l), (2, .int (nI j))]) (st2 := [.int (nI j), .ref (A + 2), .ref A]) (w3 := w) rfl rfl ?_
      refine sx_RP.ald (v := .ref (A + 4 + j)) rfl (hI.1.aG hA) rfl (grA_at (show j < 10 by omega)) (show _ = 41 from rfl) ?_
      refine sx_RP.callp (as2 := [.ref A, .ref (A + 4 + j)]) (rest2 := []) rfl rfl (sx_inv_v2 (mi := 41) (k := 110) (st := [.ref (A + 4 + j), .ref A]) (w := w) rfl rfl (hI.1.oC hA) rfl rfl rfl) rfl rfl rfl (s44 hI hA (gAd.of hA (show j < 10 by omega))) (show _ = 44 from rfl) ?_
      rintro r4 w9 ⟨rfl, hI10, hE12⟩
      have hE11 := hE.tr hE12
      show sx_RP _ _ _ _ _ [] _ _
      refine sx_RP.step (pc2 := 47) (ls2 := [(2, .int ((nI j) + 1)), (0, .ref A), (1, .int l)]) (st2 := []) (w3 := w9) rfl rfl ?_
      rw [nI_1 j]
      refine sx_RP.step (pc2 := 14) (ls2 := [(2, .int (nI (j + 1))), (0, .ref A), (1, .int l)]) (st2 := []) (w3 := w9) rfl rfl ?_
      exact sx_RP.ls (sx_lr.cons rfl (sx_lr.cons rfl (sx_lr.cons rfl sx_lr.nil))) (kk w9 l hI10 hE11 (by omega))
set_option maxRecDepth 20000 in
set_option maxHeartbeats 4000000 in
theorem s41aL {xs : Option (List Int32)} {d : Nat} {w0 : List sx_C} {A : Nat} (hA : isA A) (kx50 : ∀ (w4 : List sx_C) (ul : Int32), WI w4 → EC w0 w4 → sx_RP xs (d + 5) 41 50 [(0, .ref A), (1, .int ul)] [] w4 (fun r w2 => (∃ v : Int32, r = some (.int v)) ∧ WI w2 ∧ EC w0 w2)) : ∀ (fz j : Nat) (w : List sx_C) (l : Int32) , 10 ≤ j + fz * 1 → j ≤ 10 → WI w → EC w0 w → sx_RP xs (d + 5) 41 14 [(0, .ref A), (1, .int l), (2, .int (nI j))] [] w (fun r w2 => (∃ v : Int32, r = some (.int v)) ∧ WI w2 ∧ EC w0 w2)
  | 0, j, w, l, h, hj, hI, hE => s41aB hA hI hE hj l  (fun w4 ul hI4 hE4 hlt  => absurd hlt (by omega)) kx50
  | fz + 1, j, w, l, h, hj, hI, hE => s41aB hA hI hE hj l  (fun w4 ul hI4 hE4 hlt  => s41aL hA kx50 fz (j + 1) w4 ul (by omega) hlt hI4 hE4 ) kx50
set_option maxRecDepth 20000 in
set_option maxHeartbeats 4000000 in
theorem s41 {xs : Option (List Int32)} {d : Nat} {w : List sx_C} (hI : WI w) {A : Nat} (hA : isA A) : sx_RP xs (d + 5) 41 0 (lv_args 0 [.ref A]) [] w (fun r w2 => (∃ v : Int32, r = some (.int v)) ∧ WI w2 ∧ EC w w2) := by
  have hE : EC w w := EC.rf
  refine sx_RP.step (pc2 := 1) (ls2 := [(0, .ref A)]) (st2 := [.ref A]) (w3 := w) rfl rfl ?_
  refine sx_RP.step (pc2 := 2) (ls2 := [(0, .ref A)]) (st2 := [.int 0, .ref A]) (w3 := w) rfl rfl ?_
  obtain ⟨v1, c2⟩ := p42 hI hA 0
  refine sx_RP.cu (as := [.ref A, .int 0]) (rest2 := []) (st3 := [.int v1]) rfl rfl (sx_inv_v2 (mi := 41) (k := 106) (st := [.int 0, .ref A]) (w := w) rfl rfl (hI.1.oC hA) rfl rfl rfl) rfl rfl (c2) rfl ?_
  refine sx_RP.step (pc2 := 6) (ls2 := [(0, .ref A)]) (st2 := [.ref A, .int v1]) (w3 := w) rfl rfl ?_
  refine sx_RP.step (pc2 := 7) (ls2 := [(0, .ref A)]) (st2 := [.int 1, .ref A, .int v1]) (w3 := w) rfl rfl ?_
  obtain ⟨v3, c4⟩ := p42 hI hA 1
  refine sx_RP.cu (as := [.ref A, .int 1]) (rest2 := [.int v1]) (st3 := [.int v3, .int v1]) rfl rfl (sx_inv_v2 (mi := 41) (k := 106) (st := [.int 1, .ref A, .int v1]) (w := w) rfl rfl (hI.1.oC hA) rfl rfl rfl) rfl rfl (c4) rfl ?_
  refine sx_RP.step (pc2 := 11) (ls2 := [(0, .ref A)]) (st2 := [.int (v1 + v3)]) (w3 := w) rfl rfl ?_
  refine sx_RP.step (pc2 := 12) (ls2 := [(1, .int (v1 + v3)), (0, .ref A)]) (st2 := []) (w3 := w) rfl rfl ?_
  refine sx_RP.step (pc2 := 13) (ls2 := [(1, .int (v1 + v3)), (0, .ref A)]) (st2 := [.int 0]) (w3 := w) rfl rfl ?_
  refine sx_RP.step (pc2 := 14) (ls2 := [(2, .int 0), (1, .int (v1 + v3)), (0, .ref A)]) (st2 := []) (w3 := w) rfl rfl ?_
  refine sx_RP.ls (sx_lr.cons rfl (sx_lr.cons rfl (sx_lr.cons rfl sx_lr.nil))) (s41aL hA (fun w5 u8 hI6 hE7 => ?_) 10 0 w (v1 + v3) (by omega) (by omega) hI hE )
  refine sx_RP.step (pc2 := 51) (ls2 := [(0, .ref A), (1, .int u8)]) (st2 := [.int 0]) (w3 := w5) rfl rfl ?_
  refine sx_RP.step (pc2 := 52) (ls2 := [(2, .int 0), (0, .ref A), (1, .int u8)]) (st2 := []) (w3 := w5) rfl rfl ?_
  exact sx_RP.ls (sx_lr.cons rfl (sx_lr.cons rfl (sx_lr.cons rfl sx_lr.nil))) (s41bL hA 10 0 w5 u8 (by omega) (by omega) hI6 hE7 )
