-- ration: the bread of a fresh object lasts no day
theorem e_206 : ∀ x, x < 100 → sx_is (sx_run false none 80 6 206 0 (lv_args 0 [.ref 111, .int (nI (x + 1))]) [] sx_vN) (some (.int 0)) sx_vN = true := by decide +kernel
theorem e_84 : ∀ x, x < 100 → sx_is (sx_run false none 80 6 84 0 (lv_args 0 [.ref 1, .int (nI (x + 1))]) [] sx_w0) (some (.int 0)) sx_w0 = true := by decide +kernel
theorem cl_206 (ys : List Int32) (x : Nat) (h : x < 100) : sx_RU (some ys) 6 206 0 (lv_args 0 [.ref 111, .int (nI (x + 1))]) [] sx_vN (some (.int 0)) sx_vN := sx_RU.eval (sx_is_of (e_206 x h))
theorem cl_84 (ys : List Int32) (x : Nat) (h : x < 100) : sx_RU (some ys) 6 84 0 (lv_args 0 [.ref 1, .int (nI (x + 1))]) [] sx_w0 (some (.int 0)) sx_w0 := sx_RU.eval (sx_is_of (e_84 x h))
set_option maxRecDepth 20000 in
set_option maxHeartbeats 2000000 in
theorem k_ration_in (ys : List Int32) (a1 : Int32) (p0 : 1 ≤ a1 ∧ a1 ≤ 999) (hp : 0 < a1) (hq : ¬ a1 ≤ 0) : sx_twoI ys 86 207 [.int a1] := by
  refine sx_twoI.of ?_
  refine sx_RP.step (pc2 := 1) (ls2 := [(0, .ref 0), (1, .int a1)]) (st2 := [.int a1]) (w3 := sx_w0) rfl rfl ?_
  refine sx_RP.step (pc2 := 2) (ls2 := [(0, .ref 0), (1, .int a1)]) (st2 := [.int 1, .int a1]) (w3 := sx_w0) rfl rfl ?_
  refine sx_RP.step (pc2 := 5) (ls2 := [(0, .ref 0), (1, .int a1)]) (st2 := [.int 999, .int 1, .int a1]) (w3 := sx_w0) rfl rfl ?_
  refine sx_RP.cu (as := [.int a1, .int 1, .int 999]) (rest2 := []) (st3 := [.int 1]) rfl rfl rfl rfl rfl (cx_8p p0) rfl ?_
  refine sx_RP.step (pc2 := 18) (ls2 := [(0, .ref 0), (1, .int a1)]) (st2 := []) (w3 := sx_w0) rfl rfl ?_
  refine sx_RP.step (pc2 := 19) (ls2 := [(0, .ref 0), (1, .int a1)]) (st2 := [.int 0]) (w3 := sx_w0) rfl rfl ?_
  refine sx_RP.step (pc2 := 20) (ls2 := [(2, .int 0), (0, .ref 0), (1, .int a1)]) (st2 := []) (w3 := sx_w0) rfl rfl ?_
  refine sx_RP.step (pc2 := 22) (ls2 := [(2, .int 0), (0, .ref 0), (1, .int a1)]) (st2 := [.int 64]) (w3 := sx_w0) rfl rfl ?_
  refine sx_RP.step (pc2 := 23) (ls2 := [(3, .int 64), (2, .int 0), (0, .ref 0), (1, .int a1)]) (st2 := []) (w3 := sx_w0) rfl rfl ?_
  refine sx_RP.step (pc2 := 24) (ls2 := [(3, .int 64), (2, .int 0), (0, .ref 0), (1, .int a1)]) (st2 := [.int 64]) (w3 := sx_w0) rfl rfl ?_
  refine sx_RP.step (pc2 := 27) (ls2 := [(3, .int 64), (2, .int 0), (0, .ref 0), (1, .int a1)]) (st2 := []) (w3 := sx_w0) rfl rfl ?_
  refine sx_RP.step (pc2 := 28) (ls2 := [(3, .int 64), (2, .int 0), (0, .ref 0), (1, .int a1)]) (st2 := [.int 0]) (w3 := sx_w0) rfl rfl ?_
  refine sx_RP.step (pc2 := 29) (ls2 := [(3, .int 64), (2, .int 0), (0, .ref 0), (1, .int a1)]) (st2 := [.int 64, .int 0]) (w3 := sx_w0) rfl rfl ?_
  refine sx_RP.step (pc2 := 30) (ls2 := [(3, .int 64), (2, .int 0), (0, .ref 0), (1, .int a1)]) (st2 := [.int 64]) (w3 := sx_w0) rfl rfl ?_
  refine sx_RP.step (pc2 := 32) (ls2 := [(4, .int 64), (3, .int 64), (2, .int 0), (0, .ref 0), (1, .int a1)]) (st2 := []) (w3 := sx_w0) rfl rfl ?_
  refine sx_RP.step (pc2 := 34) (ls2 := [(4, .int 64), (3, .int 64), (2, .int 0), (0, .ref 0), (1, .int a1)]) (st2 := [.int 64]) (w3 := sx_w0) rfl rfl ?_
  refine sx_RP.step (pc2 := 36) (ls2 := [(4, .int 64), (3, .int 64), (2, .int 0), (0, .ref 0), (1, .int a1)]) (st2 := [.int 99, .int 64]) (w3 := sx_w0) rfl rfl ?_
  refine sx_RP.step (pc2 := 39) (ls2 := [(4, .int 64), (3, .int 64), (2, .int 0), (0, .ref 0), (1, .int a1)]) (st2 := []) (w3 := sx_w0) rfl rfl ?_
  refine sx_RP.step (pc2 := 40) (ls2 := [(4, .int 64), (3, .int 64), (2, .int 0), (0, .ref 0), (1, .int a1)]) (st2 := [.ref 0]) (w3 := sx_w0) rfl rfl ?_
  refine sx_RP.step (pc2 := 43) (ls2 := [(4, .int 64), (3, .int 64), (2, .int 0), (0, .ref 0), (1, .int a1)]) (st2 := [.ref 1]) (w3 := sx_w0) rfl rfl ?_
  refine sx_RP.step (pc2 := 45) (ls2 := [(4, .int 64), (3, .int 64), (2, .int 0), (0, .ref 0), (1, .int a1)]) (st2 := [.int 64, .ref 1]) (w3 := sx_w0) rfl rfl ?_
  refine sx_RP.cu (as := [.ref 1, .int 64]) (rest2 := []) (st3 := [.int 0]) rfl rfl rfl rfl rfl (cl_84 _ 63 (by decide)) rfl ?_
  refine sx_RP.step (pc2 := 49) (ls2 := [(4, .int 64), (3, .int 64), (2, .int 0), (0, .ref 0), (1, .int a1)]) (st2 := [.int a1, .int 0]) (w3 := sx_w0) rfl rfl ?_
  refine sx_RP.br (p1 := 55) (l1 := [(4, .int 64), (3, .int 64), (2, .int 0), (0, .ref 0), (1, .int a1)]) (s1 := []) (v1 := sx_w0) rfl rfl (fun _ => ?_) (fun q => absurd hp (of_decide_eq_false q))
  refine sx_RP.step (pc2 := 56) (ls2 := [(4, .int 64), (3, .int 64), (2, .int 0), (0, .ref 0), (1, .int a1)]) (st2 := [.int 64]) (w3 := sx_w0) rfl rfl ?_
  refine sx_RP.step (pc2 := 57) (ls2 := [(4, .int 64), (3, .int 64), (2, .int 0), (0, .ref 0), (1, .int a1)]) (st2 := [.int 2, .int 64]) (w3 := sx_w0) rfl rfl ?_
  refine sx_RP.step (pc2 := 58) (ls2 := [(4, .int 64), (3, .int 64), (2, .int 0), (0, .ref 0), (1, .int a1)]) (st2 := [.int 32]) (w3 := sx_w0) rfl rfl ?_
  refine sx_RP.step (pc2 := 59) (ls2 := [(3, .int 32), (4, .int 64), (2, .int 0), (0, .ref 0), (1, .int a1)]) (st2 := []) (w3 := sx_w0) rfl rfl ?_
  refine sx_RP.step (pc2 := 23) (ls2 := [(3, .int 32), (4, .int 64), (2, .int 0), (0, .ref 0), (1, .int a1)]) (st2 := []) (w3 := sx_w0) rfl rfl ?_
  refine sx_RP.step (pc2 := 24) (ls2 := [(3, .int 32), (4, .int 64), (2, .int 0), (0, .ref 0), (1, .int a1)]) (st2 := [.int 32]) (w3 := sx_w0) rfl rfl ?_
  refine sx_RP.step (pc2 := 27) (ls2 := [(3, .int 32), (4, .int 64), (2, .int 0), (0, .ref 0), (1, .int a1)]) (st2 := []) (w3 := sx_w0) rfl rfl ?_
  refine sx_RP.step (pc2 := 28) (ls2 := [(3, .int 32), (4, .int 64), (2, .int 0), (0, .ref 0), (1, .int a1)]) (st2 := [.int 0]) (w3 := sx_w0) rfl rfl ?_
  refine sx_RP.step (pc2 := 29) (ls2 := [(3, .int 32), (4, .int 64), (2, .int 0), (0, .ref 0), (1, .int a1)]) (st2 := [.int 32, .int 0]) (w3 := sx_w0) rfl rfl ?_
  refine sx_RP.step (pc2 := 30) (ls2 := [(3, .int 32), (4, .int 64), (2, .int 0), (0, .ref 0), (1, .int a1)]) (st2 := [.int 32]) (w3 := sx_w0) rfl rfl ?_
  refine sx_RP.step (pc2 := 32) (ls2 := [(4, .int 32), (3, .int 32), (2, .int 0), (0, .ref 0), (1, .int a1)]) (st2 := []) (w3 := sx_w0) rfl rfl ?_
  refine sx_RP.step (pc2 := 34) (ls2 := [(4, .int 32), (3, .int 32), (2, .int 0), (0, .ref 0), (1, .int a1)]) (st2 := [.int 32]) (w3 := sx_w0) rfl rfl ?_
  refine sx_RP.step (pc2 := 36) (ls2 := [(4, .int 32), (3, .int 32), (2, .int 0), (0, .ref 0), (1, .int a1)]) (st2 := [.int 99, .int 32]) (w3 := sx_w0) rfl rfl ?_
  refine sx_RP.step (pc2 := 39) (ls2 := [(4, .int 32), (3, .int 32), (2, .int 0), (0, .ref 0), (1, .int a1)]) (st2 := []) (w3 := sx_w0) rfl rfl ?_
  refine sx_RP.step (pc2 := 40) (ls2 := [(4, .int 32), (3, .int 32), (2, .int 0), (0, .ref 0), (1, .int a1)]) (st2 := [.ref 0]) (w3 := sx_w0) rfl rfl ?_
  refine sx_RP.step (pc2 := 43) (ls2 := [(4, .int 32), (3, .int 32), (2, .int 0), (0, .ref 0), (1, .int a1)]) (st2 := [.ref 1]) (w3 := sx_w0) rfl rfl ?_
  refine sx_RP.step (pc2 := 45) (ls2 := [(4, .int 32), (3, .int 32), (2, .int 0), (0, .ref 0), (1, .int a1)]) (st2 := [.int 32, .ref 1]) (w3 := sx_w0) rfl rfl ?_
  refine sx_RP.cu (as := [.ref 1, .int 32]) (rest2 := []) (st3 := [.int 0]) rfl rfl rfl rfl rfl (cl_84 _ 31 (by decide)) rfl ?_
  refine sx_RP.step (pc2 := 49) (ls2 := [(4, .int 32), (3, .int 32), (2, .int 0), (0, .ref 0), (1, .int a1)]) (st2 := [.int a1, .int 0]) (w3 := sx_w0) rfl rfl ?_
  refine sx_RP.br (p1 := 55) (l1 := [(4, .int 32), (3, .int 32), (2, .int 0), (0, .ref 0), (1, .int a1)]) (s1 := []) (v1 := sx_w0) rfl rfl (fun _ => ?_) (fun q => absurd hp (of_decide_eq_false q))
  refine sx_RP.step (pc2 := 56) (ls2 := [(4, .int 32), (3, .int 32), (2, .int 0), (0, .ref 0), (1, .int a1)]) (st2 := [.int 32]) (w3 := sx_w0) rfl rfl ?_
  refine sx_RP.step (pc2 := 57) (ls2 := [(4, .int 32), (3, .int 32), (2, .int 0), (0, .ref 0), (1, .int a1)]) (st2 := [.int 2, .int 32]) (w3 := sx_w0) rfl rfl ?_
  refine sx_RP.step (pc2 := 58) (ls2 := [(4, .int 32), (3, .int 32), (2, .int 0), (0, .ref 0), (1, .int a1)]) (st2 := [.int 16]) (w3 := sx_w0) rfl rfl ?_
  refine sx_RP.step (pc2 := 59) (ls2 := [(3, .int 16), (4, .int 32), (2, .int 0), (0, .ref 0), (1, .int a1)]) (st2 := []) (w3 := sx_w0) rfl rfl ?_
  refine sx_RP.step (pc2 := 23) (ls2 := [(3, .int 16), (4, .int 32), (2, .int 0), (0, .ref 0), (1, .int a1)]) (st2 := []) (w3 := sx_w0) rfl rfl ?_
  refine sx_RP.step (pc2 := 24) (ls2 := [(3, .int 16), (4, .int 32), (2, .int 0), (0, .ref 0), (1, .int a1)]) (st2 := [.int 16]) (w3 := sx_w0) rfl rfl ?_
  refine sx_RP.step (pc2 := 27) (ls2 := [(3, .int 16), (4, .int 32), (2, .int 0), (0, .ref 0), (1, .int a1)]) (st2 := []) (w3 := sx_w0) rfl rfl ?_
  refine sx_RP.step (pc2 := 28) (ls2 := [(3, .int 16), (4, .int 32), (2, .int 0), (0, .ref 0), (1, .int a1)]) (st2 := [.int 0]) (w3 := sx_w0) rfl rfl ?_
  refine sx_RP.step (pc2 := 29) (ls2 := [(3, .int 16), (4, .int 32), (2, .int 0), (0, .ref 0), (1, .int a1)]) (st2 := [.int 16, .int 0]) (w3 := sx_w0) rfl rfl ?_
  refine sx_RP.step (pc2 := 30) (ls2 := [(3, .int 16), (4, .int 32), (2, .int 0), (0, .ref 0), (1, .int a1)]) (st2 := [.int 16]) (w3 := sx_w0) rfl rfl ?_
  refine sx_RP.step (pc2 := 32) (ls2 := [(4, .int 16), (3, .int 16), (2, .int 0), (0, .ref 0), (1, .int a1)]) (st2 := []) (w3 := sx_w0) rfl rfl ?_
  refine sx_RP.step (pc2 := 34) (ls2 := [(4, .int 16), (3, .int 16), (2, .int 0), (0, .ref 0), (1, .int a1)]) (st2 := [.int 16]) (w3 := sx_w0) rfl rfl ?_
  refine sx_RP.step (pc2 := 36) (ls2 := [(4, .int 16), (3, .int 16), (2, .int 0), (0, .ref 0), (1, .int a1)]) (st2 := [.int 99, .int 16]) (w3 := sx_w0) rfl rfl ?_
  refine sx_RP.step (pc2 := 39) (ls2 := [(4, .int 16), (3, .int 16), (2, .int 0), (0, .ref 0), (1, .int a1)]) (st2 := []) (w3 := sx_w0) rfl rfl ?_
  refine sx_RP.step (pc2 := 40) (ls2 := [(4, .int 16), (3, .int 16), (2, .int 0), (0, .ref 0), (1, .int a1)]) (st2 := [.ref 0]) (w3 := sx_w0) rfl rfl ?_
  refine sx_RP.step (pc2 := 43) (ls2 := [(4, .int 16), (3, .int 16), (2, .int 0), (0, .ref 0), (1, .int a1)]) (st2 := [.ref 1]) (w3 := sx_w0) rfl rfl ?_
  refine sx_RP.step (pc2 := 45) (ls2 := [(4, .int 16), (3, .int 16), (2, .int 0), (0, .ref 0), (1, .int a1)]) (st2 := [.int 16, .ref 1]) (w3 := sx_w0) rfl rfl ?_
  refine sx_RP.cu (as := [.ref 1, .int 16]) (rest2 := []) (st3 := [.int 0]) rfl rfl rfl rfl rfl (cl_84 _ 15 (by decide)) rfl ?_
  refine sx_RP.step (pc2 := 49) (ls2 := [(4, .int 16), (3, .int 16), (2, .int 0), (0, .ref 0), (1, .int a1)]) (st2 := [.int a1, .int 0]) (w3 := sx_w0) rfl rfl ?_
  refine sx_RP.br (p1 := 55) (l1 := [(4, .int 16), (3, .int 16), (2, .int 0), (0, .ref 0), (1, .int a1)]) (s1 := []) (v1 := sx_w0) rfl rfl (fun _ => ?_) (fun q => absurd hp (of_decide_eq_false q))
  refine sx_RP.step (pc2 := 56) (ls2 := [(4, .int 16), (3, .int 16), (2, .int 0), (0, .ref 0), (1, .int a1)]) (st2 := [.int 16]) (w3 := sx_w0) rfl rfl ?_
  refine sx_RP.step (pc2 := 57) (ls2 := [(4, .int 16), (3, .int 16), (2, .int 0), (0, .ref 0), (1, .int a1)]) (st2 := [.int 2, .int 16]) (w3 := sx_w0) rfl rfl ?_
  refine sx_RP.step (pc2 := 58) (ls2 := [(4, .int 16), (3, .int 16), (2, .int 0), (0, .ref 0), (1, .int a1)]) (st2 := [.int 8]) (w3 := sx_w0) rfl rfl ?_
  refine sx_RP.step (pc2 := 59) (ls2 := [(3, .int 8), (4, .int 16), (2, .int 0), (0, .ref 0), (1, .int a1)]) (st2 := []) (w3 := sx_w0) rfl rfl ?_
  refine sx_RP.step (pc2 := 23) (ls2 := [(3, .int 8), (4, .int 16), (2, .int 0), (0, .ref 0), (1, .int a1)]) (st2 := []) (w3 := sx_w0) rfl rfl ?_
  refine sx_RP.step (pc2 := 24) (ls2 := [(3, .int 8), (4, .int 16), (2, .int 0), (0, .ref 0), (1, .int a1)]) (st2 := [.int 8]) (w3 := sx_w0) rfl rfl ?_
  refine sx_RP.step (pc2 := 27) (ls2 := [(3, .int 8), (4, .int 16), (2, .int 0), (0, .ref 0), (1, .int a1)]) (st2 := []) (w3 := sx_w0) rfl rfl ?_
  refine sx_RP.step (pc2 := 28) (ls2 := [(3, .int 8), (4, .int 16), (2, .int 0), (0, .ref 0), (1, .int a1)]) (st2 := [.int 0]) (w3 := sx_w0) rfl rfl ?_
  refine sx_RP.step (pc2 := 29) (ls2 := [(3, .int 8), (4, .int 16), (2, .int 0), (0, .ref 0), (1, .int a1)]) (st2 := [.int 8, .int 0]) (w3 := sx_w0) rfl rfl ?_
  refine sx_RP.step (pc2 := 30) (ls2 := [(3, .int 8), (4, .int 16), (2, .int 0), (0, .ref 0), (1, .int a1)]) (st2 := [.int 8]) (w3 := sx_w0) rfl rfl ?_
  refine sx_RP.step (pc2 := 32) (ls2 := [(4, .int 8), (3, .int 8), (2, .int 0), (0, .ref 0), (1, .int a1)]) (st2 := []) (w3 := sx_w0) rfl rfl ?_
  refine sx_RP.step (pc2 := 34) (ls2 := [(4, .int 8), (3, .int 8), (2, .int 0), (0, .ref 0), (1, .int a1)]) (st2 := [.int 8]) (w3 := sx_w0) rfl rfl ?_
  refine sx_RP.step (pc2 := 36) (ls2 := [(4, .int 8), (3, .int 8), (2, .int 0), (0, .ref 0), (1, .int a1)]) (st2 := [.int 99, .int 8]) (w3 := sx_w0) rfl rfl ?_
  refine sx_RP.step (pc2 := 39) (ls2 := [(4, .int 8), (3, .int 8), (2, .int 0), (0, .ref 0), (1, .int a1)]) (st2 := []) (w3 := sx_w0) rfl rfl ?_
  refine sx_RP.step (pc2 := 40) (ls2 := [(4, .int 8), (3, .int 8), (2, .int 0), (0, .ref 0), (1, .int a1)]) (st2 := [.ref 0]) (w3 := sx_w0) rfl rfl ?_
  refine sx_RP.step (pc2 := 43) (ls2 := [(4, .int 8), (3, .int 8), (2, .int 0), (0, .ref 0), (1, .int a1)]) (st2 := [.ref 1]) (w3 := sx_w0) rfl rfl ?_
  refine sx_RP.step (pc2 := 45) (ls2 := [(4, .int 8), (3, .int 8), (2, .int 0), (0, .ref 0), (1, .int a1)]) (st2 := [.int 8, .ref 1]) (w3 := sx_w0) rfl rfl ?_
  refine sx_RP.cu (as := [.ref 1, .int 8]) (rest2 := []) (st3 := [.int 0]) rfl rfl rfl rfl rfl (cl_84 _ 7 (by decide)) rfl ?_
  refine sx_RP.step (pc2 := 49) (ls2 := [(4, .int 8), (3, .int 8), (2, .int 0), (0, .ref 0), (1, .int a1)]) (st2 := [.int a1, .int 0]) (w3 := sx_w0) rfl rfl ?_
  refine sx_RP.br (p1 := 55) (l1 := [(4, .int 8), (3, .int 8), (2, .int 0), (0, .ref 0), (1, .int a1)]) (s1 := []) (v1 := sx_w0) rfl rfl (fun _ => ?_) (fun q => absurd hp (of_decide_eq_false q))
  refine sx_RP.step (pc2 := 56) (ls2 := [(4, .int 8), (3, .int 8), (2, .int 0), (0, .ref 0), (1, .int a1)]) (st2 := [.int 8]) (w3 := sx_w0) rfl rfl ?_
  refine sx_RP.step (pc2 := 57) (ls2 := [(4, .int 8), (3, .int 8), (2, .int 0), (0, .ref 0), (1, .int a1)]) (st2 := [.int 2, .int 8]) (w3 := sx_w0) rfl rfl ?_
  refine sx_RP.step (pc2 := 58) (ls2 := [(4, .int 8), (3, .int 8), (2, .int 0), (0, .ref 0), (1, .int a1)]) (st2 := [.int 4]) (w3 := sx_w0) rfl rfl ?_
  refine sx_RP.step (pc2 := 59) (ls2 := [(3, .int 4), (4, .int 8), (2, .int 0), (0, .ref 0), (1, .int a1)]) (st2 := []) (w3 := sx_w0) rfl rfl ?_
  refine sx_RP.step (pc2 := 23) (ls2 := [(3, .int 4), (4, .int 8), (2, .int 0), (0, .ref 0), (1, .int a1)]) (st2 := []) (w3 := sx_w0) rfl rfl ?_
  refine sx_RP.step (pc2 := 24) (ls2 := [(3, .int 4), (4, .int 8), (2, .int 0), (0, .ref 0), (1, .int a1)]) (st2 := [.int 4]) (w3 := sx_w0) rfl rfl ?_
  refine sx_RP.step (pc2 := 27) (ls2 := [(3, .int 4), (4, .int 8), (2, .int 0), (0, .ref 0), (1, .int a1)]) (st2 := []) (w3 := sx_w0) rfl rfl ?_
  refine sx_RP.step (pc2 := 28) (ls2 := [(3, .int 4), (4, .int 8), (2, .int 0), (0, .ref 0), (1, .int a1)]) (st2 := [.int 0]) (w3 := sx_w0) rfl rfl ?_
  refine sx_RP.step (pc2 := 29) (ls2 := [(3, .int 4), (4, .int 8), (2, .int 0), (0, .ref 0), (1, .int a1)]) (st2 := [.int 4, .int 0]) (w3 := sx_w0) rfl rfl ?_
  refine sx_RP.step (pc2 := 30) (ls2 := [(3, .int 4), (4, .int 8), (2, .int 0), (0, .ref 0), (1, .int a1)]) (st2 := [.int 4]) (w3 := sx_w0) rfl rfl ?_
  refine sx_RP.step (pc2 := 32) (ls2 := [(4, .int 4), (3, .int 4), (2, .int 0), (0, .ref 0), (1, .int a1)]) (st2 := []) (w3 := sx_w0) rfl rfl ?_
  refine sx_RP.step (pc2 := 34) (ls2 := [(4, .int 4), (3, .int 4), (2, .int 0), (0, .ref 0), (1, .int a1)]) (st2 := [.int 4]) (w3 := sx_w0) rfl rfl ?_
  refine sx_RP.step (pc2 := 36) (ls2 := [(4, .int 4), (3, .int 4), (2, .int 0), (0, .ref 0), (1, .int a1)]) (st2 := [.int 99, .int 4]) (w3 := sx_w0) rfl rfl ?_
  refine sx_RP.step (pc2 := 39) (ls2 := [(4, .int 4), (3, .int 4), (2, .int 0), (0, .ref 0), (1, .int a1)]) (st2 := []) (w3 := sx_w0) rfl rfl ?_
  refine sx_RP.step (pc2 := 40) (ls2 := [(4, .int 4), (3, .int 4), (2, .int 0), (0, .ref 0), (1, .int a1)]) (st2 := [.ref 0]) (w3 := sx_w0) rfl rfl ?_
  refine sx_RP.step (pc2 := 43) (ls2 := [(4, .int 4), (3, .int 4), (2, .int 0), (0, .ref 0), (1, .int a1)]) (st2 := [.ref 1]) (w3 := sx_w0) rfl rfl ?_
  refine sx_RP.step (pc2 := 45) (ls2 := [(4, .int 4), (3, .int 4), (2, .int 0), (0, .ref 0), (1, .int a1)]) (st2 := [.int 4, .ref 1]) (w3 := sx_w0) rfl rfl ?_
  refine sx_RP.cu (as := [.ref 1, .int 4]) (rest2 := []) (st3 := [.int 0]) rfl rfl rfl rfl rfl (cl_84 _ 3 (by decide)) rfl ?_
  refine sx_RP.step (pc2 := 49) (ls2 := [(4, .int 4), (3, .int 4), (2, .int 0), (0, .ref 0), (1, .int a1)]) (st2 := [.int a1, .int 0]) (w3 := sx_w0) rfl rfl ?_
  refine sx_RP.br (p1 := 55) (l1 := [(4, .int 4), (3, .int 4), (2, .int 0), (0, .ref 0), (1, .int a1)]) (s1 := []) (v1 := sx_w0) rfl rfl (fun _ => ?_) (fun q => absurd hp (of_decide_eq_false q))
  refine sx_RP.step (pc2 := 56) (ls2 := [(4, .int 4), (3, .int 4), (2, .int 0), (0, .ref 0), (1, .int a1)]) (st2 := [.int 4]) (w3 := sx_w0) rfl rfl ?_
  refine sx_RP.step (pc2 := 57) (ls2 := [(4, .int 4), (3, .int 4), (2, .int 0), (0, .ref 0), (1, .int a1)]) (st2 := [.int 2, .int 4]) (w3 := sx_w0) rfl rfl ?_
  refine sx_RP.step (pc2 := 58) (ls2 := [(4, .int 4), (3, .int 4), (2, .int 0), (0, .ref 0), (1, .int a1)]) (st2 := [.int 2]) (w3 := sx_w0) rfl rfl ?_
  refine sx_RP.step (pc2 := 59) (ls2 := [(3, .int 2), (4, .int 4), (2, .int 0), (0, .ref 0), (1, .int a1)]) (st2 := []) (w3 := sx_w0) rfl rfl ?_
  refine sx_RP.step (pc2 := 23) (ls2 := [(3, .int 2), (4, .int 4), (2, .int 0), (0, .ref 0), (1, .int a1)]) (st2 := []) (w3 := sx_w0) rfl rfl ?_
  refine sx_RP.step (pc2 := 24) (ls2 := [(3, .int 2), (4, .int 4), (2, .int 0), (0, .ref 0), (1, .int a1)]) (st2 := [.int 2]) (w3 := sx_w0) rfl rfl ?_
  refine sx_RP.step (pc2 := 27) (ls2 := [(3, .int 2), (4, .int 4), (2, .int 0), (0, .ref 0), (1, .int a1)]) (st2 := []) (w3 := sx_w0) rfl rfl ?_
  refine sx_RP.step (pc2 := 28) (ls2 := [(3, .int 2), (4, .int 4), (2, .int 0), (0, .ref 0), (1, .int a1)]) (st2 := [.int 0]) (w3 := sx_w0) rfl rfl ?_
  refine sx_RP.step (pc2 := 29) (ls2 := [(3, .int 2), (4, .int 4), (2, .int 0), (0, .ref 0), (1, .int a1)]) (st2 := [.int 2, .int 0]) (w3 := sx_w0) rfl rfl ?_
  refine sx_RP.step (pc2 := 30) (ls2 := [(3, .int 2), (4, .int 4), (2, .int 0), (0, .ref 0), (1, .int a1)]) (st2 := [.int 2]) (w3 := sx_w0) rfl rfl ?_
  refine sx_RP.step (pc2 := 32) (ls2 := [(4, .int 2), (3, .int 2), (2, .int 0), (0, .ref 0), (1, .int a1)]) (st2 := []) (w3 := sx_w0) rfl rfl ?_
  refine sx_RP.step (pc2 := 34) (ls2 := [(4, .int 2), (3, .int 2), (2, .int 0), (0, .ref 0), (1, .int a1)]) (st2 := [.int 2]) (w3 := sx_w0) rfl rfl ?_
  refine sx_RP.step (pc2 := 36) (ls2 := [(4, .int 2), (3, .int 2), (2, .int 0), (0, .ref 0), (1, .int a1)]) (st2 := [.int 99, .int 2]) (w3 := sx_w0) rfl rfl ?_
  refine sx_RP.step (pc2 := 39) (ls2 := [(4, .int 2), (3, .int 2), (2, .int 0), (0, .ref 0), (1, .int a1)]) (st2 := []) (w3 := sx_w0) rfl rfl ?_
  refine sx_RP.step (pc2 := 40) (ls2 := [(4, .int 2), (3, .int 2), (2, .int 0), (0, .ref 0), (1, .int a1)]) (st2 := [.ref 0]) (w3 := sx_w0) rfl rfl ?_
  refine sx_RP.step (pc2 := 43) (ls2 := [(4, .int 2), (3, .int 2), (2, .int 0), (0, .ref 0), (1, .int a1)]) (st2 := [.ref 1]) (w3 := sx_w0) rfl rfl ?_
  refine sx_RP.step (pc2 := 45) (ls2 := [(4, .int 2), (3, .int 2), (2, .int 0), (0, .ref 0), (1, .int a1)]) (st2 := [.int 2, .ref 1]) (w3 := sx_w0) rfl rfl ?_
  refine sx_RP.cu (as := [.ref 1, .int 2]) (rest2 := []) (st3 := [.int 0]) rfl rfl rfl rfl rfl (cl_84 _ 1 (by decide)) rfl ?_
  refine sx_RP.step (pc2 := 49) (ls2 := [(4, .int 2), (3, .int 2), (2, .int 0), (0, .ref 0), (1, .int a1)]) (st2 := [.int a1, .int 0]) (w3 := sx_w0) rfl rfl ?_
  refine sx_RP.br (p1 := 55) (l1 := [(4, .int 2), (3, .int 2), (2, .int 0), (0, .ref 0), (1, .int a1)]) (s1 := []) (v1 := sx_w0) rfl rfl (fun _ => ?_) (fun q => absurd hp (of_decide_eq_false q))
  refine sx_RP.step (pc2 := 56) (ls2 := [(4, .int 2), (3, .int 2), (2, .int 0), (0, .ref 0), (1, .int a1)]) (st2 := [.int 2]) (w3 := sx_w0) rfl rfl ?_
  refine sx_RP.step (pc2 := 57) (ls2 := [(4, .int 2), (3, .int 2), (2, .int 0), (0, .ref 0), (1, .int a1)]) (st2 := [.int 2, .int 2]) (w3 := sx_w0) rfl rfl ?_
  refine sx_RP.step (pc2 := 58) (ls2 := [(4, .int 2), (3, .int 2), (2, .int 0), (0, .ref 0), (1, .int a1)]) (st2 := [.int 1]) (w3 := sx_w0) rfl rfl ?_
  refine sx_RP.step (pc2 := 59) (ls2 := [(3, .int 1), (4, .int 2), (2, .int 0), (0, .ref 0), (1, .int a1)]) (st2 := []) (w3 := sx_w0) rfl rfl ?_
  refine sx_RP.step (pc2 := 23) (ls2 := [(3, .int 1), (4, .int 2), (2, .int 0), (0, .ref 0), (1, .int a1)]) (st2 := []) (w3 := sx_w0) rfl rfl ?_
  refine sx_RP.step (pc2 := 24) (ls2 := [(3, .int 1), (4, .int 2), (2, .int 0), (0, .ref 0), (1, .int a1)]) (st2 := [.int 1]) (w3 := sx_w0) rfl rfl ?_
  refine sx_RP.step (pc2 := 27) (ls2 := [(3, .int 1), (4, .int 2), (2, .int 0), (0, .ref 0), (1, .int a1)]) (st2 := []) (w3 := sx_w0) rfl rfl ?_
  refine sx_RP.step (pc2 := 28) (ls2 := [(3, .int 1), (4, .int 2), (2, .int 0), (0, .ref 0), (1, .int a1)]) (st2 := [.int 0]) (w3 := sx_w0) rfl rfl ?_
  refine sx_RP.step (pc2 := 29) (ls2 := [(3, .int 1), (4, .int 2), (2, .int 0), (0, .ref 0), (1, .int a1)]) (st2 := [.int 1, .int 0]) (w3 := sx_w0) rfl rfl ?_
  refine sx_RP.step (pc2 := 30) (ls2 := [(3, .int 1), (4, .int 2), (2, .int 0), (0, .ref 0), (1, .int a1)]) (st2 := [.int 1]) (w3 := sx_w0) rfl rfl ?_
  refine sx_RP.step (pc2 := 32) (ls2 := [(4, .int 1), (3, .int 1), (2, .int 0), (0, .ref 0), (1, .int a1)]) (st2 := []) (w3 := sx_w0) rfl rfl ?_
  refine sx_RP.step (pc2 := 34) (ls2 := [(4, .int 1), (3, .int 1), (2, .int 0), (0, .ref 0), (1, .int a1)]) (st2 := [.int 1]) (w3 := sx_w0) rfl rfl ?_
  refine sx_RP.step (pc2 := 36) (ls2 := [(4, .int 1), (3, .int 1), (2, .int 0), (0, .ref 0), (1, .int a1)]) (st2 := [.int 99, .int 1]) (w3 := sx_w0) rfl rfl ?_
  refine sx_RP.step (pc2 := 39) (ls2 := [(4, .int 1), (3, .int 1), (2, .int 0), (0, .ref 0), (1, .int a1)]) (st2 := []) (w3 := sx_w0) rfl rfl ?_
  refine sx_RP.step (pc2 := 40) (ls2 := [(4, .int 1), (3, .int 1), (2, .int 0), (0, .ref 0), (1, .int a1)]) (st2 := [.ref 0]) (w3 := sx_w0) rfl rfl ?_
  refine sx_RP.step (pc2 := 43) (ls2 := [(4, .int 1), (3, .int 1), (2, .int 0), (0, .ref 0), (1, .int a1)]) (st2 := [.ref 1]) (w3 := sx_w0) rfl rfl ?_
  refine sx_RP.step (pc2 := 45) (ls2 := [(4, .int 1), (3, .int 1), (2, .int 0), (0, .ref 0), (1, .int a1)]) (st2 := [.int 1, .ref 1]) (w3 := sx_w0) rfl rfl ?_
  refine sx_RP.cu (as := [.ref 1, .int 1]) (rest2 := []) (st3 := [.int 0]) rfl rfl rfl rfl rfl (cl_84 _ 0 (by decide)) rfl ?_
  refine sx_RP.step (pc2 := 49) (ls2 := [(4, .int 1), (3, .int 1), (2, .int 0), (0, .ref 0), (1, .int a1)]) (st2 := [.int a1, .int 0]) (w3 := sx_w0) rfl rfl ?_
  refine sx_RP.br (p1 := 55) (l1 := [(4, .int 1), (3, .int 1), (2, .int 0), (0, .ref 0), (1, .int a1)]) (s1 := []) (v1 := sx_w0) rfl rfl (fun _ => ?_) (fun q => absurd hp (of_decide_eq_false q))
  refine sx_RP.step (pc2 := 56) (ls2 := [(4, .int 1), (3, .int 1), (2, .int 0), (0, .ref 0), (1, .int a1)]) (st2 := [.int 1]) (w3 := sx_w0) rfl rfl ?_
  refine sx_RP.step (pc2 := 57) (ls2 := [(4, .int 1), (3, .int 1), (2, .int 0), (0, .ref 0), (1, .int a1)]) (st2 := [.int 2, .int 1]) (w3 := sx_w0) rfl rfl ?_
  refine sx_RP.step (pc2 := 58) (ls2 := [(4, .int 1), (3, .int 1), (2, .int 0), (0, .ref 0), (1, .int a1)]) (st2 := [.int 0]) (w3 := sx_w0) rfl rfl ?_
  refine sx_RP.step (pc2 := 59) (ls2 := [(3, .int 0), (4, .int 1), (2, .int 0), (0, .ref 0), (1, .int a1)]) (st2 := []) (w3 := sx_w0) rfl rfl ?_
  refine sx_RP.step (pc2 := 23) (ls2 := [(3, .int 0), (4, .int 1), (2, .int 0), (0, .ref 0), (1, .int a1)]) (st2 := []) (w3 := sx_w0) rfl rfl ?_
  refine sx_RP.step (pc2 := 24) (ls2 := [(3, .int 0), (4, .int 1), (2, .int 0), (0, .ref 0), (1, .int a1)]) (st2 := [.int 0]) (w3 := sx_w0) rfl rfl ?_
  refine sx_RP.step (pc2 := 62) (ls2 := [(3, .int 0), (4, .int 1), (2, .int 0), (0, .ref 0), (1, .int a1)]) (st2 := []) (w3 := sx_w0) rfl rfl ?_
  refine sx_RP.step (pc2 := 63) (ls2 := [(3, .int 0), (4, .int 1), (2, .int 0), (0, .ref 0), (1, .int a1)]) (st2 := [.int 0]) (w3 := sx_w0) rfl rfl ?_
  refine sx_RP.step (pc2 := 66) (ls2 := [(3, .int 0), (4, .int 1), (2, .int 0), (0, .ref 0), (1, .int a1)]) (st2 := []) (w3 := sx_w0) rfl rfl ?_
  refine sx_RP.step (pc2 := 67) (ls2 := [(3, .int 0), (4, .int 1), (2, .int 0), (0, .ref 0), (1, .int a1)]) (st2 := [.ref 0]) (w3 := sx_w0) rfl rfl ?_
  refine sx_RP.step (pc2 := 69) (ls2 := [(3, .int 0), (4, .int 1), (2, .int 0), (0, .ref 0), (1, .int a1)]) (st2 := [.int (-1000000004), .ref 0]) (w3 := sx_w0) rfl rfl ?_
  refine sx_RP.cu (as := [.ref 0, .int (-1000000004)]) (rest2 := []) (st3 := [.int (-1000000004)]) rfl rfl rfl rfl rfl (cf_N _) rfl ?_
  refine sx_RP.step (pc2 := 76) (ls2 := [(3, .int 0), (4, .int 1), (2, .int 0), (0, .ref 0), (1, .int a1)]) (st2 := [.int (-1000000004)]) (w3 := sx_vN) rfl rfl ?_
  refine sx_RP.ret rfl rfl ?_
  refine ⟨(-1000000004), rfl, ⟨_, rfl⟩, ?_⟩
  refine sx_RP.step (pc2 := 1) (ls2 := [(0, .ref 111), (1, .int a1)]) (st2 := [.int a1]) (w3 := sx_vN) rfl rfl ?_
  refine sx_RP.step (pc2 := 2) (ls2 := [(0, .ref 111), (1, .int a1)]) (st2 := [.int 1, .int a1]) (w3 := sx_vN) rfl rfl ?_
  refine sx_RP.step (pc2 := 5) (ls2 := [(0, .ref 111), (1, .int a1)]) (st2 := [.int 999, .int 1, .int a1]) (w3 := sx_vN) rfl rfl ?_
  refine sx_RP.cu (as := [.int a1, .int 1, .int 999]) (rest2 := []) (st3 := [.int 1]) rfl rfl rfl rfl rfl (cx_132p p0) rfl ?_
  refine sx_RP.step (pc2 := 17) (ls2 := [(0, .ref 111), (1, .int a1)]) (st2 := []) (w3 := sx_vN) rfl rfl ?_
  refine sx_RP.step (pc2 := 19) (ls2 := [(0, .ref 111), (1, .int a1)]) (st2 := [.int 99]) (w3 := sx_vN) rfl rfl ?_
  refine sx_RP.step (pc2 := 20) (ls2 := [(2, .int 99), (0, .ref 111), (1, .int a1)]) (st2 := []) (w3 := sx_vN) rfl rfl ?_
  refine sx_RP.step (pc2 := 21) (ls2 := [(2, .int 99), (0, .ref 111), (1, .int a1)]) (st2 := [.int 99]) (w3 := sx_vN) rfl rfl ?_
  refine sx_RP.step (pc2 := 24) (ls2 := [(2, .int 99), (0, .ref 111), (1, .int a1)]) (st2 := []) (w3 := sx_vN) rfl rfl ?_
  refine sx_RP.step (pc2 := 25) (ls2 := [(2, .int 99), (0, .ref 111), (1, .int a1)]) (st2 := [.ref 111]) (w3 := sx_vN) rfl rfl ?_
  refine sx_RP.step (pc2 := 26) (ls2 := [(2, .int 99), (0, .ref 111), (1, .int a1)]) (st2 := [.int 99, .ref 111]) (w3 := sx_vN) rfl rfl ?_
  refine sx_RP.cu (as := [.ref 111, .int 99]) (rest2 := []) (st3 := [.int 0]) rfl rfl rfl rfl rfl (cl_206 _ 98 (by decide)) rfl ?_
  refine sx_RP.step (pc2 := 30) (ls2 := [(2, .int 99), (0, .ref 111), (1, .int a1)]) (st2 := [.int a1, .int 0]) (w3 := sx_vN) rfl rfl ?_
  refine sx_RP.br (p2 := 33) (l2 := [(2, .int 99), (0, .ref 111), (1, .int a1)]) (s2 := []) (v2 := sx_vN) rfl rfl (fun q => absurd (of_decide_eq_true q) hq) (fun _ => ?_)
  refine sx_RP.step (pc2 := 36) (ls2 := [(2, .int 98), (0, .ref 111), (1, .int a1)]) (st2 := []) (w3 := sx_vN) rfl rfl ?_
  refine sx_RP.step (pc2 := 20) (ls2 := [(2, .int 98), (0, .ref 111), (1, .int a1)]) (st2 := []) (w3 := sx_vN) rfl rfl ?_
  refine sx_RP.step (pc2 := 21) (ls2 := [(2, .int 98), (0, .ref 111), (1, .int a1)]) (st2 := [.int 98]) (w3 := sx_vN) rfl rfl ?_
  refine sx_RP.step (pc2 := 24) (ls2 := [(2, .int 98), (0, .ref 111), (1, .int a1)]) (st2 := []) (w3 := sx_vN) rfl rfl ?_
  refine sx_RP.step (pc2 := 25) (ls2 := [(2, .int 98), (0, .ref 111), (1, .int a1)]) (st2 := [.ref 111]) (w3 := sx_vN) rfl rfl ?_
  refine sx_RP.step (pc2 := 26) (ls2 := [(2, .int 98), (0, .ref 111), (1, .int a1)]) (st2 := [.int 98, .ref 111]) (w3 := sx_vN) rfl rfl ?_
  refine sx_RP.cu (as := [.ref 111, .int 98]) (rest2 := []) (st3 := [.int 0]) rfl rfl rfl rfl rfl (cl_206 _ 97 (by decide)) rfl ?_
  refine sx_RP.step (pc2 := 30) (ls2 := [(2, .int 98), (0, .ref 111), (1, .int a1)]) (st2 := [.int a1, .int 0]) (w3 := sx_vN) rfl rfl ?_
  refine sx_RP.br (p2 := 33) (l2 := [(2, .int 98), (0, .ref 111), (1, .int a1)]) (s2 := []) (v2 := sx_vN) rfl rfl (fun q => absurd (of_decide_eq_true q) hq) (fun _ => ?_)
  refine sx_RP.step (pc2 := 36) (ls2 := [(2, .int 97), (0, .ref 111), (1, .int a1)]) (st2 := []) (w3 := sx_vN) rfl rfl ?_
  refine sx_RP.step (pc2 := 20) (ls2 := [(2, .int 97), (0, .ref 111), (1, .int a1)]) (st2 := []) (w3 := sx_vN) rfl rfl ?_
  refine sx_RP.step (pc2 := 21) (ls2 := [(2, .int 97), (0, .ref 111), (1, .int a1)]) (st2 := [.int 97]) (w3 := sx_vN) rfl rfl ?_
  refine sx_RP.step (pc2 := 24) (ls2 := [(2, .int 97), (0, .ref 111), (1, .int a1)]) (st2 := []) (w3 := sx_vN) rfl rfl ?_
  refine sx_RP.step (pc2 := 25) (ls2 := [(2, .int 97), (0, .ref 111), (1, .int a1)]) (st2 := [.ref 111]) (w3 := sx_vN) rfl rfl ?_
  refine sx_RP.step (pc2 := 26) (ls2 := [(2, .int 97), (0, .ref 111), (1, .int a1)]) (st2 := [.int 97, .ref 111]) (w3 := sx_vN) rfl rfl ?_
  refine sx_RP.cu (as := [.ref 111, .int 97]) (rest2 := []) (st3 := [.int 0]) rfl rfl rfl rfl rfl (cl_206 _ 96 (by decide)) rfl ?_
  refine sx_RP.step (pc2 := 30) (ls2 := [(2, .int 97), (0, .ref 111), (1, .int a1)]) (st2 := [.int a1, .int 0]) (w3 := sx_vN) rfl rfl ?_
  refine sx_RP.br (p2 := 33) (l2 := [(2, .int 97), (0, .ref 111), (1, .int a1)]) (s2 := []) (v2 := sx_vN) rfl rfl (fun q => absurd (of_decide_eq_true q) hq) (fun _ => ?_)
  refine sx_RP.step (pc2 := 36) (ls2 := [(2, .int 96), (0, .ref 111), (1, .int a1)]) (st2 := []) (w3 := sx_vN) rfl rfl ?_
  refine sx_RP.step (pc2 := 20) (ls2 := [(2, .int 96), (0, .ref 111), (1, .int a1)]) (st2 := []) (w3 := sx_vN) rfl rfl ?_
  refine sx_RP.step (pc2 := 21) (ls2 := [(2, .int 96), (0, .ref 111), (1, .int a1)]) (st2 := [.int 96]) (w3 := sx_vN) rfl rfl ?_
  refine sx_RP.step (pc2 := 24) (ls2 := [(2, .int 96), (0, .ref 111), (1, .int a1)]) (st2 := []) (w3 := sx_vN) rfl rfl ?_
  refine sx_RP.step (pc2 := 25) (ls2 := [(2, .int 96), (0, .ref 111), (1, .int a1)]) (st2 := [.ref 111]) (w3 := sx_vN) rfl rfl ?_
  refine sx_RP.step (pc2 := 26) (ls2 := [(2, .int 96), (0, .ref 111), (1, .int a1)]) (st2 := [.int 96, .ref 111]) (w3 := sx_vN) rfl rfl ?_
  refine sx_RP.cu (as := [.ref 111, .int 96]) (rest2 := []) (st3 := [.int 0]) rfl rfl rfl rfl rfl (cl_206 _ 95 (by decide)) rfl ?_
  refine sx_RP.step (pc2 := 30) (ls2 := [(2, .int 96), (0, .ref 111), (1, .int a1)]) (st2 := [.int a1, .int 0]) (w3 := sx_vN) rfl rfl ?_
  refine sx_RP.br (p2 := 33) (l2 := [(2, .int 96), (0, .ref 111), (1, .int a1)]) (s2 := []) (v2 := sx_vN) rfl rfl (fun q => absurd (of_decide_eq_true q) hq) (fun _ => ?_)
  refine sx_RP.step (pc2 := 36) (ls2 := [(2, .int 95), (0, .ref 111), (1, .int a1)]) (st2 := []) (w3 := sx_vN) rfl rfl ?_
  refine sx_RP.step (pc2 := 20) (ls2 := [(2, .int 95), (0, .ref 111), (1, .int a1)]) (st2 := []) (w3 := sx_vN) rfl rfl ?_
  refine sx_RP.step (pc2 := 21) (ls2 := [(2, .int 95), (0, .ref 111), (1, .int a1)]) (st2 := [.int 95]) (w3 := sx_vN) rfl rfl ?_
  refine sx_RP.step (pc2 := 24) (ls2 := [(2, .int 95), (0, .ref 111), (1, .int a1)]) (st2 := []) (w3 := sx_vN) rfl rfl ?_
  refine sx_RP.step (pc2 := 25) (ls2 := [(2, .int 95), (0, .ref 111), (1, .int a1)]) (st2 := [.ref 111]) (w3 := sx_vN) rfl rfl ?_
  refine sx_RP.step (pc2 := 26) (ls2 := [(2, .int 95), (0, .ref 111), (1, .int a1)]) (st2 := [.int 95, .ref 111]) (w3 := sx_vN) rfl rfl ?_
  refine sx_RP.cu (as := [.ref 111, .int 95]) (rest2 := []) (st3 := [.int 0]) rfl rfl rfl rfl rfl (cl_206 _ 94 (by decide)) rfl ?_
  refine sx_RP.step (pc2 := 30) (ls2 := [(2, .int 95), (0, .ref 111), (1, .int a1)]) (st2 := [.int a1, .int 0]) (w3 := sx_vN) rfl rfl ?_
  refine sx_RP.br (p2 := 33) (l2 := [(2, .int 95), (0, .ref 111), (1, .int a1)]) (s2 := []) (v2 := sx_vN) rfl rfl (fun q => absurd (of_decide_eq_true q) hq) (fun _ => ?_)
  refine sx_RP.step (pc2 := 36) (ls2 := [(2, .int 94), (0, .ref 111), (1, .int a1)]) (st2 := []) (w3 := sx_vN) rfl rfl ?_
  refine sx_RP.step (pc2 := 20) (ls2 := [(2, .int 94), (0, .ref 111), (1, .int a1)]) (st2 := []) (w3 := sx_vN) rfl rfl ?_
  refine sx_RP.step (pc2 := 21) (ls2 := [(2, .int 94), (0, .ref 111), (1, .int a1)]) (st2 := [.int 94]) (w3 := sx_vN) rfl rfl ?_
  refine sx_RP.step (pc2 := 24) (ls2 := [(2, .int 94), (0, .ref 111), (1, .int a1)]) (st2 := []) (w3 := sx_vN) rfl rfl ?_
  refine sx_RP.step (pc2 := 25) (ls2 := [(2, .int 94), (0, .ref 111), (1, .int a1)]) (st2 := [.ref 111]) (w3 := sx_vN) rfl rfl ?_
  refine sx_RP.step (pc2 := 26) (ls2 := [(2, .int 94), (0, .ref 111), (1, .int a1)]) (st2 := [.int 94, .ref 111]) (w3 := sx_vN) rfl rfl ?_
  refine sx_RP.cu (as := [.ref 111, .int 94]) (rest2 := []) (st3 := [.int 0]) rfl rfl rfl rfl rfl (cl_206 _ 93 (by decide)) rfl ?_
  refine sx_RP.step (pc2 := 30) (ls2 := [(2, .int 94), (0, .ref 111), (1, .int a1)]) (st2 := [.int a1, .int 0]) (w3 := sx_vN) rfl rfl ?_
  refine sx_RP.br (p2 := 33) (l2 := [(2, .int 94), (0, .ref 111), (1, .int a1)]) (s2 := []) (v2 := sx_vN) rfl rfl (fun q => absurd (of_decide_eq_true q) hq) (fun _ => ?_)
  refine sx_RP.step (pc2 := 36) (ls2 := [(2, .int 93), (0, .ref 111), (1, .int a1)]) (st2 := []) (w3 := sx_vN) rfl rfl ?_
  refine sx_RP.step (pc2 := 20) (ls2 := [(2, .int 93), (0, .ref 111), (1, .int a1)]) (st2 := []) (w3 := sx_vN) rfl rfl ?_
  refine sx_RP.step (pc2 := 21) (ls2 := [(2, .int 93), (0, .ref 111), (1, .int a1)]) (st2 := [.int 93]) (w3 := sx_vN) rfl rfl ?_
  refine sx_RP.step (pc2 := 24) (ls2 := [(2, .int 93), (0, .ref 111), (1, .int a1)]) (st2 := []) (w3 := sx_vN) rfl rfl ?_
  refine sx_RP.step (pc2 := 25) (ls2 := [(2, .int 93), (0, .ref 111), (1, .int a1)]) (st2 := [.ref 111]) (w3 := sx_vN) rfl rfl ?_
  refine sx_RP.step (pc2 := 26) (ls2 := [(2, .int 93), (0, .ref 111), (1, .int a1)]) (st2 := [.int 93, .ref 111]) (w3 := sx_vN) rfl rfl ?_
  refine sx_RP.cu (as := [.ref 111, .int 93]) (rest2 := []) (st3 := [.int 0]) rfl rfl rfl rfl rfl (cl_206 _ 92 (by decide)) rfl ?_
  refine sx_RP.step (pc2 := 30) (ls2 := [(2, .int 93), (0, .ref 111), (1, .int a1)]) (st2 := [.int a1, .int 0]) (w3 := sx_vN) rfl rfl ?_
  refine sx_RP.br (p2 := 33) (l2 := [(2, .int 93), (0, .ref 111), (1, .int a1)]) (s2 := []) (v2 := sx_vN) rfl rfl (fun q => absurd (of_decide_eq_true q) hq) (fun _ => ?_)
  refine sx_RP.step (pc2 := 36) (ls2 := [(2, .int 92), (0, .ref 111), (1, .int a1)]) (st2 := []) (w3 := sx_vN) rfl rfl ?_
  refine sx_RP.step (pc2 := 20) (ls2 := [(2, .int 92), (0, .ref 111), (1, .int a1)]) (st2 := []) (w3 := sx_vN) rfl rfl ?_
  refine sx_RP.step (pc2 := 21) (ls2 := [(2, .int 92), (0, .ref 111), (1, .int a1)]) (st2 := [.int 92]) (w3 := sx_vN) rfl rfl ?_
  refine sx_RP.step (pc2 := 24) (ls2 := [(2, .int 92), (0, .ref 111), (1, .int a1)]) (st2 := []) (w3 := sx_vN) rfl rfl ?_
  refine sx_RP.step (pc2 := 25) (ls2 := [(2, .int 92), (0, .ref 111), (1, .int a1)]) (st2 := [.ref 111]) (w3 := sx_vN) rfl rfl ?_
  refine sx_RP.step (pc2 := 26) (ls2 := [(2, .int 92), (0, .ref 111), (1, .int a1)]) (st2 := [.int 92, .ref 111]) (w3 := sx_vN) rfl rfl ?_
  refine sx_RP.cu (as := [.ref 111, .int 92]) (rest2 := []) (st3 := [.int 0]) rfl rfl rfl rfl rfl (cl_206 _ 91 (by decide)) rfl ?_
  refine sx_RP.step (pc2 := 30) (ls2 := [(2, .int 92), (0, .ref 111), (1, .int a1)]) (st2 := [.int a1, .int 0]) (w3 := sx_vN) rfl rfl ?_
  refine sx_RP.br (p2 := 33) (l2 := [(2, .int 92), (0, .ref 111), (1, .int a1)]) (s2 := []) (v2 := sx_vN) rfl rfl (fun q => absurd (of_decide_eq_true q) hq) (fun _ => ?_)
  refine sx_RP.step (pc2 := 36) (ls2 := [(2, .int 91), (0, .ref 111), (1, .int a1)]) (st2 := []) (w3 := sx_vN) rfl rfl ?_
  refine sx_RP.step (pc2 := 20) (ls2 := [(2, .int 91), (0, .ref 111), (1, .int a1)]) (st2 := []) (w3 := sx_vN) rfl rfl ?_
  refine sx_RP.step (pc2 := 21) (ls2 := [(2, .int 91), (0, .ref 111), (1, .int a1)]) (st2 := [.int 91]) (w3 := sx_vN) rfl rfl ?_
  refine sx_RP.step (pc2 := 24) (ls2 := [(2, .int 91), (0, .ref 111), (1, .int a1)]) (st2 := []) (w3 := sx_vN) rfl rfl ?_
  refine sx_RP.step (pc2 := 25) (ls2 := [(2, .int 91), (0, .ref 111), (1, .int a1)]) (st2 := [.ref 111]) (w3 := sx_vN) rfl rfl ?_
  refine sx_RP.step (pc2 := 26) (ls2 := [(2, .int 91), (0, .ref 111), (1, .int a1)]) (st2 := [.int 91, .ref 111]) (w3 := sx_vN) rfl rfl ?_
  refine sx_RP.cu (as := [.ref 111, .int 91]) (rest2 := []) (st3 := [.int 0]) rfl rfl rfl rfl rfl (cl_206 _ 90 (by decide)) rfl ?_
  refine sx_RP.step (pc2 := 30) (ls2 := [(2, .int 91), (0, .ref 111), (1, .int a1)]) (st2 := [.int a1, .int 0]) (w3 := sx_vN) rfl rfl ?_
  refine sx_RP.br (p2 := 33) (l2 := [(2, .int 91), (0, .ref 111), (1, .int a1)]) (s2 := []) (v2 := sx_vN) rfl rfl (fun q => absurd (of_decide_eq_true q) hq) (fun _ => ?_)
  refine sx_RP.step (pc2 := 36) (ls2 := [(2, .int 90), (0, .ref 111), (1, .int a1)]) (st2 := []) (w3 := sx_vN) rfl rfl ?_
  refine sx_RP.step (pc2 := 20) (ls2 := [(2, .int 90), (0, .ref 111), (1, .int a1)]) (st2 := []) (w3 := sx_vN) rfl rfl ?_
  refine sx_RP.step (pc2 := 21) (ls2 := [(2, .int 90), (0, .ref 111), (1, .int a1)]) (st2 := [.int 90]) (w3 := sx_vN) rfl rfl ?_
  refine sx_RP.step (pc2 := 24) (ls2 := [(2, .int 90), (0, .ref 111), (1, .int a1)]) (st2 := []) (w3 := sx_vN) rfl rfl ?_
  refine sx_RP.step (pc2 := 25) (ls2 := [(2, .int 90), (0, .ref 111), (1, .int a1)]) (st2 := [.ref 111]) (w3 := sx_vN) rfl rfl ?_
  refine sx_RP.step (pc2 := 26) (ls2 := [(2, .int 90), (0, .ref 111), (1, .int a1)]) (st2 := [.int 90, .ref 111]) (w3 := sx_vN) rfl rfl ?_
  refine sx_RP.cu (as := [.ref 111, .int 90]) (rest2 := []) (st3 := [.int 0]) rfl rfl rfl rfl rfl (cl_206 _ 89 (by decide)) rfl ?_
  refine sx_RP.step (pc2 := 30) (ls2 := [(2, .int 90), (0, .ref 111), (1, .int a1)]) (st2 := [.int a1, .int 0]) (w3 := sx_vN) rfl rfl ?_
  refine sx_RP.br (p2 := 33) (l2 := [(2, .int 90), (0, .ref 111), (1, .int a1)]) (s2 := []) (v2 := sx_vN) rfl rfl (fun q => absurd (of_decide_eq_true q) hq) (fun _ => ?_)
  refine sx_RP.step (pc2 := 36) (ls2 := [(2, .int 89), (0, .ref 111), (1, .int a1)]) (st2 := []) (w3 := sx_vN) rfl rfl ?_
  refine sx_RP.step (pc2 := 20) (ls2 := [(2, .int 89), (0, .ref 111), (1, .int a1)]) (st2 := []) (w3 := sx_vN) rfl rfl ?_
  refine sx_RP.step (pc2 := 21) (ls2 := [(2, .int 89), (0, .ref 111), (1, .int a1)]) (st2 := [.int 89]) (w3 := sx_vN) rfl rfl ?_
  refine sx_RP.step (pc2 := 24) (ls2 := [(2, .int 89), (0, .ref 111), (1, .int a1)]) (st2 := []) (w3 := sx_vN) rfl rfl ?_
  refine sx_RP.step (pc2 := 25) (ls2 := [(2, .int 89), (0, .ref 111), (1, .int a1)]) (st2 := [.ref 111]) (w3 := sx_vN) rfl rfl ?_
  refine sx_RP.step (pc2 := 26) (ls2 := [(2, .int 89), (0, .ref 111), (1, .int a1)]) (st2 := [.int 89, .ref 111]) (w3 := sx_vN) rfl rfl ?_
  refine sx_RP.cu (as := [.ref 111, .int 89]) (rest2 := []) (st3 := [.int 0]) rfl rfl rfl rfl rfl (cl_206 _ 88 (by decide)) rfl ?_
  refine sx_RP.step (pc2 := 30) (ls2 := [(2, .int 89), (0, .ref 111), (1, .int a1)]) (st2 := [.int a1, .int 0]) (w3 := sx_vN) rfl rfl ?_
  refine sx_RP.br (p2 := 33) (l2 := [(2, .int 89), (0, .ref 111), (1, .int a1)]) (s2 := []) (v2 := sx_vN) rfl rfl (fun q => absurd (of_decide_eq_true q) hq) (fun _ => ?_)
  refine sx_RP.step (pc2 := 36) (ls2 := [(2, .int 88), (0, .ref 111), (1, .int a1)]) (st2 := []) (w3 := sx_vN) rfl rfl ?_
  refine sx_RP.step (pc2 := 20) (ls2 := [(2, .int 88), (0, .ref 111), (1, .int a1)]) (st2 := []) (w3 := sx_vN) rfl rfl ?_
  refine sx_RP.step (pc2 := 21) (ls2 := [(2, .int 88), (0, .ref 111), (1, .int a1)]) (st2 := [.int 88]) (w3 := sx_vN) rfl rfl ?_
  refine sx_RP.step (pc2 := 24) (ls2 := [(2, .int 88), (0, .ref 111), (1, .int a1)]) (st2 := []) (w3 := sx_vN) rfl rfl ?_
  refine sx_RP.step (pc2 := 25) (ls2 := [(2, .int 88), (0, .ref 111), (1, .int a1)]) (st2 := [.ref 111]) (w3 := sx_vN) rfl rfl ?_
  refine sx_RP.step (pc2 := 26) (ls2 := [(2, .int 88), (0, .ref 111), (1, .int a1)]) (st2 := [.int 88, .ref 111]) (w3 := sx_vN) rfl rfl ?_
  refine sx_RP.cu (as := [.ref 111, .int 88]) (rest2 := []) (st3 := [.int 0]) rfl rfl rfl rfl rfl (cl_206 _ 87 (by decide)) rfl ?_
  refine sx_RP.step (pc2 := 30) (ls2 := [(2, .int 88), (0, .ref 111), (1, .int a1)]) (st2 := [.int a1, .int 0]) (w3 := sx_vN) rfl rfl ?_
  refine sx_RP.br (p2 := 33) (l2 := [(2, .int 88), (0, .ref 111), (1, .int a1)]) (s2 := []) (v2 := sx_vN) rfl rfl (fun q => absurd (of_decide_eq_true q) hq) (fun _ => ?_)
  refine sx_RP.step (pc2 := 36) (ls2 := [(2, .int 87), (0, .ref 111), (1, .int a1)]) (st2 := []) (w3 := sx_vN) rfl rfl ?_
  refine sx_RP.step (pc2 := 20) (ls2 := [(2, .int 87), (0, .ref 111), (1, .int a1)]) (st2 := []) (w3 := sx_vN) rfl rfl ?_
  refine sx_RP.step (pc2 := 21) (ls2 := [(2, .int 87), (0, .ref 111), (1, .int a1)]) (st2 := [.int 87]) (w3 := sx_vN) rfl rfl ?_
  refine sx_RP.step (pc2 := 24) (ls2 := [(2, .int 87), (0, .ref 111), (1, .int a1)]) (st2 := []) (w3 := sx_vN) rfl rfl ?_
  refine sx_RP.step (pc2 := 25) (ls2 := [(2, .int 87), (0, .ref 111), (1, .int a1)]) (st2 := [.ref 111]) (w3 := sx_vN) rfl rfl ?_
  refine sx_RP.step (pc2 := 26) (ls2 := [(2, .int 87), (0, .ref 111), (1, .int a1)]) (st2 := [.int 87, .ref 111]) (w3 := sx_vN) rfl rfl ?_
  refine sx_RP.cu (as := [.ref 111, .int 87]) (rest2 := []) (st3 := [.int 0]) rfl rfl rfl rfl rfl (cl_206 _ 86 (by decide)) rfl ?_
  refine sx_RP.step (pc2 := 30) (ls2 := [(2, .int 87), (0, .ref 111), (1, .int a1)]) (st2 := [.int a1, .int 0]) (w3 := sx_vN) rfl rfl ?_
  refine sx_RP.br (p2 := 33) (l2 := [(2, .int 87), (0, .ref 111), (1, .int a1)]) (s2 := []) (v2 := sx_vN) rfl rfl (fun q => absurd (of_decide_eq_true q) hq) (fun _ => ?_)
  refine sx_RP.step (pc2 := 36) (ls2 := [(2, .int 86), (0, .ref 111), (1, .int a1)]) (st2 := []) (w3 := sx_vN) rfl rfl ?_
  refine sx_RP.step (pc2 := 20) (ls2 := [(2, .int 86), (0, .ref 111), (1, .int a1)]) (st2 := []) (w3 := sx_vN) rfl rfl ?_
  refine sx_RP.step (pc2 := 21) (ls2 := [(2, .int 86), (0, .ref 111), (1, .int a1)]) (st2 := [.int 86]) (w3 := sx_vN) rfl rfl ?_
  refine sx_RP.step (pc2 := 24) (ls2 := [(2, .int 86), (0, .ref 111), (1, .int a1)]) (st2 := []) (w3 := sx_vN) rfl rfl ?_
  refine sx_RP.step (pc2 := 25) (ls2 := [(2, .int 86), (0, .ref 111), (1, .int a1)]) (st2 := [.ref 111]) (w3 := sx_vN) rfl rfl ?_
  refine sx_RP.step (pc2 := 26) (ls2 := [(2, .int 86), (0, .ref 111), (1, .int a1)]) (st2 := [.int 86, .ref 111]) (w3 := sx_vN) rfl rfl ?_
  refine sx_RP.cu (as := [.ref 111, .int 86]) (rest2 := []) (st3 := [.int 0]) rfl rfl rfl rfl rfl (cl_206 _ 85 (by decide)) rfl ?_
  refine sx_RP.step (pc2 := 30) (ls2 := [(2, .int 86), (0, .ref 111), (1, .int a1)]) (st2 := [.int a1, .int 0]) (w3 := sx_vN) rfl rfl ?_
  refine sx_RP.br (p2 := 33) (l2 := [(2, .int 86), (0, .ref 111), (1, .int a1)]) (s2 := []) (v2 := sx_vN) rfl rfl (fun q => absurd (of_decide_eq_true q) hq) (fun _ => ?_)
  refine sx_RP.step (pc2 := 36) (ls2 := [(2, .int 85), (0, .ref 111), (1, .int a1)]) (st2 := []) (w3 := sx_vN) rfl rfl ?_
  refine sx_RP.step (pc2 := 20) (ls2 := [(2, .int 85), (0, .ref 111), (1, .int a1)]) (st2 := []) (w3 := sx_vN) rfl rfl ?_
  refine sx_RP.step (pc2 := 21) (ls2 := [(2, .int 85), (0, .ref 111), (1, .int a1)]) (st2 := [.int 85]) (w3 := sx_vN) rfl rfl ?_
  refine sx_RP.step (pc2 := 24) (ls2 := [(2, .int 85), (0, .ref 111), (1, .int a1)]) (st2 := []) (w3 := sx_vN) rfl rfl ?_
  refine sx_RP.step (pc2 := 25) (ls2 := [(2, .int 85), (0, .ref 111), (1, .int a1)]) (st2 := [.ref 111]) (w3 := sx_vN) rfl rfl ?_
  refine sx_RP.step (pc2 := 26) (ls2 := [(2, .int 85), (0, .ref 111), (1, .int a1)]) (st2 := [.int 85, .ref 111]) (w3 := sx_vN) rfl rfl ?_
  refine sx_RP.cu (as := [.ref 111, .int 85]) (rest2 := []) (st3 := [.int 0]) rfl rfl rfl rfl rfl (cl_206 _ 84 (by decide)) rfl ?_
  refine sx_RP.step (pc2 := 30) (ls2 := [(2, .int 85), (0, .ref 111), (1, .int a1)]) (st2 := [.int a1, .int 0]) (w3 := sx_vN) rfl rfl ?_
  refine sx_RP.br (p2 := 33) (l2 := [(2, .int 85), (0, .ref 111), (1, .int a1)]) (s2 := []) (v2 := sx_vN) rfl rfl (fun q => absurd (of_decide_eq_true q) hq) (fun _ => ?_)
  refine sx_RP.step (pc2 := 36) (ls2 := [(2, .int 84), (0, .ref 111), (1, .int a1)]) (st2 := []) (w3 := sx_vN) rfl rfl ?_
  refine sx_RP.step (pc2 := 20) (ls2 := [(2, .int 84), (0, .ref 111), (1, .int a1)]) (st2 := []) (w3 := sx_vN) rfl rfl ?_
  refine sx_RP.step (pc2 := 21) (ls2 := [(2, .int 84), (0, .ref 111), (1, .int a1)]) (st2 := [.int 84]) (w3 := sx_vN) rfl rfl ?_
  refine sx_RP.step (pc2 := 24) (ls2 := [(2, .int 84), (0, .ref 111), (1, .int a1)]) (st2 := []) (w3 := sx_vN) rfl rfl ?_
  refine sx_RP.step (pc2 := 25) (ls2 := [(2, .int 84), (0, .ref 111), (1, .int a1)]) (st2 := [.ref 111]) (w3 := sx_vN) rfl rfl ?_
  refine sx_RP.step (pc2 := 26) (ls2 := [(2, .int 84), (0, .ref 111), (1, .int a1)]) (st2 := [.int 84, .ref 111]) (w3 := sx_vN) rfl rfl ?_
  refine sx_RP.cu (as := [.ref 111, .int 84]) (rest2 := []) (st3 := [.int 0]) rfl rfl rfl rfl rfl (cl_206 _ 83 (by decide)) rfl ?_
  refine sx_RP.step (pc2 := 30) (ls2 := [(2, .int 84), (0, .ref 111), (1, .int a1)]) (st2 := [.int a1, .int 0]) (w3 := sx_vN) rfl rfl ?_
  refine sx_RP.br (p2 := 33) (l2 := [(2, .int 84), (0, .ref 111), (1, .int a1)]) (s2 := []) (v2 := sx_vN) rfl rfl (fun q => absurd (of_decide_eq_true q) hq) (fun _ => ?_)
  refine sx_RP.step (pc2 := 36) (ls2 := [(2, .int 83), (0, .ref 111), (1, .int a1)]) (st2 := []) (w3 := sx_vN) rfl rfl ?_
  refine sx_RP.step (pc2 := 20) (ls2 := [(2, .int 83), (0, .ref 111), (1, .int a1)]) (st2 := []) (w3 := sx_vN) rfl rfl ?_
  refine sx_RP.step (pc2 := 21) (ls2 := [(2, .int 83), (0, .ref 111), (1, .int a1)]) (st2 := [.int 83]) (w3 := sx_vN) rfl rfl ?_
  refine sx_RP.step (pc2 := 24) (ls2 := [(2, .int 83), (0, .ref 111), (1, .int a1)]) (st2 := []) (w3 := sx_vN) rfl rfl ?_
  refine sx_RP.step (pc2 := 25) (ls2 := [(2, .int 83), (0, .ref 111), (1, .int a1)]) (st2 := [.ref 111]) (w3 := sx_vN) rfl rfl ?_
  refine sx_RP.step (pc2 := 26) (ls2 := [(2, .int 83), (0, .ref 111), (1, .int a1)]) (st2 := [.int 83, .ref 111]) (w3 := sx_vN) rfl rfl ?_
  refine sx_RP.cu (as := [.ref 111, .int 83]) (rest2 := []) (st3 := [.int 0]) rfl rfl rfl rfl rfl (cl_206 _ 82 (by decide)) rfl ?_
  refine sx_RP.step (pc2 := 30) (ls2 := [(2, .int 83), (0, .ref 111), (1, .int a1)]) (st2 := [.int a1, .int 0]) (w3 := sx_vN) rfl rfl ?_
  refine sx_RP.br (p2 := 33) (l2 := [(2, .int 83), (0, .ref 111), (1, .int a1)]) (s2 := []) (v2 := sx_vN) rfl rfl (fun q => absurd (of_decide_eq_true q) hq) (fun _ => ?_)
  refine sx_RP.step (pc2 := 36) (ls2 := [(2, .int 82), (0, .ref 111), (1, .int a1)]) (st2 := []) (w3 := sx_vN) rfl rfl ?_
  refine sx_RP.step (pc2 := 20) (ls2 := [(2, .int 82), (0, .ref 111), (1, .int a1)]) (st2 := []) (w3 := sx_vN) rfl rfl ?_
  refine sx_RP.step (pc2 := 21) (ls2 := [(2, .int 82), (0, .ref 111), (1, .int a1)]) (st2 := [.int 82]) (w3 := sx_vN) rfl rfl ?_
  refine sx_RP.step (pc2 := 24) (ls2 := [(2, .int 82), (0, .ref 111), (1, .int a1)]) (st2 := []) (w3 := sx_vN) rfl rfl ?_
  refine sx_RP.step (pc2 := 25) (ls2 := [(2, .int 82), (0, .ref 111), (1, .int a1)]) (st2 := [.ref 111]) (w3 := sx_vN) rfl rfl ?_
  refine sx_RP.step (pc2 := 26) (ls2 := [(2, .int 82), (0, .ref 111), (1, .int a1)]) (st2 := [.int 82, .ref 111]) (w3 := sx_vN) rfl rfl ?_
  refine sx_RP.cu (as := [.ref 111, .int 82]) (rest2 := []) (st3 := [.int 0]) rfl rfl rfl rfl rfl (cl_206 _ 81 (by decide)) rfl ?_
  refine sx_RP.step (pc2 := 30) (ls2 := [(2, .int 82), (0, .ref 111), (1, .int a1)]) (st2 := [.int a1, .int 0]) (w3 := sx_vN) rfl rfl ?_
  refine sx_RP.br (p2 := 33) (l2 := [(2, .int 82), (0, .ref 111), (1, .int a1)]) (s2 := []) (v2 := sx_vN) rfl rfl (fun q => absurd (of_decide_eq_true q) hq) (fun _ => ?_)
  refine sx_RP.step (pc2 := 36) (ls2 := [(2, .int 81), (0, .ref 111), (1, .int a1)]) (st2 := []) (w3 := sx_vN) rfl rfl ?_
  refine sx_RP.step (pc2 := 20) (ls2 := [(2, .int 81), (0, .ref 111), (1, .int a1)]) (st2 := []) (w3 := sx_vN) rfl rfl ?_
  refine sx_RP.step (pc2 := 21) (ls2 := [(2, .int 81), (0, .ref 111), (1, .int a1)]) (st2 := [.int 81]) (w3 := sx_vN) rfl rfl ?_
  refine sx_RP.step (pc2 := 24) (ls2 := [(2, .int 81), (0, .ref 111), (1, .int a1)]) (st2 := []) (w3 := sx_vN) rfl rfl ?_
  refine sx_RP.step (pc2 := 25) (ls2 := [(2, .int 81), (0, .ref 111), (1, .int a1)]) (st2 := [.ref 111]) (w3 := sx_vN) rfl rfl ?_
  refine sx_RP.step (pc2 := 26) (ls2 := [(2, .int 81), (0, .ref 111), (1, .int a1)]) (st2 := [.int 81, .ref 111]) (w3 := sx_vN) rfl rfl ?_
  refine sx_RP.cu (as := [.ref 111, .int 81]) (rest2 := []) (st3 := [.int 0]) rfl rfl rfl rfl rfl (cl_206 _ 80 (by decide)) rfl ?_
  refine sx_RP.step (pc2 := 30) (ls2 := [(2, .int 81), (0, .ref 111), (1, .int a1)]) (st2 := [.int a1, .int 0]) (w3 := sx_vN) rfl rfl ?_
  refine sx_RP.br (p2 := 33) (l2 := [(2, .int 81), (0, .ref 111), (1, .int a1)]) (s2 := []) (v2 := sx_vN) rfl rfl (fun q => absurd (of_decide_eq_true q) hq) (fun _ => ?_)
  refine sx_RP.step (pc2 := 36) (ls2 := [(2, .int 80), (0, .ref 111), (1, .int a1)]) (st2 := []) (w3 := sx_vN) rfl rfl ?_
  refine sx_RP.step (pc2 := 20) (ls2 := [(2, .int 80), (0, .ref 111), (1, .int a1)]) (st2 := []) (w3 := sx_vN) rfl rfl ?_
  refine sx_RP.step (pc2 := 21) (ls2 := [(2, .int 80), (0, .ref 111), (1, .int a1)]) (st2 := [.int 80]) (w3 := sx_vN) rfl rfl ?_
  refine sx_RP.step (pc2 := 24) (ls2 := [(2, .int 80), (0, .ref 111), (1, .int a1)]) (st2 := []) (w3 := sx_vN) rfl rfl ?_
  refine sx_RP.step (pc2 := 25) (ls2 := [(2, .int 80), (0, .ref 111), (1, .int a1)]) (st2 := [.ref 111]) (w3 := sx_vN) rfl rfl ?_
  refine sx_RP.step (pc2 := 26) (ls2 := [(2, .int 80), (0, .ref 111), (1, .int a1)]) (st2 := [.int 80, .ref 111]) (w3 := sx_vN) rfl rfl ?_
  refine sx_RP.cu (as := [.ref 111, .int 80]) (rest2 := []) (st3 := [.int 0]) rfl rfl rfl rfl rfl (cl_206 _ 79 (by decide)) rfl ?_
  refine sx_RP.step (pc2 := 30) (ls2 := [(2, .int 80), (0, .ref 111), (1, .int a1)]) (st2 := [.int a1, .int 0]) (w3 := sx_vN) rfl rfl ?_
  refine sx_RP.br (p2 := 33) (l2 := [(2, .int 80), (0, .ref 111), (1, .int a1)]) (s2 := []) (v2 := sx_vN) rfl rfl (fun q => absurd (of_decide_eq_true q) hq) (fun _ => ?_)
  refine sx_RP.step (pc2 := 36) (ls2 := [(2, .int 79), (0, .ref 111), (1, .int a1)]) (st2 := []) (w3 := sx_vN) rfl rfl ?_
  refine sx_RP.step (pc2 := 20) (ls2 := [(2, .int 79), (0, .ref 111), (1, .int a1)]) (st2 := []) (w3 := sx_vN) rfl rfl ?_
  refine sx_RP.step (pc2 := 21) (ls2 := [(2, .int 79), (0, .ref 111), (1, .int a1)]) (st2 := [.int 79]) (w3 := sx_vN) rfl rfl ?_
  refine sx_RP.step (pc2 := 24) (ls2 := [(2, .int 79), (0, .ref 111), (1, .int a1)]) (st2 := []) (w3 := sx_vN) rfl rfl ?_
  refine sx_RP.step (pc2 := 25) (ls2 := [(2, .int 79), (0, .ref 111), (1, .int a1)]) (st2 := [.ref 111]) (w3 := sx_vN) rfl rfl ?_
  refine sx_RP.step (pc2 := 26) (ls2 := [(2, .int 79), (0, .ref 111), (1, .int a1)]) (st2 := [.int 79, .ref 111]) (w3 := sx_vN) rfl rfl ?_
  refine sx_RP.cu (as := [.ref 111, .int 79]) (rest2 := []) (st3 := [.int 0]) rfl rfl rfl rfl rfl (cl_206 _ 78 (by decide)) rfl ?_
  refine sx_RP.step (pc2 := 30) (ls2 := [(2, .int 79), (0, .ref 111), (1, .int a1)]) (st2 := [.int a1, .int 0]) (w3 := sx_vN) rfl rfl ?_
  refine sx_RP.br (p2 := 33) (l2 := [(2, .int 79), (0, .ref 111), (1, .int a1)]) (s2 := []) (v2 := sx_vN) rfl rfl (fun q => absurd (of_decide_eq_true q) hq) (fun _ => ?_)
  refine sx_RP.step (pc2 := 36) (ls2 := [(2, .int 78), (0, .ref 111), (1, .int a1)]) (st2 := []) (w3 := sx_vN) rfl rfl ?_
  refine sx_RP.step (pc2 := 20) (ls2 := [(2, .int 78), (0, .ref 111), (1, .int a1)]) (st2 := []) (w3 := sx_vN) rfl rfl ?_
  refine sx_RP.step (pc2 := 21) (ls2 := [(2, .int 78), (0, .ref 111), (1, .int a1)]) (st2 := [.int 78]) (w3 := sx_vN) rfl rfl ?_
  refine sx_RP.step (pc2 := 24) (ls2 := [(2, .int 78), (0, .ref 111), (1, .int a1)]) (st2 := []) (w3 := sx_vN) rfl rfl ?_
  refine sx_RP.step (pc2 := 25) (ls2 := [(2, .int 78), (0, .ref 111), (1, .int a1)]) (st2 := [.ref 111]) (w3 := sx_vN) rfl rfl ?_
  refine sx_RP.step (pc2 := 26) (ls2 := [(2, .int 78), (0, .ref 111), (1, .int a1)]) (st2 := [.int 78, .ref 111]) (w3 := sx_vN) rfl rfl ?_
  refine sx_RP.cu (as := [.ref 111, .int 78]) (rest2 := []) (st3 := [.int 0]) rfl rfl rfl rfl rfl (cl_206 _ 77 (by decide)) rfl ?_
  refine sx_RP.step (pc2 := 30) (ls2 := [(2, .int 78), (0, .ref 111), (1, .int a1)]) (st2 := [.int a1, .int 0]) (w3 := sx_vN) rfl rfl ?_
  refine sx_RP.br (p2 := 33) (l2 := [(2, .int 78), (0, .ref 111), (1, .int a1)]) (s2 := []) (v2 := sx_vN) rfl rfl (fun q => absurd (of_decide_eq_true q) hq) (fun _ => ?_)
  refine sx_RP.step (pc2 := 36) (ls2 := [(2, .int 77), (0, .ref 111), (1, .int a1)]) (st2 := []) (w3 := sx_vN) rfl rfl ?_
  refine sx_RP.step (pc2 := 20) (ls2 := [(2, .int 77), (0, .ref 111), (1, .int a1)]) (st2 := []) (w3 := sx_vN) rfl rfl ?_
  refine sx_RP.step (pc2 := 21) (ls2 := [(2, .int 77), (0, .ref 111), (1, .int a1)]) (st2 := [.int 77]) (w3 := sx_vN) rfl rfl ?_
  refine sx_RP.step (pc2 := 24) (ls2 := [(2, .int 77), (0, .ref 111), (1, .int a1)]) (st2 := []) (w3 := sx_vN) rfl rfl ?_
  refine sx_RP.step (pc2 := 25) (ls2 := [(2, .int 77), (0, .ref 111), (1, .int a1)]) (st2 := [.ref 111]) (w3 := sx_vN) rfl rfl ?_
  refine sx_RP.step (pc2 := 26) (ls2 := [(2, .int 77), (0, .ref 111), (1, .int a1)]) (st2 := [.int 77, .ref 111]) (w3 := sx_vN) rfl rfl ?_
  refine sx_RP.cu (as := [.ref 111, .int 77]) (rest2 := []) (st3 := [.int 0]) rfl rfl rfl rfl rfl (cl_206 _ 76 (by decide)) rfl ?_
  refine sx_RP.step (pc2 := 30) (ls2 := [(2, .int 77), (0, .ref 111), (1, .int a1)]) (st2 := [.int a1, .int 0]) (w3 := sx_vN) rfl rfl ?_
  refine sx_RP.br (p2 := 33) (l2 := [(2, .int 77), (0, .ref 111), (1, .int a1)]) (s2 := []) (v2 := sx_vN) rfl rfl (fun q => absurd (of_decide_eq_true q) hq) (fun _ => ?_)
  refine sx_RP.step (pc2 := 36) (ls2 := [(2, .int 76), (0, .ref 111), (1, .int a1)]) (st2 := []) (w3 := sx_vN) rfl rfl ?_
  refine sx_RP.step (pc2 := 20) (ls2 := [(2, .int 76), (0, .ref 111), (1, .int a1)]) (st2 := []) (w3 := sx_vN) rfl rfl ?_
  refine sx_RP.step (pc2 := 21) (ls2 := [(2, .int 76), (0, .ref 111), (1, .int a1)]) (st2 := [.int 76]) (w3 := sx_vN) rfl rfl ?_
  refine sx_RP.step (pc2 := 24) (ls2 := [(2, .int 76), (0, .ref 111), (1, .int a1)]) (st2 := []) (w3 := sx_vN) rfl rfl ?_
  refine sx_RP.step (pc2 := 25) (ls2 := [(2, .int 76), (0, .ref 111), (1, .int a1)]) (st2 := [.ref 111]) (w3 := sx_vN) rfl rfl ?_
  refine sx_RP.step (pc2 := 26) (ls2 := [(2, .int 76), (0, .ref 111), (1, .int a1)]) (st2 := [.int 76, .ref 111]) (w3 := sx_vN) rfl rfl ?_
  refine sx_RP.cu (as := [.ref 111, .int 76]) (rest2 := []) (st3 := [.int 0]) rfl rfl rfl rfl rfl (cl_206 _ 75 (by decide)) rfl ?_
  refine sx_RP.step (pc2 := 30) (ls2 := [(2, .int 76), (0, .ref 111), (1, .int a1)]) (st2 := [.int a1, .int 0]) (w3 := sx_vN) rfl rfl ?_
  refine sx_RP.br (p2 := 33) (l2 := [(2, .int 76), (0, .ref 111), (1, .int a1)]) (s2 := []) (v2 := sx_vN) rfl rfl (fun q => absurd (of_decide_eq_true q) hq) (fun _ => ?_)
  refine sx_RP.step (pc2 := 36) (ls2 := [(2, .int 75), (0, .ref 111), (1, .int a1)]) (st2 := []) (w3 := sx_vN) rfl rfl ?_
  refine sx_RP.step (pc2 := 20) (ls2 := [(2, .int 75), (0, .ref 111), (1, .int a1)]) (st2 := []) (w3 := sx_vN) rfl rfl ?_
  refine sx_RP.step (pc2 := 21) (ls2 := [(2, .int 75), (0, .ref 111), (1, .int a1)]) (st2 := [.int 75]) (w3 := sx_vN) rfl rfl ?_
  refine sx_RP.step (pc2 := 24) (ls2 := [(2, .int 75), (0, .ref 111), (1, .int a1)]) (st2 := []) (w3 := sx_vN) rfl rfl ?_
  refine sx_RP.step (pc2 := 25) (ls2 := [(2, .int 75), (0, .ref 111), (1, .int a1)]) (st2 := [.ref 111]) (w3 := sx_vN) rfl rfl ?_
  refine sx_RP.step (pc2 := 26) (ls2 := [(2, .int 75), (0, .ref 111), (1, .int a1)]) (st2 := [.int 75, .ref 111]) (w3 := sx_vN) rfl rfl ?_
  refine sx_RP.cu (as := [.ref 111, .int 75]) (rest2 := []) (st3 := [.int 0]) rfl rfl rfl rfl rfl (cl_206 _ 74 (by decide)) rfl ?_
  refine sx_RP.step (pc2 := 30) (ls2 := [(2, .int 75), (0, .ref 111), (1, .int a1)]) (st2 := [.int a1, .int 0]) (w3 := sx_vN) rfl rfl ?_
  refine sx_RP.br (p2 := 33) (l2 := [(2, .int 75), (0, .ref 111), (1, .int a1)]) (s2 := []) (v2 := sx_vN) rfl rfl (fun q => absurd (of_decide_eq_true q) hq) (fun _ => ?_)
  refine sx_RP.step (pc2 := 36) (ls2 := [(2, .int 74), (0, .ref 111), (1, .int a1)]) (st2 := []) (w3 := sx_vN) rfl rfl ?_
  refine sx_RP.step (pc2 := 20) (ls2 := [(2, .int 74), (0, .ref 111), (1, .int a1)]) (st2 := []) (w3 := sx_vN) rfl rfl ?_
  refine sx_RP.step (pc2 := 21) (ls2 := [(2, .int 74), (0, .ref 111), (1, .int a1)]) (st2 := [.int 74]) (w3 := sx_vN) rfl rfl ?_
  refine sx_RP.step (pc2 := 24) (ls2 := [(2, .int 74), (0, .ref 111), (1, .int a1)]) (st2 := []) (w3 := sx_vN) rfl rfl ?_
  refine sx_RP.step (pc2 := 25) (ls2 := [(2, .int 74), (0, .ref 111), (1, .int a1)]) (st2 := [.ref 111]) (w3 := sx_vN) rfl rfl ?_
  refine sx_RP.step (pc2 := 26) (ls2 := [(2, .int 74), (0, .ref 111), (1, .int a1)]) (st2 := [.int 74, .ref 111]) (w3 := sx_vN) rfl rfl ?_
  refine sx_RP.cu (as := [.ref 111, .int 74]) (rest2 := []) (st3 := [.int 0]) rfl rfl rfl rfl rfl (cl_206 _ 73 (by decide)) rfl ?_
  refine sx_RP.step (pc2 := 30) (ls2 := [(2, .int 74), (0, .ref 111), (1, .int a1)]) (st2 := [.int a1, .int 0]) (w3 := sx_vN) rfl rfl ?_
  refine sx_RP.br (p2 := 33) (l2 := [(2, .int 74), (0, .ref 111), (1, .int a1)]) (s2 := []) (v2 := sx_vN) rfl rfl (fun q => absurd (of_decide_eq_true q) hq) (fun _ => ?_)
  refine sx_RP.step (pc2 := 36) (ls2 := [(2, .int 73), (0, .ref 111), (1, .int a1)]) (st2 := []) (w3 := sx_vN) rfl rfl ?_
  refine sx_RP.step (pc2 := 20) (ls2 := [(2, .int 73), (0, .ref 111), (1, .int a1)]) (st2 := []) (w3 := sx_vN) rfl rfl ?_
  refine sx_RP.step (pc2 := 21) (ls2 := [(2, .int 73), (0, .ref 111), (1, .int a1)]) (st2 := [.int 73]) (w3 := sx_vN) rfl rfl ?_
  refine sx_RP.step (pc2 := 24) (ls2 := [(2, .int 73), (0, .ref 111), (1, .int a1)]) (st2 := []) (w3 := sx_vN) rfl rfl ?_
  refine sx_RP.step (pc2 := 25) (ls2 := [(2, .int 73), (0, .ref 111), (1, .int a1)]) (st2 := [.ref 111]) (w3 := sx_vN) rfl rfl ?_
  refine sx_RP.step (pc2 := 26) (ls2 := [(2, .int 73), (0, .ref 111), (1, .int a1)]) (st2 := [.int 73, .ref 111]) (w3 := sx_vN) rfl rfl ?_
  refine sx_RP.cu (as := [.ref 111, .int 73]) (rest2 := []) (st3 := [.int 0]) rfl rfl rfl rfl rfl (cl_206 _ 72 (by decide)) rfl ?_
  refine sx_RP.step (pc2 := 30) (ls2 := [(2, .int 73), (0, .ref 111), (1, .int a1)]) (st2 := [.int a1, .int 0]) (w3 := sx_vN) rfl rfl ?_
  refine sx_RP.br (p2 := 33) (l2 := [(2, .int 73), (0, .ref 111), (1, .int a1)]) (s2 := []) (v2 := sx_vN) rfl rfl (fun q => absurd (of_decide_eq_true q) hq) (fun _ => ?_)
  refine sx_RP.step (pc2 := 36) (ls2 := [(2, .int 72), (0, .ref 111), (1, .int a1)]) (st2 := []) (w3 := sx_vN) rfl rfl ?_
  refine sx_RP.step (pc2 := 20) (ls2 := [(2, .int 72), (0, .ref 111), (1, .int a1)]) (st2 := []) (w3 := sx_vN) rfl rfl ?_
  refine sx_RP.step (pc2 := 21) (ls2 := [(2, .int 72), (0, .ref 111), (1, .int a1)]) (st2 := [.int 72]) (w3 := sx_vN) rfl rfl ?_
  refine sx_RP.step (pc2 := 24) (ls2 := [(2, .int 72), (0, .ref 111), (1, .int a1)]) (st2 := []) (w3 := sx_vN) rfl rfl ?_
  refine sx_RP.step (pc2 := 25) (ls2 := [(2, .int 72), (0, .ref 111), (1, .int a1)]) (st2 := [.ref 111]) (w3 := sx_vN) rfl rfl ?_
  refine sx_RP.step (pc2 := 26) (ls2 := [(2, .int 72), (0, .ref 111), (1, .int a1)]) (st2 := [.int 72, .ref 111]) (w3 := sx_vN) rfl rfl ?_
  refine sx_RP.cu (as := [.ref 111, .int 72]) (rest2 := []) (st3 := [.int 0]) rfl rfl rfl rfl rfl (cl_206 _ 71 (by decide)) rfl ?_
  refine sx_RP.step (pc2 := 30) (ls2 := [(2, .int 72), (0, .ref 111), (1, .int a1)]) (st2 := [.int a1, .int 0]) (w3 := sx_vN) rfl rfl ?_
  refine sx_RP.br (p2 := 33) (l2 := [(2, .int 72), (0, .ref 111), (1, .int a1)]) (s2 := []) (v2 := sx_vN) rfl rfl (fun q => absurd (of_decide_eq_true q) hq) (fun _ => ?_)
  refine sx_RP.step (pc2 := 36) (ls2 := [(2, .int 71), (0, .ref 111), (1, .int a1)]) (st2 := []) (w3 := sx_vN) rfl rfl ?_
  refine sx_RP.step (pc2 := 20) (ls2 := [(2, .int 71), (0, .ref 111), (1, .int a1)]) (st2 := []) (w3 := sx_vN) rfl rfl ?_
  refine sx_RP.step (pc2 := 21) (ls2 := [(2, .int 71), (0, .ref 111), (1, .int a1)]) (st2 := [.int 71]) (w3 := sx_vN) rfl rfl ?_
  refine sx_RP.step (pc2 := 24) (ls2 := [(2, .int 71), (0, .ref 111), (1, .int a1)]) (st2 := []) (w3 := sx_vN) rfl rfl ?_
  refine sx_RP.step (pc2 := 25) (ls2 := [(2, .int 71), (0, .ref 111), (1, .int a1)]) (st2 := [.ref 111]) (w3 := sx_vN) rfl rfl ?_
  refine sx_RP.step (pc2 := 26) (ls2 := [(2, .int 71), (0, .ref 111), (1, .int a1)]) (st2 := [.int 71, .ref 111]) (w3 := sx_vN) rfl rfl ?_
  refine sx_RP.cu (as := [.ref 111, .int 71]) (rest2 := []) (st3 := [.int 0]) rfl rfl rfl rfl rfl (cl_206 _ 70 (by decide)) rfl ?_
  refine sx_RP.step (pc2 := 30) (ls2 := [(2, .int 71), (0, .ref 111), (1, .int a1)]) (st2 := [.int a1, .int 0]) (w3 := sx_vN) rfl rfl ?_
  refine sx_RP.br (p2 := 33) (l2 := [(2, .int 71), (0, .ref 111), (1, .int a1)]) (s2 := []) (v2 := sx_vN) rfl rfl (fun q => absurd (of_decide_eq_true q) hq) (fun _ => ?_)
  refine sx_RP.step (pc2 := 36) (ls2 := [(2, .int 70), (0, .ref 111), (1, .int a1)]) (st2 := []) (w3 := sx_vN) rfl rfl ?_
  refine sx_RP.step (pc2 := 20) (ls2 := [(2, .int 70), (0, .ref 111), (1, .int a1)]) (st2 := []) (w3 := sx_vN) rfl rfl ?_
  refine sx_RP.step (pc2 := 21) (ls2 := [(2, .int 70), (0, .ref 111), (1, .int a1)]) (st2 := [.int 70]) (w3 := sx_vN) rfl rfl ?_
  refine sx_RP.step (pc2 := 24) (ls2 := [(2, .int 70), (0, .ref 111), (1, .int a1)]) (st2 := []) (w3 := sx_vN) rfl rfl ?_
  refine sx_RP.step (pc2 := 25) (ls2 := [(2, .int 70), (0, .ref 111), (1, .int a1)]) (st2 := [.ref 111]) (w3 := sx_vN) rfl rfl ?_
  refine sx_RP.step (pc2 := 26) (ls2 := [(2, .int 70), (0, .ref 111), (1, .int a1)]) (st2 := [.int 70, .ref 111]) (w3 := sx_vN) rfl rfl ?_
  refine sx_RP.cu (as := [.ref 111, .int 70]) (rest2 := []) (st3 := [.int 0]) rfl rfl rfl rfl rfl (cl_206 _ 69 (by decide)) rfl ?_
  refine sx_RP.step (pc2 := 30) (ls2 := [(2, .int 70), (0, .ref 111), (1, .int a1)]) (st2 := [.int a1, .int 0]) (w3 := sx_vN) rfl rfl ?_
  refine sx_RP.br (p2 := 33) (l2 := [(2, .int 70), (0, .ref 111), (1, .int a1)]) (s2 := []) (v2 := sx_vN) rfl rfl (fun q => absurd (of_decide_eq_true q) hq) (fun _ => ?_)
  refine sx_RP.step (pc2 := 36) (ls2 := [(2, .int 69), (0, .ref 111), (1, .int a1)]) (st2 := []) (w3 := sx_vN) rfl rfl ?_
  refine sx_RP.step (pc2 := 20) (ls2 := [(2, .int 69), (0, .ref 111), (1, .int a1)]) (st2 := []) (w3 := sx_vN) rfl rfl ?_
  refine sx_RP.step (pc2 := 21) (ls2 := [(2, .int 69), (0, .ref 111), (1, .int a1)]) (st2 := [.int 69]) (w3 := sx_vN) rfl rfl ?_
  refine sx_RP.step (pc2 := 24) (ls2 := [(2, .int 69), (0, .ref 111), (1, .int a1)]) (st2 := []) (w3 := sx_vN) rfl rfl ?_
  refine sx_RP.step (pc2 := 25) (ls2 := [(2, .int 69), (0, .ref 111), (1, .int a1)]) (st2 := [.ref 111]) (w3 := sx_vN) rfl rfl ?_
  refine sx_RP.step (pc2 := 26) (ls2 := [(2, .int 69), (0, .ref 111), (1, .int a1)]) (st2 := [.int 69, .ref 111]) (w3 := sx_vN) rfl rfl ?_
  refine sx_RP.cu (as := [.ref 111, .int 69]) (rest2 := []) (st3 := [.int 0]) rfl rfl rfl rfl rfl (cl_206 _ 68 (by decide)) rfl ?_
  refine sx_RP.step (pc2 := 30) (ls2 := [(2, .int 69), (0, .ref 111), (1, .int a1)]) (st2 := [.int a1, .int 0]) (w3 := sx_vN) rfl rfl ?_
  refine sx_RP.br (p2 := 33) (l2 := [(2, .int 69), (0, .ref 111), (1, .int a1)]) (s2 := []) (v2 := sx_vN) rfl rfl (fun q => absurd (of_decide_eq_true q) hq) (fun _ => ?_)
  refine sx_RP.step (pc2 := 36) (ls2 := [(2, .int 68), (0, .ref 111), (1, .int a1)]) (st2 := []) (w3 := sx_vN) rfl rfl ?_
  refine sx_RP.step (pc2 := 20) (ls2 := [(2, .int 68), (0, .ref 111), (1, .int a1)]) (st2 := []) (w3 := sx_vN) rfl rfl ?_
  refine sx_RP.step (pc2 := 21) (ls2 := [(2, .int 68), (0, .ref 111), (1, .int a1)]) (st2 := [.int 68]) (w3 := sx_vN) rfl rfl ?_
  refine sx_RP.step (pc2 := 24) (ls2 := [(2, .int 68), (0, .ref 111), (1, .int a1)]) (st2 := []) (w3 := sx_vN) rfl rfl ?_
  refine sx_RP.step (pc2 := 25) (ls2 := [(2, .int 68), (0, .ref 111), (1, .int a1)]) (st2 := [.ref 111]) (w3 := sx_vN) rfl rfl ?_
  refine sx_RP.step (pc2 := 26) (ls2 := [(2, .int 68), (0, .ref 111), (1, .int a1)]) (st2 := [.int 68, .ref 111]) (w3 := sx_vN) rfl rfl ?_
  refine sx_RP.cu (as := [.ref 111, .int 68]) (rest2 := []) (st3 := [.int 0]) rfl rfl rfl rfl rfl (cl_206 _ 67 (by decide)) rfl ?_
  refine sx_RP.step (pc2 := 30) (ls2 := [(2, .int 68), (0, .ref 111), (1, .int a1)]) (st2 := [.int a1, .int 0]) (w3 := sx_vN) rfl rfl ?_
  refine sx_RP.br (p2 := 33) (l2 := [(2, .int 68), (0, .ref 111), (1, .int a1)]) (s2 := []) (v2 := sx_vN) rfl rfl (fun q => absurd (of_decide_eq_true q) hq) (fun _ => ?_)
  refine sx_RP.step (pc2 := 36) (ls2 := [(2, .int 67), (0, .ref 111), (1, .int a1)]) (st2 := []) (w3 := sx_vN) rfl rfl ?_
  refine sx_RP.step (pc2 := 20) (ls2 := [(2, .int 67), (0, .ref 111), (1, .int a1)]) (st2 := []) (w3 := sx_vN) rfl rfl ?_
  refine sx_RP.step (pc2 := 21) (ls2 := [(2, .int 67), (0, .ref 111), (1, .int a1)]) (st2 := [.int 67]) (w3 := sx_vN) rfl rfl ?_
  refine sx_RP.step (pc2 := 24) (ls2 := [(2, .int 67), (0, .ref 111), (1, .int a1)]) (st2 := []) (w3 := sx_vN) rfl rfl ?_
  refine sx_RP.step (pc2 := 25) (ls2 := [(2, .int 67), (0, .ref 111), (1, .int a1)]) (st2 := [.ref 111]) (w3 := sx_vN) rfl rfl ?_
  refine sx_RP.step (pc2 := 26) (ls2 := [(2, .int 67), (0, .ref 111), (1, .int a1)]) (st2 := [.int 67, .ref 111]) (w3 := sx_vN) rfl rfl ?_
  refine sx_RP.cu (as := [.ref 111, .int 67]) (rest2 := []) (st3 := [.int 0]) rfl rfl rfl rfl rfl (cl_206 _ 66 (by decide)) rfl ?_
  refine sx_RP.step (pc2 := 30) (ls2 := [(2, .int 67), (0, .ref 111), (1, .int a1)]) (st2 := [.int a1, .int 0]) (w3 := sx_vN) rfl rfl ?_
  refine sx_RP.br (p2 := 33) (l2 := [(2, .int 67), (0, .ref 111), (1, .int a1)]) (s2 := []) (v2 := sx_vN) rfl rfl (fun q => absurd (of_decide_eq_true q) hq) (fun _ => ?_)
  refine sx_RP.step (pc2 := 36) (ls2 := [(2, .int 66), (0, .ref 111), (1, .int a1)]) (st2 := []) (w3 := sx_vN) rfl rfl ?_
  refine sx_RP.step (pc2 := 20) (ls2 := [(2, .int 66), (0, .ref 111), (1, .int a1)]) (st2 := []) (w3 := sx_vN) rfl rfl ?_
  refine sx_RP.step (pc2 := 21) (ls2 := [(2, .int 66), (0, .ref 111), (1, .int a1)]) (st2 := [.int 66]) (w3 := sx_vN) rfl rfl ?_
  refine sx_RP.step (pc2 := 24) (ls2 := [(2, .int 66), (0, .ref 111), (1, .int a1)]) (st2 := []) (w3 := sx_vN) rfl rfl ?_
  refine sx_RP.step (pc2 := 25) (ls2 := [(2, .int 66), (0, .ref 111), (1, .int a1)]) (st2 := [.ref 111]) (w3 := sx_vN) rfl rfl ?_
  refine sx_RP.step (pc2 := 26) (ls2 := [(2, .int 66), (0, .ref 111), (1, .int a1)]) (st2 := [.int 66, .ref 111]) (w3 := sx_vN) rfl rfl ?_
  refine sx_RP.cu (as := [.ref 111, .int 66]) (rest2 := []) (st3 := [.int 0]) rfl rfl rfl rfl rfl (cl_206 _ 65 (by decide)) rfl ?_
  refine sx_RP.step (pc2 := 30) (ls2 := [(2, .int 66), (0, .ref 111), (1, .int a1)]) (st2 := [.int a1, .int 0]) (w3 := sx_vN) rfl rfl ?_
  refine sx_RP.br (p2 := 33) (l2 := [(2, .int 66), (0, .ref 111), (1, .int a1)]) (s2 := []) (v2 := sx_vN) rfl rfl (fun q => absurd (of_decide_eq_true q) hq) (fun _ => ?_)
  refine sx_RP.step (pc2 := 36) (ls2 := [(2, .int 65), (0, .ref 111), (1, .int a1)]) (st2 := []) (w3 := sx_vN) rfl rfl ?_
  refine sx_RP.step (pc2 := 20) (ls2 := [(2, .int 65), (0, .ref 111), (1, .int a1)]) (st2 := []) (w3 := sx_vN) rfl rfl ?_
  refine sx_RP.step (pc2 := 21) (ls2 := [(2, .int 65), (0, .ref 111), (1, .int a1)]) (st2 := [.int 65]) (w3 := sx_vN) rfl rfl ?_
  refine sx_RP.step (pc2 := 24) (ls2 := [(2, .int 65), (0, .ref 111), (1, .int a1)]) (st2 := []) (w3 := sx_vN) rfl rfl ?_
  refine sx_RP.step (pc2 := 25) (ls2 := [(2, .int 65), (0, .ref 111), (1, .int a1)]) (st2 := [.ref 111]) (w3 := sx_vN) rfl rfl ?_
  refine sx_RP.step (pc2 := 26) (ls2 := [(2, .int 65), (0, .ref 111), (1, .int a1)]) (st2 := [.int 65, .ref 111]) (w3 := sx_vN) rfl rfl ?_
  refine sx_RP.cu (as := [.ref 111, .int 65]) (rest2 := []) (st3 := [.int 0]) rfl rfl rfl rfl rfl (cl_206 _ 64 (by decide)) rfl ?_
  refine sx_RP.step (pc2 := 30) (ls2 := [(2, .int 65), (0, .ref 111), (1, .int a1)]) (st2 := [.int a1, .int 0]) (w3 := sx_vN) rfl rfl ?_
  refine sx_RP.br (p2 := 33) (l2 := [(2, .int 65), (0, .ref 111), (1, .int a1)]) (s2 := []) (v2 := sx_vN) rfl rfl (fun q => absurd (of_decide_eq_true q) hq) (fun _ => ?_)
  refine sx_RP.step (pc2 := 36) (ls2 := [(2, .int 64), (0, .ref 111), (1, .int a1)]) (st2 := []) (w3 := sx_vN) rfl rfl ?_
  refine sx_RP.step (pc2 := 20) (ls2 := [(2, .int 64), (0, .ref 111), (1, .int a1)]) (st2 := []) (w3 := sx_vN) rfl rfl ?_
  refine sx_RP.step (pc2 := 21) (ls2 := [(2, .int 64), (0, .ref 111), (1, .int a1)]) (st2 := [.int 64]) (w3 := sx_vN) rfl rfl ?_
  refine sx_RP.step (pc2 := 24) (ls2 := [(2, .int 64), (0, .ref 111), (1, .int a1)]) (st2 := []) (w3 := sx_vN) rfl rfl ?_
  refine sx_RP.step (pc2 := 25) (ls2 := [(2, .int 64), (0, .ref 111), (1, .int a1)]) (st2 := [.ref 111]) (w3 := sx_vN) rfl rfl ?_
  refine sx_RP.step (pc2 := 26) (ls2 := [(2, .int 64), (0, .ref 111), (1, .int a1)]) (st2 := [.int 64, .ref 111]) (w3 := sx_vN) rfl rfl ?_
  refine sx_RP.cu (as := [.ref 111, .int 64]) (rest2 := []) (st3 := [.int 0]) rfl rfl rfl rfl rfl (cl_206 _ 63 (by decide)) rfl ?_
  refine sx_RP.step (pc2 := 30) (ls2 := [(2, .int 64), (0, .ref 111), (1, .int a1)]) (st2 := [.int a1, .int 0]) (w3 := sx_vN) rfl rfl ?_
  refine sx_RP.br (p2 := 33) (l2 := [(2, .int 64), (0, .ref 111), (1, .int a1)]) (s2 := []) (v2 := sx_vN) rfl rfl (fun q => absurd (of_decide_eq_true q) hq) (fun _ => ?_)
  refine sx_RP.step (pc2 := 36) (ls2 := [(2, .int 63), (0, .ref 111), (1, .int a1)]) (st2 := []) (w3 := sx_vN) rfl rfl ?_
  refine sx_RP.step (pc2 := 20) (ls2 := [(2, .int 63), (0, .ref 111), (1, .int a1)]) (st2 := []) (w3 := sx_vN) rfl rfl ?_
  refine sx_RP.step (pc2 := 21) (ls2 := [(2, .int 63), (0, .ref 111), (1, .int a1)]) (st2 := [.int 63]) (w3 := sx_vN) rfl rfl ?_
  refine sx_RP.step (pc2 := 24) (ls2 := [(2, .int 63), (0, .ref 111), (1, .int a1)]) (st2 := []) (w3 := sx_vN) rfl rfl ?_
  refine sx_RP.step (pc2 := 25) (ls2 := [(2, .int 63), (0, .ref 111), (1, .int a1)]) (st2 := [.ref 111]) (w3 := sx_vN) rfl rfl ?_
  refine sx_RP.step (pc2 := 26) (ls2 := [(2, .int 63), (0, .ref 111), (1, .int a1)]) (st2 := [.int 63, .ref 111]) (w3 := sx_vN) rfl rfl ?_
  refine sx_RP.cu (as := [.ref 111, .int 63]) (rest2 := []) (st3 := [.int 0]) rfl rfl rfl rfl rfl (cl_206 _ 62 (by decide)) rfl ?_
  refine sx_RP.step (pc2 := 30) (ls2 := [(2, .int 63), (0, .ref 111), (1, .int a1)]) (st2 := [.int a1, .int 0]) (w3 := sx_vN) rfl rfl ?_
  refine sx_RP.br (p2 := 33) (l2 := [(2, .int 63), (0, .ref 111), (1, .int a1)]) (s2 := []) (v2 := sx_vN) rfl rfl (fun q => absurd (of_decide_eq_true q) hq) (fun _ => ?_)
  refine sx_RP.step (pc2 := 36) (ls2 := [(2, .int 62), (0, .ref 111), (1, .int a1)]) (st2 := []) (w3 := sx_vN) rfl rfl ?_
  refine sx_RP.step (pc2 := 20) (ls2 := [(2, .int 62), (0, .ref 111), (1, .int a1)]) (st2 := []) (w3 := sx_vN) rfl rfl ?_
  refine sx_RP.step (pc2 := 21) (ls2 := [(2, .int 62), (0, .ref 111), (1, .int a1)]) (st2 := [.int 62]) (w3 := sx_vN) rfl rfl ?_
  refine sx_RP.step (pc2 := 24) (ls2 := [(2, .int 62), (0, .ref 111), (1, .int a1)]) (st2 := []) (w3 := sx_vN) rfl rfl ?_
  refine sx_RP.step (pc2 := 25) (ls2 := [(2, .int 62), (0, .ref 111), (1, .int a1)]) (st2 := [.ref 111]) (w3 := sx_vN) rfl rfl ?_
  refine sx_RP.step (pc2 := 26) (ls2 := [(2, .int 62), (0, .ref 111), (1, .int a1)]) (st2 := [.int 62, .ref 111]) (w3 := sx_vN) rfl rfl ?_
  refine sx_RP.cu (as := [.ref 111, .int 62]) (rest2 := []) (st3 := [.int 0]) rfl rfl rfl rfl rfl (cl_206 _ 61 (by decide)) rfl ?_
  refine sx_RP.step (pc2 := 30) (ls2 := [(2, .int 62), (0, .ref 111), (1, .int a1)]) (st2 := [.int a1, .int 0]) (w3 := sx_vN) rfl rfl ?_
  refine sx_RP.br (p2 := 33) (l2 := [(2, .int 62), (0, .ref 111), (1, .int a1)]) (s2 := []) (v2 := sx_vN) rfl rfl (fun q => absurd (of_decide_eq_true q) hq) (fun _ => ?_)
  refine sx_RP.step (pc2 := 36) (ls2 := [(2, .int 61), (0, .ref 111), (1, .int a1)]) (st2 := []) (w3 := sx_vN) rfl rfl ?_
  refine sx_RP.step (pc2 := 20) (ls2 := [(2, .int 61), (0, .ref 111), (1, .int a1)]) (st2 := []) (w3 := sx_vN) rfl rfl ?_
  refine sx_RP.step (pc2 := 21) (ls2 := [(2, .int 61), (0, .ref 111), (1, .int a1)]) (st2 := [.int 61]) (w3 := sx_vN) rfl rfl ?_
  refine sx_RP.step (pc2 := 24) (ls2 := [(2, .int 61), (0, .ref 111), (1, .int a1)]) (st2 := []) (w3 := sx_vN) rfl rfl ?_
  refine sx_RP.step (pc2 := 25) (ls2 := [(2, .int 61), (0, .ref 111), (1, .int a1)]) (st2 := [.ref 111]) (w3 := sx_vN) rfl rfl ?_
  refine sx_RP.step (pc2 := 26) (ls2 := [(2, .int 61), (0, .ref 111), (1, .int a1)]) (st2 := [.int 61, .ref 111]) (w3 := sx_vN) rfl rfl ?_
  refine sx_RP.cu (as := [.ref 111, .int 61]) (rest2 := []) (st3 := [.int 0]) rfl rfl rfl rfl rfl (cl_206 _ 60 (by decide)) rfl ?_
  refine sx_RP.step (pc2 := 30) (ls2 := [(2, .int 61), (0, .ref 111), (1, .int a1)]) (st2 := [.int a1, .int 0]) (w3 := sx_vN) rfl rfl ?_
  refine sx_RP.br (p2 := 33) (l2 := [(2, .int 61), (0, .ref 111), (1, .int a1)]) (s2 := []) (v2 := sx_vN) rfl rfl (fun q => absurd (of_decide_eq_true q) hq) (fun _ => ?_)
  refine sx_RP.step (pc2 := 36) (ls2 := [(2, .int 60), (0, .ref 111), (1, .int a1)]) (st2 := []) (w3 := sx_vN) rfl rfl ?_
  refine sx_RP.step (pc2 := 20) (ls2 := [(2, .int 60), (0, .ref 111), (1, .int a1)]) (st2 := []) (w3 := sx_vN) rfl rfl ?_
  refine sx_RP.step (pc2 := 21) (ls2 := [(2, .int 60), (0, .ref 111), (1, .int a1)]) (st2 := [.int 60]) (w3 := sx_vN) rfl rfl ?_
  refine sx_RP.step (pc2 := 24) (ls2 := [(2, .int 60), (0, .ref 111), (1, .int a1)]) (st2 := []) (w3 := sx_vN) rfl rfl ?_
  refine sx_RP.step (pc2 := 25) (ls2 := [(2, .int 60), (0, .ref 111), (1, .int a1)]) (st2 := [.ref 111]) (w3 := sx_vN) rfl rfl ?_
  refine sx_RP.step (pc2 := 26) (ls2 := [(2, .int 60), (0, .ref 111), (1, .int a1)]) (st2 := [.int 60, .ref 111]) (w3 := sx_vN) rfl rfl ?_
  refine sx_RP.cu (as := [.ref 111, .int 60]) (rest2 := []) (st3 := [.int 0]) rfl rfl rfl rfl rfl (cl_206 _ 59 (by decide)) rfl ?_
  refine sx_RP.step (pc2 := 30) (ls2 := [(2, .int 60), (0, .ref 111), (1, .int a1)]) (st2 := [.int a1, .int 0]) (w3 := sx_vN) rfl rfl ?_
  refine sx_RP.br (p2 := 33) (l2 := [(2, .int 60), (0, .ref 111), (1, .int a1)]) (s2 := []) (v2 := sx_vN) rfl rfl (fun q => absurd (of_decide_eq_true q) hq) (fun _ => ?_)
  refine sx_RP.step (pc2 := 36) (ls2 := [(2, .int 59), (0, .ref 111), (1, .int a1)]) (st2 := []) (w3 := sx_vN) rfl rfl ?_
  refine sx_RP.step (pc2 := 20) (ls2 := [(2, .int 59), (0, .ref 111), (1, .int a1)]) (st2 := []) (w3 := sx_vN) rfl rfl ?_
  refine sx_RP.step (pc2 := 21) (ls2 := [(2, .int 59), (0, .ref 111), (1, .int a1)]) (st2 := [.int 59]) (w3 := sx_vN) rfl rfl ?_
  refine sx_RP.step (pc2 := 24) (ls2 := [(2, .int 59), (0, .ref 111), (1, .int a1)]) (st2 := []) (w3 := sx_vN) rfl rfl ?_
  refine sx_RP.step (pc2 := 25) (ls2 := [(2, .int 59), (0, .ref 111), (1, .int a1)]) (st2 := [.ref 111]) (w3 := sx_vN) rfl rfl ?_
  refine sx_RP.step (pc2 := 26) (ls2 := [(2, .int 59), (0, .ref 111), (1, .int a1)]) (st2 := [.int 59, .ref 111]) (w3 := sx_vN) rfl rfl ?_
  refine sx_RP.cu (as := [.ref 111, .int 59]) (rest2 := []) (st3 := [.int 0]) rfl rfl rfl rfl rfl (cl_206 _ 58 (by decide)) rfl ?_
  refine sx_RP.step (pc2 := 30) (ls2 := [(2, .int 59), (0, .ref 111), (1, .int a1)]) (st2 := [.int a1, .int 0]) (w3 := sx_vN) rfl rfl ?_
  refine sx_RP.br (p2 := 33) (l2 := [(2, .int 59), (0, .ref 111), (1, .int a1)]) (s2 := []) (v2 := sx_vN) rfl rfl (fun q => absurd (of_decide_eq_true q) hq) (fun _ => ?_)
  refine sx_RP.step (pc2 := 36) (ls2 := [(2, .int 58), (0, .ref 111), (1, .int a1)]) (st2 := []) (w3 := sx_vN) rfl rfl ?_
  refine sx_RP.step (pc2 := 20) (ls2 := [(2, .int 58), (0, .ref 111), (1, .int a1)]) (st2 := []) (w3 := sx_vN) rfl rfl ?_
  refine sx_RP.step (pc2 := 21) (ls2 := [(2, .int 58), (0, .ref 111), (1, .int a1)]) (st2 := [.int 58]) (w3 := sx_vN) rfl rfl ?_
  refine sx_RP.step (pc2 := 24) (ls2 := [(2, .int 58), (0, .ref 111), (1, .int a1)]) (st2 := []) (w3 := sx_vN) rfl rfl ?_
  refine sx_RP.step (pc2 := 25) (ls2 := [(2, .int 58), (0, .ref 111), (1, .int a1)]) (st2 := [.ref 111]) (w3 := sx_vN) rfl rfl ?_
  refine sx_RP.step (pc2 := 26) (ls2 := [(2, .int 58), (0, .ref 111), (1, .int a1)]) (st2 := [.int 58, .ref 111]) (w3 := sx_vN) rfl rfl ?_
  refine sx_RP.cu (as := [.ref 111, .int 58]) (rest2 := []) (st3 := [.int 0]) rfl rfl rfl rfl rfl (cl_206 _ 57 (by decide)) rfl ?_
  refine sx_RP.step (pc2 := 30) (ls2 := [(2, .int 58), (0, .ref 111), (1, .int a1)]) (st2 := [.int a1, .int 0]) (w3 := sx_vN) rfl rfl ?_
  refine sx_RP.br (p2 := 33) (l2 := [(2, .int 58), (0, .ref 111), (1, .int a1)]) (s2 := []) (v2 := sx_vN) rfl rfl (fun q => absurd (of_decide_eq_true q) hq) (fun _ => ?_)
  refine sx_RP.step (pc2 := 36) (ls2 := [(2, .int 57), (0, .ref 111), (1, .int a1)]) (st2 := []) (w3 := sx_vN) rfl rfl ?_
  refine sx_RP.step (pc2 := 20) (ls2 := [(2, .int 57), (0, .ref 111), (1, .int a1)]) (st2 := []) (w3 := sx_vN) rfl rfl ?_
  refine sx_RP.step (pc2 := 21) (ls2 := [(2, .int 57), (0, .ref 111), (1, .int a1)]) (st2 := [.int 57]) (w3 := sx_vN) rfl rfl ?_
  refine sx_RP.step (pc2 := 24) (ls2 := [(2, .int 57), (0, .ref 111), (1, .int a1)]) (st2 := []) (w3 := sx_vN) rfl rfl ?_
  refine sx_RP.step (pc2 := 25) (ls2 := [(2, .int 57), (0, .ref 111), (1, .int a1)]) (st2 := [.ref 111]) (w3 := sx_vN) rfl rfl ?_
  refine sx_RP.step (pc2 := 26) (ls2 := [(2, .int 57), (0, .ref 111), (1, .int a1)]) (st2 := [.int 57, .ref 111]) (w3 := sx_vN) rfl rfl ?_
  refine sx_RP.cu (as := [.ref 111, .int 57]) (rest2 := []) (st3 := [.int 0]) rfl rfl rfl rfl rfl (cl_206 _ 56 (by decide)) rfl ?_
  refine sx_RP.step (pc2 := 30) (ls2 := [(2, .int 57), (0, .ref 111), (1, .int a1)]) (st2 := [.int a1, .int 0]) (w3 := sx_vN) rfl rfl ?_
  refine sx_RP.br (p2 := 33) (l2 := [(2, .int 57), (0, .ref 111), (1, .int a1)]) (s2 := []) (v2 := sx_vN) rfl rfl (fun q => absurd (of_decide_eq_true q) hq) (fun _ => ?_)
  refine sx_RP.step (pc2 := 36) (ls2 := [(2, .int 56), (0, .ref 111), (1, .int a1)]) (st2 := []) (w3 := sx_vN) rfl rfl ?_
  refine sx_RP.step (pc2 := 20) (ls2 := [(2, .int 56), (0, .ref 111), (1, .int a1)]) (st2 := []) (w3 := sx_vN) rfl rfl ?_
  refine sx_RP.step (pc2 := 21) (ls2 := [(2, .int 56), (0, .ref 111), (1, .int a1)]) (st2 := [.int 56]) (w3 := sx_vN) rfl rfl ?_
  refine sx_RP.step (pc2 := 24) (ls2 := [(2, .int 56), (0, .ref 111), (1, .int a1)]) (st2 := []) (w3 := sx_vN) rfl rfl ?_
  refine sx_RP.step (pc2 := 25) (ls2 := [(2, .int 56), (0, .ref 111), (1, .int a1)]) (st2 := [.ref 111]) (w3 := sx_vN) rfl rfl ?_
  refine sx_RP.step (pc2 := 26) (ls2 := [(2, .int 56), (0, .ref 111), (1, .int a1)]) (st2 := [.int 56, .ref 111]) (w3 := sx_vN) rfl rfl ?_
  refine sx_RP.cu (as := [.ref 111, .int 56]) (rest2 := []) (st3 := [.int 0]) rfl rfl rfl rfl rfl (cl_206 _ 55 (by decide)) rfl ?_
  refine sx_RP.step (pc2 := 30) (ls2 := [(2, .int 56), (0, .ref 111), (1, .int a1)]) (st2 := [.int a1, .int 0]) (w3 := sx_vN) rfl rfl ?_
  refine sx_RP.br (p2 := 33) (l2 := [(2, .int 56), (0, .ref 111), (1, .int a1)]) (s2 := []) (v2 := sx_vN) rfl rfl (fun q => absurd (of_decide_eq_true q) hq) (fun _ => ?_)
  refine sx_RP.step (pc2 := 36) (ls2 := [(2, .int 55), (0, .ref 111), (1, .int a1)]) (st2 := []) (w3 := sx_vN) rfl rfl ?_
  refine sx_RP.step (pc2 := 20) (ls2 := [(2, .int 55), (0, .ref 111), (1, .int a1)]) (st2 := []) (w3 := sx_vN) rfl rfl ?_
  refine sx_RP.step (pc2 := 21) (ls2 := [(2, .int 55), (0, .ref 111), (1, .int a1)]) (st2 := [.int 55]) (w3 := sx_vN) rfl rfl ?_
  refine sx_RP.step (pc2 := 24) (ls2 := [(2, .int 55), (0, .ref 111), (1, .int a1)]) (st2 := []) (w3 := sx_vN) rfl rfl ?_
  refine sx_RP.step (pc2 := 25) (ls2 := [(2, .int 55), (0, .ref 111), (1, .int a1)]) (st2 := [.ref 111]) (w3 := sx_vN) rfl rfl ?_
  refine sx_RP.step (pc2 := 26) (ls2 := [(2, .int 55), (0, .ref 111), (1, .int a1)]) (st2 := [.int 55, .ref 111]) (w3 := sx_vN) rfl rfl ?_
  refine sx_RP.cu (as := [.ref 111, .int 55]) (rest2 := []) (st3 := [.int 0]) rfl rfl rfl rfl rfl (cl_206 _ 54 (by decide)) rfl ?_
  refine sx_RP.step (pc2 := 30) (ls2 := [(2, .int 55), (0, .ref 111), (1, .int a1)]) (st2 := [.int a1, .int 0]) (w3 := sx_vN) rfl rfl ?_
  refine sx_RP.br (p2 := 33) (l2 := [(2, .int 55), (0, .ref 111), (1, .int a1)]) (s2 := []) (v2 := sx_vN) rfl rfl (fun q => absurd (of_decide_eq_true q) hq) (fun _ => ?_)
  refine sx_RP.step (pc2 := 36) (ls2 := [(2, .int 54), (0, .ref 111), (1, .int a1)]) (st2 := []) (w3 := sx_vN) rfl rfl ?_
  refine sx_RP.step (pc2 := 20) (ls2 := [(2, .int 54), (0, .ref 111), (1, .int a1)]) (st2 := []) (w3 := sx_vN) rfl rfl ?_
  refine sx_RP.step (pc2 := 21) (ls2 := [(2, .int 54), (0, .ref 111), (1, .int a1)]) (st2 := [.int 54]) (w3 := sx_vN) rfl rfl ?_
  refine sx_RP.step (pc2 := 24) (ls2 := [(2, .int 54), (0, .ref 111), (1, .int a1)]) (st2 := []) (w3 := sx_vN) rfl rfl ?_
  refine sx_RP.step (pc2 := 25) (ls2 := [(2, .int 54), (0, .ref 111), (1, .int a1)]) (st2 := [.ref 111]) (w3 := sx_vN) rfl rfl ?_
  refine sx_RP.step (pc2 := 26) (ls2 := [(2, .int 54), (0, .ref 111), (1, .int a1)]) (st2 := [.int 54, .ref 111]) (w3 := sx_vN) rfl rfl ?_
  refine sx_RP.cu (as := [.ref 111, .int 54]) (rest2 := []) (st3 := [.int 0]) rfl rfl rfl rfl rfl (cl_206 _ 53 (by decide)) rfl ?_
  refine sx_RP.step (pc2 := 30) (ls2 := [(2, .int 54), (0, .ref 111), (1, .int a1)]) (st2 := [.int a1, .int 0]) (w3 := sx_vN) rfl rfl ?_
  refine sx_RP.br (p2 := 33) (l2 := [(2, .int 54), (0, .ref 111), (1, .int a1)]) (s2 := []) (v2 := sx_vN) rfl rfl (fun q => absurd (of_decide_eq_true q) hq) (fun _ => ?_)
  refine sx_RP.step (pc2 := 36) (ls2 := [(2, .int 53), (0, .ref 111), (1, .int a1)]) (st2 := []) (w3 := sx_vN) rfl rfl ?_
  refine sx_RP.step (pc2 := 20) (ls2 := [(2, .int 53), (0, .ref 111), (1, .int a1)]) (st2 := []) (w3 := sx_vN) rfl rfl ?_
  refine sx_RP.step (pc2 := 21) (ls2 := [(2, .int 53), (0, .ref 111), (1, .int a1)]) (st2 := [.int 53]) (w3 := sx_vN) rfl rfl ?_
  refine sx_RP.step (pc2 := 24) (ls2 := [(2, .int 53), (0, .ref 111), (1, .int a1)]) (st2 := []) (w3 := sx_vN) rfl rfl ?_
  refine sx_RP.step (pc2 := 25) (ls2 := [(2, .int 53), (0, .ref 111), (1, .int a1)]) (st2 := [.ref 111]) (w3 := sx_vN) rfl rfl ?_
  refine sx_RP.step (pc2 := 26) (ls2 := [(2, .int 53), (0, .ref 111), (1, .int a1)]) (st2 := [.int 53, .ref 111]) (w3 := sx_vN) rfl rfl ?_
  refine sx_RP.cu (as := [.ref 111, .int 53]) (rest2 := []) (st3 := [.int 0]) rfl rfl rfl rfl rfl (cl_206 _ 52 (by decide)) rfl ?_
  refine sx_RP.step (pc2 := 30) (ls2 := [(2, .int 53), (0, .ref 111), (1, .int a1)]) (st2 := [.int a1, .int 0]) (w3 := sx_vN) rfl rfl ?_
  refine sx_RP.br (p2 := 33) (l2 := [(2, .int 53), (0, .ref 111), (1, .int a1)]) (s2 := []) (v2 := sx_vN) rfl rfl (fun q => absurd (of_decide_eq_true q) hq) (fun _ => ?_)
  refine sx_RP.step (pc2 := 36) (ls2 := [(2, .int 52), (0, .ref 111), (1, .int a1)]) (st2 := []) (w3 := sx_vN) rfl rfl ?_
  refine sx_RP.step (pc2 := 20) (ls2 := [(2, .int 52), (0, .ref 111), (1, .int a1)]) (st2 := []) (w3 := sx_vN) rfl rfl ?_
  refine sx_RP.step (pc2 := 21) (ls2 := [(2, .int 52), (0, .ref 111), (1, .int a1)]) (st2 := [.int 52]) (w3 := sx_vN) rfl rfl ?_
  refine sx_RP.step (pc2 := 24) (ls2 := [(2, .int 52), (0, .ref 111), (1, .int a1)]) (st2 := []) (w3 := sx_vN) rfl rfl ?_
  refine sx_RP.step (pc2 := 25) (ls2 := [(2, .int 52), (0, .ref 111), (1, .int a1)]) (st2 := [.ref 111]) (w3 := sx_vN) rfl rfl ?_
  refine sx_RP.step (pc2 := 26) (ls2 := [(2, .int 52), (0, .ref 111), (1, .int a1)]) (st2 := [.int 52, .ref 111]) (w3 := sx_vN) rfl rfl ?_
  refine sx_RP.cu (as := [.ref 111, .int 52]) (rest2 := []) (st3 := [.int 0]) rfl rfl rfl rfl rfl (cl_206 _ 51 (by decide)) rfl ?_
  refine sx_RP.step (pc2 := 30) (ls2 := [(2, .int 52), (0, .ref 111), (1, .int a1)]) (st2 := [.int a1, .int 0]) (w3 := sx_vN) rfl rfl ?_
  refine sx_RP.br (p2 := 33) (l2 := [(2, .int 52), (0, .ref 111), (1, .int a1)]) (s2 := []) (v2 := sx_vN) rfl rfl (fun q => absurd (of_decide_eq_true q) hq) (fun _ => ?_)
  refine sx_RP.step (pc2 := 36) (ls2 := [(2, .int 51), (0, .ref 111), (1, .int a1)]) (st2 := []) (w3 := sx_vN) rfl rfl ?_
  refine sx_RP.step (pc2 := 20) (ls2 := [(2, .int 51), (0, .ref 111), (1, .int a1)]) (st2 := []) (w3 := sx_vN) rfl rfl ?_
  refine sx_RP.step (pc2 := 21) (ls2 := [(2, .int 51), (0, .ref 111), (1, .int a1)]) (st2 := [.int 51]) (w3 := sx_vN) rfl rfl ?_
  refine sx_RP.step (pc2 := 24) (ls2 := [(2, .int 51), (0, .ref 111), (1, .int a1)]) (st2 := []) (w3 := sx_vN) rfl rfl ?_
  refine sx_RP.step (pc2 := 25) (ls2 := [(2, .int 51), (0, .ref 111), (1, .int a1)]) (st2 := [.ref 111]) (w3 := sx_vN) rfl rfl ?_
  refine sx_RP.step (pc2 := 26) (ls2 := [(2, .int 51), (0, .ref 111), (1, .int a1)]) (st2 := [.int 51, .ref 111]) (w3 := sx_vN) rfl rfl ?_
  refine sx_RP.cu (as := [.ref 111, .int 51]) (rest2 := []) (st3 := [.int 0]) rfl rfl rfl rfl rfl (cl_206 _ 50 (by decide)) rfl ?_
  refine sx_RP.step (pc2 := 30) (ls2 := [(2, .int 51), (0, .ref 111), (1, .int a1)]) (st2 := [.int a1, .int 0]) (w3 := sx_vN) rfl rfl ?_
  refine sx_RP.br (p2 := 33) (l2 := [(2, .int 51), (0, .ref 111), (1, .int a1)]) (s2 := []) (v2 := sx_vN) rfl rfl (fun q => absurd (of_decide_eq_true q) hq) (fun _ => ?_)
  refine sx_RP.step (pc2 := 36) (ls2 := [(2, .int 50), (0, .ref 111), (1, .int a1)]) (st2 := []) (w3 := sx_vN) rfl rfl ?_
  refine sx_RP.step (pc2 := 20) (ls2 := [(2, .int 50), (0, .ref 111), (1, .int a1)]) (st2 := []) (w3 := sx_vN) rfl rfl ?_
  refine sx_RP.step (pc2 := 21) (ls2 := [(2, .int 50), (0, .ref 111), (1, .int a1)]) (st2 := [.int 50]) (w3 := sx_vN) rfl rfl ?_
  refine sx_RP.step (pc2 := 24) (ls2 := [(2, .int 50), (0, .ref 111), (1, .int a1)]) (st2 := []) (w3 := sx_vN) rfl rfl ?_
  refine sx_RP.step (pc2 := 25) (ls2 := [(2, .int 50), (0, .ref 111), (1, .int a1)]) (st2 := [.ref 111]) (w3 := sx_vN) rfl rfl ?_
  refine sx_RP.step (pc2 := 26) (ls2 := [(2, .int 50), (0, .ref 111), (1, .int a1)]) (st2 := [.int 50, .ref 111]) (w3 := sx_vN) rfl rfl ?_
  refine sx_RP.cu (as := [.ref 111, .int 50]) (rest2 := []) (st3 := [.int 0]) rfl rfl rfl rfl rfl (cl_206 _ 49 (by decide)) rfl ?_
  refine sx_RP.step (pc2 := 30) (ls2 := [(2, .int 50), (0, .ref 111), (1, .int a1)]) (st2 := [.int a1, .int 0]) (w3 := sx_vN) rfl rfl ?_
  refine sx_RP.br (p2 := 33) (l2 := [(2, .int 50), (0, .ref 111), (1, .int a1)]) (s2 := []) (v2 := sx_vN) rfl rfl (fun q => absurd (of_decide_eq_true q) hq) (fun _ => ?_)
  refine sx_RP.step (pc2 := 36) (ls2 := [(2, .int 49), (0, .ref 111), (1, .int a1)]) (st2 := []) (w3 := sx_vN) rfl rfl ?_
  refine sx_RP.step (pc2 := 20) (ls2 := [(2, .int 49), (0, .ref 111), (1, .int a1)]) (st2 := []) (w3 := sx_vN) rfl rfl ?_
  refine sx_RP.step (pc2 := 21) (ls2 := [(2, .int 49), (0, .ref 111), (1, .int a1)]) (st2 := [.int 49]) (w3 := sx_vN) rfl rfl ?_
  refine sx_RP.step (pc2 := 24) (ls2 := [(2, .int 49), (0, .ref 111), (1, .int a1)]) (st2 := []) (w3 := sx_vN) rfl rfl ?_
  refine sx_RP.step (pc2 := 25) (ls2 := [(2, .int 49), (0, .ref 111), (1, .int a1)]) (st2 := [.ref 111]) (w3 := sx_vN) rfl rfl ?_
  refine sx_RP.step (pc2 := 26) (ls2 := [(2, .int 49), (0, .ref 111), (1, .int a1)]) (st2 := [.int 49, .ref 111]) (w3 := sx_vN) rfl rfl ?_
  refine sx_RP.cu (as := [.ref 111, .int 49]) (rest2 := []) (st3 := [.int 0]) rfl rfl rfl rfl rfl (cl_206 _ 48 (by decide)) rfl ?_
  refine sx_RP.step (pc2 := 30) (ls2 := [(2, .int 49), (0, .ref 111), (1, .int a1)]) (st2 := [.int a1, .int 0]) (w3 := sx_vN) rfl rfl ?_
  refine sx_RP.br (p2 := 33) (l2 := [(2, .int 49), (0, .ref 111), (1, .int a1)]) (s2 := []) (v2 := sx_vN) rfl rfl (fun q => absurd (of_decide_eq_true q) hq) (fun _ => ?_)
  refine sx_RP.step (pc2 := 36) (ls2 := [(2, .int 48), (0, .ref 111), (1, .int a1)]) (st2 := []) (w3 := sx_vN) rfl rfl ?_
  refine sx_RP.step (pc2 := 20) (ls2 := [(2, .int 48), (0, .ref 111), (1, .int a1)]) (st2 := []) (w3 := sx_vN) rfl rfl ?_
  refine sx_RP.step (pc2 := 21) (ls2 := [(2, .int 48), (0, .ref 111), (1, .int a1)]) (st2 := [.int 48]) (w3 := sx_vN) rfl rfl ?_
  refine sx_RP.step (pc2 := 24) (ls2 := [(2, .int 48), (0, .ref 111), (1, .int a1)]) (st2 := []) (w3 := sx_vN) rfl rfl ?_
  refine sx_RP.step (pc2 := 25) (ls2 := [(2, .int 48), (0, .ref 111), (1, .int a1)]) (st2 := [.ref 111]) (w3 := sx_vN) rfl rfl ?_
  refine sx_RP.step (pc2 := 26) (ls2 := [(2, .int 48), (0, .ref 111), (1, .int a1)]) (st2 := [.int 48, .ref 111]) (w3 := sx_vN) rfl rfl ?_
  refine sx_RP.cu (as := [.ref 111, .int 48]) (rest2 := []) (st3 := [.int 0]) rfl rfl rfl rfl rfl (cl_206 _ 47 (by decide)) rfl ?_
  refine sx_RP.step (pc2 := 30) (ls2 := [(2, .int 48), (0, .ref 111), (1, .int a1)]) (st2 := [.int a1, .int 0]) (w3 := sx_vN) rfl rfl ?_
  refine sx_RP.br (p2 := 33) (l2 := [(2, .int 48), (0, .ref 111), (1, .int a1)]) (s2 := []) (v2 := sx_vN) rfl rfl (fun q => absurd (of_decide_eq_true q) hq) (fun _ => ?_)
  refine sx_RP.step (pc2 := 36) (ls2 := [(2, .int 47), (0, .ref 111), (1, .int a1)]) (st2 := []) (w3 := sx_vN) rfl rfl ?_
  refine sx_RP.step (pc2 := 20) (ls2 := [(2, .int 47), (0, .ref 111), (1, .int a1)]) (st2 := []) (w3 := sx_vN) rfl rfl ?_
  refine sx_RP.step (pc2 := 21) (ls2 := [(2, .int 47), (0, .ref 111), (1, .int a1)]) (st2 := [.int 47]) (w3 := sx_vN) rfl rfl ?_
  refine sx_RP.step (pc2 := 24) (ls2 := [(2, .int 47), (0, .ref 111), (1, .int a1)]) (st2 := []) (w3 := sx_vN) rfl rfl ?_
  refine sx_RP.step (pc2 := 25) (ls2 := [(2, .int 47), (0, .ref 111), (1, .int a1)]) (st2 := [.ref 111]) (w3 := sx_vN) rfl rfl ?_
  refine sx_RP.step (pc2 := 26) (ls2 := [(2, .int 47), (0, .ref 111), (1, .int a1)]) (st2 := [.int 47, .ref 111]) (w3 := sx_vN) rfl rfl ?_
  refine sx_RP.cu (as := [.ref 111, .int 47]) (rest2 := []) (st3 := [.int 0]) rfl rfl rfl rfl rfl (cl_206 _ 46 (by decide)) rfl ?_
  refine sx_RP.step (pc2 := 30) (ls2 := [(2, .int 47), (0, .ref 111), (1, .int a1)]) (st2 := [.int a1, .int 0]) (w3 := sx_vN) rfl rfl ?_
  refine sx_RP.br (p2 := 33) (l2 := [(2, .int 47), (0, .ref 111), (1, .int a1)]) (s2 := []) (v2 := sx_vN) rfl rfl (fun q => absurd (of_decide_eq_true q) hq) (fun _ => ?_)
  refine sx_RP.step (pc2 := 36) (ls2 := [(2, .int 46), (0, .ref 111), (1, .int a1)]) (st2 := []) (w3 := sx_vN) rfl rfl ?_
  refine sx_RP.step (pc2 := 20) (ls2 := [(2, .int 46), (0, .ref 111), (1, .int a1)]) (st2 := []) (w3 := sx_vN) rfl rfl ?_
  refine sx_RP.step (pc2 := 21) (ls2 := [(2, .int 46), (0, .ref 111), (1, .int a1)]) (st2 := [.int 46]) (w3 := sx_vN) rfl rfl ?_
  refine sx_RP.step (pc2 := 24) (ls2 := [(2, .int 46), (0, .ref 111), (1, .int a1)]) (st2 := []) (w3 := sx_vN) rfl rfl ?_
  refine sx_RP.step (pc2 := 25) (ls2 := [(2, .int 46), (0, .ref 111), (1, .int a1)]) (st2 := [.ref 111]) (w3 := sx_vN) rfl rfl ?_
  refine sx_RP.step (pc2 := 26) (ls2 := [(2, .int 46), (0, .ref 111), (1, .int a1)]) (st2 := [.int 46, .ref 111]) (w3 := sx_vN) rfl rfl ?_
  refine sx_RP.cu (as := [.ref 111, .int 46]) (rest2 := []) (st3 := [.int 0]) rfl rfl rfl rfl rfl (cl_206 _ 45 (by decide)) rfl ?_
  refine sx_RP.step (pc2 := 30) (ls2 := [(2, .int 46), (0, .ref 111), (1, .int a1)]) (st2 := [.int a1, .int 0]) (w3 := sx_vN) rfl rfl ?_
  refine sx_RP.br (p2 := 33) (l2 := [(2, .int 46), (0, .ref 111), (1, .int a1)]) (s2 := []) (v2 := sx_vN) rfl rfl (fun q => absurd (of_decide_eq_true q) hq) (fun _ => ?_)
  refine sx_RP.step (pc2 := 36) (ls2 := [(2, .int 45), (0, .ref 111), (1, .int a1)]) (st2 := []) (w3 := sx_vN) rfl rfl ?_
  refine sx_RP.step (pc2 := 20) (ls2 := [(2, .int 45), (0, .ref 111), (1, .int a1)]) (st2 := []) (w3 := sx_vN) rfl rfl ?_
  refine sx_RP.step (pc2 := 21) (ls2 := [(2, .int 45), (0, .ref 111), (1, .int a1)]) (st2 := [.int 45]) (w3 := sx_vN) rfl rfl ?_
  refine sx_RP.step (pc2 := 24) (ls2 := [(2, .int 45), (0, .ref 111), (1, .int a1)]) (st2 := []) (w3 := sx_vN) rfl rfl ?_
  refine sx_RP.step (pc2 := 25) (ls2 := [(2, .int 45), (0, .ref 111), (1, .int a1)]) (st2 := [.ref 111]) (w3 := sx_vN) rfl rfl ?_
  refine sx_RP.step (pc2 := 26) (ls2 := [(2, .int 45), (0, .ref 111), (1, .int a1)]) (st2 := [.int 45, .ref 111]) (w3 := sx_vN) rfl rfl ?_
  refine sx_RP.cu (as := [.ref 111, .int 45]) (rest2 := []) (st3 := [.int 0]) rfl rfl rfl rfl rfl (cl_206 _ 44 (by decide)) rfl ?_
  refine sx_RP.step (pc2 := 30) (ls2 := [(2, .int 45), (0, .ref 111), (1, .int a1)]) (st2 := [.int a1, .int 0]) (w3 := sx_vN) rfl rfl ?_
  refine sx_RP.br (p2 := 33) (l2 := [(2, .int 45), (0, .ref 111), (1, .int a1)]) (s2 := []) (v2 := sx_vN) rfl rfl (fun q => absurd (of_decide_eq_true q) hq) (fun _ => ?_)
  refine sx_RP.step (pc2 := 36) (ls2 := [(2, .int 44), (0, .ref 111), (1, .int a1)]) (st2 := []) (w3 := sx_vN) rfl rfl ?_
  refine sx_RP.step (pc2 := 20) (ls2 := [(2, .int 44), (0, .ref 111), (1, .int a1)]) (st2 := []) (w3 := sx_vN) rfl rfl ?_
  refine sx_RP.step (pc2 := 21) (ls2 := [(2, .int 44), (0, .ref 111), (1, .int a1)]) (st2 := [.int 44]) (w3 := sx_vN) rfl rfl ?_
  refine sx_RP.step (pc2 := 24) (ls2 := [(2, .int 44), (0, .ref 111), (1, .int a1)]) (st2 := []) (w3 := sx_vN) rfl rfl ?_
  refine sx_RP.step (pc2 := 25) (ls2 := [(2, .int 44), (0, .ref 111), (1, .int a1)]) (st2 := [.ref 111]) (w3 := sx_vN) rfl rfl ?_
  refine sx_RP.step (pc2 := 26) (ls2 := [(2, .int 44), (0, .ref 111), (1, .int a1)]) (st2 := [.int 44, .ref 111]) (w3 := sx_vN) rfl rfl ?_
  refine sx_RP.cu (as := [.ref 111, .int 44]) (rest2 := []) (st3 := [.int 0]) rfl rfl rfl rfl rfl (cl_206 _ 43 (by decide)) rfl ?_
  refine sx_RP.step (pc2 := 30) (ls2 := [(2, .int 44), (0, .ref 111), (1, .int a1)]) (st2 := [.int a1, .int 0]) (w3 := sx_vN) rfl rfl ?_
  refine sx_RP.br (p2 := 33) (l2 := [(2, .int 44), (0, .ref 111), (1, .int a1)]) (s2 := []) (v2 := sx_vN) rfl rfl (fun q => absurd (of_decide_eq_true q) hq) (fun _ => ?_)
  refine sx_RP.step (pc2 := 36) (ls2 := [(2, .int 43), (0, .ref 111), (1, .int a1)]) (st2 := []) (w3 := sx_vN) rfl rfl ?_
  refine sx_RP.step (pc2 := 20) (ls2 := [(2, .int 43), (0, .ref 111), (1, .int a1)]) (st2 := []) (w3 := sx_vN) rfl rfl ?_
  refine sx_RP.step (pc2 := 21) (ls2 := [(2, .int 43), (0, .ref 111), (1, .int a1)]) (st2 := [.int 43]) (w3 := sx_vN) rfl rfl ?_
  refine sx_RP.step (pc2 := 24) (ls2 := [(2, .int 43), (0, .ref 111), (1, .int a1)]) (st2 := []) (w3 := sx_vN) rfl rfl ?_
  refine sx_RP.step (pc2 := 25) (ls2 := [(2, .int 43), (0, .ref 111), (1, .int a1)]) (st2 := [.ref 111]) (w3 := sx_vN) rfl rfl ?_
  refine sx_RP.step (pc2 := 26) (ls2 := [(2, .int 43), (0, .ref 111), (1, .int a1)]) (st2 := [.int 43, .ref 111]) (w3 := sx_vN) rfl rfl ?_
  refine sx_RP.cu (as := [.ref 111, .int 43]) (rest2 := []) (st3 := [.int 0]) rfl rfl rfl rfl rfl (cl_206 _ 42 (by decide)) rfl ?_
  refine sx_RP.step (pc2 := 30) (ls2 := [(2, .int 43), (0, .ref 111), (1, .int a1)]) (st2 := [.int a1, .int 0]) (w3 := sx_vN) rfl rfl ?_
  refine sx_RP.br (p2 := 33) (l2 := [(2, .int 43), (0, .ref 111), (1, .int a1)]) (s2 := []) (v2 := sx_vN) rfl rfl (fun q => absurd (of_decide_eq_true q) hq) (fun _ => ?_)
  refine sx_RP.step (pc2 := 36) (ls2 := [(2, .int 42), (0, .ref 111), (1, .int a1)]) (st2 := []) (w3 := sx_vN) rfl rfl ?_
  refine sx_RP.step (pc2 := 20) (ls2 := [(2, .int 42), (0, .ref 111), (1, .int a1)]) (st2 := []) (w3 := sx_vN) rfl rfl ?_
  refine sx_RP.step (pc2 := 21) (ls2 := [(2, .int 42), (0, .ref 111), (1, .int a1)]) (st2 := [.int 42]) (w3 := sx_vN) rfl rfl ?_
  refine sx_RP.step (pc2 := 24) (ls2 := [(2, .int 42), (0, .ref 111), (1, .int a1)]) (st2 := []) (w3 := sx_vN) rfl rfl ?_
  refine sx_RP.step (pc2 := 25) (ls2 := [(2, .int 42), (0, .ref 111), (1, .int a1)]) (st2 := [.ref 111]) (w3 := sx_vN) rfl rfl ?_
  refine sx_RP.step (pc2 := 26) (ls2 := [(2, .int 42), (0, .ref 111), (1, .int a1)]) (st2 := [.int 42, .ref 111]) (w3 := sx_vN) rfl rfl ?_
  refine sx_RP.cu (as := [.ref 111, .int 42]) (rest2 := []) (st3 := [.int 0]) rfl rfl rfl rfl rfl (cl_206 _ 41 (by decide)) rfl ?_
  refine sx_RP.step (pc2 := 30) (ls2 := [(2, .int 42), (0, .ref 111), (1, .int a1)]) (st2 := [.int a1, .int 0]) (w3 := sx_vN) rfl rfl ?_
  refine sx_RP.br (p2 := 33) (l2 := [(2, .int 42), (0, .ref 111), (1, .int a1)]) (s2 := []) (v2 := sx_vN) rfl rfl (fun q => absurd (of_decide_eq_true q) hq) (fun _ => ?_)
  refine sx_RP.step (pc2 := 36) (ls2 := [(2, .int 41), (0, .ref 111), (1, .int a1)]) (st2 := []) (w3 := sx_vN) rfl rfl ?_
  refine sx_RP.step (pc2 := 20) (ls2 := [(2, .int 41), (0, .ref 111), (1, .int a1)]) (st2 := []) (w3 := sx_vN) rfl rfl ?_
  refine sx_RP.step (pc2 := 21) (ls2 := [(2, .int 41), (0, .ref 111), (1, .int a1)]) (st2 := [.int 41]) (w3 := sx_vN) rfl rfl ?_
  refine sx_RP.step (pc2 := 24) (ls2 := [(2, .int 41), (0, .ref 111), (1, .int a1)]) (st2 := []) (w3 := sx_vN) rfl rfl ?_
  refine sx_RP.step (pc2 := 25) (ls2 := [(2, .int 41), (0, .ref 111), (1, .int a1)]) (st2 := [.ref 111]) (w3 := sx_vN) rfl rfl ?_
  refine sx_RP.step (pc2 := 26) (ls2 := [(2, .int 41), (0, .ref 111), (1, .int a1)]) (st2 := [.int 41, .ref 111]) (w3 := sx_vN) rfl rfl ?_
  refine sx_RP.cu (as := [.ref 111, .int 41]) (rest2 := []) (st3 := [.int 0]) rfl rfl rfl rfl rfl (cl_206 _ 40 (by decide)) rfl ?_
  refine sx_RP.step (pc2 := 30) (ls2 := [(2, .int 41), (0, .ref 111), (1, .int a1)]) (st2 := [.int a1, .int 0]) (w3 := sx_vN) rfl rfl ?_
  refine sx_RP.br (p2 := 33) (l2 := [(2, .int 41), (0, .ref 111), (1, .int a1)]) (s2 := []) (v2 := sx_vN) rfl rfl (fun q => absurd (of_decide_eq_true q) hq) (fun _ => ?_)
  refine sx_RP.step (pc2 := 36) (ls2 := [(2, .int 40), (0, .ref 111), (1, .int a1)]) (st2 := []) (w3 := sx_vN) rfl rfl ?_
  refine sx_RP.step (pc2 := 20) (ls2 := [(2, .int 40), (0, .ref 111), (1, .int a1)]) (st2 := []) (w3 := sx_vN) rfl rfl ?_
  refine sx_RP.step (pc2 := 21) (ls2 := [(2, .int 40), (0, .ref 111), (1, .int a1)]) (st2 := [.int 40]) (w3 := sx_vN) rfl rfl ?_
  refine sx_RP.step (pc2 := 24) (ls2 := [(2, .int 40), (0, .ref 111), (1, .int a1)]) (st2 := []) (w3 := sx_vN) rfl rfl ?_
  refine sx_RP.step (pc2 := 25) (ls2 := [(2, .int 40), (0, .ref 111), (1, .int a1)]) (st2 := [.ref 111]) (w3 := sx_vN) rfl rfl ?_
  refine sx_RP.step (pc2 := 26) (ls2 := [(2, .int 40), (0, .ref 111), (1, .int a1)]) (st2 := [.int 40, .ref 111]) (w3 := sx_vN) rfl rfl ?_
  refine sx_RP.cu (as := [.ref 111, .int 40]) (rest2 := []) (st3 := [.int 0]) rfl rfl rfl rfl rfl (cl_206 _ 39 (by decide)) rfl ?_
  refine sx_RP.step (pc2 := 30) (ls2 := [(2, .int 40), (0, .ref 111), (1, .int a1)]) (st2 := [.int a1, .int 0]) (w3 := sx_vN) rfl rfl ?_
  refine sx_RP.br (p2 := 33) (l2 := [(2, .int 40), (0, .ref 111), (1, .int a1)]) (s2 := []) (v2 := sx_vN) rfl rfl (fun q => absurd (of_decide_eq_true q) hq) (fun _ => ?_)
  refine sx_RP.step (pc2 := 36) (ls2 := [(2, .int 39), (0, .ref 111), (1, .int a1)]) (st2 := []) (w3 := sx_vN) rfl rfl ?_
  refine sx_RP.step (pc2 := 20) (ls2 := [(2, .int 39), (0, .ref 111), (1, .int a1)]) (st2 := []) (w3 := sx_vN) rfl rfl ?_
  refine sx_RP.step (pc2 := 21) (ls2 := [(2, .int 39), (0, .ref 111), (1, .int a1)]) (st2 := [.int 39]) (w3 := sx_vN) rfl rfl ?_
  refine sx_RP.step (pc2 := 24) (ls2 := [(2, .int 39), (0, .ref 111), (1, .int a1)]) (st2 := []) (w3 := sx_vN) rfl rfl ?_
  refine sx_RP.step (pc2 := 25) (ls2 := [(2, .int 39), (0, .ref 111), (1, .int a1)]) (st2 := [.ref 111]) (w3 := sx_vN) rfl rfl ?_
  refine sx_RP.step (pc2 := 26) (ls2 := [(2, .int 39), (0, .ref 111), (1, .int a1)]) (st2 := [.int 39, .ref 111]) (w3 := sx_vN) rfl rfl ?_
  refine sx_RP.cu (as := [.ref 111, .int 39]) (rest2 := []) (st3 := [.int 0]) rfl rfl rfl rfl rfl (cl_206 _ 38 (by decide)) rfl ?_
  refine sx_RP.step (pc2 := 30) (ls2 := [(2, .int 39), (0, .ref 111), (1, .int a1)]) (st2 := [.int a1, .int 0]) (w3 := sx_vN) rfl rfl ?_
  refine sx_RP.br (p2 := 33) (l2 := [(2, .int 39), (0, .ref 111), (1, .int a1)]) (s2 := []) (v2 := sx_vN) rfl rfl (fun q => absurd (of_decide_eq_true q) hq) (fun _ => ?_)
  refine sx_RP.step (pc2 := 36) (ls2 := [(2, .int 38), (0, .ref 111), (1, .int a1)]) (st2 := []) (w3 := sx_vN) rfl rfl ?_
  refine sx_RP.step (pc2 := 20) (ls2 := [(2, .int 38), (0, .ref 111), (1, .int a1)]) (st2 := []) (w3 := sx_vN) rfl rfl ?_
  refine sx_RP.step (pc2 := 21) (ls2 := [(2, .int 38), (0, .ref 111), (1, .int a1)]) (st2 := [.int 38]) (w3 := sx_vN) rfl rfl ?_
  refine sx_RP.step (pc2 := 24) (ls2 := [(2, .int 38), (0, .ref 111), (1, .int a1)]) (st2 := []) (w3 := sx_vN) rfl rfl ?_
  refine sx_RP.step (pc2 := 25) (ls2 := [(2, .int 38), (0, .ref 111), (1, .int a1)]) (st2 := [.ref 111]) (w3 := sx_vN) rfl rfl ?_
  refine sx_RP.step (pc2 := 26) (ls2 := [(2, .int 38), (0, .ref 111), (1, .int a1)]) (st2 := [.int 38, .ref 111]) (w3 := sx_vN) rfl rfl ?_
  refine sx_RP.cu (as := [.ref 111, .int 38]) (rest2 := []) (st3 := [.int 0]) rfl rfl rfl rfl rfl (cl_206 _ 37 (by decide)) rfl ?_
  refine sx_RP.step (pc2 := 30) (ls2 := [(2, .int 38), (0, .ref 111), (1, .int a1)]) (st2 := [.int a1, .int 0]) (w3 := sx_vN) rfl rfl ?_
  refine sx_RP.br (p2 := 33) (l2 := [(2, .int 38), (0, .ref 111), (1, .int a1)]) (s2 := []) (v2 := sx_vN) rfl rfl (fun q => absurd (of_decide_eq_true q) hq) (fun _ => ?_)
  refine sx_RP.step (pc2 := 36) (ls2 := [(2, .int 37), (0, .ref 111), (1, .int a1)]) (st2 := []) (w3 := sx_vN) rfl rfl ?_
  refine sx_RP.step (pc2 := 20) (ls2 := [(2, .int 37), (0, .ref 111), (1, .int a1)]) (st2 := []) (w3 := sx_vN) rfl rfl ?_
  refine sx_RP.step (pc2 := 21) (ls2 := [(2, .int 37), (0, .ref 111), (1, .int a1)]) (st2 := [.int 37]) (w3 := sx_vN) rfl rfl ?_
  refine sx_RP.step (pc2 := 24) (ls2 := [(2, .int 37), (0, .ref 111), (1, .int a1)]) (st2 := []) (w3 := sx_vN) rfl rfl ?_
  refine sx_RP.step (pc2 := 25) (ls2 := [(2, .int 37), (0, .ref 111), (1, .int a1)]) (st2 := [.ref 111]) (w3 := sx_vN) rfl rfl ?_
  refine sx_RP.step (pc2 := 26) (ls2 := [(2, .int 37), (0, .ref 111), (1, .int a1)]) (st2 := [.int 37, .ref 111]) (w3 := sx_vN) rfl rfl ?_
  refine sx_RP.cu (as := [.ref 111, .int 37]) (rest2 := []) (st3 := [.int 0]) rfl rfl rfl rfl rfl (cl_206 _ 36 (by decide)) rfl ?_
  refine sx_RP.step (pc2 := 30) (ls2 := [(2, .int 37), (0, .ref 111), (1, .int a1)]) (st2 := [.int a1, .int 0]) (w3 := sx_vN) rfl rfl ?_
  refine sx_RP.br (p2 := 33) (l2 := [(2, .int 37), (0, .ref 111), (1, .int a1)]) (s2 := []) (v2 := sx_vN) rfl rfl (fun q => absurd (of_decide_eq_true q) hq) (fun _ => ?_)
  refine sx_RP.step (pc2 := 36) (ls2 := [(2, .int 36), (0, .ref 111), (1, .int a1)]) (st2 := []) (w3 := sx_vN) rfl rfl ?_
  refine sx_RP.step (pc2 := 20) (ls2 := [(2, .int 36), (0, .ref 111), (1, .int a1)]) (st2 := []) (w3 := sx_vN) rfl rfl ?_
  refine sx_RP.step (pc2 := 21) (ls2 := [(2, .int 36), (0, .ref 111), (1, .int a1)]) (st2 := [.int 36]) (w3 := sx_vN) rfl rfl ?_
  refine sx_RP.step (pc2 := 24) (ls2 := [(2, .int 36), (0, .ref 111), (1, .int a1)]) (st2 := []) (w3 := sx_vN) rfl rfl ?_
  refine sx_RP.step (pc2 := 25) (ls2 := [(2, .int 36), (0, .ref 111), (1, .int a1)]) (st2 := [.ref 111]) (w3 := sx_vN) rfl rfl ?_
  refine sx_RP.step (pc2 := 26) (ls2 := [(2, .int 36), (0, .ref 111), (1, .int a1)]) (st2 := [.int 36, .ref 111]) (w3 := sx_vN) rfl rfl ?_
  refine sx_RP.cu (as := [.ref 111, .int 36]) (rest2 := []) (st3 := [.int 0]) rfl rfl rfl rfl rfl (cl_206 _ 35 (by decide)) rfl ?_
  refine sx_RP.step (pc2 := 30) (ls2 := [(2, .int 36), (0, .ref 111), (1, .int a1)]) (st2 := [.int a1, .int 0]) (w3 := sx_vN) rfl rfl ?_
  refine sx_RP.br (p2 := 33) (l2 := [(2, .int 36), (0, .ref 111), (1, .int a1)]) (s2 := []) (v2 := sx_vN) rfl rfl (fun q => absurd (of_decide_eq_true q) hq) (fun _ => ?_)
  refine sx_RP.step (pc2 := 36) (ls2 := [(2, .int 35), (0, .ref 111), (1, .int a1)]) (st2 := []) (w3 := sx_vN) rfl rfl ?_
  refine sx_RP.step (pc2 := 20) (ls2 := [(2, .int 35), (0, .ref 111), (1, .int a1)]) (st2 := []) (w3 := sx_vN) rfl rfl ?_
  refine sx_RP.step (pc2 := 21) (ls2 := [(2, .int 35), (0, .ref 111), (1, .int a1)]) (st2 := [.int 35]) (w3 := sx_vN) rfl rfl ?_
  refine sx_RP.step (pc2 := 24) (ls2 := [(2, .int 35), (0, .ref 111), (1, .int a1)]) (st2 := []) (w3 := sx_vN) rfl rfl ?_
  refine sx_RP.step (pc2 := 25) (ls2 := [(2, .int 35), (0, .ref 111), (1, .int a1)]) (st2 := [.ref 111]) (w3 := sx_vN) rfl rfl ?_
  refine sx_RP.step (pc2 := 26) (ls2 := [(2, .int 35), (0, .ref 111), (1, .int a1)]) (st2 := [.int 35, .ref 111]) (w3 := sx_vN) rfl rfl ?_
  refine sx_RP.cu (as := [.ref 111, .int 35]) (rest2 := []) (st3 := [.int 0]) rfl rfl rfl rfl rfl (cl_206 _ 34 (by decide)) rfl ?_
  refine sx_RP.step (pc2 := 30) (ls2 := [(2, .int 35), (0, .ref 111), (1, .int a1)]) (st2 := [.int a1, .int 0]) (w3 := sx_vN) rfl rfl ?_
  refine sx_RP.br (p2 := 33) (l2 := [(2, .int 35), (0, .ref 111), (1, .int a1)]) (s2 := []) (v2 := sx_vN) rfl rfl (fun q => absurd (of_decide_eq_true q) hq) (fun _ => ?_)
  refine sx_RP.step (pc2 := 36) (ls2 := [(2, .int 34), (0, .ref 111), (1, .int a1)]) (st2 := []) (w3 := sx_vN) rfl rfl ?_
  refine sx_RP.step (pc2 := 20) (ls2 := [(2, .int 34), (0, .ref 111), (1, .int a1)]) (st2 := []) (w3 := sx_vN) rfl rfl ?_
  refine sx_RP.step (pc2 := 21) (ls2 := [(2, .int 34), (0, .ref 111), (1, .int a1)]) (st2 := [.int 34]) (w3 := sx_vN) rfl rfl ?_
  refine sx_RP.step (pc2 := 24) (ls2 := [(2, .int 34), (0, .ref 111), (1, .int a1)]) (st2 := []) (w3 := sx_vN) rfl rfl ?_
  refine sx_RP.step (pc2 := 25) (ls2 := [(2, .int 34), (0, .ref 111), (1, .int a1)]) (st2 := [.ref 111]) (w3 := sx_vN) rfl rfl ?_
  refine sx_RP.step (pc2 := 26) (ls2 := [(2, .int 34), (0, .ref 111), (1, .int a1)]) (st2 := [.int 34, .ref 111]) (w3 := sx_vN) rfl rfl ?_
  refine sx_RP.cu (as := [.ref 111, .int 34]) (rest2 := []) (st3 := [.int 0]) rfl rfl rfl rfl rfl (cl_206 _ 33 (by decide)) rfl ?_
  refine sx_RP.step (pc2 := 30) (ls2 := [(2, .int 34), (0, .ref 111), (1, .int a1)]) (st2 := [.int a1, .int 0]) (w3 := sx_vN) rfl rfl ?_
  refine sx_RP.br (p2 := 33) (l2 := [(2, .int 34), (0, .ref 111), (1, .int a1)]) (s2 := []) (v2 := sx_vN) rfl rfl (fun q => absurd (of_decide_eq_true q) hq) (fun _ => ?_)
  refine sx_RP.step (pc2 := 36) (ls2 := [(2, .int 33), (0, .ref 111), (1, .int a1)]) (st2 := []) (w3 := sx_vN) rfl rfl ?_
  refine sx_RP.step (pc2 := 20) (ls2 := [(2, .int 33), (0, .ref 111), (1, .int a1)]) (st2 := []) (w3 := sx_vN) rfl rfl ?_
  refine sx_RP.step (pc2 := 21) (ls2 := [(2, .int 33), (0, .ref 111), (1, .int a1)]) (st2 := [.int 33]) (w3 := sx_vN) rfl rfl ?_
  refine sx_RP.step (pc2 := 24) (ls2 := [(2, .int 33), (0, .ref 111), (1, .int a1)]) (st2 := []) (w3 := sx_vN) rfl rfl ?_
  refine sx_RP.step (pc2 := 25) (ls2 := [(2, .int 33), (0, .ref 111), (1, .int a1)]) (st2 := [.ref 111]) (w3 := sx_vN) rfl rfl ?_
  refine sx_RP.step (pc2 := 26) (ls2 := [(2, .int 33), (0, .ref 111), (1, .int a1)]) (st2 := [.int 33, .ref 111]) (w3 := sx_vN) rfl rfl ?_
  refine sx_RP.cu (as := [.ref 111, .int 33]) (rest2 := []) (st3 := [.int 0]) rfl rfl rfl rfl rfl (cl_206 _ 32 (by decide)) rfl ?_
  refine sx_RP.step (pc2 := 30) (ls2 := [(2, .int 33), (0, .ref 111), (1, .int a1)]) (st2 := [.int a1, .int 0]) (w3 := sx_vN) rfl rfl ?_
  refine sx_RP.br (p2 := 33) (l2 := [(2, .int 33), (0, .ref 111), (1, .int a1)]) (s2 := []) (v2 := sx_vN) rfl rfl (fun q => absurd (of_decide_eq_true q) hq) (fun _ => ?_)
  refine sx_RP.step (pc2 := 36) (ls2 := [(2, .int 32), (0, .ref 111), (1, .int a1)]) (st2 := []) (w3 := sx_vN) rfl rfl ?_
  refine sx_RP.step (pc2 := 20) (ls2 := [(2, .int 32), (0, .ref 111), (1, .int a1)]) (st2 := []) (w3 := sx_vN) rfl rfl ?_
  refine sx_RP.step (pc2 := 21) (ls2 := [(2, .int 32), (0, .ref 111), (1, .int a1)]) (st2 := [.int 32]) (w3 := sx_vN) rfl rfl ?_
  refine sx_RP.step (pc2 := 24) (ls2 := [(2, .int 32), (0, .ref 111), (1, .int a1)]) (st2 := []) (w3 := sx_vN) rfl rfl ?_
  refine sx_RP.step (pc2 := 25) (ls2 := [(2, .int 32), (0, .ref 111), (1, .int a1)]) (st2 := [.ref 111]) (w3 := sx_vN) rfl rfl ?_
  refine sx_RP.step (pc2 := 26) (ls2 := [(2, .int 32), (0, .ref 111), (1, .int a1)]) (st2 := [.int 32, .ref 111]) (w3 := sx_vN) rfl rfl ?_
  refine sx_RP.cu (as := [.ref 111, .int 32]) (rest2 := []) (st3 := [.int 0]) rfl rfl rfl rfl rfl (cl_206 _ 31 (by decide)) rfl ?_
  refine sx_RP.step (pc2 := 30) (ls2 := [(2, .int 32), (0, .ref 111), (1, .int a1)]) (st2 := [.int a1, .int 0]) (w3 := sx_vN) rfl rfl ?_
  refine sx_RP.br (p2 := 33) (l2 := [(2, .int 32), (0, .ref 111), (1, .int a1)]) (s2 := []) (v2 := sx_vN) rfl rfl (fun q => absurd (of_decide_eq_true q) hq) (fun _ => ?_)
  refine sx_RP.step (pc2 := 36) (ls2 := [(2, .int 31), (0, .ref 111), (1, .int a1)]) (st2 := []) (w3 := sx_vN) rfl rfl ?_
  refine sx_RP.step (pc2 := 20) (ls2 := [(2, .int 31), (0, .ref 111), (1, .int a1)]) (st2 := []) (w3 := sx_vN) rfl rfl ?_
  refine sx_RP.step (pc2 := 21) (ls2 := [(2, .int 31), (0, .ref 111), (1, .int a1)]) (st2 := [.int 31]) (w3 := sx_vN) rfl rfl ?_
  refine sx_RP.step (pc2 := 24) (ls2 := [(2, .int 31), (0, .ref 111), (1, .int a1)]) (st2 := []) (w3 := sx_vN) rfl rfl ?_
  refine sx_RP.step (pc2 := 25) (ls2 := [(2, .int 31), (0, .ref 111), (1, .int a1)]) (st2 := [.ref 111]) (w3 := sx_vN) rfl rfl ?_
  refine sx_RP.step (pc2 := 26) (ls2 := [(2, .int 31), (0, .ref 111), (1, .int a1)]) (st2 := [.int 31, .ref 111]) (w3 := sx_vN) rfl rfl ?_
  refine sx_RP.cu (as := [.ref 111, .int 31]) (rest2 := []) (st3 := [.int 0]) rfl rfl rfl rfl rfl (cl_206 _ 30 (by decide)) rfl ?_
  refine sx_RP.step (pc2 := 30) (ls2 := [(2, .int 31), (0, .ref 111), (1, .int a1)]) (st2 := [.int a1, .int 0]) (w3 := sx_vN) rfl rfl ?_
  refine sx_RP.br (p2 := 33) (l2 := [(2, .int 31), (0, .ref 111), (1, .int a1)]) (s2 := []) (v2 := sx_vN) rfl rfl (fun q => absurd (of_decide_eq_true q) hq) (fun _ => ?_)
  refine sx_RP.step (pc2 := 36) (ls2 := [(2, .int 30), (0, .ref 111), (1, .int a1)]) (st2 := []) (w3 := sx_vN) rfl rfl ?_
  refine sx_RP.step (pc2 := 20) (ls2 := [(2, .int 30), (0, .ref 111), (1, .int a1)]) (st2 := []) (w3 := sx_vN) rfl rfl ?_
  refine sx_RP.step (pc2 := 21) (ls2 := [(2, .int 30), (0, .ref 111), (1, .int a1)]) (st2 := [.int 30]) (w3 := sx_vN) rfl rfl ?_
  refine sx_RP.step (pc2 := 24) (ls2 := [(2, .int 30), (0, .ref 111), (1, .int a1)]) (st2 := []) (w3 := sx_vN) rfl rfl ?_
  refine sx_RP.step (pc2 := 25) (ls2 := [(2, .int 30), (0, .ref 111), (1, .int a1)]) (st2 := [.ref 111]) (w3 := sx_vN) rfl rfl ?_
  refine sx_RP.step (pc2 := 26) (ls2 := [(2, .int 30), (0, .ref 111), (1, .int a1)]) (st2 := [.int 30, .ref 111]) (w3 := sx_vN) rfl rfl ?_
  refine sx_RP.cu (as := [.ref 111, .int 30]) (rest2 := []) (st3 := [.int 0]) rfl rfl rfl rfl rfl (cl_206 _ 29 (by decide)) rfl ?_
  refine sx_RP.step (pc2 := 30) (ls2 := [(2, .int 30), (0, .ref 111), (1, .int a1)]) (st2 := [.int a1, .int 0]) (w3 := sx_vN) rfl rfl ?_
  refine sx_RP.br (p2 := 33) (l2 := [(2, .int 30), (0, .ref 111), (1, .int a1)]) (s2 := []) (v2 := sx_vN) rfl rfl (fun q => absurd (of_decide_eq_true q) hq) (fun _ => ?_)
  refine sx_RP.step (pc2 := 36) (ls2 := [(2, .int 29), (0, .ref 111), (1, .int a1)]) (st2 := []) (w3 := sx_vN) rfl rfl ?_
  refine sx_RP.step (pc2 := 20) (ls2 := [(2, .int 29), (0, .ref 111), (1, .int a1)]) (st2 := []) (w3 := sx_vN) rfl rfl ?_
  refine sx_RP.step (pc2 := 21) (ls2 := [(2, .int 29), (0, .ref 111), (1, .int a1)]) (st2 := [.int 29]) (w3 := sx_vN) rfl rfl ?_
  refine sx_RP.step (pc2 := 24) (ls2 := [(2, .int 29), (0, .ref 111), (1, .int a1)]) (st2 := []) (w3 := sx_vN) rfl rfl ?_
  refine sx_RP.step (pc2 := 25) (ls2 := [(2, .int 29), (0, .ref 111), (1, .int a1)]) (st2 := [.ref 111]) (w3 := sx_vN) rfl rfl ?_
  refine sx_RP.step (pc2 := 26) (ls2 := [(2, .int 29), (0, .ref 111), (1, .int a1)]) (st2 := [.int 29, .ref 111]) (w3 := sx_vN) rfl rfl ?_
  refine sx_RP.cu (as := [.ref 111, .int 29]) (rest2 := []) (st3 := [.int 0]) rfl rfl rfl rfl rfl (cl_206 _ 28 (by decide)) rfl ?_
  refine sx_RP.step (pc2 := 30) (ls2 := [(2, .int 29), (0, .ref 111), (1, .int a1)]) (st2 := [.int a1, .int 0]) (w3 := sx_vN) rfl rfl ?_
  refine sx_RP.br (p2 := 33) (l2 := [(2, .int 29), (0, .ref 111), (1, .int a1)]) (s2 := []) (v2 := sx_vN) rfl rfl (fun q => absurd (of_decide_eq_true q) hq) (fun _ => ?_)
  refine sx_RP.step (pc2 := 36) (ls2 := [(2, .int 28), (0, .ref 111), (1, .int a1)]) (st2 := []) (w3 := sx_vN) rfl rfl ?_
  refine sx_RP.step (pc2 := 20) (ls2 := [(2, .int 28), (0, .ref 111), (1, .int a1)]) (st2 := []) (w3 := sx_vN) rfl rfl ?_
  refine sx_RP.step (pc2 := 21) (ls2 := [(2, .int 28), (0, .ref 111), (1, .int a1)]) (st2 := [.int 28]) (w3 := sx_vN) rfl rfl ?_
  refine sx_RP.step (pc2 := 24) (ls2 := [(2, .int 28), (0, .ref 111), (1, .int a1)]) (st2 := []) (w3 := sx_vN) rfl rfl ?_
  refine sx_RP.step (pc2 := 25) (ls2 := [(2, .int 28), (0, .ref 111), (1, .int a1)]) (st2 := [.ref 111]) (w3 := sx_vN) rfl rfl ?_
  refine sx_RP.step (pc2 := 26) (ls2 := [(2, .int 28), (0, .ref 111), (1, .int a1)]) (st2 := [.int 28, .ref 111]) (w3 := sx_vN) rfl rfl ?_
  refine sx_RP.cu (as := [.ref 111, .int 28]) (rest2 := []) (st3 := [.int 0]) rfl rfl rfl rfl rfl (cl_206 _ 27 (by decide)) rfl ?_
  refine sx_RP.step (pc2 := 30) (ls2 := [(2, .int 28), (0, .ref 111), (1, .int a1)]) (st2 := [.int a1, .int 0]) (w3 := sx_vN) rfl rfl ?_
  refine sx_RP.br (p2 := 33) (l2 := [(2, .int 28), (0, .ref 111), (1, .int a1)]) (s2 := []) (v2 := sx_vN) rfl rfl (fun q => absurd (of_decide_eq_true q) hq) (fun _ => ?_)
  refine sx_RP.step (pc2 := 36) (ls2 := [(2, .int 27), (0, .ref 111), (1, .int a1)]) (st2 := []) (w3 := sx_vN) rfl rfl ?_
  refine sx_RP.step (pc2 := 20) (ls2 := [(2, .int 27), (0, .ref 111), (1, .int a1)]) (st2 := []) (w3 := sx_vN) rfl rfl ?_
  refine sx_RP.step (pc2 := 21) (ls2 := [(2, .int 27), (0, .ref 111), (1, .int a1)]) (st2 := [.int 27]) (w3 := sx_vN) rfl rfl ?_
  refine sx_RP.step (pc2 := 24) (ls2 := [(2, .int 27), (0, .ref 111), (1, .int a1)]) (st2 := []) (w3 := sx_vN) rfl rfl ?_
  refine sx_RP.step (pc2 := 25) (ls2 := [(2, .int 27), (0, .ref 111), (1, .int a1)]) (st2 := [.ref 111]) (w3 := sx_vN) rfl rfl ?_
  refine sx_RP.step (pc2 := 26) (ls2 := [(2, .int 27), (0, .ref 111), (1, .int a1)]) (st2 := [.int 27, .ref 111]) (w3 := sx_vN) rfl rfl ?_
  refine sx_RP.cu (as := [.ref 111, .int 27]) (rest2 := []) (st3 := [.int 0]) rfl rfl rfl rfl rfl (cl_206 _ 26 (by decide)) rfl ?_
  refine sx_RP.step (pc2 := 30) (ls2 := [(2, .int 27), (0, .ref 111), (1, .int a1)]) (st2 := [.int a1, .int 0]) (w3 := sx_vN) rfl rfl ?_
  refine sx_RP.br (p2 := 33) (l2 := [(2, .int 27), (0, .ref 111), (1, .int a1)]) (s2 := []) (v2 := sx_vN) rfl rfl (fun q => absurd (of_decide_eq_true q) hq) (fun _ => ?_)
  refine sx_RP.step (pc2 := 36) (ls2 := [(2, .int 26), (0, .ref 111), (1, .int a1)]) (st2 := []) (w3 := sx_vN) rfl rfl ?_
  refine sx_RP.step (pc2 := 20) (ls2 := [(2, .int 26), (0, .ref 111), (1, .int a1)]) (st2 := []) (w3 := sx_vN) rfl rfl ?_
  refine sx_RP.step (pc2 := 21) (ls2 := [(2, .int 26), (0, .ref 111), (1, .int a1)]) (st2 := [.int 26]) (w3 := sx_vN) rfl rfl ?_
  refine sx_RP.step (pc2 := 24) (ls2 := [(2, .int 26), (0, .ref 111), (1, .int a1)]) (st2 := []) (w3 := sx_vN) rfl rfl ?_
  refine sx_RP.step (pc2 := 25) (ls2 := [(2, .int 26), (0, .ref 111), (1, .int a1)]) (st2 := [.ref 111]) (w3 := sx_vN) rfl rfl ?_
  refine sx_RP.step (pc2 := 26) (ls2 := [(2, .int 26), (0, .ref 111), (1, .int a1)]) (st2 := [.int 26, .ref 111]) (w3 := sx_vN) rfl rfl ?_
  refine sx_RP.cu (as := [.ref 111, .int 26]) (rest2 := []) (st3 := [.int 0]) rfl rfl rfl rfl rfl (cl_206 _ 25 (by decide)) rfl ?_
  refine sx_RP.step (pc2 := 30) (ls2 := [(2, .int 26), (0, .ref 111), (1, .int a1)]) (st2 := [.int a1, .int 0]) (w3 := sx_vN) rfl rfl ?_
  refine sx_RP.br (p2 := 33) (l2 := [(2, .int 26), (0, .ref 111), (1, .int a1)]) (s2 := []) (v2 := sx_vN) rfl rfl (fun q => absurd (of_decide_eq_true q) hq) (fun _ => ?_)
  refine sx_RP.step (pc2 := 36) (ls2 := [(2, .int 25), (0, .ref 111), (1, .int a1)]) (st2 := []) (w3 := sx_vN) rfl rfl ?_
  refine sx_RP.step (pc2 := 20) (ls2 := [(2, .int 25), (0, .ref 111), (1, .int a1)]) (st2 := []) (w3 := sx_vN) rfl rfl ?_
  refine sx_RP.step (pc2 := 21) (ls2 := [(2, .int 25), (0, .ref 111), (1, .int a1)]) (st2 := [.int 25]) (w3 := sx_vN) rfl rfl ?_
  refine sx_RP.step (pc2 := 24) (ls2 := [(2, .int 25), (0, .ref 111), (1, .int a1)]) (st2 := []) (w3 := sx_vN) rfl rfl ?_
  refine sx_RP.step (pc2 := 25) (ls2 := [(2, .int 25), (0, .ref 111), (1, .int a1)]) (st2 := [.ref 111]) (w3 := sx_vN) rfl rfl ?_
  refine sx_RP.step (pc2 := 26) (ls2 := [(2, .int 25), (0, .ref 111), (1, .int a1)]) (st2 := [.int 25, .ref 111]) (w3 := sx_vN) rfl rfl ?_
  refine sx_RP.cu (as := [.ref 111, .int 25]) (rest2 := []) (st3 := [.int 0]) rfl rfl rfl rfl rfl (cl_206 _ 24 (by decide)) rfl ?_
  refine sx_RP.step (pc2 := 30) (ls2 := [(2, .int 25), (0, .ref 111), (1, .int a1)]) (st2 := [.int a1, .int 0]) (w3 := sx_vN) rfl rfl ?_
  refine sx_RP.br (p2 := 33) (l2 := [(2, .int 25), (0, .ref 111), (1, .int a1)]) (s2 := []) (v2 := sx_vN) rfl rfl (fun q => absurd (of_decide_eq_true q) hq) (fun _ => ?_)
  refine sx_RP.step (pc2 := 36) (ls2 := [(2, .int 24), (0, .ref 111), (1, .int a1)]) (st2 := []) (w3 := sx_vN) rfl rfl ?_
  refine sx_RP.step (pc2 := 20) (ls2 := [(2, .int 24), (0, .ref 111), (1, .int a1)]) (st2 := []) (w3 := sx_vN) rfl rfl ?_
  refine sx_RP.step (pc2 := 21) (ls2 := [(2, .int 24), (0, .ref 111), (1, .int a1)]) (st2 := [.int 24]) (w3 := sx_vN) rfl rfl ?_
  refine sx_RP.step (pc2 := 24) (ls2 := [(2, .int 24), (0, .ref 111), (1, .int a1)]) (st2 := []) (w3 := sx_vN) rfl rfl ?_
  refine sx_RP.step (pc2 := 25) (ls2 := [(2, .int 24), (0, .ref 111), (1, .int a1)]) (st2 := [.ref 111]) (w3 := sx_vN) rfl rfl ?_
  refine sx_RP.step (pc2 := 26) (ls2 := [(2, .int 24), (0, .ref 111), (1, .int a1)]) (st2 := [.int 24, .ref 111]) (w3 := sx_vN) rfl rfl ?_
  refine sx_RP.cu (as := [.ref 111, .int 24]) (rest2 := []) (st3 := [.int 0]) rfl rfl rfl rfl rfl (cl_206 _ 23 (by decide)) rfl ?_
  refine sx_RP.step (pc2 := 30) (ls2 := [(2, .int 24), (0, .ref 111), (1, .int a1)]) (st2 := [.int a1, .int 0]) (w3 := sx_vN) rfl rfl ?_
  refine sx_RP.br (p2 := 33) (l2 := [(2, .int 24), (0, .ref 111), (1, .int a1)]) (s2 := []) (v2 := sx_vN) rfl rfl (fun q => absurd (of_decide_eq_true q) hq) (fun _ => ?_)
  refine sx_RP.step (pc2 := 36) (ls2 := [(2, .int 23), (0, .ref 111), (1, .int a1)]) (st2 := []) (w3 := sx_vN) rfl rfl ?_
  refine sx_RP.step (pc2 := 20) (ls2 := [(2, .int 23), (0, .ref 111), (1, .int a1)]) (st2 := []) (w3 := sx_vN) rfl rfl ?_
  refine sx_RP.step (pc2 := 21) (ls2 := [(2, .int 23), (0, .ref 111), (1, .int a1)]) (st2 := [.int 23]) (w3 := sx_vN) rfl rfl ?_
  refine sx_RP.step (pc2 := 24) (ls2 := [(2, .int 23), (0, .ref 111), (1, .int a1)]) (st2 := []) (w3 := sx_vN) rfl rfl ?_
  refine sx_RP.step (pc2 := 25) (ls2 := [(2, .int 23), (0, .ref 111), (1, .int a1)]) (st2 := [.ref 111]) (w3 := sx_vN) rfl rfl ?_
  refine sx_RP.step (pc2 := 26) (ls2 := [(2, .int 23), (0, .ref 111), (1, .int a1)]) (st2 := [.int 23, .ref 111]) (w3 := sx_vN) rfl rfl ?_
  refine sx_RP.cu (as := [.ref 111, .int 23]) (rest2 := []) (st3 := [.int 0]) rfl rfl rfl rfl rfl (cl_206 _ 22 (by decide)) rfl ?_
  refine sx_RP.step (pc2 := 30) (ls2 := [(2, .int 23), (0, .ref 111), (1, .int a1)]) (st2 := [.int a1, .int 0]) (w3 := sx_vN) rfl rfl ?_
  refine sx_RP.br (p2 := 33) (l2 := [(2, .int 23), (0, .ref 111), (1, .int a1)]) (s2 := []) (v2 := sx_vN) rfl rfl (fun q => absurd (of_decide_eq_true q) hq) (fun _ => ?_)
  refine sx_RP.step (pc2 := 36) (ls2 := [(2, .int 22), (0, .ref 111), (1, .int a1)]) (st2 := []) (w3 := sx_vN) rfl rfl ?_
  refine sx_RP.step (pc2 := 20) (ls2 := [(2, .int 22), (0, .ref 111), (1, .int a1)]) (st2 := []) (w3 := sx_vN) rfl rfl ?_
  refine sx_RP.step (pc2 := 21) (ls2 := [(2, .int 22), (0, .ref 111), (1, .int a1)]) (st2 := [.int 22]) (w3 := sx_vN) rfl rfl ?_
  refine sx_RP.step (pc2 := 24) (ls2 := [(2, .int 22), (0, .ref 111), (1, .int a1)]) (st2 := []) (w3 := sx_vN) rfl rfl ?_
  refine sx_RP.step (pc2 := 25) (ls2 := [(2, .int 22), (0, .ref 111), (1, .int a1)]) (st2 := [.ref 111]) (w3 := sx_vN) rfl rfl ?_
  refine sx_RP.step (pc2 := 26) (ls2 := [(2, .int 22), (0, .ref 111), (1, .int a1)]) (st2 := [.int 22, .ref 111]) (w3 := sx_vN) rfl rfl ?_
  refine sx_RP.cu (as := [.ref 111, .int 22]) (rest2 := []) (st3 := [.int 0]) rfl rfl rfl rfl rfl (cl_206 _ 21 (by decide)) rfl ?_
  refine sx_RP.step (pc2 := 30) (ls2 := [(2, .int 22), (0, .ref 111), (1, .int a1)]) (st2 := [.int a1, .int 0]) (w3 := sx_vN) rfl rfl ?_
  refine sx_RP.br (p2 := 33) (l2 := [(2, .int 22), (0, .ref 111), (1, .int a1)]) (s2 := []) (v2 := sx_vN) rfl rfl (fun q => absurd (of_decide_eq_true q) hq) (fun _ => ?_)
  refine sx_RP.step (pc2 := 36) (ls2 := [(2, .int 21), (0, .ref 111), (1, .int a1)]) (st2 := []) (w3 := sx_vN) rfl rfl ?_
  refine sx_RP.step (pc2 := 20) (ls2 := [(2, .int 21), (0, .ref 111), (1, .int a1)]) (st2 := []) (w3 := sx_vN) rfl rfl ?_
  refine sx_RP.step (pc2 := 21) (ls2 := [(2, .int 21), (0, .ref 111), (1, .int a1)]) (st2 := [.int 21]) (w3 := sx_vN) rfl rfl ?_
  refine sx_RP.step (pc2 := 24) (ls2 := [(2, .int 21), (0, .ref 111), (1, .int a1)]) (st2 := []) (w3 := sx_vN) rfl rfl ?_
  refine sx_RP.step (pc2 := 25) (ls2 := [(2, .int 21), (0, .ref 111), (1, .int a1)]) (st2 := [.ref 111]) (w3 := sx_vN) rfl rfl ?_
  refine sx_RP.step (pc2 := 26) (ls2 := [(2, .int 21), (0, .ref 111), (1, .int a1)]) (st2 := [.int 21, .ref 111]) (w3 := sx_vN) rfl rfl ?_
  refine sx_RP.cu (as := [.ref 111, .int 21]) (rest2 := []) (st3 := [.int 0]) rfl rfl rfl rfl rfl (cl_206 _ 20 (by decide)) rfl ?_
  refine sx_RP.step (pc2 := 30) (ls2 := [(2, .int 21), (0, .ref 111), (1, .int a1)]) (st2 := [.int a1, .int 0]) (w3 := sx_vN) rfl rfl ?_
  refine sx_RP.br (p2 := 33) (l2 := [(2, .int 21), (0, .ref 111), (1, .int a1)]) (s2 := []) (v2 := sx_vN) rfl rfl (fun q => absurd (of_decide_eq_true q) hq) (fun _ => ?_)
  refine sx_RP.step (pc2 := 36) (ls2 := [(2, .int 20), (0, .ref 111), (1, .int a1)]) (st2 := []) (w3 := sx_vN) rfl rfl ?_
  refine sx_RP.step (pc2 := 20) (ls2 := [(2, .int 20), (0, .ref 111), (1, .int a1)]) (st2 := []) (w3 := sx_vN) rfl rfl ?_
  refine sx_RP.step (pc2 := 21) (ls2 := [(2, .int 20), (0, .ref 111), (1, .int a1)]) (st2 := [.int 20]) (w3 := sx_vN) rfl rfl ?_
  refine sx_RP.step (pc2 := 24) (ls2 := [(2, .int 20), (0, .ref 111), (1, .int a1)]) (st2 := []) (w3 := sx_vN) rfl rfl ?_
  refine sx_RP.step (pc2 := 25) (ls2 := [(2, .int 20), (0, .ref 111), (1, .int a1)]) (st2 := [.ref 111]) (w3 := sx_vN) rfl rfl ?_
  refine sx_RP.step (pc2 := 26) (ls2 := [(2, .int 20), (0, .ref 111), (1, .int a1)]) (st2 := [.int 20, .ref 111]) (w3 := sx_vN) rfl rfl ?_
  refine sx_RP.cu (as := [.ref 111, .int 20]) (rest2 := []) (st3 := [.int 0]) rfl rfl rfl rfl rfl (cl_206 _ 19 (by decide)) rfl ?_
  refine sx_RP.step (pc2 := 30) (ls2 := [(2, .int 20), (0, .ref 111), (1, .int a1)]) (st2 := [.int a1, .int 0]) (w3 := sx_vN) rfl rfl ?_
  refine sx_RP.br (p2 := 33) (l2 := [(2, .int 20), (0, .ref 111), (1, .int a1)]) (s2 := []) (v2 := sx_vN) rfl rfl (fun q => absurd (of_decide_eq_true q) hq) (fun _ => ?_)
  refine sx_RP.step (pc2 := 36) (ls2 := [(2, .int 19), (0, .ref 111), (1, .int a1)]) (st2 := []) (w3 := sx_vN) rfl rfl ?_
  refine sx_RP.step (pc2 := 20) (ls2 := [(2, .int 19), (0, .ref 111), (1, .int a1)]) (st2 := []) (w3 := sx_vN) rfl rfl ?_
  refine sx_RP.step (pc2 := 21) (ls2 := [(2, .int 19), (0, .ref 111), (1, .int a1)]) (st2 := [.int 19]) (w3 := sx_vN) rfl rfl ?_
  refine sx_RP.step (pc2 := 24) (ls2 := [(2, .int 19), (0, .ref 111), (1, .int a1)]) (st2 := []) (w3 := sx_vN) rfl rfl ?_
  refine sx_RP.step (pc2 := 25) (ls2 := [(2, .int 19), (0, .ref 111), (1, .int a1)]) (st2 := [.ref 111]) (w3 := sx_vN) rfl rfl ?_
  refine sx_RP.step (pc2 := 26) (ls2 := [(2, .int 19), (0, .ref 111), (1, .int a1)]) (st2 := [.int 19, .ref 111]) (w3 := sx_vN) rfl rfl ?_
  refine sx_RP.cu (as := [.ref 111, .int 19]) (rest2 := []) (st3 := [.int 0]) rfl rfl rfl rfl rfl (cl_206 _ 18 (by decide)) rfl ?_
  refine sx_RP.step (pc2 := 30) (ls2 := [(2, .int 19), (0, .ref 111), (1, .int a1)]) (st2 := [.int a1, .int 0]) (w3 := sx_vN) rfl rfl ?_
  refine sx_RP.br (p2 := 33) (l2 := [(2, .int 19), (0, .ref 111), (1, .int a1)]) (s2 := []) (v2 := sx_vN) rfl rfl (fun q => absurd (of_decide_eq_true q) hq) (fun _ => ?_)
  refine sx_RP.step (pc2 := 36) (ls2 := [(2, .int 18), (0, .ref 111), (1, .int a1)]) (st2 := []) (w3 := sx_vN) rfl rfl ?_
  refine sx_RP.step (pc2 := 20) (ls2 := [(2, .int 18), (0, .ref 111), (1, .int a1)]) (st2 := []) (w3 := sx_vN) rfl rfl ?_
  refine sx_RP.step (pc2 := 21) (ls2 := [(2, .int 18), (0, .ref 111), (1, .int a1)]) (st2 := [.int 18]) (w3 := sx_vN) rfl rfl ?_
  refine sx_RP.step (pc2 := 24) (ls2 := [(2, .int 18), (0, .ref 111), (1, .int a1)]) (st2 := []) (w3 := sx_vN) rfl rfl ?_
  refine sx_RP.step (pc2 := 25) (ls2 := [(2, .int 18), (0, .ref 111), (1, .int a1)]) (st2 := [.ref 111]) (w3 := sx_vN) rfl rfl ?_
  refine sx_RP.step (pc2 := 26) (ls2 := [(2, .int 18), (0, .ref 111), (1, .int a1)]) (st2 := [.int 18, .ref 111]) (w3 := sx_vN) rfl rfl ?_
  refine sx_RP.cu (as := [.ref 111, .int 18]) (rest2 := []) (st3 := [.int 0]) rfl rfl rfl rfl rfl (cl_206 _ 17 (by decide)) rfl ?_
  refine sx_RP.step (pc2 := 30) (ls2 := [(2, .int 18), (0, .ref 111), (1, .int a1)]) (st2 := [.int a1, .int 0]) (w3 := sx_vN) rfl rfl ?_
  refine sx_RP.br (p2 := 33) (l2 := [(2, .int 18), (0, .ref 111), (1, .int a1)]) (s2 := []) (v2 := sx_vN) rfl rfl (fun q => absurd (of_decide_eq_true q) hq) (fun _ => ?_)
  refine sx_RP.step (pc2 := 36) (ls2 := [(2, .int 17), (0, .ref 111), (1, .int a1)]) (st2 := []) (w3 := sx_vN) rfl rfl ?_
  refine sx_RP.step (pc2 := 20) (ls2 := [(2, .int 17), (0, .ref 111), (1, .int a1)]) (st2 := []) (w3 := sx_vN) rfl rfl ?_
  refine sx_RP.step (pc2 := 21) (ls2 := [(2, .int 17), (0, .ref 111), (1, .int a1)]) (st2 := [.int 17]) (w3 := sx_vN) rfl rfl ?_
  refine sx_RP.step (pc2 := 24) (ls2 := [(2, .int 17), (0, .ref 111), (1, .int a1)]) (st2 := []) (w3 := sx_vN) rfl rfl ?_
  refine sx_RP.step (pc2 := 25) (ls2 := [(2, .int 17), (0, .ref 111), (1, .int a1)]) (st2 := [.ref 111]) (w3 := sx_vN) rfl rfl ?_
  refine sx_RP.step (pc2 := 26) (ls2 := [(2, .int 17), (0, .ref 111), (1, .int a1)]) (st2 := [.int 17, .ref 111]) (w3 := sx_vN) rfl rfl ?_
  refine sx_RP.cu (as := [.ref 111, .int 17]) (rest2 := []) (st3 := [.int 0]) rfl rfl rfl rfl rfl (cl_206 _ 16 (by decide)) rfl ?_
  refine sx_RP.step (pc2 := 30) (ls2 := [(2, .int 17), (0, .ref 111), (1, .int a1)]) (st2 := [.int a1, .int 0]) (w3 := sx_vN) rfl rfl ?_
  refine sx_RP.br (p2 := 33) (l2 := [(2, .int 17), (0, .ref 111), (1, .int a1)]) (s2 := []) (v2 := sx_vN) rfl rfl (fun q => absurd (of_decide_eq_true q) hq) (fun _ => ?_)
  refine sx_RP.step (pc2 := 36) (ls2 := [(2, .int 16), (0, .ref 111), (1, .int a1)]) (st2 := []) (w3 := sx_vN) rfl rfl ?_
  refine sx_RP.step (pc2 := 20) (ls2 := [(2, .int 16), (0, .ref 111), (1, .int a1)]) (st2 := []) (w3 := sx_vN) rfl rfl ?_
  refine sx_RP.step (pc2 := 21) (ls2 := [(2, .int 16), (0, .ref 111), (1, .int a1)]) (st2 := [.int 16]) (w3 := sx_vN) rfl rfl ?_
  refine sx_RP.step (pc2 := 24) (ls2 := [(2, .int 16), (0, .ref 111), (1, .int a1)]) (st2 := []) (w3 := sx_vN) rfl rfl ?_
  refine sx_RP.step (pc2 := 25) (ls2 := [(2, .int 16), (0, .ref 111), (1, .int a1)]) (st2 := [.ref 111]) (w3 := sx_vN) rfl rfl ?_
  refine sx_RP.step (pc2 := 26) (ls2 := [(2, .int 16), (0, .ref 111), (1, .int a1)]) (st2 := [.int 16, .ref 111]) (w3 := sx_vN) rfl rfl ?_
  refine sx_RP.cu (as := [.ref 111, .int 16]) (rest2 := []) (st3 := [.int 0]) rfl rfl rfl rfl rfl (cl_206 _ 15 (by decide)) rfl ?_
  refine sx_RP.step (pc2 := 30) (ls2 := [(2, .int 16), (0, .ref 111), (1, .int a1)]) (st2 := [.int a1, .int 0]) (w3 := sx_vN) rfl rfl ?_
  refine sx_RP.br (p2 := 33) (l2 := [(2, .int 16), (0, .ref 111), (1, .int a1)]) (s2 := []) (v2 := sx_vN) rfl rfl (fun q => absurd (of_decide_eq_true q) hq) (fun _ => ?_)
  refine sx_RP.step (pc2 := 36) (ls2 := [(2, .int 15), (0, .ref 111), (1, .int a1)]) (st2 := []) (w3 := sx_vN) rfl rfl ?_
  refine sx_RP.step (pc2 := 20) (ls2 := [(2, .int 15), (0, .ref 111), (1, .int a1)]) (st2 := []) (w3 := sx_vN) rfl rfl ?_
  refine sx_RP.step (pc2 := 21) (ls2 := [(2, .int 15), (0, .ref 111), (1, .int a1)]) (st2 := [.int 15]) (w3 := sx_vN) rfl rfl ?_
  refine sx_RP.step (pc2 := 24) (ls2 := [(2, .int 15), (0, .ref 111), (1, .int a1)]) (st2 := []) (w3 := sx_vN) rfl rfl ?_
  refine sx_RP.step (pc2 := 25) (ls2 := [(2, .int 15), (0, .ref 111), (1, .int a1)]) (st2 := [.ref 111]) (w3 := sx_vN) rfl rfl ?_
  refine sx_RP.step (pc2 := 26) (ls2 := [(2, .int 15), (0, .ref 111), (1, .int a1)]) (st2 := [.int 15, .ref 111]) (w3 := sx_vN) rfl rfl ?_
  refine sx_RP.cu (as := [.ref 111, .int 15]) (rest2 := []) (st3 := [.int 0]) rfl rfl rfl rfl rfl (cl_206 _ 14 (by decide)) rfl ?_
  refine sx_RP.step (pc2 := 30) (ls2 := [(2, .int 15), (0, .ref 111), (1, .int a1)]) (st2 := [.int a1, .int 0]) (w3 := sx_vN) rfl rfl ?_
  refine sx_RP.br (p2 := 33) (l2 := [(2, .int 15), (0, .ref 111), (1, .int a1)]) (s2 := []) (v2 := sx_vN) rfl rfl (fun q => absurd (of_decide_eq_true q) hq) (fun _ => ?_)
  refine sx_RP.step (pc2 := 36) (ls2 := [(2, .int 14), (0, .ref 111), (1, .int a1)]) (st2 := []) (w3 := sx_vN) rfl rfl ?_
  refine sx_RP.step (pc2 := 20) (ls2 := [(2, .int 14), (0, .ref 111), (1, .int a1)]) (st2 := []) (w3 := sx_vN) rfl rfl ?_
  refine sx_RP.step (pc2 := 21) (ls2 := [(2, .int 14), (0, .ref 111), (1, .int a1)]) (st2 := [.int 14]) (w3 := sx_vN) rfl rfl ?_
  refine sx_RP.step (pc2 := 24) (ls2 := [(2, .int 14), (0, .ref 111), (1, .int a1)]) (st2 := []) (w3 := sx_vN) rfl rfl ?_
  refine sx_RP.step (pc2 := 25) (ls2 := [(2, .int 14), (0, .ref 111), (1, .int a1)]) (st2 := [.ref 111]) (w3 := sx_vN) rfl rfl ?_
  refine sx_RP.step (pc2 := 26) (ls2 := [(2, .int 14), (0, .ref 111), (1, .int a1)]) (st2 := [.int 14, .ref 111]) (w3 := sx_vN) rfl rfl ?_
  refine sx_RP.cu (as := [.ref 111, .int 14]) (rest2 := []) (st3 := [.int 0]) rfl rfl rfl rfl rfl (cl_206 _ 13 (by decide)) rfl ?_
  refine sx_RP.step (pc2 := 30) (ls2 := [(2, .int 14), (0, .ref 111), (1, .int a1)]) (st2 := [.int a1, .int 0]) (w3 := sx_vN) rfl rfl ?_
  refine sx_RP.br (p2 := 33) (l2 := [(2, .int 14), (0, .ref 111), (1, .int a1)]) (s2 := []) (v2 := sx_vN) rfl rfl (fun q => absurd (of_decide_eq_true q) hq) (fun _ => ?_)
  refine sx_RP.step (pc2 := 36) (ls2 := [(2, .int 13), (0, .ref 111), (1, .int a1)]) (st2 := []) (w3 := sx_vN) rfl rfl ?_
  refine sx_RP.step (pc2 := 20) (ls2 := [(2, .int 13), (0, .ref 111), (1, .int a1)]) (st2 := []) (w3 := sx_vN) rfl rfl ?_
  refine sx_RP.step (pc2 := 21) (ls2 := [(2, .int 13), (0, .ref 111), (1, .int a1)]) (st2 := [.int 13]) (w3 := sx_vN) rfl rfl ?_
  refine sx_RP.step (pc2 := 24) (ls2 := [(2, .int 13), (0, .ref 111), (1, .int a1)]) (st2 := []) (w3 := sx_vN) rfl rfl ?_
  refine sx_RP.step (pc2 := 25) (ls2 := [(2, .int 13), (0, .ref 111), (1, .int a1)]) (st2 := [.ref 111]) (w3 := sx_vN) rfl rfl ?_
  refine sx_RP.step (pc2 := 26) (ls2 := [(2, .int 13), (0, .ref 111), (1, .int a1)]) (st2 := [.int 13, .ref 111]) (w3 := sx_vN) rfl rfl ?_
  refine sx_RP.cu (as := [.ref 111, .int 13]) (rest2 := []) (st3 := [.int 0]) rfl rfl rfl rfl rfl (cl_206 _ 12 (by decide)) rfl ?_
  refine sx_RP.step (pc2 := 30) (ls2 := [(2, .int 13), (0, .ref 111), (1, .int a1)]) (st2 := [.int a1, .int 0]) (w3 := sx_vN) rfl rfl ?_
  refine sx_RP.br (p2 := 33) (l2 := [(2, .int 13), (0, .ref 111), (1, .int a1)]) (s2 := []) (v2 := sx_vN) rfl rfl (fun q => absurd (of_decide_eq_true q) hq) (fun _ => ?_)
  refine sx_RP.step (pc2 := 36) (ls2 := [(2, .int 12), (0, .ref 111), (1, .int a1)]) (st2 := []) (w3 := sx_vN) rfl rfl ?_
  refine sx_RP.step (pc2 := 20) (ls2 := [(2, .int 12), (0, .ref 111), (1, .int a1)]) (st2 := []) (w3 := sx_vN) rfl rfl ?_
  refine sx_RP.step (pc2 := 21) (ls2 := [(2, .int 12), (0, .ref 111), (1, .int a1)]) (st2 := [.int 12]) (w3 := sx_vN) rfl rfl ?_
  refine sx_RP.step (pc2 := 24) (ls2 := [(2, .int 12), (0, .ref 111), (1, .int a1)]) (st2 := []) (w3 := sx_vN) rfl rfl ?_
  refine sx_RP.step (pc2 := 25) (ls2 := [(2, .int 12), (0, .ref 111), (1, .int a1)]) (st2 := [.ref 111]) (w3 := sx_vN) rfl rfl ?_
  refine sx_RP.step (pc2 := 26) (ls2 := [(2, .int 12), (0, .ref 111), (1, .int a1)]) (st2 := [.int 12, .ref 111]) (w3 := sx_vN) rfl rfl ?_
  refine sx_RP.cu (as := [.ref 111, .int 12]) (rest2 := []) (st3 := [.int 0]) rfl rfl rfl rfl rfl (cl_206 _ 11 (by decide)) rfl ?_
  refine sx_RP.step (pc2 := 30) (ls2 := [(2, .int 12), (0, .ref 111), (1, .int a1)]) (st2 := [.int a1, .int 0]) (w3 := sx_vN) rfl rfl ?_
  refine sx_RP.br (p2 := 33) (l2 := [(2, .int 12), (0, .ref 111), (1, .int a1)]) (s2 := []) (v2 := sx_vN) rfl rfl (fun q => absurd (of_decide_eq_true q) hq) (fun _ => ?_)
  refine sx_RP.step (pc2 := 36) (ls2 := [(2, .int 11), (0, .ref 111), (1, .int a1)]) (st2 := []) (w3 := sx_vN) rfl rfl ?_
  refine sx_RP.step (pc2 := 20) (ls2 := [(2, .int 11), (0, .ref 111), (1, .int a1)]) (st2 := []) (w3 := sx_vN) rfl rfl ?_
  refine sx_RP.step (pc2 := 21) (ls2 := [(2, .int 11), (0, .ref 111), (1, .int a1)]) (st2 := [.int 11]) (w3 := sx_vN) rfl rfl ?_
  refine sx_RP.step (pc2 := 24) (ls2 := [(2, .int 11), (0, .ref 111), (1, .int a1)]) (st2 := []) (w3 := sx_vN) rfl rfl ?_
  refine sx_RP.step (pc2 := 25) (ls2 := [(2, .int 11), (0, .ref 111), (1, .int a1)]) (st2 := [.ref 111]) (w3 := sx_vN) rfl rfl ?_
  refine sx_RP.step (pc2 := 26) (ls2 := [(2, .int 11), (0, .ref 111), (1, .int a1)]) (st2 := [.int 11, .ref 111]) (w3 := sx_vN) rfl rfl ?_
  refine sx_RP.cu (as := [.ref 111, .int 11]) (rest2 := []) (st3 := [.int 0]) rfl rfl rfl rfl rfl (cl_206 _ 10 (by decide)) rfl ?_
  refine sx_RP.step (pc2 := 30) (ls2 := [(2, .int 11), (0, .ref 111), (1, .int a1)]) (st2 := [.int a1, .int 0]) (w3 := sx_vN) rfl rfl ?_
  refine sx_RP.br (p2 := 33) (l2 := [(2, .int 11), (0, .ref 111), (1, .int a1)]) (s2 := []) (v2 := sx_vN) rfl rfl (fun q => absurd (of_decide_eq_true q) hq) (fun _ => ?_)
  refine sx_RP.step (pc2 := 36) (ls2 := [(2, .int 10), (0, .ref 111), (1, .int a1)]) (st2 := []) (w3 := sx_vN) rfl rfl ?_
  refine sx_RP.step (pc2 := 20) (ls2 := [(2, .int 10), (0, .ref 111), (1, .int a1)]) (st2 := []) (w3 := sx_vN) rfl rfl ?_
  refine sx_RP.step (pc2 := 21) (ls2 := [(2, .int 10), (0, .ref 111), (1, .int a1)]) (st2 := [.int 10]) (w3 := sx_vN) rfl rfl ?_
  refine sx_RP.step (pc2 := 24) (ls2 := [(2, .int 10), (0, .ref 111), (1, .int a1)]) (st2 := []) (w3 := sx_vN) rfl rfl ?_
  refine sx_RP.step (pc2 := 25) (ls2 := [(2, .int 10), (0, .ref 111), (1, .int a1)]) (st2 := [.ref 111]) (w3 := sx_vN) rfl rfl ?_
  refine sx_RP.step (pc2 := 26) (ls2 := [(2, .int 10), (0, .ref 111), (1, .int a1)]) (st2 := [.int 10, .ref 111]) (w3 := sx_vN) rfl rfl ?_
  refine sx_RP.cu (as := [.ref 111, .int 10]) (rest2 := []) (st3 := [.int 0]) rfl rfl rfl rfl rfl (cl_206 _ 9 (by decide)) rfl ?_
  refine sx_RP.step (pc2 := 30) (ls2 := [(2, .int 10), (0, .ref 111), (1, .int a1)]) (st2 := [.int a1, .int 0]) (w3 := sx_vN) rfl rfl ?_
  refine sx_RP.br (p2 := 33) (l2 := [(2, .int 10), (0, .ref 111), (1, .int a1)]) (s2 := []) (v2 := sx_vN) rfl rfl (fun q => absurd (of_decide_eq_true q) hq) (fun _ => ?_)
  refine sx_RP.step (pc2 := 36) (ls2 := [(2, .int 9), (0, .ref 111), (1, .int a1)]) (st2 := []) (w3 := sx_vN) rfl rfl ?_
  refine sx_RP.step (pc2 := 20) (ls2 := [(2, .int 9), (0, .ref 111), (1, .int a1)]) (st2 := []) (w3 := sx_vN) rfl rfl ?_
  refine sx_RP.step (pc2 := 21) (ls2 := [(2, .int 9), (0, .ref 111), (1, .int a1)]) (st2 := [.int 9]) (w3 := sx_vN) rfl rfl ?_
  refine sx_RP.step (pc2 := 24) (ls2 := [(2, .int 9), (0, .ref 111), (1, .int a1)]) (st2 := []) (w3 := sx_vN) rfl rfl ?_
  refine sx_RP.step (pc2 := 25) (ls2 := [(2, .int 9), (0, .ref 111), (1, .int a1)]) (st2 := [.ref 111]) (w3 := sx_vN) rfl rfl ?_
  refine sx_RP.step (pc2 := 26) (ls2 := [(2, .int 9), (0, .ref 111), (1, .int a1)]) (st2 := [.int 9, .ref 111]) (w3 := sx_vN) rfl rfl ?_
  refine sx_RP.cu (as := [.ref 111, .int 9]) (rest2 := []) (st3 := [.int 0]) rfl rfl rfl rfl rfl (cl_206 _ 8 (by decide)) rfl ?_
  refine sx_RP.step (pc2 := 30) (ls2 := [(2, .int 9), (0, .ref 111), (1, .int a1)]) (st2 := [.int a1, .int 0]) (w3 := sx_vN) rfl rfl ?_
  refine sx_RP.br (p2 := 33) (l2 := [(2, .int 9), (0, .ref 111), (1, .int a1)]) (s2 := []) (v2 := sx_vN) rfl rfl (fun q => absurd (of_decide_eq_true q) hq) (fun _ => ?_)
  refine sx_RP.step (pc2 := 36) (ls2 := [(2, .int 8), (0, .ref 111), (1, .int a1)]) (st2 := []) (w3 := sx_vN) rfl rfl ?_
  refine sx_RP.step (pc2 := 20) (ls2 := [(2, .int 8), (0, .ref 111), (1, .int a1)]) (st2 := []) (w3 := sx_vN) rfl rfl ?_
  refine sx_RP.step (pc2 := 21) (ls2 := [(2, .int 8), (0, .ref 111), (1, .int a1)]) (st2 := [.int 8]) (w3 := sx_vN) rfl rfl ?_
  refine sx_RP.step (pc2 := 24) (ls2 := [(2, .int 8), (0, .ref 111), (1, .int a1)]) (st2 := []) (w3 := sx_vN) rfl rfl ?_
  refine sx_RP.step (pc2 := 25) (ls2 := [(2, .int 8), (0, .ref 111), (1, .int a1)]) (st2 := [.ref 111]) (w3 := sx_vN) rfl rfl ?_
  refine sx_RP.step (pc2 := 26) (ls2 := [(2, .int 8), (0, .ref 111), (1, .int a1)]) (st2 := [.int 8, .ref 111]) (w3 := sx_vN) rfl rfl ?_
  refine sx_RP.cu (as := [.ref 111, .int 8]) (rest2 := []) (st3 := [.int 0]) rfl rfl rfl rfl rfl (cl_206 _ 7 (by decide)) rfl ?_
  refine sx_RP.step (pc2 := 30) (ls2 := [(2, .int 8), (0, .ref 111), (1, .int a1)]) (st2 := [.int a1, .int 0]) (w3 := sx_vN) rfl rfl ?_
  refine sx_RP.br (p2 := 33) (l2 := [(2, .int 8), (0, .ref 111), (1, .int a1)]) (s2 := []) (v2 := sx_vN) rfl rfl (fun q => absurd (of_decide_eq_true q) hq) (fun _ => ?_)
  refine sx_RP.step (pc2 := 36) (ls2 := [(2, .int 7), (0, .ref 111), (1, .int a1)]) (st2 := []) (w3 := sx_vN) rfl rfl ?_
  refine sx_RP.step (pc2 := 20) (ls2 := [(2, .int 7), (0, .ref 111), (1, .int a1)]) (st2 := []) (w3 := sx_vN) rfl rfl ?_
  refine sx_RP.step (pc2 := 21) (ls2 := [(2, .int 7), (0, .ref 111), (1, .int a1)]) (st2 := [.int 7]) (w3 := sx_vN) rfl rfl ?_
  refine sx_RP.step (pc2 := 24) (ls2 := [(2, .int 7), (0, .ref 111), (1, .int a1)]) (st2 := []) (w3 := sx_vN) rfl rfl ?_
  refine sx_RP.step (pc2 := 25) (ls2 := [(2, .int 7), (0, .ref 111), (1, .int a1)]) (st2 := [.ref 111]) (w3 := sx_vN) rfl rfl ?_
  refine sx_RP.step (pc2 := 26) (ls2 := [(2, .int 7), (0, .ref 111), (1, .int a1)]) (st2 := [.int 7, .ref 111]) (w3 := sx_vN) rfl rfl ?_
  refine sx_RP.cu (as := [.ref 111, .int 7]) (rest2 := []) (st3 := [.int 0]) rfl rfl rfl rfl rfl (cl_206 _ 6 (by decide)) rfl ?_
  refine sx_RP.step (pc2 := 30) (ls2 := [(2, .int 7), (0, .ref 111), (1, .int a1)]) (st2 := [.int a1, .int 0]) (w3 := sx_vN) rfl rfl ?_
  refine sx_RP.br (p2 := 33) (l2 := [(2, .int 7), (0, .ref 111), (1, .int a1)]) (s2 := []) (v2 := sx_vN) rfl rfl (fun q => absurd (of_decide_eq_true q) hq) (fun _ => ?_)
  refine sx_RP.step (pc2 := 36) (ls2 := [(2, .int 6), (0, .ref 111), (1, .int a1)]) (st2 := []) (w3 := sx_vN) rfl rfl ?_
  refine sx_RP.step (pc2 := 20) (ls2 := [(2, .int 6), (0, .ref 111), (1, .int a1)]) (st2 := []) (w3 := sx_vN) rfl rfl ?_
  refine sx_RP.step (pc2 := 21) (ls2 := [(2, .int 6), (0, .ref 111), (1, .int a1)]) (st2 := [.int 6]) (w3 := sx_vN) rfl rfl ?_
  refine sx_RP.step (pc2 := 24) (ls2 := [(2, .int 6), (0, .ref 111), (1, .int a1)]) (st2 := []) (w3 := sx_vN) rfl rfl ?_
  refine sx_RP.step (pc2 := 25) (ls2 := [(2, .int 6), (0, .ref 111), (1, .int a1)]) (st2 := [.ref 111]) (w3 := sx_vN) rfl rfl ?_
  refine sx_RP.step (pc2 := 26) (ls2 := [(2, .int 6), (0, .ref 111), (1, .int a1)]) (st2 := [.int 6, .ref 111]) (w3 := sx_vN) rfl rfl ?_
  refine sx_RP.cu (as := [.ref 111, .int 6]) (rest2 := []) (st3 := [.int 0]) rfl rfl rfl rfl rfl (cl_206 _ 5 (by decide)) rfl ?_
  refine sx_RP.step (pc2 := 30) (ls2 := [(2, .int 6), (0, .ref 111), (1, .int a1)]) (st2 := [.int a1, .int 0]) (w3 := sx_vN) rfl rfl ?_
  refine sx_RP.br (p2 := 33) (l2 := [(2, .int 6), (0, .ref 111), (1, .int a1)]) (s2 := []) (v2 := sx_vN) rfl rfl (fun q => absurd (of_decide_eq_true q) hq) (fun _ => ?_)
  refine sx_RP.step (pc2 := 36) (ls2 := [(2, .int 5), (0, .ref 111), (1, .int a1)]) (st2 := []) (w3 := sx_vN) rfl rfl ?_
  refine sx_RP.step (pc2 := 20) (ls2 := [(2, .int 5), (0, .ref 111), (1, .int a1)]) (st2 := []) (w3 := sx_vN) rfl rfl ?_
  refine sx_RP.step (pc2 := 21) (ls2 := [(2, .int 5), (0, .ref 111), (1, .int a1)]) (st2 := [.int 5]) (w3 := sx_vN) rfl rfl ?_
  refine sx_RP.step (pc2 := 24) (ls2 := [(2, .int 5), (0, .ref 111), (1, .int a1)]) (st2 := []) (w3 := sx_vN) rfl rfl ?_
  refine sx_RP.step (pc2 := 25) (ls2 := [(2, .int 5), (0, .ref 111), (1, .int a1)]) (st2 := [.ref 111]) (w3 := sx_vN) rfl rfl ?_
  refine sx_RP.step (pc2 := 26) (ls2 := [(2, .int 5), (0, .ref 111), (1, .int a1)]) (st2 := [.int 5, .ref 111]) (w3 := sx_vN) rfl rfl ?_
  refine sx_RP.cu (as := [.ref 111, .int 5]) (rest2 := []) (st3 := [.int 0]) rfl rfl rfl rfl rfl (cl_206 _ 4 (by decide)) rfl ?_
  refine sx_RP.step (pc2 := 30) (ls2 := [(2, .int 5), (0, .ref 111), (1, .int a1)]) (st2 := [.int a1, .int 0]) (w3 := sx_vN) rfl rfl ?_
  refine sx_RP.br (p2 := 33) (l2 := [(2, .int 5), (0, .ref 111), (1, .int a1)]) (s2 := []) (v2 := sx_vN) rfl rfl (fun q => absurd (of_decide_eq_true q) hq) (fun _ => ?_)
  refine sx_RP.step (pc2 := 36) (ls2 := [(2, .int 4), (0, .ref 111), (1, .int a1)]) (st2 := []) (w3 := sx_vN) rfl rfl ?_
  refine sx_RP.step (pc2 := 20) (ls2 := [(2, .int 4), (0, .ref 111), (1, .int a1)]) (st2 := []) (w3 := sx_vN) rfl rfl ?_
  refine sx_RP.step (pc2 := 21) (ls2 := [(2, .int 4), (0, .ref 111), (1, .int a1)]) (st2 := [.int 4]) (w3 := sx_vN) rfl rfl ?_
  refine sx_RP.step (pc2 := 24) (ls2 := [(2, .int 4), (0, .ref 111), (1, .int a1)]) (st2 := []) (w3 := sx_vN) rfl rfl ?_
  refine sx_RP.step (pc2 := 25) (ls2 := [(2, .int 4), (0, .ref 111), (1, .int a1)]) (st2 := [.ref 111]) (w3 := sx_vN) rfl rfl ?_
  refine sx_RP.step (pc2 := 26) (ls2 := [(2, .int 4), (0, .ref 111), (1, .int a1)]) (st2 := [.int 4, .ref 111]) (w3 := sx_vN) rfl rfl ?_
  refine sx_RP.cu (as := [.ref 111, .int 4]) (rest2 := []) (st3 := [.int 0]) rfl rfl rfl rfl rfl (cl_206 _ 3 (by decide)) rfl ?_
  refine sx_RP.step (pc2 := 30) (ls2 := [(2, .int 4), (0, .ref 111), (1, .int a1)]) (st2 := [.int a1, .int 0]) (w3 := sx_vN) rfl rfl ?_
  refine sx_RP.br (p2 := 33) (l2 := [(2, .int 4), (0, .ref 111), (1, .int a1)]) (s2 := []) (v2 := sx_vN) rfl rfl (fun q => absurd (of_decide_eq_true q) hq) (fun _ => ?_)
  refine sx_RP.step (pc2 := 36) (ls2 := [(2, .int 3), (0, .ref 111), (1, .int a1)]) (st2 := []) (w3 := sx_vN) rfl rfl ?_
  refine sx_RP.step (pc2 := 20) (ls2 := [(2, .int 3), (0, .ref 111), (1, .int a1)]) (st2 := []) (w3 := sx_vN) rfl rfl ?_
  refine sx_RP.step (pc2 := 21) (ls2 := [(2, .int 3), (0, .ref 111), (1, .int a1)]) (st2 := [.int 3]) (w3 := sx_vN) rfl rfl ?_
  refine sx_RP.step (pc2 := 24) (ls2 := [(2, .int 3), (0, .ref 111), (1, .int a1)]) (st2 := []) (w3 := sx_vN) rfl rfl ?_
  refine sx_RP.step (pc2 := 25) (ls2 := [(2, .int 3), (0, .ref 111), (1, .int a1)]) (st2 := [.ref 111]) (w3 := sx_vN) rfl rfl ?_
  refine sx_RP.step (pc2 := 26) (ls2 := [(2, .int 3), (0, .ref 111), (1, .int a1)]) (st2 := [.int 3, .ref 111]) (w3 := sx_vN) rfl rfl ?_
  refine sx_RP.cu (as := [.ref 111, .int 3]) (rest2 := []) (st3 := [.int 0]) rfl rfl rfl rfl rfl (cl_206 _ 2 (by decide)) rfl ?_
  refine sx_RP.step (pc2 := 30) (ls2 := [(2, .int 3), (0, .ref 111), (1, .int a1)]) (st2 := [.int a1, .int 0]) (w3 := sx_vN) rfl rfl ?_
  refine sx_RP.br (p2 := 33) (l2 := [(2, .int 3), (0, .ref 111), (1, .int a1)]) (s2 := []) (v2 := sx_vN) rfl rfl (fun q => absurd (of_decide_eq_true q) hq) (fun _ => ?_)
  refine sx_RP.step (pc2 := 36) (ls2 := [(2, .int 2), (0, .ref 111), (1, .int a1)]) (st2 := []) (w3 := sx_vN) rfl rfl ?_
  refine sx_RP.step (pc2 := 20) (ls2 := [(2, .int 2), (0, .ref 111), (1, .int a1)]) (st2 := []) (w3 := sx_vN) rfl rfl ?_
  refine sx_RP.step (pc2 := 21) (ls2 := [(2, .int 2), (0, .ref 111), (1, .int a1)]) (st2 := [.int 2]) (w3 := sx_vN) rfl rfl ?_
  refine sx_RP.step (pc2 := 24) (ls2 := [(2, .int 2), (0, .ref 111), (1, .int a1)]) (st2 := []) (w3 := sx_vN) rfl rfl ?_
  refine sx_RP.step (pc2 := 25) (ls2 := [(2, .int 2), (0, .ref 111), (1, .int a1)]) (st2 := [.ref 111]) (w3 := sx_vN) rfl rfl ?_
  refine sx_RP.step (pc2 := 26) (ls2 := [(2, .int 2), (0, .ref 111), (1, .int a1)]) (st2 := [.int 2, .ref 111]) (w3 := sx_vN) rfl rfl ?_
  refine sx_RP.cu (as := [.ref 111, .int 2]) (rest2 := []) (st3 := [.int 0]) rfl rfl rfl rfl rfl (cl_206 _ 1 (by decide)) rfl ?_
  refine sx_RP.step (pc2 := 30) (ls2 := [(2, .int 2), (0, .ref 111), (1, .int a1)]) (st2 := [.int a1, .int 0]) (w3 := sx_vN) rfl rfl ?_
  refine sx_RP.br (p2 := 33) (l2 := [(2, .int 2), (0, .ref 111), (1, .int a1)]) (s2 := []) (v2 := sx_vN) rfl rfl (fun q => absurd (of_decide_eq_true q) hq) (fun _ => ?_)
  refine sx_RP.step (pc2 := 36) (ls2 := [(2, .int 1), (0, .ref 111), (1, .int a1)]) (st2 := []) (w3 := sx_vN) rfl rfl ?_
  refine sx_RP.step (pc2 := 20) (ls2 := [(2, .int 1), (0, .ref 111), (1, .int a1)]) (st2 := []) (w3 := sx_vN) rfl rfl ?_
  refine sx_RP.step (pc2 := 21) (ls2 := [(2, .int 1), (0, .ref 111), (1, .int a1)]) (st2 := [.int 1]) (w3 := sx_vN) rfl rfl ?_
  refine sx_RP.step (pc2 := 24) (ls2 := [(2, .int 1), (0, .ref 111), (1, .int a1)]) (st2 := []) (w3 := sx_vN) rfl rfl ?_
  refine sx_RP.step (pc2 := 25) (ls2 := [(2, .int 1), (0, .ref 111), (1, .int a1)]) (st2 := [.ref 111]) (w3 := sx_vN) rfl rfl ?_
  refine sx_RP.step (pc2 := 26) (ls2 := [(2, .int 1), (0, .ref 111), (1, .int a1)]) (st2 := [.int 1, .ref 111]) (w3 := sx_vN) rfl rfl ?_
  refine sx_RP.cu (as := [.ref 111, .int 1]) (rest2 := []) (st3 := [.int 0]) rfl rfl rfl rfl rfl (cl_206 _ 0 (by decide)) rfl ?_
  refine sx_RP.step (pc2 := 30) (ls2 := [(2, .int 1), (0, .ref 111), (1, .int a1)]) (st2 := [.int a1, .int 0]) (w3 := sx_vN) rfl rfl ?_
  refine sx_RP.br (p2 := 33) (l2 := [(2, .int 1), (0, .ref 111), (1, .int a1)]) (s2 := []) (v2 := sx_vN) rfl rfl (fun q => absurd (of_decide_eq_true q) hq) (fun _ => ?_)
  refine sx_RP.step (pc2 := 36) (ls2 := [(2, .int 0), (0, .ref 111), (1, .int a1)]) (st2 := []) (w3 := sx_vN) rfl rfl ?_
  refine sx_RP.step (pc2 := 20) (ls2 := [(2, .int 0), (0, .ref 111), (1, .int a1)]) (st2 := []) (w3 := sx_vN) rfl rfl ?_
  refine sx_RP.step (pc2 := 21) (ls2 := [(2, .int 0), (0, .ref 111), (1, .int a1)]) (st2 := [.int 0]) (w3 := sx_vN) rfl rfl ?_
  refine sx_RP.step (pc2 := 39) (ls2 := [(2, .int 0), (0, .ref 111), (1, .int a1)]) (st2 := []) (w3 := sx_vN) rfl rfl ?_
  refine sx_RP.step (pc2 := 40) (ls2 := [(2, .int 0), (0, .ref 111), (1, .int a1)]) (st2 := [.int 0]) (w3 := sx_vN) rfl rfl ?_
  refine sx_RP.step (pc2 := 47) (ls2 := [(2, .int 0), (0, .ref 111), (1, .int a1)]) (st2 := []) (w3 := sx_vN) rfl rfl ?_
  refine sx_RP.step (pc2 := 48) (ls2 := [(2, .int 0), (0, .ref 111), (1, .int a1)]) (st2 := [.ref 111]) (w3 := sx_vN) rfl rfl ?_
  refine sx_RP.step (pc2 := 49) (ls2 := [(2, .int 0), (0, .ref 111), (1, .int a1)]) (st2 := [.int 3, .ref 111]) (w3 := sx_vN) rfl rfl ?_
  refine sx_RP.cu (as := [.ref 111, .int 3]) (rest2 := []) (st3 := [.int (-1000000004)]) rfl rfl rfl rfl rfl (cn_N _) rfl ?_
  refine sx_RP.ret rfl rfl ?_
  rfl
