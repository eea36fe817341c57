set_option maxRecDepth 100000 in
set_option maxHeartbeats 4000000 in
theorem zz_try3 : (match sx_run true [] 2000 6 0 0 [(0, .ref 0)] [] [.inr (.inr (.inr (0, sx_df 0)))] with | some (r, w) => w.length | none => 77) = 111 := by decide +kernel
set_option maxRecDepth 100000 in
set_option maxHeartbeats 4000000 in
theorem zz_try4 : (match sx_run true [0, 5, 2, 0, 0, 0] 3000 6 246 0 [(0, .float 4)] [] [] with | some (some (.int r), w) => (r == 1) | _ => false) = true := by decide +kernel
set_option maxRecDepth 100000 in
set_option maxHeartbeats 4000000 in
theorem zz_try5 : (match sx_run true [11, 3, 2, 0, 0, 0] 3000 6 246 0 [(0, .float 4)] [] [] with | some (some (.int r), w) => (r == 1) | _ => false) = true := by decide +kernel
