-- safety: feed, sheet, copy
set_option maxRecDepth 20000 in
set_option maxHeartbeats 4000000 in
theorem s89 {xs : Option (List Int32)} {d : Nat} {w : List sx_C} (hI : WI w) (b : Int32) : sx_RP xs d 89 0 (lv_args 0 [.ref 96, .int b]) [] w (fun r w2 => (r = none) ∧ WI w2 ∧ EX (96) w w2) := by
  have hE : EX (96) w w := EX.rf
  refine sx_RP.step (pc2 := 1) (ls2 := [(0, .ref 96), (1, .int b)]) (st2 := [.ref 96]) (w3 := w) rfl rfl ?_
  refine sx_RP.gt (k := 1) hI rfl rfl (by decide) (show _ = 4 from rfl) ?_
  obtain ⟨x1, hx2, ex3⟩ : inR (fi w 96 1) 120 := hI.t.1
  rw [ex3]
  refine sx_RP.step (pc2 := 6) (ls2 := [(0, .ref 96), (1, .int b)]) (st2 := [.int 120, .int (nI x1)]) (w3 := w) rfl rfl ?_
  refine sx_RP.br (p1 := 29) (l1 := [(0, .ref 96), (1, .int b)]) (s1 := []) (v1 := w) (p2 := 9) (l2 := [(0, .ref 96), (1, .int b)]) (s2 := []) (v2 := w) rfl rfl (fun q4 => ?_) (fun q4 => ?_)
  · replace q4 := of_decide_eq_true q4
    replace q4 := (nI_leI (a := 120) (b := x1) (by omega) (by omega)).mp q4
    refine sx_RP.ret (r := none) rfl rfl ?_
    exact ⟨rfl, hI, hE⟩
  · replace q4 := of_decide_eq_false q4
    replace q4 := mt (nI_leI (a := 120) (b := x1) (by omega) (by omega)).mpr q4
    refine sx_RP.step (pc2 := 10) (ls2 := [(0, .ref 96), (1, .int b)]) (st2 := [.ref 96]) (w3 := w) rfl rfl ?_
    refine sx_RP.gf (v := .ref 97) rfl rfl hI.1.o96 rfl rfl (show _ = 13 from rfl) ?_
    refine sx_RP.step (pc2 := 14) (ls2 := [(0, .ref 96), (1, .int b)]) (st2 := [.ref 96, .ref 97]) (w3 := w) rfl rfl ?_
    refine sx_RP.gt (k := 1) hI rfl rfl (by decide) (show _ = 17 from rfl) ?_
    rw [ex3]
    refine sx_RP.step (pc2 := 18) (ls2 := [(0, .ref 96), (1, .int b)]) (st2 := [.int b, .int (nI x1), .ref 97]) (w3 := w) rfl rfl ?_
    refine sx_RP.stT hI EC.rf rfl hI.1.a97 (sx_in_nI (show x1 < 120 by omega) (by decide)) trivial (show _ = 19 from rfl) (fun w5 hI6 hE8 => ?_)
    have hE7 := hE.tr hE8.ex
    have ex9 := (keep96 hI hI6 ((hE8 96).1 (by decide))).trans ex3
    refine sx_RP.step (pc2 := 20) (ls2 := [(0, .ref 96), (1, .int b)]) (st2 := [.ref 96]) (w3 := w5) rfl rfl ?_
    refine sx_RP.step (pc2 := 21) (ls2 := [(0, .ref 96), (1, .int b)]) (st2 := [.ref 96, .ref 96]) (w3 := w5) rfl rfl ?_
    refine sx_RP.gt (k := 1) hI6 rfl rfl (by decide) (show _ = 24 from rfl) ?_
    rw [ex9]
    refine sx_RP.step (pc2 := 25) (ls2 := [(0, .ref 96), (1, .int b)]) (st2 := [.int 1, .int (nI x1), .ref 96]) (w3 := w5) rfl rfl ?_
    refine sx_RP.step (pc2 := 26) (ls2 := [(0, .ref 96), (1, .int b)]) (st2 := [.int ((nI x1) + 1), .ref 96]) (w3 := w5) rfl rfl ?_
    rw [show ((nI x1) + 1 : Int32) = nI (x1 + 1) from nI_add x1 1]
    refine sx_RP.pl hI6 rfl rfl rfl (inR.n (show (x1 + 1) ≤ 120 by omega)) (show _ = 29 from rfl) (fun w10 hI11 hE13 ht14 => ?_)
    have hE12 := hE7.tr hE13
    refine sx_RP.ret (r := none) rfl rfl ?_
    exact ⟨rfl, hI11, hE12⟩
set_option maxRecDepth 20000 in
set_option maxHeartbeats 4000000 in
theorem p88 {xs : Option (List Int32)} {d : Nat} {w : List sx_C} (hI : WI w) (x : Int32) : ∃ j, j ≤ 1 ∧ sx_RU xs d 88 0 (lv_args 0 [.ref 96, .int x]) [] w (some (.int (nI j))) w := by
  have h : sx_RP xs d 88 0 (lv_args 0 [.ref 96, .int x]) [] w (fun r w2 => (∃ j, j ≤ 1 ∧ r = some (.int (nI j))) ∧ w2 = w) := by
    refine sx_RP.step (pc2 := 1) (ls2 := [(0, .ref 96), (1, .int x)]) (st2 := [.ref 96]) (w3 := w) rfl rfl ?_
    refine sx_RP.gt (k := 1) hI rfl rfl (by decide) (show _ = 4 from rfl) ?_
    obtain ⟨x1, hx2, ex3⟩ : inR (fi w 96 1) 120 := hI.t.1
    rw [ex3]
    refine sx_RP.step (pc2 := 5) (ls2 := [(0, .ref 96), (1, .int x)]) (st2 := [.int x, .int (nI x1)]) (w3 := w) rfl rfl ?_
    refine sx_RP.step (pc2 := 6) (ls2 := [(0, .ref 96), (1, .int x)]) (st2 := [.int ((nI x1) + x)]) (w3 := w) rfl rfl ?_
    refine sx_RP.step (pc2 := 8) (ls2 := [(0, .ref 96), (1, .int x)]) (st2 := [.int 120, .int ((nI x1) + x)]) (w3 := w) rfl rfl ?_
    refine sx_RP.br (p1 := 15) (l1 := [(0, .ref 96), (1, .int x)]) (s1 := []) (v1 := w) (p2 := 11) (l2 := [(0, .ref 96), (1, .int x)]) (s2 := []) (v2 := w) rfl rfl (fun q4 => ?_) (fun q4 => ?_)
    · replace q4 := of_decide_eq_true q4
      refine sx_RP.step (pc2 := 16) (ls2 := [(0, .ref 96), (1, .int x)]) (st2 := [.int 0]) (w3 := w) rfl rfl ?_
      refine sx_RP.ret (r := (some (.int 0))) rfl rfl ?_
      exact ⟨⟨0, by decide, rfl⟩, rfl⟩
    · replace q4 := of_decide_eq_false q4
      refine sx_RP.step (pc2 := 12) (ls2 := [(0, .ref 96), (1, .int x)]) (st2 := [.int 1]) (w3 := w) rfl rfl ?_
      refine sx_RP.step (pc2 := 16) (ls2 := [(0, .ref 96), (1, .int x)]) (st2 := [.int 1]) (w3 := w) rfl rfl ?_
      refine sx_RP.ret (r := (some (.int 1))) rfl rfl ?_
      exact ⟨⟨1, by decide, rfl⟩, rfl⟩
  obtain ⟨r, w2, h1, ⟨j, hj, rfl⟩, rfl⟩ := h
  exact ⟨j, hj, h1⟩
set_option maxRecDepth 20000 in
set_option maxHeartbeats 4000000 in
theorem s87_m1 {xs : Option (List Int32)} {d n : Nat} {a1 : Int32} {w w0 : List sx_C} (hI : WI w) (hE : EX 96 w0 w) : sx_RP xs (d + 7) 87 38 [(0, .ref 0), (1, .int a1), (2, .int (nI n)), (3, .int (-1))] [] w (fun r w2 => (∃ v : Int32, r = some (.int v)) ∧ WI w2 ∧ EX 96 w0 w2) := by
  refine sx_RP.step (pc2 := 39) (ls2 := [(0, .ref 0), (1, .int a1), (2, .int (nI n)), (3, .int (-1))]) (st2 := [.int (-1)]) (w3 := w) rfl rfl ?_
  refine sx_RP.step (pc2 := 62) (ls2 := [(0, .ref 0), (1, .int a1), (2, .int (nI n)), (3, .int (-1))]) (st2 := []) (w3 := w) rfl rfl ?_
  refine sx_RP.step (pc2 := 63) (ls2 := [(0, .ref 0), (1, .int a1), (2, .int (nI n)), (3, .int (-1))]) (st2 := [.ref 0]) (w3 := w) rfl rfl ?_
  refine sx_RP.gf (v := .ref 96) rfl rfl hI.1.o0 rfl rfl (show _ = 66 from rfl) ?_
  refine sx_RP.gt (k := 1) hI rfl rfl (by decide) (show _ = 69 from rfl) ?_
  obtain ⟨x1, hx2, ex3⟩ : inR (fi w 96 1) 120 := hI.t.1
  rw [ex3]
  refine sx_RP.ret (r := (some (.int (nI x1)))) rfl rfl ?_
  exact ⟨⟨_, rfl⟩, hI, hE⟩
set_option maxRecDepth 20000 in
set_option maxHeartbeats 4000000 in
theorem s87_0 {xs : Option (List Int32)} {d n : Nat} {a1 : Int32} {w w0 : List sx_C} (hI : WI w) (hE : EX 96 w0 w) : sx_RP xs (d + 7) 87 38 [(0, .ref 0), (1, .int a1), (2, .int (nI n)), (3, .int 0)] [] w (fun r w2 => (∃ v : Int32, r = some (.int v)) ∧ WI w2 ∧ EX 96 w0 w2) := by
  refine sx_RP.step (pc2 := 39) (ls2 := [(0, .ref 0), (1, .int a1), (2, .int (nI n)), (3, .int 0)]) (st2 := [.int 0]) (w3 := w) rfl rfl ?_
  refine sx_RP.step (pc2 := 42) (ls2 := [(0, .ref 0), (1, .int a1), (2, .int (nI n)), (3, .int 0)]) (st2 := []) (w3 := w) rfl rfl ?_
  refine sx_RP.step (pc2 := 43) (ls2 := [(0, .ref 0), (1, .int a1), (2, .int (nI n)), (3, .int 0)]) (st2 := [.ref 0]) (w3 := w) rfl rfl ?_
  refine sx_RP.gf (v := .ref 96) rfl rfl hI.1.o0 rfl rfl (show _ = 46 from rfl) ?_
  refine sx_RP.step (pc2 := 47) (ls2 := [(0, .ref 0), (1, .int a1), (2, .int (nI n)), (3, .int 0)]) (st2 := [.int a1, .ref 96]) (w3 := w) rfl rfl ?_
  refine sx_RP.step (pc2 := 49) (ls2 := [(0, .ref 0), (1, .int a1), (2, .int (nI n)), (3, .int 0)]) (st2 := [.int 8, .int a1, .ref 96]) (w3 := w) rfl rfl ?_
  refine sx_RP.step (pc2 := 50) (ls2 := [(0, .ref 0), (1, .int a1), (2, .int (nI n)), (3, .int 0)]) (st2 := [.int 0, .int 8, .int a1, .ref 96]) (w3 := w) rfl rfl ?_
  refine sx_RP.step (pc2 := 51) (ls2 := [(0, .ref 0), (1, .int a1), (2, .int (nI n)), (3, .int 0)]) (st2 := [.int 0, .int a1, .ref 96]) (w3 := w) rfl rfl ?_
  refine sx_RP.step (pc2 := 52) (ls2 := [(0, .ref 0), (1, .int a1), (2, .int (nI n)), (3, .int 0)]) (st2 := [.int (a1 >>> (0 &&& 31)), .ref 96]) (w3 := w) rfl rfl ?_
  refine sx_RP.step (pc2 := 53) (ls2 := [(0, .ref 0), (1, .int a1), (2, .int (nI n)), (3, .int 0)]) (st2 := [.int ((a1 >>> (0 &&& 31)).toInt8.toInt32), .ref 96]) (w3 := w) rfl rfl ?_
  refine sx_RP.callp (as2 := [.ref 96, .int ((a1 >>> (0 &&& 31)).toInt8.toInt32)]) (rest2 := []) rfl rfl (sx_inv_v2 (mi := 87) (k := 282) (st := [.int ((a1 >>> (0 &&& 31)).toInt8.toInt32), .ref 96]) (w := w) rfl rfl hI.1.o96 rfl rfl rfl) rfl rfl rfl (s89 hI ((a1 >>> (0 &&& 31)).toInt8.toInt32)) (show _ = 56 from rfl) ?_
  rintro r4 w1 ⟨rfl, hI2, hE4⟩
  have hE3 := hE.tr hE4
  show sx_RP _ _ _ _ _ [] _ _
  refine sx_RP.step (pc2 := 59) (ls2 := [(3, .int (-1)), (0, .ref 0), (1, .int a1), (2, .int (nI n))]) (st2 := []) (w3 := w1) rfl rfl ?_
  refine sx_RP.step (pc2 := 38) (ls2 := [(3, .int (-1)), (0, .ref 0), (1, .int a1), (2, .int (nI n))]) (st2 := []) (w3 := w1) rfl rfl ?_
  exact sx_RP.ls (sx_lr.cons rfl (sx_lr.cons rfl (sx_lr.cons rfl (sx_lr.cons rfl sx_lr.nil)))) (s87_m1 hI2 hE3)
set_option maxRecDepth 20000 in
set_option maxHeartbeats 4000000 in
theorem s87_1 {xs : Option (List Int32)} {d n : Nat} {a1 : Int32} {w w0 : List sx_C} (hI : WI w) (hE : EX 96 w0 w) : sx_RP xs (d + 7) 87 38 [(0, .ref 0), (1, .int a1), (2, .int (nI n)), (3, .int 1)] [] w (fun r w2 => (∃ v : Int32, r = some (.int v)) ∧ WI w2 ∧ EX 96 w0 w2) := by
  refine sx_RP.step (pc2 := 39) (ls2 := [(0, .ref 0), (1, .int a1), (2, .int (nI n)), (3, .int 1)]) (st2 := [.int 1]) (w3 := w) rfl rfl ?_
  refine sx_RP.step (pc2 := 42) (ls2 := [(0, .ref 0), (1, .int a1), (2, .int (nI n)), (3, .int 1)]) (st2 := []) (w3 := w) rfl rfl ?_
  refine sx_RP.step (pc2 := 43) (ls2 := [(0, .ref 0), (1, .int a1), (2, .int (nI n)), (3, .int 1)]) (st2 := [.ref 0]) (w3 := w) rfl rfl ?_
  refine sx_RP.gf (v := .ref 96) rfl rfl hI.1.o0 rfl rfl (show _ = 46 from rfl) ?_
  refine sx_RP.step (pc2 := 47) (ls2 := [(0, .ref 0), (1, .int a1), (2, .int (nI n)), (3, .int 1)]) (st2 := [.int a1, .ref 96]) (w3 := w) rfl rfl ?_
  refine sx_RP.step (pc2 := 49) (ls2 := [(0, .ref 0), (1, .int a1), (2, .int (nI n)), (3, .int 1)]) (st2 := [.int 8, .int a1, .ref 96]) (w3 := w) rfl rfl ?_
  refine sx_RP.step (pc2 := 50) (ls2 := [(0, .ref 0), (1, .int a1), (2, .int (nI n)), (3, .int 1)]) (st2 := [.int 1, .int 8, .int a1, .ref 96]) (w3 := w) rfl rfl ?_
  refine sx_RP.step (pc2 := 51) (ls2 := [(0, .ref 0), (1, .int a1), (2, .int (nI n)), (3, .int 1)]) (st2 := [.int 8, .int a1, .ref 96]) (w3 := w) rfl rfl ?_
  refine sx_RP.step (pc2 := 52) (ls2 := [(0, .ref 0), (1, .int a1), (2, .int (nI n)), (3, .int 1)]) (st2 := [.int (a1 >>> (8 &&& 31)), .ref 96]) (w3 := w) rfl rfl ?_
  refine sx_RP.step (pc2 := 53) (ls2 := [(0, .ref 0), (1, .int a1), (2, .int (nI n)), (3, .int 1)]) (st2 := [.int ((a1 >>> (8 &&& 31)).toInt8.toInt32), .ref 96]) (w3 := w) rfl rfl ?_
  refine sx_RP.callp (as2 := [.ref 96, .int ((a1 >>> (8 &&& 31)).toInt8.toInt32)]) (rest2 := []) rfl rfl (sx_inv_v2 (mi := 87) (k := 282) (st := [.int ((a1 >>> (8 &&& 31)).toInt8.toInt32), .ref 96]) (w := w) rfl rfl hI.1.o96 rfl rfl rfl) rfl rfl rfl (s89 hI ((a1 >>> (8 &&& 31)).toInt8.toInt32)) (show _ = 56 from rfl) ?_
  rintro r4 w1 ⟨rfl, hI2, hE4⟩
  have hE3 := hE.tr hE4
  show sx_RP _ _ _ _ _ [] _ _
  refine sx_RP.step (pc2 := 59) (ls2 := [(3, .int 0), (0, .ref 0), (1, .int a1), (2, .int (nI n))]) (st2 := []) (w3 := w1) rfl rfl ?_
  refine sx_RP.step (pc2 := 38) (ls2 := [(3, .int 0), (0, .ref 0), (1, .int a1), (2, .int (nI n))]) (st2 := []) (w3 := w1) rfl rfl ?_
  exact sx_RP.ls (sx_lr.cons rfl (sx_lr.cons rfl (sx_lr.cons rfl (sx_lr.cons rfl sx_lr.nil)))) (s87_0 hI2 hE3)
set_option maxRecDepth 20000 in
set_option maxHeartbeats 4000000 in
theorem s87_2 {xs : Option (List Int32)} {d n : Nat} {a1 : Int32} {w w0 : List sx_C} (hI : WI w) (hE : EX 96 w0 w) : sx_RP xs (d + 7) 87 38 [(0, .ref 0), (1, .int a1), (2, .int (nI n)), (3, .int 2)] [] w (fun r w2 => (∃ v : Int32, r = some (.int v)) ∧ WI w2 ∧ EX 96 w0 w2) := by
  refine sx_RP.step (pc2 := 39) (ls2 := [(0, .ref 0), (1, .int a1), (2, .int (nI n)), (3, .int 2)]) (st2 := [.int 2]) (w3 := w) rfl rfl ?_
  refine sx_RP.step (pc2 := 42) (ls2 := [(0, .ref 0), (1, .int a1), (2, .int (nI n)), (3, .int 2)]) (st2 := []) (w3 := w) rfl rfl ?_
  refine sx_RP.step (pc2 := 43) (ls2 := [(0, .ref 0), (1, .int a1), (2, .int (nI n)), (3, .int 2)]) (st2 := [.ref 0]) (w3 := w) rfl rfl ?_
  refine sx_RP.gf (v := .ref 96) rfl rfl hI.1.o0 rfl rfl (show _ = 46 from rfl) ?_
  refine sx_RP.step (pc2 := 47) (ls2 := [(0, .ref 0), (1, .int a1), (2, .int (nI n)), (3, .int 2)]) (st2 := [.int a1, .ref 96]) (w3 := w) rfl rfl ?_
  refine sx_RP.step (pc2 := 49) (ls2 := [(0, .ref 0), (1, .int a1), (2, .int (nI n)), (3, .int 2)]) (st2 := [.int 8, .int a1, .ref 96]) (w3 := w) rfl rfl ?_
  refine sx_RP.step (pc2 := 50) (ls2 := [(0, .ref 0), (1, .int a1), (2, .int (nI n)), (3, .int 2)]) (st2 := [.int 2, .int 8, .int a1, .ref 96]) (w3 := w) rfl rfl ?_
  refine sx_RP.step (pc2 := 51) (ls2 := [(0, .ref 0), (1, .int a1), (2, .int (nI n)), (3, .int 2)]) (st2 := [.int 16, .int a1, .ref 96]) (w3 := w) rfl rfl ?_
  refine sx_RP.step (pc2 := 52) (ls2 := [(0, .ref 0), (1, .int a1), (2, .int (nI n)), (3, .int 2)]) (st2 := [.int (a1 >>> (16 &&& 31)), .ref 96]) (w3 := w) rfl rfl ?_
  refine sx_RP.step (pc2 := 53) (ls2 := [(0, .ref 0), (1, .int a1), (2, .int (nI n)), (3, .int 2)]) (st2 := [.int ((a1 >>> (16 &&& 31)).toInt8.toInt32), .ref 96]) (w3 := w) rfl rfl ?_
  refine sx_RP.callp (as2 := [.ref 96, .int ((a1 >>> (16 &&& 31)).toInt8.toInt32)]) (rest2 := []) rfl rfl (sx_inv_v2 (mi := 87) (k := 282) (st := [.int ((a1 >>> (16 &&& 31)).toInt8.toInt32), .ref 96]) (w := w) rfl rfl hI.1.o96 rfl rfl rfl) rfl rfl rfl (s89 hI ((a1 >>> (16 &&& 31)).toInt8.toInt32)) (show _ = 56 from rfl) ?_
  rintro r4 w1 ⟨rfl, hI2, hE4⟩
  have hE3 := hE.tr hE4
  show sx_RP _ _ _ _ _ [] _ _
  refine sx_RP.step (pc2 := 59) (ls2 := [(3, .int 1), (0, .ref 0), (1, .int a1), (2, .int (nI n))]) (st2 := []) (w3 := w1) rfl rfl ?_
  refine sx_RP.step (pc2 := 38) (ls2 := [(3, .int 1), (0, .ref 0), (1, .int a1), (2, .int (nI n))]) (st2 := []) (w3 := w1) rfl rfl ?_
  exact sx_RP.ls (sx_lr.cons rfl (sx_lr.cons rfl (sx_lr.cons rfl (sx_lr.cons rfl sx_lr.nil)))) (s87_1 hI2 hE3)
set_option maxRecDepth 20000 in
set_option maxHeartbeats 4000000 in
theorem s87_3 {xs : Option (List Int32)} {d n : Nat} {a1 : Int32} {w w0 : List sx_C} (hI : WI w) (hE : EX 96 w0 w) : sx_RP xs (d + 7) 87 38 [(0, .ref 0), (1, .int a1), (2, .int (nI n)), (3, .int 3)] [] w (fun r w2 => (∃ v : Int32, r = some (.int v)) ∧ WI w2 ∧ EX 96 w0 w2) := by
  refine sx_RP.step (pc2 := 39) (ls2 := [(0, .ref 0), (1, .int a1), (2, .int (nI n)), (3, .int 3)]) (st2 := [.int 3]) (w3 := w) rfl rfl ?_
  refine sx_RP.step (pc2 := 42) (ls2 := [(0, .ref 0), (1, .int a1), (2, .int (nI n)), (3, .int 3)]) (st2 := []) (w3 := w) rfl rfl ?_
  refine sx_RP.step (pc2 := 43) (ls2 := [(0, .ref 0), (1, .int a1), (2, .int (nI n)), (3, .int 3)]) (st2 := [.ref 0]) (w3 := w) rfl rfl ?_
  refine sx_RP.gf (v := .ref 96) rfl rfl hI.1.o0 rfl rfl (show _ = 46 from rfl) ?_
  refine sx_RP.step (pc2 := 47) (ls2 := [(0, .ref 0), (1, .int a1), (2, .int (nI n)), (3, .int 3)]) (st2 := [.int a1, .ref 96]) (w3 := w) rfl rfl ?_
  refine sx_RP.step (pc2 := 49) (ls2 := [(0, .ref 0), (1, .int a1), (2, .int (nI n)), (3, .int 3)]) (st2 := [.int 8, .int a1, .ref 96]) (w3 := w) rfl rfl ?_
  refine sx_RP.step (pc2 := 50) (ls2 := [(0, .ref 0), (1, .int a1), (2, .int (nI n)), (3, .int 3)]) (st2 := [.int 3, .int 8, .int a1, .ref 96]) (w3 := w) rfl rfl ?_
  refine sx_RP.step (pc2 := 51) (ls2 := [(0, .ref 0), (1, .int a1), (2, .int (nI n)), (3, .int 3)]) (st2 := [.int 24, .int a1, .ref 96]) (w3 := w) rfl rfl ?_
  refine sx_RP.step (pc2 := 52) (ls2 := [(0, .ref 0), (1, .int a1), (2, .int (nI n)), (3, .int 3)]) (st2 := [.int (a1 >>> (24 &&& 31)), .ref 96]) (w3 := w) rfl rfl ?_
  refine sx_RP.step (pc2 := 53) (ls2 := [(0, .ref 0), (1, .int a1), (2, .int (nI n)), (3, .int 3)]) (st2 := [.int ((a1 >>> (24 &&& 31)).toInt8.toInt32), .ref 96]) (w3 := w) rfl rfl ?_
  refine sx_RP.callp (as2 := [.ref 96, .int ((a1 >>> (24 &&& 31)).toInt8.toInt32)]) (rest2 := []) rfl rfl (sx_inv_v2 (mi := 87) (k := 282) (st := [.int ((a1 >>> (24 &&& 31)).toInt8.toInt32), .ref 96]) (w := w) rfl rfl hI.1.o96 rfl rfl rfl) rfl rfl rfl (s89 hI ((a1 >>> (24 &&& 31)).toInt8.toInt32)) (show _ = 56 from rfl) ?_
  rintro r4 w1 ⟨rfl, hI2, hE4⟩
  have hE3 := hE.tr hE4
  show sx_RP _ _ _ _ _ [] _ _
  refine sx_RP.step (pc2 := 59) (ls2 := [(3, .int 2), (0, .ref 0), (1, .int a1), (2, .int (nI n))]) (st2 := []) (w3 := w1) rfl rfl ?_
  refine sx_RP.step (pc2 := 38) (ls2 := [(3, .int 2), (0, .ref 0), (1, .int a1), (2, .int (nI n))]) (st2 := []) (w3 := w1) rfl rfl ?_
  exact sx_RP.ls (sx_lr.cons rfl (sx_lr.cons rfl (sx_lr.cons rfl (sx_lr.cons rfl sx_lr.nil)))) (s87_2 hI2 hE3)
set_option maxRecDepth 20000 in
set_option maxHeartbeats 4000000 in
theorem s87 {xs : Option (List Int32)} {d : Nat} {w : List sx_C} (hI : WI w) (a1 a2 : Int32) : sx_RP xs (d + 7) 87 0 (lv_args 0 [.ref 0, .int a1, .int a2]) [] w (fun r w2 => (∃ v : Int32, r = some (.int v)) ∧ WI w2 ∧ EX (96) w w2) := by
  have hE : EX (96) w w := EX.rf
  refine sx_RP.step (pc2 := 1) (ls2 := [(0, .ref 0), (1, .int a1), (2, .int a2)]) (st2 := [.int a2]) (w3 := w) rfl rfl ?_
  refine sx_RP.step (pc2 := 2) (ls2 := [(0, .ref 0), (1, .int a1), (2, .int a2)]) (st2 := [.int 1, .int a2]) (w3 := w) rfl rfl ?_
  refine sx_RP.step (pc2 := 3) (ls2 := [(0, .ref 0), (1, .int a1), (2, .int a2)]) (st2 := [.int 4, .int 1, .int a2]) (w3 := w) rfl rfl ?_
  rcases in_cases a2 1 4 (m := 1) (n := 4) rfl rfl (by decide) (by decide) with q1 | ⟨x2, hx3, hx4, rfl⟩
  · refine sx_RP.cu (as := [.int a2, .int 1, .int 4]) (rest2 := []) (st3 := [.int 0]) rfl rfl rfl rfl rfl (cx_8n q1) rfl ?_
    refine sx_RP.step (pc2 := 9) (ls2 := [(0, .ref 0), (1, .int a1), (2, .int a2)]) (st2 := []) (w3 := w) rfl rfl ?_
    refine sx_RP.step (pc2 := 10) (ls2 := [(0, .ref 0), (1, .int a1), (2, .int a2)]) (st2 := [.ref 0]) (w3 := w) rfl rfl ?_
    refine sx_RP.step (pc2 := 12) (ls2 := [(0, .ref 0), (1, .int a1), (2, .int a2)]) (st2 := [.int (-1000000001), .ref 0]) (w3 := w) rfl rfl ?_
    refine sx_RP.callp (as2 := [.ref 0, .int (-1000000001)]) (rest2 := []) rfl rfl (sx_inv_v2 (mi := 87) (k := 78) (st := [.int (-1000000001), .ref 0]) (w := w) rfl rfl hI.1.o0 rfl rfl rfl) rfl rfl rfl (s9_0 hI) (show _ = 15 from rfl) ?_
    rintro r4 w6 ⟨rfl, hI7, hE9⟩
    have hE8 := hE.tr hE9.ex
    show sx_RP _ _ _ _ _ [.int (-1000000001)] _ _
    refine sx_RP.ret (r := (some (.int (-1000000001)))) rfl rfl ?_
    exact ⟨⟨_, rfl⟩, hI7, hE8⟩
  · refine sx_RP.cu (as := [.int (nI x2), .int 1, .int 4]) (rest2 := []) (st3 := [.int 1]) rfl rfl rfl rfl rfl (cx_8p ⟨nI_le (a := 1) hx3 (by omega), nI_le (b := 4) hx4 (by decide)⟩) rfl ?_
    refine sx_RP.step (pc2 := 16) (ls2 := [(0, .ref 0), (1, .int a1), (2, .int (nI x2))]) (st2 := []) (w3 := w) rfl rfl ?_
    refine sx_RP.step (pc2 := 17) (ls2 := [(0, .ref 0), (1, .int a1), (2, .int (nI x2))]) (st2 := [.ref 0]) (w3 := w) rfl rfl ?_
    refine sx_RP.gf (v := .ref 96) rfl rfl hI.1.o0 rfl rfl (show _ = 20 from rfl) ?_
    refine sx_RP.step (pc2 := 21) (ls2 := [(0, .ref 0), (1, .int a1), (2, .int (nI x2))]) (st2 := [.int (nI x2), .ref 96]) (w3 := w) rfl rfl ?_
    obtain ⟨x10, hx11, c12⟩ := p88 hI (nI x2)
    refine sx_RP.cu (as := [.ref 96, .int (nI x2)]) (rest2 := []) (st3 := [.int (nI x10)]) rfl rfl (sx_inv_v2 (mi := 87) (k := 279) (st := [.int (nI x2), .ref 96]) (w := w) rfl rfl hI.1.o96 rfl rfl rfl) rfl rfl (c12) rfl ?_
    refine sx_RP.br (p1 := 34) (l1 := [(0, .ref 0), (1, .int a1), (2, .int (nI x2))]) (s1 := []) (v1 := w) (p2 := 27) (l2 := [(0, .ref 0), (1, .int a1), (2, .int (nI x2))]) (s2 := []) (v2 := w) rfl rfl (fun q13 => ?_) (fun q13 => ?_)
    · replace q13 := of_decide_eq_true q13
      replace q13 := mt (nI_eq (a := x10) (b := 0) (by omega) (by omega)).mpr q13
      refine sx_RP.step (pc2 := 35) (ls2 := [(0, .ref 0), (1, .int a1), (2, .int (nI x2))]) (st2 := [.int (nI x2)]) (w3 := w) rfl rfl ?_
      refine sx_RP.step (pc2 := 36) (ls2 := [(0, .ref 0), (1, .int a1), (2, .int (nI x2))]) (st2 := [.int 1, .int (nI x2)]) (w3 := w) rfl rfl ?_
      refine sx_RP.step (pc2 := 37) (ls2 := [(0, .ref 0), (1, .int a1), (2, .int (nI x2))]) (st2 := [.int ((nI x2) - 1)]) (w3 := w) rfl rfl ?_
      refine sx_RP.step (pc2 := 38) (ls2 := [(3, .int ((nI x2) - 1)), (0, .ref 0), (1, .int a1), (2, .int (nI x2))]) (st2 := []) (w3 := w) rfl rfl ?_
      rcases (show x2 = 1 ∨ x2 = 2 ∨ x2 = 3 ∨ x2 = 4 by omega) with rfl | rfl | rfl | rfl
      · exact sx_RP.ls (sx_lr.cons rfl (sx_lr.cons rfl (sx_lr.cons rfl (sx_lr.cons rfl sx_lr.nil)))) (s87_0 hI hE)
      · exact sx_RP.ls (sx_lr.cons rfl (sx_lr.cons rfl (sx_lr.cons rfl (sx_lr.cons rfl sx_lr.nil)))) (s87_1 hI hE)
      · exact sx_RP.ls (sx_lr.cons rfl (sx_lr.cons rfl (sx_lr.cons rfl (sx_lr.cons rfl sx_lr.nil)))) (s87_2 hI hE)
      · exact sx_RP.ls (sx_lr.cons rfl (sx_lr.cons rfl (sx_lr.cons rfl (sx_lr.cons rfl sx_lr.nil)))) (s87_3 hI hE)
    · replace q13 := Decidable.not_not.mp (of_decide_eq_false q13)
      replace q13 := (nI_eq (a := x10) (b := 0) (by omega) (by omega)).mp q13
      refine sx_RP.step (pc2 := 28) (ls2 := [(0, .ref 0), (1, .int a1), (2, .int (nI x2))]) (st2 := [.ref 0]) (w3 := w) rfl rfl ?_
      refine sx_RP.step (pc2 := 30) (ls2 := [(0, .ref 0), (1, .int a1), (2, .int (nI x2))]) (st2 := [.int (-1000000002), .ref 0]) (w3 := w) rfl rfl ?_
      refine sx_RP.callp (as2 := [.ref 0, .int (-1000000002)]) (rest2 := []) rfl rfl (sx_inv_v2 (mi := 87) (k := 78) (st := [.int (-1000000002), .ref 0]) (w := w) rfl rfl hI.1.o0 rfl rfl rfl) rfl rfl rfl (s9_1 hI) (show _ = 33 from rfl) ?_
      rintro r4 w14 ⟨rfl, hI15, hE17⟩
      have hE16 := hE.tr hE17.ex
      show sx_RP _ _ _ _ _ [.int (-1000000002)] _ _
      refine sx_RP.ret (r := (some (.int (-1000000002)))) rfl rfl ?_
      exact ⟨⟨_, rfl⟩, hI15, hE16⟩
set_option maxRecDepth 20000 in
set_option maxHeartbeats 4000000 in
theorem s114B {xs : Option (List Int32)} {d : Nat} {w w0 : List sx_C} {s : Nat} (hs : s < 4) (b x : Int32) (hI : WI w) (hE : EX (103 + 2 * s) w0 w) {j : Nat} (hj : j ≤ 40) (kk : ∀ (w4 : List sx_C), WI w4 → EX (103 + 2 * s) w0 w4 → j + 1 ≤ 40 → sx_RP xs d 114 20 [(0, .ref (103 + 2 * s)), (1, .int b), (2, .int x), (3, .int (nI (j + 1)))] [] w4 (fun r w2 => (r = none) ∧ WI w2 ∧ EX (103 + 2 * s) w0 w2)) : sx_RP xs d 114 20 [(0, .ref (103 + 2 * s)), (1, .int b), (2, .int x), (3, .int (nI j))] [] w (fun r w2 => (r = none) ∧ WI w2 ∧ EX (103 + 2 * s) w0 w2) := by
  refine sx_RP.step (pc2 := 21) (ls2 := [(0, .ref (103 + 2 * s)), (1, .int b), (2, .int x), (3, .int (nI j))]) (st2 := [.int (nI j)]) (w3 := w) rfl rfl ?_
  refine sx_RP.step (pc2 := 23) (ls2 := [(0, .ref (103 + 2 * s)), (1, .int b), (2, .int x), (3, .int (nI j))]) (st2 := [.int 40, .int (nI j)]) (w3 := w) rfl rfl ?_
  refine sx_RP.br (p1 := 39) (l1 := [(0, .ref (103 + 2 * s)), (1, .int b), (2, .int x), (3, .int (nI j))]) (s1 := []) (v1 := w) (p2 := 26) (l2 := [(0, .ref (103 + 2 * s)), (1, .int b), (2, .int x), (3, .int (nI j))]) (s2 := []) (v2 := w) rfl rfl (fun q1 => ?_) (fun q1 => ?_)
  · replace q1 := of_decide_eq_true q1
    replace q1 := (nI_leI (a := 40) (b := j) (by omega) (by omega)).mp q1
    refine sx_RP.ret (r := none) rfl rfl ?_
    exact ⟨rfl, hI, hE⟩
  · replace q1 := of_decide_eq_false q1
    replace q1 := mt (nI_leI (a := 40) (b := j) (by omega) (by omega)).mpr q1
    refine sx_RP.step (pc2 := 27) (ls2 := [(0, .ref (103 + 2 * s)), (1, .int b), (2, .int x), (3, .int (nI j))]) (st2 := [.ref (103 + 2 * s)]) (w3 := w) rfl rfl ?_
    refine sx_RP.gf (v := .ref (104 + 2 * s)) rfl rfl (hI.1.oS (show s < 4 by omega)) rfl rfl (show _ = 30 from rfl) ?_
    refine sx_RP.step (pc2 := 31) (ls2 := [(0, .ref (103 + 2 * s)), (1, .int b), (2, .int x), (3, .int (nI j))]) (st2 := [.int (nI j), .ref (104 + 2 * s)]) (w3 := w) rfl rfl ?_
    refine sx_RP.step (pc2 := 32) (ls2 := [(0, .ref (103 + 2 * s)), (1, .int b), (2, .int x), (3, .int (nI j))]) (st2 := [.long 0, .int (nI j), .ref (104 + 2 * s)]) (w3 := w) rfl rfl ?_
    refine sx_RP.stN hI EC.rf rfl (hI.1.aN (show s < 4 by omega)) (sx_in_nI (show j < 40 by omega) (by decide)) (by omega) (show _ = 33 from rfl) (fun w2 hI3 hE5 => ?_)
    have hE4 := hE.tr hE5.ex
    refine sx_RP.step (pc2 := 36) (ls2 := [(3, .int ((nI j) + 1)), (0, .ref (103 + 2 * s)), (1, .int b), (2, .int x)]) (st2 := []) (w3 := w2) rfl rfl ?_
    rw [nI_1 j]
    refine sx_RP.step (pc2 := 20) (ls2 := [(3, .int (nI (j + 1))), (0, .ref (103 + 2 * s)), (1, .int b), (2, .int x)]) (st2 := []) (w3 := w2) rfl rfl ?_
    exact sx_RP.ls (sx_lr.cons rfl (sx_lr.cons rfl (sx_lr.cons rfl (sx_lr.cons rfl sx_lr.nil)))) (kk w2 hI3 hE4 (by omega))
set_option maxRecDepth 20000 in
set_option maxHeartbeats 4000000 in
theorem s114L {xs : Option (List Int32)} {d : Nat} {w0 : List sx_C} {s : Nat} (hs : s < 4) (b x : Int32) : ∀ (fz j : Nat) (w : List sx_C) , 40 ≤ j + fz * 1 → j ≤ 40 → WI w → EX (103 + 2 * s) w0 w → sx_RP xs d 114 20 [(0, .ref (103 + 2 * s)), (1, .int b), (2, .int x), (3, .int (nI j))] [] w (fun r w2 => (r = none) ∧ WI w2 ∧ EX (103 + 2 * s) w0 w2)
  | 0, j, w, h, hj, hI, hE => s114B hs b x hI hE hj   (fun w4  hI4 hE4 hlt  => absurd hlt (by omega)) 
  | fz + 1, j, w, h, hj, hI, hE => s114B hs b x hI hE hj   (fun w4  hI4 hE4 hlt  => s114L hs b x  fz (j + 1) w4  (by omega) hlt hI4 hE4 ) 
set_option maxRecDepth 20000 in
set_option maxHeartbeats 4000000 in
theorem s114 {xs : Option (List Int32)} {d : Nat} {w : List sx_C} (hI : WI w) {s : Nat} (hs : s < 4) (b x : Int32) (hx : inR x 40) : sx_RP xs d 114 0 (lv_args 0 [.ref (103 + 2 * s), .int b, .int x]) [] w (fun r w2 => (r = none) ∧ WI w2 ∧ EX (103 + 2 * s) w w2) := by
  have hE : EX (103 + 2 * s) w w := EX.rf
  refine sx_RP.step (pc2 := 1) (ls2 := [(0, .ref (103 + 2 * s)), (1, .int b), (2, .int x)]) (st2 := [.ref (103 + 2 * s)]) (w3 := w) rfl rfl ?_
  refine sx_RP.step (pc2 := 2) (ls2 := [(0, .ref (103 + 2 * s)), (1, .int b), (2, .int x)]) (st2 := [.int b, .ref (103 + 2 * s)]) (w3 := w) rfl rfl ?_
  refine sx_RP.psb hI (show s < 4 by omega) rfl rfl rfl (show _ = 5 from rfl) (fun w1 hI2 hE4 ht5 => ?_)
  have hE3 := hE.tr hE4
  refine sx_RP.step (pc2 := 6) (ls2 := [(0, .ref (103 + 2 * s)), (1, .int b), (2, .int x)]) (st2 := [.ref (103 + 2 * s)]) (w3 := w1) rfl rfl ?_
  refine sx_RP.step (pc2 := 7) (ls2 := [(0, .ref (103 + 2 * s)), (1, .int b), (2, .int x)]) (st2 := [.int b, .ref (103 + 2 * s)]) (w3 := w1) rfl rfl ?_
  refine sx_RP.br (p1 := 14) (l1 := [(0, .ref (103 + 2 * s)), (1, .int b), (2, .int x)]) (s1 := [.ref (103 + 2 * s)]) (v1 := w1) (p2 := 10) (l2 := [(0, .ref (103 + 2 * s)), (1, .int b), (2, .int x)]) (s2 := [.ref (103 + 2 * s)]) (v2 := w1) rfl rfl (fun q7 => ?_) (fun q7 => ?_)
  · replace q7 := of_decide_eq_true q7
    refine sx_RP.step (pc2 := 15) (ls2 := [(0, .ref (103 + 2 * s)), (1, .int b), (2, .int x)]) (st2 := [.int x, .ref (103 + 2 * s)]) (w3 := w1) rfl rfl ?_
    refine sx_RP.pss hI2 (show s < 4 by omega) rfl rfl rfl hx (show _ = 18 from rfl) (fun w8 hI9 hE11 ht12 ht13 => ?_)
    have hE10 := hE3.tr hE11
    refine sx_RP.step (pc2 := 19) (ls2 := [(0, .ref (103 + 2 * s)), (1, .int b), (2, .int x)]) (st2 := [.int 0]) (w3 := w8) rfl rfl ?_
    refine sx_RP.step (pc2 := 20) (ls2 := [(3, .int 0), (0, .ref (103 + 2 * s)), (1, .int b), (2, .int x)]) (st2 := []) (w3 := w8) rfl rfl ?_
    exact sx_RP.ls (sx_lr.cons rfl (sx_lr.cons rfl (sx_lr.cons rfl (sx_lr.cons rfl sx_lr.nil)))) (s114L hs b x 40 0 w8  (by omega) (by omega) hI9 hE10 )
  · replace q7 := Decidable.not_not.mp (of_decide_eq_false q7)
    refine sx_RP.step (pc2 := 11) (ls2 := [(0, .ref (103 + 2 * s)), (1, .int b), (2, .int x)]) (st2 := [.int 0, .ref (103 + 2 * s)]) (w3 := w1) rfl rfl ?_
    refine sx_RP.step (pc2 := 15) (ls2 := [(0, .ref (103 + 2 * s)), (1, .int b), (2, .int x)]) (st2 := [.int 0, .ref (103 + 2 * s)]) (w3 := w1) rfl rfl ?_
    refine sx_RP.pss hI2 (show s < 4 by omega) rfl rfl rfl (show inR 0 40 from ⟨0, by decide, rfl⟩) (show _ = 18 from rfl) (fun w14 hI15 hE17 ht18 ht19 => ?_)
    have hE16 := hE3.tr hE17
    refine sx_RP.step (pc2 := 19) (ls2 := [(0, .ref (103 + 2 * s)), (1, .int b), (2, .int x)]) (st2 := [.int 0]) (w3 := w14) rfl rfl ?_
    refine sx_RP.step (pc2 := 20) (ls2 := [(3, .int 0), (0, .ref (103 + 2 * s)), (1, .int b), (2, .int x)]) (st2 := []) (w3 := w14) rfl rfl ?_
    exact sx_RP.ls (sx_lr.cons rfl (sx_lr.cons rfl (sx_lr.cons rfl (sx_lr.cons rfl sx_lr.nil)))) (s114L hs b x 40 0 w14  (by omega) (by omega) hI15 hE16 )
set_option maxRecDepth 20000 in
set_option maxHeartbeats 4000000 in
theorem s111p {xs : Option (List Int32)} {d : Nat} {w : List sx_C} (hI : WI w) {s : Nat} (hs : s < 4) (a2 a3 : Int32) : sx_RP xs (d + 7) 111 0 (lv_args 0 [.ref 0, .int (nI s), .int a2, .int a3]) [] w (fun r w2 => (∃ v : Int32, r = some (.int v)) ∧ WI w2 ∧ EX (103 + 2 * s) w w2) := by
  have hE : EX (103 + 2 * s) w w := EX.rf
  refine sx_RP.step (pc2 := 1) (ls2 := [(0, .ref 0), (1, .int (nI s)), (2, .int a2), (3, .int a3)]) (st2 := [.int (nI s)]) (w3 := w) rfl rfl ?_
  rcases in_casesN (a := s) (m := 0) (n := 3) (by omega) (by decide) (by decide) with q1 | ⟨hx3, hx4⟩
  · refine sx_RP.cu (as := [.int (nI s)]) (rest2 := []) (st3 := [.int 0]) rfl rfl rfl rfl rfl (cx_112n q1) rfl ?_
    refine sx_RP.step (pc2 := 18) (ls2 := [(0, .ref 0), (1, .int (nI s)), (2, .int a2), (3, .int a3)]) (st2 := []) (w3 := w) rfl rfl ?_
    refine sx_RP.step (pc2 := 19) (ls2 := [(0, .ref 0), (1, .int (nI s)), (2, .int a2), (3, .int a3)]) (st2 := [.ref 0]) (w3 := w) rfl rfl ?_
    refine sx_RP.step (pc2 := 21) (ls2 := [(0, .ref 0), (1, .int (nI s)), (2, .int a2), (3, .int a3)]) (st2 := [.int (-1000000001), .ref 0]) (w3 := w) rfl rfl ?_
    refine sx_RP.callp (as2 := [.ref 0, .int (-1000000001)]) (rest2 := []) rfl rfl (sx_inv_v2 (mi := 111) (k := 78) (st := [.int (-1000000001), .ref 0]) (w := w) rfl rfl hI.1.o0 rfl rfl rfl) rfl rfl rfl (s9_0 hI) (show _ = 24 from rfl) ?_
    rintro r4 w6 ⟨rfl, hI7, hE9⟩
    have hE8 := hE.tr hE9.ex
    show sx_RP _ _ _ _ _ [.int (-1000000001)] _ _
    refine sx_RP.ret (r := (some (.int (-1000000001)))) rfl rfl ?_
    exact ⟨⟨_, rfl⟩, hI7, hE8⟩
  · refine sx_RP.cu (as := [.int (nI s)]) (rest2 := []) (st3 := [.int 1]) rfl rfl rfl rfl rfl (cx_112p ⟨nI_le (a := 0) hx3 (by omega), nI_le (b := 3) hx4 (by decide)⟩) rfl ?_
    refine sx_RP.step (pc2 := 7) (ls2 := [(0, .ref 0), (1, .int (nI s)), (2, .int a2), (3, .int a3)]) (st2 := []) (w3 := w) rfl rfl ?_
    refine sx_RP.step (pc2 := 8) (ls2 := [(0, .ref 0), (1, .int (nI s)), (2, .int a2), (3, .int a3)]) (st2 := [.int a2]) (w3 := w) rfl rfl ?_
    obtain ⟨x10, hx11, c12⟩ := p113 hI a2
    refine sx_RP.cu (as := [.int a2]) (rest2 := []) (st3 := [.int (nI x10)]) rfl rfl rfl rfl rfl (c12) rfl ?_
    refine sx_RP.br (p1 := 25) (l1 := [(0, .ref 0), (1, .int (nI s)), (2, .int a2), (3, .int a3)]) (s1 := []) (v1 := w) (p2 := 14) (l2 := [(0, .ref 0), (1, .int (nI s)), (2, .int a2), (3, .int a3)]) (s2 := []) (v2 := w) rfl rfl (fun q13 => ?_) (fun q13 => ?_)
    · replace q13 := of_decide_eq_true q13
      replace q13 := mt (nI_eq (a := x10) (b := 0) (by omega) (by omega)).mpr q13
      refine sx_RP.step (pc2 := 26) (ls2 := [(0, .ref 0), (1, .int (nI s)), (2, .int a2), (3, .int a3)]) (st2 := [.int a3]) (w3 := w) rfl rfl ?_
      refine sx_RP.br (p1 := 37) (l1 := [(0, .ref 0), (1, .int (nI s)), (2, .int a2), (3, .int a3)]) (s1 := []) (v1 := w) (p2 := 29) (l2 := [(0, .ref 0), (1, .int (nI s)), (2, .int a2), (3, .int a3)]) (s2 := []) (v2 := w) rfl rfl (fun q14 => ?_) (fun q14 => ?_)
      · replace q14 := of_decide_eq_true q14
        refine sx_RP.step (pc2 := 38) (ls2 := [(0, .ref 0), (1, .int (nI s)), (2, .int a2), (3, .int a3)]) (st2 := [.int a3]) (w3 := w) rfl rfl ?_
        refine sx_RP.step (pc2 := 40) (ls2 := [(0, .ref 0), (1, .int (nI s)), (2, .int a2), (3, .int a3)]) (st2 := [.int 40, .int a3]) (w3 := w) rfl rfl ?_
        refine sx_RP.br (p1 := 50) (l1 := [(0, .ref 0), (1, .int (nI s)), (2, .int a2), (3, .int a3)]) (s1 := []) (v1 := w) (p2 := 43) (l2 := [(0, .ref 0), (1, .int (nI s)), (2, .int a2), (3, .int a3)]) (s2 := []) (v2 := w) rfl rfl (fun q15 => ?_) (fun q15 => ?_)
        · replace q15 := of_decide_eq_true q15
          refine sx_RP.step (pc2 := 51) (ls2 := [(0, .ref 0), (1, .int (nI s)), (2, .int a2), (3, .int a3)]) (st2 := [.ref 0]) (w3 := w) rfl rfl ?_
          refine sx_RP.gf (v := .ref 98) rfl rfl hI.1.o0 rfl rfl (show _ = 54 from rfl) ?_
          refine sx_RP.step (pc2 := 55) (ls2 := [(0, .ref 0), (1, .int (nI s)), (2, .int a2), (3, .int a3)]) (st2 := [.int (nI s), .ref 98]) (w3 := w) rfl rfl ?_
          refine sx_RP.ald (v := .ref (103 + 2 * s)) rfl hI.1.a98 rfl (shA_at (show s < 4 by omega)) (show _ = 56 from rfl) ?_
          refine sx_RP.step (pc2 := 57) (ls2 := [(0, .ref 0), (1, .int (nI s)), (2, .int a2), (3, .int a3)]) (st2 := [.int a2, .ref (103 + 2 * s)]) (w3 := w) rfl rfl ?_
          refine sx_RP.step (pc2 := 58) (ls2 := [(0, .ref 0), (1, .int (nI s)), (2, .int a2), (3, .int a3)]) (st2 := [.int a3, .int a2, .ref (103 + 2 * s)]) (w3 := w) rfl rfl ?_
          have hx40 : inR a3 40 := nI_of2 (M := 40) rfl (Int32.not_lt.mpr q14) q15
          refine sx_RP.callp (as2 := [.ref (103 + 2 * s), .int a2, .int a3]) (rest2 := []) rfl rfl (sx_inv_v2 (mi := 111) (k := 303) (st := [.int a3, .int a2, .ref (103 + 2 * s)]) (w := w) rfl rfl (hI.1.oS (show s < 4 by omega)) rfl rfl rfl) rfl rfl rfl (s114 hI (show s < 4 by omega) a2 a3 hx40) (show _ = 61 from rfl) ?_
          rintro r4 w16 ⟨rfl, hI17, hE19⟩
          have hE18 := hE.tr hE19
          show sx_RP _ _ _ _ _ [] _ _
          refine sx_RP.step (pc2 := 62) (ls2 := [(0, .ref 0), (1, .int (nI s)), (2, .int a2), (3, .int a3)]) (st2 := [.ref 0]) (w3 := w16) rfl rfl ?_
          refine sx_RP.gf (v := .ref 98) rfl rfl hI17.1.o0 rfl rfl (show _ = 65 from rfl) ?_
          refine sx_RP.step (pc2 := 66) (ls2 := [(0, .ref 0), (1, .int (nI s)), (2, .int a2), (3, .int a3)]) (st2 := [.int (nI s), .ref 98]) (w3 := w16) rfl rfl ?_
          refine sx_RP.ald (v := .ref (103 + 2 * s)) rfl hI17.1.a98 rfl (shA_at (show s < 4 by omega)) (show _ = 67 from rfl) ?_
          refine sx_RP.gf (v := .int (fi w16 (103 + 2 * s) 2)) rfl rfl (hI17.1.oS (show s < 4 by omega)) rfl rfl (show _ = 70 from rfl) ?_
          obtain ⟨x20, hx21, ex22⟩ : inR (fi w16 (103 + 2 * s) 2) 40 := hI17.sh (show s < 4 by omega)
          rw [ex22]
          refine sx_RP.ret (r := (some (.int (nI x20)))) rfl rfl ?_
          exact ⟨⟨_, rfl⟩, hI17, hE18⟩
        · replace q15 := of_decide_eq_false q15
          refine sx_RP.step (pc2 := 44) (ls2 := [(0, .ref 0), (1, .int (nI s)), (2, .int a2), (3, .int a3)]) (st2 := [.ref 0]) (w3 := w) rfl rfl ?_
          refine sx_RP.step (pc2 := 46) (ls2 := [(0, .ref 0), (1, .int (nI s)), (2, .int a2), (3, .int a3)]) (st2 := [.int (-1000000001), .ref 0]) (w3 := w) rfl rfl ?_
          refine sx_RP.callp (as2 := [.ref 0, .int (-1000000001)]) (rest2 := []) rfl rfl (sx_inv_v2 (mi := 111) (k := 78) (st := [.int (-1000000001), .ref 0]) (w := w) rfl rfl hI.1.o0 rfl rfl rfl) rfl rfl rfl (s9_0 hI) (show _ = 49 from rfl) ?_
          rintro r4 w23 ⟨rfl, hI24, hE26⟩
          have hE25 := hE.tr hE26.ex
          show sx_RP _ _ _ _ _ [.int (-1000000001)] _ _
          refine sx_RP.ret (r := (some (.int (-1000000001)))) rfl rfl ?_
          exact ⟨⟨_, rfl⟩, hI24, hE25⟩
      · replace q14 := of_decide_eq_false q14
        refine sx_RP.step (pc2 := 30) (ls2 := [(0, .ref 0), (1, .int (nI s)), (2, .int a2), (3, .int a3)]) (st2 := [.ref 0]) (w3 := w) rfl rfl ?_
        refine sx_RP.step (pc2 := 33) (ls2 := [(0, .ref 0), (1, .int (nI s)), (2, .int a2), (3, .int a3)]) (st2 := [.int (-1000000007), .ref 0]) (w3 := w) rfl rfl ?_
        refine sx_RP.callp (as2 := [.ref 0, .int (-1000000007)]) (rest2 := []) rfl rfl (sx_inv_v2 (mi := 111) (k := 78) (st := [.int (-1000000007), .ref 0]) (w := w) rfl rfl hI.1.o0 rfl rfl rfl) rfl rfl rfl (s9_6 hI) (show _ = 36 from rfl) ?_
        rintro r4 w27 ⟨rfl, hI28, hE30⟩
        have hE29 := hE.tr hE30.ex
        show sx_RP _ _ _ _ _ [.int (-1000000007)] _ _
        refine sx_RP.ret (r := (some (.int (-1000000007)))) rfl rfl ?_
        exact ⟨⟨_, rfl⟩, hI28, hE29⟩
    · replace q13 := Decidable.not_not.mp (of_decide_eq_false q13)
      replace q13 := (nI_eq (a := x10) (b := 0) (by omega) (by omega)).mp q13
      refine sx_RP.step (pc2 := 15) (ls2 := [(0, .ref 0), (1, .int (nI s)), (2, .int a2), (3, .int a3)]) (st2 := [.int a2]) (w3 := w) rfl rfl ?_
      refine sx_RP.br (p1 := 25) (l1 := [(0, .ref 0), (1, .int (nI s)), (2, .int a2), (3, .int a3)]) (s1 := []) (v1 := w) (p2 := 18) (l2 := [(0, .ref 0), (1, .int (nI s)), (2, .int a2), (3, .int a3)]) (s2 := []) (v2 := w) rfl rfl (fun q31 => ?_) (fun q31 => ?_)
      · replace q31 := of_decide_eq_true q31
        refine sx_RP.step (pc2 := 26) (ls2 := [(0, .ref 0), (1, .int (nI s)), (2, .int a2), (3, .int a3)]) (st2 := [.int a3]) (w3 := w) rfl rfl ?_
        refine sx_RP.br (p1 := 37) (l1 := [(0, .ref 0), (1, .int (nI s)), (2, .int a2), (3, .int a3)]) (s1 := []) (v1 := w) (p2 := 29) (l2 := [(0, .ref 0), (1, .int (nI s)), (2, .int a2), (3, .int a3)]) (s2 := []) (v2 := w) rfl rfl (fun q32 => ?_) (fun q32 => ?_)
        · replace q32 := of_decide_eq_true q32
          refine sx_RP.step (pc2 := 38) (ls2 := [(0, .ref 0), (1, .int (nI s)), (2, .int a2), (3, .int a3)]) (st2 := [.int a3]) (w3 := w) rfl rfl ?_
          refine sx_RP.step (pc2 := 40) (ls2 := [(0, .ref 0), (1, .int (nI s)), (2, .int a2), (3, .int a3)]) (st2 := [.int 40, .int a3]) (w3 := w) rfl rfl ?_
          refine sx_RP.br (p1 := 50) (l1 := [(0, .ref 0), (1, .int (nI s)), (2, .int a2), (3, .int a3)]) (s1 := []) (v1 := w) (p2 := 43) (l2 := [(0, .ref 0), (1, .int (nI s)), (2, .int a2), (3, .int a3)]) (s2 := []) (v2 := w) rfl rfl (fun q33 => ?_) (fun q33 => ?_)
          · replace q33 := of_decide_eq_true q33
            refine sx_RP.step (pc2 := 51) (ls2 := [(0, .ref 0), (1, .int (nI s)), (2, .int a2), (3, .int a3)]) (st2 := [.ref 0]) (w3 := w) rfl rfl ?_
            refine sx_RP.gf (v := .ref 98) rfl rfl hI.1.o0 rfl rfl (show _ = 54 from rfl) ?_
            refine sx_RP.step (pc2 := 55) (ls2 := [(0, .ref 0), (1, .int (nI s)), (2, .int a2), (3, .int a3)]) (st2 := [.int (nI s), .ref 98]) (w3 := w) rfl rfl ?_
            refine sx_RP.ald (v := .ref (103 + 2 * s)) rfl hI.1.a98 rfl (shA_at (show s < 4 by omega)) (show _ = 56 from rfl) ?_
            refine sx_RP.step (pc2 := 57) (ls2 := [(0, .ref 0), (1, .int (nI s)), (2, .int a2), (3, .int a3)]) (st2 := [.int a2, .ref (103 + 2 * s)]) (w3 := w) rfl rfl ?_
            refine sx_RP.step (pc2 := 58) (ls2 := [(0, .ref 0), (1, .int (nI s)), (2, .int a2), (3, .int a3)]) (st2 := [.int a3, .int a2, .ref (103 + 2 * s)]) (w3 := w) rfl rfl ?_
            have hx40 : inR a3 40 := nI_of2 (M := 40) rfl (Int32.not_lt.mpr q32) q33
            refine sx_RP.callp (as2 := [.ref (103 + 2 * s), .int a2, .int a3]) (rest2 := []) rfl rfl (sx_inv_v2 (mi := 111) (k := 303) (st := [.int a3, .int a2, .ref (103 + 2 * s)]) (w := w) rfl rfl (hI.1.oS (show s < 4 by omega)) rfl rfl rfl) rfl rfl rfl (s114 hI (show s < 4 by omega) a2 a3 hx40) (show _ = 61 from rfl) ?_
            rintro r4 w34 ⟨rfl, hI35, hE37⟩
            have hE36 := hE.tr hE37
            show sx_RP _ _ _ _ _ [] _ _
            refine sx_RP.step (pc2 := 62) (ls2 := [(0, .ref 0), (1, .int (nI s)), (2, .int a2), (3, .int a3)]) (st2 := [.ref 0]) (w3 := w34) rfl rfl ?_
            refine sx_RP.gf (v := .ref 98) rfl rfl hI35.1.o0 rfl rfl (show _ = 65 from rfl) ?_
            refine sx_RP.step (pc2 := 66) (ls2 := [(0, .ref 0), (1, .int (nI s)), (2, .int a2), (3, .int a3)]) (st2 := [.int (nI s), .ref 98]) (w3 := w34) rfl rfl ?_
            refine sx_RP.ald (v := .ref (103 + 2 * s)) rfl hI35.1.a98 rfl (shA_at (show s < 4 by omega)) (show _ = 67 from rfl) ?_
            refine sx_RP.gf (v := .int (fi w34 (103 + 2 * s) 2)) rfl rfl (hI35.1.oS (show s < 4 by omega)) rfl rfl (show _ = 70 from rfl) ?_
            obtain ⟨x38, hx39, ex40⟩ : inR (fi w34 (103 + 2 * s) 2) 40 := hI35.sh (show s < 4 by omega)
            rw [ex40]
            refine sx_RP.ret (r := (some (.int (nI x38)))) rfl rfl ?_
            exact ⟨⟨_, rfl⟩, hI35, hE36⟩
          · replace q33 := of_decide_eq_false q33
            refine sx_RP.step (pc2 := 44) (ls2 := [(0, .ref 0), (1, .int (nI s)), (2, .int a2), (3, .int a3)]) (st2 := [.ref 0]) (w3 := w) rfl rfl ?_
            refine sx_RP.step (pc2 := 46) (ls2 := [(0, .ref 0), (1, .int (nI s)), (2, .int a2), (3, .int a3)]) (st2 := [.int (-1000000001), .ref 0]) (w3 := w) rfl rfl ?_
            refine sx_RP.callp (as2 := [.ref 0, .int (-1000000001)]) (rest2 := []) rfl rfl (sx_inv_v2 (mi := 111) (k := 78) (st := [.int (-1000000001), .ref 0]) (w := w) rfl rfl hI.1.o0 rfl rfl rfl) rfl rfl rfl (s9_0 hI) (show _ = 49 from rfl) ?_
            rintro r4 w41 ⟨rfl, hI42, hE44⟩
            have hE43 := hE.tr hE44.ex
            show sx_RP _ _ _ _ _ [.int (-1000000001)] _ _
            refine sx_RP.ret (r := (some (.int (-1000000001)))) rfl rfl ?_
            exact ⟨⟨_, rfl⟩, hI42, hE43⟩
        · replace q32 := of_decide_eq_false q32
          refine sx_RP.step (pc2 := 30) (ls2 := [(0, .ref 0), (1, .int (nI s)), (2, .int a2), (3, .int a3)]) (st2 := [.ref 0]) (w3 := w) rfl rfl ?_
          refine sx_RP.step (pc2 := 33) (ls2 := [(0, .ref 0), (1, .int (nI s)), (2, .int a2), (3, .int a3)]) (st2 := [.int (-1000000007), .ref 0]) (w3 := w) rfl rfl ?_
          refine sx_RP.callp (as2 := [.ref 0, .int (-1000000007)]) (rest2 := []) rfl rfl (sx_inv_v2 (mi := 111) (k := 78) (st := [.int (-1000000007), .ref 0]) (w := w) rfl rfl hI.1.o0 rfl rfl rfl) rfl rfl rfl (s9_6 hI) (show _ = 36 from rfl) ?_
          rintro r4 w45 ⟨rfl, hI46, hE48⟩
          have hE47 := hE.tr hE48.ex
          show sx_RP _ _ _ _ _ [.int (-1000000007)] _ _
          refine sx_RP.ret (r := (some (.int (-1000000007)))) rfl rfl ?_
          exact ⟨⟨_, rfl⟩, hI46, hE47⟩
      · replace q31 := of_decide_eq_false q31
        refine sx_RP.step (pc2 := 19) (ls2 := [(0, .ref 0), (1, .int (nI s)), (2, .int a2), (3, .int a3)]) (st2 := [.ref 0]) (w3 := w) rfl rfl ?_
        refine sx_RP.step (pc2 := 21) (ls2 := [(0, .ref 0), (1, .int (nI s)), (2, .int a2), (3, .int a3)]) (st2 := [.int (-1000000001), .ref 0]) (w3 := w) rfl rfl ?_
        refine sx_RP.callp (as2 := [.ref 0, .int (-1000000001)]) (rest2 := []) rfl rfl (sx_inv_v2 (mi := 111) (k := 78) (st := [.int (-1000000001), .ref 0]) (w := w) rfl rfl hI.1.o0 rfl rfl rfl) rfl rfl rfl (s9_0 hI) (show _ = 24 from rfl) ?_
        rintro r4 w49 ⟨rfl, hI50, hE52⟩
        have hE51 := hE.tr hE52.ex
        show sx_RP _ _ _ _ _ [.int (-1000000001)] _ _
        refine sx_RP.ret (r := (some (.int (-1000000001)))) rfl rfl ?_
        exact ⟨⟨_, rfl⟩, hI50, hE51⟩
set_option maxRecDepth 20000 in
set_option maxHeartbeats 4000000 in
theorem s111n {xs : Option (List Int32)} {d : Nat} {w : List sx_C} (hI : WI w) (a1 a2 a3 : Int32) (hn : ¬ (0 ≤ a1 ∧ a1 ≤ 3)) : sx_RP xs (d + 7) 111 0 (lv_args 0 [.ref 0, .int a1, .int a2, .int a3]) [] w (fun r w2 => (∃ v : Int32, r = some (.int v)) ∧ WI w2 ∧ EC w w2) := by
  have hE : EC w w := EC.rf
  refine sx_RP.step (pc2 := 1) (ls2 := [(0, .ref 0), (1, .int a1), (2, .int a2), (3, .int a3)]) (st2 := [.int a1]) (w3 := w) rfl rfl ?_
  refine sx_RP.cu (as := [.int a1]) (rest2 := []) (st3 := [.int 0]) rfl rfl rfl rfl rfl (cx_112n hn) rfl ?_
  refine sx_RP.step (pc2 := 18) (ls2 := [(0, .ref 0), (1, .int a1), (2, .int a2), (3, .int a3)]) (st2 := []) (w3 := w) rfl rfl ?_
  refine sx_RP.step (pc2 := 19) (ls2 := [(0, .ref 0), (1, .int a1), (2, .int a2), (3, .int a3)]) (st2 := [.ref 0]) (w3 := w) rfl rfl ?_
  refine sx_RP.step (pc2 := 21) (ls2 := [(0, .ref 0), (1, .int a1), (2, .int a2), (3, .int a3)]) (st2 := [.int (-1000000001), .ref 0]) (w3 := w) rfl rfl ?_
  refine sx_RP.callp (as2 := [.ref 0, .int (-1000000001)]) (rest2 := []) rfl rfl (sx_inv_v2 (mi := 111) (k := 78) (st := [.int (-1000000001), .ref 0]) (w := w) rfl rfl hI.1.o0 rfl rfl rfl) rfl rfl rfl (s9_0 hI) (show _ = 24 from rfl) ?_
  rintro r4 w1 ⟨rfl, hI2, hE4⟩
  have hE3 := hE.tr hE4
  show sx_RP _ _ _ _ _ [.int (-1000000001)] _ _
  refine sx_RP.ret (r := (some (.int (-1000000001)))) rfl rfl ?_
  exact ⟨⟨_, rfl⟩, hI2, hE3⟩
set_option maxRecDepth 20000 in
set_option maxHeartbeats 4000000 in
theorem p119 {xs : Option (List Int32)} {d : Nat} {w : List sx_C} (hI : WI w) {s : Nat} (hs : s < 4) (x y : Int32) : sx_RU xs d 119 0 (lv_args 0 [.ref (103 + 2 * s), .int x, .int y]) [] w (some (.int 0)) w ∨ ((∃ f m, x = nI f ∧ y = nI m ∧ f + m ≤ 40) ∧ sx_RU xs d 119 0 (lv_args 0 [.ref (103 + 2 * s), .int x, .int y]) [] w (some (.int 1)) w) := by
  have h : sx_RP xs d 119 0 (lv_args 0 [.ref (103 + 2 * s), .int x, .int y]) [] w (fun r w2 => (r = some (.int 0) ∨ ((∃ f m, x = nI f ∧ y = nI m ∧ f + m ≤ 40) ∧ r = some (.int 1))) ∧ w2 = w) := by
    refine sx_RP.step (pc2 := 1) (ls2 := [(0, .ref (103 + 2 * s)), (1, .int x), (2, .int y)]) (st2 := [.int x]) (w3 := w) rfl rfl ?_
    refine sx_RP.br (p1 := 30) (l1 := [(0, .ref (103 + 2 * s)), (1, .int x), (2, .int y)]) (s1 := []) (v1 := w) (p2 := 4) (l2 := [(0, .ref (103 + 2 * s)), (1, .int x), (2, .int y)]) (s2 := []) (v2 := w) rfl rfl (fun q1 => ?_) (fun q1 => ?_)
    · replace q1 := of_decide_eq_true q1
      refine sx_RP.step (pc2 := 31) (ls2 := [(0, .ref (103 + 2 * s)), (1, .int x), (2, .int y)]) (st2 := [.int 0]) (w3 := w) rfl rfl ?_
      refine sx_RP.ret (r := (some (.int 0))) rfl rfl ?_
      exact ⟨Or.inl rfl, rfl⟩
    · replace q1 := of_decide_eq_false q1
      refine sx_RP.step (pc2 := 5) (ls2 := [(0, .ref (103 + 2 * s)), (1, .int x), (2, .int y)]) (st2 := [.int y]) (w3 := w) rfl rfl ?_
      refine sx_RP.br (p1 := 30) (l1 := [(0, .ref (103 + 2 * s)), (1, .int x), (2, .int y)]) (s1 := []) (v1 := w) (p2 := 8) (l2 := [(0, .ref (103 + 2 * s)), (1, .int x), (2, .int y)]) (s2 := []) (v2 := w) rfl rfl (fun q2 => ?_) (fun q2 => ?_)
      · replace q2 := of_decide_eq_true q2
        refine sx_RP.step (pc2 := 31) (ls2 := [(0, .ref (103 + 2 * s)), (1, .int x), (2, .int y)]) (st2 := [.int 0]) (w3 := w) rfl rfl ?_
        refine sx_RP.ret (r := (some (.int 0))) rfl rfl ?_
        exact ⟨Or.inl rfl, rfl⟩
      · replace q2 := of_decide_eq_false q2
        refine sx_RP.step (pc2 := 9) (ls2 := [(0, .ref (103 + 2 * s)), (1, .int x), (2, .int y)]) (st2 := [.int x]) (w3 := w) rfl rfl ?_
        refine sx_RP.step (pc2 := 10) (ls2 := [(0, .ref (103 + 2 * s)), (1, .int x), (2, .int y)]) (st2 := [.ref (103 + 2 * s), .int x]) (w3 := w) rfl rfl ?_
        refine sx_RP.gf (v := .int (fi w (103 + 2 * s) 2)) rfl rfl (hI.1.oS (show s < 4 by omega)) rfl rfl (show _ = 13 from rfl) ?_
        obtain ⟨x3, hx4, ex5⟩ : inR (fi w (103 + 2 * s) 2) 40 := hI.sh (show s < 4 by omega)
        rw [ex5]
        refine sx_RP.br (p1 := 30) (l1 := [(0, .ref (103 + 2 * s)), (1, .int x), (2, .int y)]) (s1 := []) (v1 := w) (p2 := 16) (l2 := [(0, .ref (103 + 2 * s)), (1, .int x), (2, .int y)]) (s2 := []) (v2 := w) rfl rfl (fun q6 => ?_) (fun q6 => ?_)
        · replace q6 := of_decide_eq_true q6
          refine sx_RP.step (pc2 := 31) (ls2 := [(0, .ref (103 + 2 * s)), (1, .int x), (2, .int y)]) (st2 := [.int 0]) (w3 := w) rfl rfl ?_
          refine sx_RP.ret (r := (some (.int 0))) rfl rfl ?_
          exact ⟨Or.inl rfl, rfl⟩
        · replace q6 := of_decide_eq_false q6
          refine sx_RP.step (pc2 := 17) (ls2 := [(0, .ref (103 + 2 * s)), (1, .int x), (2, .int y)]) (st2 := [.int y]) (w3 := w) rfl rfl ?_
          refine sx_RP.step (pc2 := 18) (ls2 := [(0, .ref (103 + 2 * s)), (1, .int x), (2, .int y)]) (st2 := [.ref (103 + 2 * s), .int y]) (w3 := w) rfl rfl ?_
          refine sx_RP.gf (v := .int (fi w (103 + 2 * s) 2)) rfl rfl (hI.1.oS (show s < 4 by omega)) rfl rfl (show _ = 21 from rfl) ?_
          rw [ex5]
          refine sx_RP.step (pc2 := 22) (ls2 := [(0, .ref (103 + 2 * s)), (1, .int x), (2, .int y)]) (st2 := [.int x, .int (nI x3), .int y]) (w3 := w) rfl rfl ?_
          refine sx_RP.step (pc2 := 23) (ls2 := [(0, .ref (103 + 2 * s)), (1, .int x), (2, .int y)]) (st2 := [.int ((nI x3) - x), .int y]) (w3 := w) rfl rfl ?_
          refine sx_RP.br (p1 := 30) (l1 := [(0, .ref (103 + 2 * s)), (1, .int x), (2, .int y)]) (s1 := []) (v1 := w) (p2 := 26) (l2 := [(0, .ref (103 + 2 * s)), (1, .int x), (2, .int y)]) (s2 := []) (v2 := w) rfl rfl (fun q7 => ?_) (fun q7 => ?_)
          · replace q7 := of_decide_eq_true q7
            refine sx_RP.step (pc2 := 31) (ls2 := [(0, .ref (103 + 2 * s)), (1, .int x), (2, .int y)]) (st2 := [.int 0]) (w3 := w) rfl rfl ?_
            refine sx_RP.ret (r := (some (.int 0))) rfl rfl ?_
            exact ⟨Or.inl rfl, rfl⟩
          · replace q7 := of_decide_eq_false q7
            refine sx_RP.step (pc2 := 27) (ls2 := [(0, .ref (103 + 2 * s)), (1, .int x), (2, .int y)]) (st2 := [.int 1]) (w3 := w) rfl rfl ?_
            refine sx_RP.step (pc2 := 31) (ls2 := [(0, .ref (103 + 2 * s)), (1, .int x), (2, .int y)]) (st2 := [.int 1]) (w3 := w) rfl rfl ?_
            refine sx_RP.ret (r := (some (.int 1))) rfl rfl ?_
            exact ⟨Or.inr ⟨run_of (by omega) q1 q2 q6 q7, rfl⟩, rfl⟩
  obtain ⟨r, w2, h1, h2, rfl⟩ := h
  rcases h2 with rfl | ⟨hc, rfl⟩
  · exact Or.inl h1
  · exact Or.inr ⟨hc, h1⟩
set_option maxRecDepth 20000 in
set_option maxHeartbeats 4000000 in
theorem s118 {xs : Option (List Int32)} {d : Nat} {w : List sx_C} (hI : WI w) (a1 a2 a3 a4 a5 : Int32) : sx_RP xs (d + 7) 118 0 (lv_args 0 [.ref 0, .int a1, .int a2, .int a3, .int a4, .int a5]) [] w (fun r w2 => (∃ v : Int32, r = some (.int v)) ∧ WI w2 ∧ EC w w2) := by
  have hE : EC w w := EC.rf
  refine sx_RP.step (pc2 := 1) (ls2 := [(0, .ref 0), (1, .int a1), (2, .int a2), (3, .int a3), (4, .int a4), (5, .int a5)]) (st2 := [.int a1]) (w3 := w) rfl rfl ?_
  rcases in_cases a1 0 3 (m := 0) (n := 3) rfl rfl (by decide) (by decide) with q1 | ⟨x2, hx3, hx4, rfl⟩
  · refine sx_RP.cu (as := [.int a1]) (rest2 := []) (st3 := [.int 0]) rfl rfl rfl rfl rfl (cx_112n q1) rfl ?_
    refine sx_RP.step (pc2 := 14) (ls2 := [(0, .ref 0), (1, .int a1), (2, .int a2), (3, .int a3), (4, .int a4), (5, .int a5)]) (st2 := []) (w3 := w) rfl rfl ?_
    refine sx_RP.step (pc2 := 15) (ls2 := [(0, .ref 0), (1, .int a1), (2, .int a2), (3, .int a3), (4, .int a4), (5, .int a5)]) (st2 := [.ref 0]) (w3 := w) rfl rfl ?_
    refine sx_RP.step (pc2 := 17) (ls2 := [(0, .ref 0), (1, .int a1), (2, .int a2), (3, .int a3), (4, .int a4), (5, .int a5)]) (st2 := [.int (-1000000001), .ref 0]) (w3 := w) rfl rfl ?_
    refine sx_RP.callp (as2 := [.ref 0, .int (-1000000001)]) (rest2 := []) rfl rfl (sx_inv_v2 (mi := 118) (k := 78) (st := [.int (-1000000001), .ref 0]) (w := w) rfl rfl hI.1.o0 rfl rfl rfl) rfl rfl rfl (s9_0 hI) (show _ = 20 from rfl) ?_
    rintro r4 w6 ⟨rfl, hI7, hE9⟩
    have hE8 := hE.tr hE9
    show sx_RP _ _ _ _ _ [.int (-1000000001)] _ _
    refine sx_RP.ret (r := (some (.int (-1000000001)))) rfl rfl ?_
    exact ⟨⟨_, rfl⟩, hI7, hE8⟩
  · refine sx_RP.cu (as := [.int (nI x2)]) (rest2 := []) (st3 := [.int 1]) rfl rfl rfl rfl rfl (cx_112p ⟨nI_le (a := 0) hx3 (by omega), nI_le (b := 3) hx4 (by decide)⟩) rfl ?_
    refine sx_RP.step (pc2 := 7) (ls2 := [(0, .ref 0), (1, .int (nI x2)), (2, .int a2), (3, .int a3), (4, .int a4), (5, .int a5)]) (st2 := []) (w3 := w) rfl rfl ?_
    refine sx_RP.step (pc2 := 8) (ls2 := [(0, .ref 0), (1, .int (nI x2)), (2, .int a2), (3, .int a3), (4, .int a4), (5, .int a5)]) (st2 := [.int a3]) (w3 := w) rfl rfl ?_
    rcases in_cases a3 0 3 (m := 0) (n := 3) rfl rfl (by decide) (by decide) with q10 | ⟨x11, hx12, hx13, rfl⟩
    · refine sx_RP.cu (as := [.int a3]) (rest2 := []) (st3 := [.int 0]) rfl rfl rfl rfl rfl (cx_112n q10) rfl ?_
      refine sx_RP.step (pc2 := 14) (ls2 := [(0, .ref 0), (1, .int (nI x2)), (2, .int a2), (3, .int a3), (4, .int a4), (5, .int a5)]) (st2 := []) (w3 := w) rfl rfl ?_
      refine sx_RP.step (pc2 := 15) (ls2 := [(0, .ref 0), (1, .int (nI x2)), (2, .int a2), (3, .int a3), (4, .int a4), (5, .int a5)]) (st2 := [.ref 0]) (w3 := w) rfl rfl ?_
      refine sx_RP.step (pc2 := 17) (ls2 := [(0, .ref 0), (1, .int (nI x2)), (2, .int a2), (3, .int a3), (4, .int a4), (5, .int a5)]) (st2 := [.int (-1000000001), .ref 0]) (w3 := w) rfl rfl ?_
      refine sx_RP.callp (as2 := [.ref 0, .int (-1000000001)]) (rest2 := []) rfl rfl (sx_inv_v2 (mi := 118) (k := 78) (st := [.int (-1000000001), .ref 0]) (w := w) rfl rfl hI.1.o0 rfl rfl rfl) rfl rfl rfl (s9_0 hI) (show _ = 20 from rfl) ?_
      rintro r4 w15 ⟨rfl, hI16, hE18⟩
      have hE17 := hE.tr hE18
      show sx_RP _ _ _ _ _ [.int (-1000000001)] _ _
      refine sx_RP.ret (r := (some (.int (-1000000001)))) rfl rfl ?_
      exact ⟨⟨_, rfl⟩, hI16, hE17⟩
    · refine sx_RP.cu (as := [.int (nI x11)]) (rest2 := []) (st3 := [.int 1]) rfl rfl rfl rfl rfl (cx_112p ⟨nI_le (a := 0) hx12 (by omega), nI_le (b := 3) hx13 (by decide)⟩) rfl ?_
      refine sx_RP.step (pc2 := 21) (ls2 := [(0, .ref 0), (1, .int (nI x2)), (2, .int a2), (3, .int (nI x11)), (4, .int a4), (5, .int a5)]) (st2 := []) (w3 := w) rfl rfl ?_
      refine sx_RP.step (pc2 := 22) (ls2 := [(0, .ref 0), (1, .int (nI x2)), (2, .int a2), (3, .int (nI x11)), (4, .int a4), (5, .int a5)]) (st2 := [.ref 0]) (w3 := w) rfl rfl ?_
      refine sx_RP.gf (v := .ref 98) rfl rfl hI.1.o0 rfl rfl (show _ = 25 from rfl) ?_
      refine sx_RP.step (pc2 := 26) (ls2 := [(0, .ref 0), (1, .int (nI x2)), (2, .int a2), (3, .int (nI x11)), (4, .int a4), (5, .int a5)]) (st2 := [.int (nI x2), .ref 98]) (w3 := w) rfl rfl ?_
      refine sx_RP.ald (v := .ref (103 + 2 * x2)) rfl hI.1.a98 rfl (shA_at (show x2 < 4 by omega)) (show _ = 27 from rfl) ?_
      refine sx_RP.step (pc2 := 29) (ls2 := [(6, .ref (103 + 2 * x2)), (0, .ref 0), (1, .int (nI x2)), (2, .int a2), (3, .int (nI x11)), (4, .int a4), (5, .int a5)]) (st2 := []) (w3 := w) rfl rfl ?_
      refine sx_RP.step (pc2 := 30) (ls2 := [(6, .ref (103 + 2 * x2)), (0, .ref 0), (1, .int (nI x2)), (2, .int a2), (3, .int (nI x11)), (4, .int a4), (5, .int a5)]) (st2 := [.ref 0]) (w3 := w) rfl rfl ?_
      refine sx_RP.gf (v := .ref 98) rfl rfl hI.1.o0 rfl rfl (show _ = 33 from rfl) ?_
      refine sx_RP.step (pc2 := 34) (ls2 := [(6, .ref (103 + 2 * x2)), (0, .ref 0), (1, .int (nI x2)), (2, .int a2), (3, .int (nI x11)), (4, .int a4), (5, .int a5)]) (st2 := [.int (nI x11), .ref 98]) (w3 := w) rfl rfl ?_
      refine sx_RP.ald (v := .ref (103 + 2 * x11)) rfl hI.1.a98 rfl (shA_at (show x11 < 4 by omega)) (show _ = 35 from rfl) ?_
      refine sx_RP.step (pc2 := 37) (ls2 := [(7, .ref (103 + 2 * x11)), (6, .ref (103 + 2 * x2)), (0, .ref 0), (1, .int (nI x2)), (2, .int a2), (3, .int (nI x11)), (4, .int a4), (5, .int a5)]) (st2 := []) (w3 := w) rfl rfl ?_
      refine sx_RP.step (pc2 := 39) (ls2 := [(7, .ref (103 + 2 * x11)), (6, .ref (103 + 2 * x2)), (0, .ref 0), (1, .int (nI x2)), (2, .int a2), (3, .int (nI x11)), (4, .int a4), (5, .int a5)]) (st2 := [.ref (103 + 2 * x2)]) (w3 := w) rfl rfl ?_
      obtain ⟨x19, hx20, c21⟩ := p116 hI (show x2 < 4 by omega)
      refine sx_RP.cu (as := [.ref (103 + 2 * x2)]) (rest2 := []) (st3 := [.int (nI x19)]) rfl rfl (sx_inv_v2 (mi := 118) (k := 310) (st := [.ref (103 + 2 * x2)]) (w := w) rfl rfl (hI.1.oS (show x2 < 4 by omega)) rfl rfl rfl) rfl rfl (c21) rfl ?_
      refine sx_RP.br (p1 := 53) (l1 := [(7, .ref (103 + 2 * x11)), (6, .ref (103 + 2 * x2)), (0, .ref 0), (1, .int (nI x2)), (2, .int a2), (3, .int (nI x11)), (4, .int a4), (5, .int a5)]) (s1 := []) (v1 := w) (p2 := 45) (l2 := [(7, .ref (103 + 2 * x11)), (6, .ref (103 + 2 * x2)), (0, .ref 0), (1, .int (nI x2)), (2, .int a2), (3, .int (nI x11)), (4, .int a4), (5, .int a5)]) (s2 := []) (v2 := w) rfl rfl (fun q22 => ?_) (fun q22 => ?_)
      · replace q22 := of_decide_eq_true q22
        replace q22 := mt (nI_eq (a := x19) (b := 0) (by omega) (by omega)).mpr q22
        refine sx_RP.step (pc2 := 54) (ls2 := [(7, .ref (103 + 2 * x11)), (6, .ref (103 + 2 * x2)), (0, .ref 0), (1, .int (nI x2)), (2, .int a2), (3, .int (nI x11)), (4, .int a4), (5, .int a5)]) (st2 := [.ref 0]) (w3 := w) rfl rfl ?_
        refine sx_RP.step (pc2 := 57) (ls2 := [(7, .ref (103 + 2 * x11)), (6, .ref (103 + 2 * x2)), (0, .ref 0), (1, .int (nI x2)), (2, .int a2), (3, .int (nI x11)), (4, .int a4), (5, .int a5)]) (st2 := [.int (-1000000006), .ref 0]) (w3 := w) rfl rfl ?_
        refine sx_RP.callp (as2 := [.ref 0, .int (-1000000006)]) (rest2 := []) rfl rfl (sx_inv_v2 (mi := 118) (k := 78) (st := [.int (-1000000006), .ref 0]) (w := w) rfl rfl hI.1.o0 rfl rfl rfl) rfl rfl rfl (s9_5 hI) (show _ = 60 from rfl) ?_
        rintro r4 w23 ⟨rfl, hI24, hE26⟩
        have hE25 := hE.tr hE26
        show sx_RP _ _ _ _ _ [.int (-1000000006)] _ _
        refine sx_RP.ret (r := (some (.int (-1000000006)))) rfl rfl ?_
        exact ⟨⟨_, rfl⟩, hI24, hE25⟩
      · replace q22 := Decidable.not_not.mp (of_decide_eq_false q22)
        replace q22 := (nI_eq (a := x19) (b := 0) (by omega) (by omega)).mp q22
        refine sx_RP.step (pc2 := 47) (ls2 := [(7, .ref (103 + 2 * x11)), (6, .ref (103 + 2 * x2)), (0, .ref 0), (1, .int (nI x2)), (2, .int a2), (3, .int (nI x11)), (4, .int a4), (5, .int a5)]) (st2 := [.ref (103 + 2 * x11)]) (w3 := w) rfl rfl ?_
        obtain ⟨x27, hx28, c29⟩ := p116 hI (show x11 < 4 by omega)
        refine sx_RP.cu (as := [.ref (103 + 2 * x11)]) (rest2 := []) (st3 := [.int (nI x27)]) rfl rfl (sx_inv_v2 (mi := 118) (k := 310) (st := [.ref (103 + 2 * x11)]) (w := w) rfl rfl (hI.1.oS (show x11 < 4 by omega)) rfl rfl rfl) rfl rfl (c29) rfl ?_
        refine sx_RP.br (p1 := 61) (l1 := [(7, .ref (103 + 2 * x11)), (6, .ref (103 + 2 * x2)), (0, .ref 0), (1, .int (nI x2)), (2, .int a2), (3, .int (nI x11)), (4, .int a4), (5, .int a5)]) (s1 := []) (v1 := w) (p2 := 53) (l2 := [(7, .ref (103 + 2 * x11)), (6, .ref (103 + 2 * x2)), (0, .ref 0), (1, .int (nI x2)), (2, .int a2), (3, .int (nI x11)), (4, .int a4), (5, .int a5)]) (s2 := []) (v2 := w) rfl rfl (fun q30 => ?_) (fun q30 => ?_)
        · replace q30 := of_decide_eq_true q30
          replace q30 := (nI_eq (a := x27) (b := 0) (by omega) (by omega)).mp q30
          refine sx_RP.step (pc2 := 63) (ls2 := [(7, .ref (103 + 2 * x11)), (6, .ref (103 + 2 * x2)), (0, .ref 0), (1, .int (nI x2)), (2, .int a2), (3, .int (nI x11)), (4, .int a4), (5, .int a5)]) (st2 := [.ref (103 + 2 * x2)]) (w3 := w) rfl rfl ?_
          refine sx_RP.gf (v := .int (fi w (103 + 2 * x2) 1)) rfl rfl (hI.1.oS (show x2 < 4 by omega)) rfl rfl (show _ = 66 from rfl) ?_
          refine sx_RP.step (pc2 := 68) (ls2 := [(7, .ref (103 + 2 * x11)), (6, .ref (103 + 2 * x2)), (0, .ref 0), (1, .int (nI x2)), (2, .int a2), (3, .int (nI x11)), (4, .int a4), (5, .int a5)]) (st2 := [.ref (103 + 2 * x11), .int (fi w (103 + 2 * x2) 1)]) (w3 := w) rfl rfl ?_
          refine sx_RP.gf (v := .int (fi w (103 + 2 * x11) 1)) rfl rfl (hI.1.oS (show x11 < 4 by omega)) rfl rfl (show _ = 71 from rfl) ?_
          refine sx_RP.br (p1 := 81) (l1 := [(7, .ref (103 + 2 * x11)), (6, .ref (103 + 2 * x2)), (0, .ref 0), (1, .int (nI x2)), (2, .int a2), (3, .int (nI x11)), (4, .int a4), (5, .int a5)]) (s1 := []) (v1 := w) (p2 := 74) (l2 := [(7, .ref (103 + 2 * x11)), (6, .ref (103 + 2 * x2)), (0, .ref 0), (1, .int (nI x2)), (2, .int a2), (3, .int (nI x11)), (4, .int a4), (5, .int a5)]) (s2 := []) (v2 := w) rfl rfl (fun q31 => ?_) (fun q31 => ?_)
          · replace q31 := of_decide_eq_true q31
            refine sx_RP.step (pc2 := 83) (ls2 := [(7, .ref (103 + 2 * x11)), (6, .ref (103 + 2 * x2)), (0, .ref 0), (1, .int (nI x2)), (2, .int a2), (3, .int (nI x11)), (4, .int a4), (5, .int a5)]) (st2 := [.ref (103 + 2 * x2)]) (w3 := w) rfl rfl ?_
            refine sx_RP.step (pc2 := 84) (ls2 := [(7, .ref (103 + 2 * x11)), (6, .ref (103 + 2 * x2)), (0, .ref 0), (1, .int (nI x2)), (2, .int a2), (3, .int (nI x11)), (4, .int a4), (5, .int a5)]) (st2 := [.int a2, .ref (103 + 2 * x2)]) (w3 := w) rfl rfl ?_
            refine sx_RP.step (pc2 := 86) (ls2 := [(7, .ref (103 + 2 * x11)), (6, .ref (103 + 2 * x2)), (0, .ref 0), (1, .int (nI x2)), (2, .int a2), (3, .int (nI x11)), (4, .int a4), (5, .int a5)]) (st2 := [.int a5, .int a2, .ref (103 + 2 * x2)]) (w3 := w) rfl rfl ?_
            rcases p119 (xs := xs) hI (show x2 < 4 by omega) a2 a5 with c32 | ⟨⟨x33, x34, rfl, rfl, hx36⟩, c32⟩
            · refine sx_RP.cu (as := [.ref (103 + 2 * x2), .int a2, .int a5]) (rest2 := []) (st3 := [.int 0]) rfl rfl (sx_inv_v2 (mi := 118) (k := 325) (st := [.int a5, .int a2, .ref (103 + 2 * x2)]) (w := w) rfl rfl (hI.1.oS (show x2 < 4 by omega)) rfl rfl rfl) rfl rfl (c32) rfl ?_
              refine sx_RP.step (pc2 := 104) (ls2 := [(7, .ref (103 + 2 * x11)), (6, .ref (103 + 2 * x2)), (0, .ref 0), (1, .int (nI x2)), (2, .int a2), (3, .int (nI x11)), (4, .int a4), (5, .int a5)]) (st2 := []) (w3 := w) rfl rfl ?_
              refine sx_RP.step (pc2 := 105) (ls2 := [(7, .ref (103 + 2 * x11)), (6, .ref (103 + 2 * x2)), (0, .ref 0), (1, .int (nI x2)), (2, .int a2), (3, .int (nI x11)), (4, .int a4), (5, .int a5)]) (st2 := [.ref 0]) (w3 := w) rfl rfl ?_
              refine sx_RP.step (pc2 := 107) (ls2 := [(7, .ref (103 + 2 * x11)), (6, .ref (103 + 2 * x2)), (0, .ref 0), (1, .int (nI x2)), (2, .int a2), (3, .int (nI x11)), (4, .int a4), (5, .int a5)]) (st2 := [.int (-1000000001), .ref 0]) (w3 := w) rfl rfl ?_
              refine sx_RP.callp (as2 := [.ref 0, .int (-1000000001)]) (rest2 := []) rfl rfl (sx_inv_v2 (mi := 118) (k := 78) (st := [.int (-1000000001), .ref 0]) (w := w) rfl rfl hI.1.o0 rfl rfl rfl) rfl rfl rfl (s9_0 hI) (show _ = 110 from rfl) ?_
              rintro r4 w38 ⟨rfl, hI39, hE41⟩
              have hE40 := hE.tr hE41
              show sx_RP _ _ _ _ _ [.int (-1000000001)] _ _
              refine sx_RP.ret (r := (some (.int (-1000000001)))) rfl rfl ?_
              exact ⟨⟨_, rfl⟩, hI39, hE40⟩
            · refine sx_RP.cu (as := [.ref (103 + 2 * x2), .int (nI x33), .int (nI x34)]) (rest2 := []) (st3 := [.int 1]) rfl rfl (sx_inv_v2 (mi := 118) (k := 325) (st := [.int (nI x34), .int (nI x33), .ref (103 + 2 * x2)]) (w := w) rfl rfl (hI.1.oS (show x2 < 4 by omega)) rfl rfl rfl) rfl rfl (c32) rfl ?_
              refine sx_RP.step (pc2 := 92) (ls2 := [(7, .ref (103 + 2 * x11)), (6, .ref (103 + 2 * x2)), (0, .ref 0), (1, .int (nI x2)), (2, .int (nI x33)), (3, .int (nI x11)), (4, .int a4), (5, .int (nI x34))]) (st2 := []) (w3 := w) rfl rfl ?_
              refine sx_RP.step (pc2 := 94) (ls2 := [(7, .ref (103 + 2 * x11)), (6, .ref (103 + 2 * x2)), (0, .ref 0), (1, .int (nI x2)), (2, .int (nI x33)), (3, .int (nI x11)), (4, .int a4), (5, .int (nI x34))]) (st2 := [.ref (103 + 2 * x11)]) (w3 := w) rfl rfl ?_
              refine sx_RP.step (pc2 := 96) (ls2 := [(7, .ref (103 + 2 * x11)), (6, .ref (103 + 2 * x2)), (0, .ref 0), (1, .int (nI x2)), (2, .int (nI x33)), (3, .int (nI x11)), (4, .int a4), (5, .int (nI x34))]) (st2 := [.int a4, .ref (103 + 2 * x11)]) (w3 := w) rfl rfl ?_
              refine sx_RP.step (pc2 := 98) (ls2 := [(7, .ref (103 + 2 * x11)), (6, .ref (103 + 2 * x2)), (0, .ref 0), (1, .int (nI x2)), (2, .int (nI x33)), (3, .int (nI x11)), (4, .int a4), (5, .int (nI x34))]) (st2 := [.int (nI x34), .int a4, .ref (103 + 2 * x11)]) (w3 := w) rfl rfl ?_
              rcases p119 (xs := xs) hI (show x11 < 4 by omega) a4 (nI x34) with c42 | ⟨⟨x43, x44, rfl, ex45, hx46⟩, c42⟩
              · refine sx_RP.cu (as := [.ref (103 + 2 * x11), .int a4, .int (nI x34)]) (rest2 := []) (st3 := [.int 0]) rfl rfl (sx_inv_v2 (mi := 118) (k := 325) (st := [.int (nI x34), .int a4, .ref (103 + 2 * x11)]) (w := w) rfl rfl (hI.1.oS (show x11 < 4 by omega)) rfl rfl rfl) rfl rfl (c42) rfl ?_
                refine sx_RP.step (pc2 := 104) (ls2 := [(7, .ref (103 + 2 * x11)), (6, .ref (103 + 2 * x2)), (0, .ref 0), (1, .int (nI x2)), (2, .int (nI x33)), (3, .int (nI x11)), (4, .int a4), (5, .int (nI x34))]) (st2 := []) (w3 := w) rfl rfl ?_
                refine sx_RP.step (pc2 := 105) (ls2 := [(7, .ref (103 + 2 * x11)), (6, .ref (103 + 2 * x2)), (0, .ref 0), (1, .int (nI x2)), (2, .int (nI x33)), (3, .int (nI x11)), (4, .int a4), (5, .int (nI x34))]) (st2 := [.ref 0]) (w3 := w) rfl rfl ?_
                refine sx_RP.step (pc2 := 107) (ls2 := [(7, .ref (103 + 2 * x11)), (6, .ref (103 + 2 * x2)), (0, .ref 0), (1, .int (nI x2)), (2, .int (nI x33)), (3, .int (nI x11)), (4, .int a4), (5, .int (nI x34))]) (st2 := [.int (-1000000001), .ref 0]) (w3 := w) rfl rfl ?_
                refine sx_RP.callp (as2 := [.ref 0, .int (-1000000001)]) (rest2 := []) rfl rfl (sx_inv_v2 (mi := 118) (k := 78) (st := [.int (-1000000001), .ref 0]) (w := w) rfl rfl hI.1.o0 rfl rfl rfl) rfl rfl rfl (s9_0 hI) (show _ = 110 from rfl) ?_
                rintro r4 w48 ⟨rfl, hI49, hE51⟩
                have hE50 := hE.tr hE51
                show sx_RP _ _ _ _ _ [.int (-1000000001)] _ _
                refine sx_RP.ret (r := (some (.int (-1000000001)))) rfl rfl ?_
                exact ⟨⟨_, rfl⟩, hI49, hE50⟩
              · have hx47 := (nI_eq (a := x34) (b := x44) (by omega) (by omega)).mp ex45
                refine sx_RP.cu (as := [.ref (103 + 2 * x11), .int (nI x43), .int (nI x34)]) (rest2 := []) (st3 := [.int 1]) rfl rfl (sx_inv_v2 (mi := 118) (k := 325) (st := [.int (nI x34), .int (nI x43), .ref (103 + 2 * x11)]) (w := w) rfl rfl (hI.1.oS (show x11 < 4 by omega)) rfl rfl rfl) rfl rfl (c42) rfl ?_
                refine sx_RP.step (pc2 := 111) (ls2 := [(7, .ref (103 + 2 * x11)), (6, .ref (103 + 2 * x2)), (0, .ref 0), (1, .int (nI x2)), (2, .int (nI x33)), (3, .int (nI x11)), (4, .int (nI x43)), (5, .int (nI x34))]) (st2 := []) (w3 := w) rfl rfl ?_
                refine sx_RP.step (pc2 := 113) (ls2 := [(7, .ref (103 + 2 * x11)), (6, .ref (103 + 2 * x2)), (0, .ref 0), (1, .int (nI x2)), (2, .int (nI x33)), (3, .int (nI x11)), (4, .int (nI x43)), (5, .int (nI x34))]) (st2 := [.ref (103 + 2 * x2)]) (w3 := w) rfl rfl ?_
                refine sx_RP.gf (v := .ref (104 + 2 * x2)) rfl rfl (hI.1.oS (show x2 < 4 by omega)) rfl rfl (show _ = 116 from rfl) ?_
                refine sx_RP.step (pc2 := 117) (ls2 := [(7, .ref (103 + 2 * x11)), (6, .ref (103 + 2 * x2)), (0, .ref 0), (1, .int (nI x2)), (2, .int (nI x33)), (3, .int (nI x11)), (4, .int (nI x43)), (5, .int (nI x34))]) (st2 := [.int (nI x33), .ref (104 + 2 * x2)]) (w3 := w) rfl rfl ?_
                refine sx_RP.step (pc2 := 119) (ls2 := [(7, .ref (103 + 2 * x11)), (6, .ref (103 + 2 * x2)), (0, .ref 0), (1, .int (nI x2)), (2, .int (nI x33)), (3, .int (nI x11)), (4, .int (nI x43)), (5, .int (nI x34))]) (st2 := [.ref (103 + 2 * x11), .int (nI x33), .ref (104 + 2 * x2)]) (w3 := w) rfl rfl ?_
                refine sx_RP.gf (v := .ref (104 + 2 * x11)) rfl rfl (hI.1.oS (show x11 < 4 by omega)) rfl rfl (show _ = 122 from rfl) ?_
                refine sx_RP.step (pc2 := 124) (ls2 := [(7, .ref (103 + 2 * x11)), (6, .ref (103 + 2 * x2)), (0, .ref 0), (1, .int (nI x2)), (2, .int (nI x33)), (3, .int (nI x11)), (4, .int (nI x43)), (5, .int (nI x34))]) (st2 := [.int (nI x43), .ref (104 + 2 * x11), .int (nI x33), .ref (104 + 2 * x2)]) (w3 := w) rfl rfl ?_
                refine sx_RP.step (pc2 := 126) (ls2 := [(7, .ref (103 + 2 * x11)), (6, .ref (103 + 2 * x2)), (0, .ref 0), (1, .int (nI x2)), (2, .int (nI x33)), (3, .int (nI x11)), (4, .int (nI x43)), (5, .int (nI x34))]) (st2 := [.int (nI x34), .int (nI x43), .ref (104 + 2 * x11), .int (nI x33), .ref (104 + 2 * x2)]) (w3 := w) rfl rfl ?_
                refine sx_RP.acN hI hE (show x2 < 4 by omega) (show x11 < 4 by omega) (by omega) (by omega) rfl rfl rfl (show _ = 129 from rfl) (fun w52 hI53 hE54 => ?_)
                refine sx_RP.step (pc2 := 131) (ls2 := [(7, .ref (103 + 2 * x11)), (6, .ref (103 + 2 * x2)), (0, .ref 0), (1, .int (nI x2)), (2, .int (nI x33)), (3, .int (nI x11)), (4, .int (nI x43)), (5, .int (nI x34))]) (st2 := [.int (nI x34)]) (w3 := w52) rfl rfl ?_
                refine sx_RP.ret (r := (some (.int (nI x34)))) rfl rfl ?_
                exact ⟨⟨_, rfl⟩, hI53, hE54⟩
          · replace q31 := of_decide_eq_false q31
            refine sx_RP.step (pc2 := 75) (ls2 := [(7, .ref (103 + 2 * x11)), (6, .ref (103 + 2 * x2)), (0, .ref 0), (1, .int (nI x2)), (2, .int a2), (3, .int (nI x11)), (4, .int a4), (5, .int a5)]) (st2 := [.ref 0]) (w3 := w) rfl rfl ?_
            refine sx_RP.step (pc2 := 77) (ls2 := [(7, .ref (103 + 2 * x11)), (6, .ref (103 + 2 * x2)), (0, .ref 0), (1, .int (nI x2)), (2, .int a2), (3, .int (nI x11)), (4, .int a4), (5, .int a5)]) (st2 := [.int (-1000000003), .ref 0]) (w3 := w) rfl rfl ?_
            refine sx_RP.callp (as2 := [.ref 0, .int (-1000000003)]) (rest2 := []) rfl rfl (sx_inv_v2 (mi := 118) (k := 78) (st := [.int (-1000000003), .ref 0]) (w := w) rfl rfl hI.1.o0 rfl rfl rfl) rfl rfl rfl (s9_2 hI) (show _ = 80 from rfl) ?_
            rintro r4 w55 ⟨rfl, hI56, hE58⟩
            have hE57 := hE.tr hE58
            show sx_RP _ _ _ _ _ [.int (-1000000003)] _ _
            refine sx_RP.ret (r := (some (.int (-1000000003)))) rfl rfl ?_
            exact ⟨⟨_, rfl⟩, hI56, hE57⟩
        · replace q30 := of_decide_eq_false q30
          replace q30 := mt (nI_eq (a := x27) (b := 0) (by omega) (by omega)).mpr q30
          refine sx_RP.step (pc2 := 54) (ls2 := [(7, .ref (103 + 2 * x11)), (6, .ref (103 + 2 * x2)), (0, .ref 0), (1, .int (nI x2)), (2, .int a2), (3, .int (nI x11)), (4, .int a4), (5, .int a5)]) (st2 := [.ref 0]) (w3 := w) rfl rfl ?_
          refine sx_RP.step (pc2 := 57) (ls2 := [(7, .ref (103 + 2 * x11)), (6, .ref (103 + 2 * x2)), (0, .ref 0), (1, .int (nI x2)), (2, .int a2), (3, .int (nI x11)), (4, .int a4), (5, .int a5)]) (st2 := [.int (-1000000006), .ref 0]) (w3 := w) rfl rfl ?_
          refine sx_RP.callp (as2 := [.ref 0, .int (-1000000006)]) (rest2 := []) rfl rfl (sx_inv_v2 (mi := 118) (k := 78) (st := [.int (-1000000006), .ref 0]) (w := w) rfl rfl hI.1.o0 rfl rfl rfl) rfl rfl rfl (s9_5 hI) (show _ = 60 from rfl) ?_
          rintro r4 w59 ⟨rfl, hI60, hE62⟩
          have hE61 := hE.tr hE62
          show sx_RP _ _ _ _ _ [.int (-1000000006)] _ _
          refine sx_RP.ret (r := (some (.int (-1000000006)))) rfl rfl ?_
          exact ⟨⟨_, rfl⟩, hI60, hE61⟩
