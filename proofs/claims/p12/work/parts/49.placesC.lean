-- safety: places, sheets
set_option maxRecDepth 20000 in
set_option maxHeartbeats 4000000 in
theorem s72bB {xs : Option (List Int32)} {d : Nat} {w w0 : List sx_C} {k : Nat} (hk : k ≤ 5) (hI : WI w) (hE : EC w0 w) {j : Nat} (hj : j ≤ 48) (l : Int64) (kk : ∀ (w4 : List sx_C) (ul : Int64), WI w4 → EC w0 w4 → j + 1 ≤ 48 → sx_RP xs (d + 5) 72 47 [(0, .ref 0), (1, .int (nI k)), (2, .long ul), (4, .int (nI (j + 1)))] [] w4 (fun r w2 => (∃ v : Int64, r = some (.long v)) ∧ WI w2 ∧ EC w0 w2)) : sx_RP xs (d + 5) 72 47 [(0, .ref 0), (1, .int (nI k)), (2, .long l), (4, .int (nI j))] [] w (fun r w2 => (∃ v : Int64, r = some (.long v)) ∧ WI w2 ∧ EC w0 w2) := by
  refine sx_RP.step (pc2 := 49) (ls2 := [(0, .ref 0), (1, .int (nI k)), (2, .long l), (4, .int (nI j))]) (st2 := [.int (nI j)]) (w3 := w) rfl rfl ?_
  refine sx_RP.step (pc2 := 51) (ls2 := [(0, .ref 0), (1, .int (nI k)), (2, .long l), (4, .int (nI j))]) (st2 := [.int 48, .int (nI j)]) (w3 := w) rfl rfl ?_
  refine sx_RP.br (p1 := 77) (l1 := [(0, .ref 0), (1, .int (nI k)), (2, .long l), (4, .int (nI j))]) (s1 := []) (v1 := w) (p2 := 54) (l2 := [(0, .ref 0), (1, .int (nI k)), (2, .long l), (4, .int (nI j))]) (s2 := []) (v2 := w) rfl rfl (fun q1 => ?_) (fun q1 => ?_)
  · replace q1 := of_decide_eq_true q1
    replace q1 := (nI_leI (a := 48) (b := j) (by omega) (by omega)).mp q1
    refine sx_RP.step (pc2 := 78) (ls2 := [(0, .ref 0), (1, .int (nI k)), (2, .long l), (4, .int (nI j))]) (st2 := [.long l]) (w3 := w) rfl rfl ?_
    refine sx_RP.ret (r := (some (.long l))) rfl rfl ?_
    exact ⟨⟨_, rfl⟩, hI, hE⟩
  · replace q1 := of_decide_eq_false q1
    replace q1 := mt (nI_leI (a := 48) (b := j) (by omega) (by omega)).mpr q1
    refine sx_RP.step (pc2 := 55) (ls2 := [(0, .ref 0), (1, .int (nI k)), (2, .long l), (4, .int (nI j))]) (st2 := [.ref 0]) (w3 := w) rfl rfl ?_
    refine sx_RP.step (pc2 := 56) (ls2 := [(0, .ref 0), (1, .int (nI k)), (2, .long l), (4, .int (nI j))]) (st2 := [.int (nI k), .ref 0]) (w3 := w) rfl rfl ?_
    refine sx_RP.step (pc2 := 58) (ls2 := [(0, .ref 0), (1, .int (nI k)), (2, .long l), (4, .int (nI j))]) (st2 := [.int (nI j), .int (nI k), .ref 0]) (w3 := w) rfl rfl ?_
    refine sx_RP.callp (as2 := [.ref 0, .int (nI k), .int (nI j)]) (rest2 := []) rfl rfl (sx_inv_v2 (mi := 72) (k := 250) (st := [.int (nI j), .int (nI k), .ref 0]) (w := w) rfl rfl hI.1.o0 rfl rfl rfl) rfl rfl rfl (s73 hI (show k ≤ 5 by omega) (show j < 48 by omega)) (show _ = 61 from rfl) ?_
    rintro r4 w4 ⟨⟨x2, hx3, rfl⟩, hI5, hE7⟩
    have hE6 := hE.tr hE7
    show sx_RP _ _ _ _ _ [.int (nI x2)] _ _
    refine sx_RP.br (p1 := 71) (l1 := [(0, .ref 0), (1, .int (nI k)), (2, .long l), (4, .int (nI j))]) (s1 := []) (v1 := w4) (p2 := 64) (l2 := [(0, .ref 0), (1, .int (nI k)), (2, .long l), (4, .int (nI j))]) (s2 := []) (v2 := w4) rfl rfl (fun q8 => ?_) (fun q8 => ?_)
    · replace q8 := of_decide_eq_true q8
      replace q8 := (nI_eq (a := x2) (b := 0) (by omega) (by omega)).mp q8
      refine sx_RP.step (pc2 := 74) (ls2 := [(4, .int ((nI j) + 1)), (0, .ref 0), (1, .int (nI k)), (2, .long l)]) (st2 := []) (w3 := w4) rfl rfl ?_
      rw [nI_1 j]
      refine sx_RP.step (pc2 := 47) (ls2 := [(4, .int (nI (j + 1))), (0, .ref 0), (1, .int (nI k)), (2, .long l)]) (st2 := []) (w3 := w4) rfl rfl ?_
      exact sx_RP.ls (sx_lr.cons rfl (sx_lr.cons rfl (sx_lr.cons rfl (sx_lr.cons rfl sx_lr.nil)))) (kk w4 l hI5 hE6 (by omega))
    · replace q8 := of_decide_eq_false q8
      replace q8 := mt (nI_eq (a := x2) (b := 0) (by omega) (by omega)).mpr q8
      refine sx_RP.step (pc2 := 65) (ls2 := [(0, .ref 0), (1, .int (nI k)), (2, .long l), (4, .int (nI j))]) (st2 := [.long l]) (w3 := w4) rfl rfl ?_
      refine sx_RP.step (pc2 := 66) (ls2 := [(0, .ref 0), (1, .int (nI k)), (2, .long l), (4, .int (nI j))]) (st2 := [.long 1, .long l]) (w3 := w4) rfl rfl ?_
      refine sx_RP.step (pc2 := 68) (ls2 := [(0, .ref 0), (1, .int (nI k)), (2, .long l), (4, .int (nI j))]) (st2 := [.int (nI j), .long 1, .long l]) (w3 := w4) rfl rfl ?_
      refine sx_RP.step (pc2 := 69) (ls2 := [(0, .ref 0), (1, .int (nI k)), (2, .long l), (4, .int (nI j))]) (st2 := [.long ((1 : Int64) <<< ((nI j).toInt64 &&& 63)), .long l]) (w3 := w4) rfl rfl ?_
      refine sx_RP.step (pc2 := 70) (ls2 := [(0, .ref 0), (1, .int (nI k)), (2, .long l), (4, .int (nI j))]) (st2 := [.long (l ||| ((1 : Int64) <<< ((nI j).toInt64 &&& 63)))]) (w3 := w4) rfl rfl ?_
      refine sx_RP.step (pc2 := 71) (ls2 := [(2, .long (l ||| ((1 : Int64) <<< ((nI j).toInt64 &&& 63)))), (0, .ref 0), (1, .int (nI k)), (4, .int (nI j))]) (st2 := []) (w3 := w4) rfl rfl ?_
      refine sx_RP.step (pc2 := 74) (ls2 := [(4, .int ((nI j) + 1)), (2, .long (l ||| ((1 : Int64) <<< ((nI j).toInt64 &&& 63)))), (0, .ref 0), (1, .int (nI k))]) (st2 := []) (w3 := w4) rfl rfl ?_
      rw [nI_1 j]
      refine sx_RP.step (pc2 := 47) (ls2 := [(4, .int (nI (j + 1))), (2, .long (l ||| ((1 : Int64) <<< ((nI j).toInt64 &&& 63)))), (0, .ref 0), (1, .int (nI k))]) (st2 := []) (w3 := w4) rfl rfl ?_
      exact sx_RP.ls (sx_lr.cons rfl (sx_lr.cons rfl (sx_lr.cons rfl (sx_lr.cons rfl sx_lr.nil)))) (kk w4 (l ||| ((1 : Int64) <<< ((nI j).toInt64 &&& 63))) hI5 hE6 (by omega))
set_option maxRecDepth 20000 in
set_option maxHeartbeats 4000000 in
theorem s72bL {xs : Option (List Int32)} {d : Nat} {w0 : List sx_C} {k : Nat} (hk : k ≤ 5) : ∀ (fz j : Nat) (w : List sx_C) (l : Int64) , 48 ≤ j + fz * 1 → j ≤ 48 → WI w → EC w0 w → sx_RP xs (d + 5) 72 47 [(0, .ref 0), (1, .int (nI k)), (2, .long l), (4, .int (nI j))] [] w (fun r w2 => (∃ v : Int64, r = some (.long v)) ∧ WI w2 ∧ EC w0 w2)
  | 0, j, w, l, h, hj, hI, hE => s72bB hk hI hE hj l  (fun w4 ul hI4 hE4 hlt  => absurd hlt (by omega)) 
  | fz + 1, j, w, l, h, hj, hI, hE => s72bB hk hI hE hj l  (fun w4 ul hI4 hE4 hlt  => s72bL hk  fz (j + 1) w4 ul (by omega) hlt hI4 hE4 ) 
set_option maxRecDepth 20000 in
set_option maxHeartbeats 4000000 in
theorem s72aB {xs : Option (List Int32)} {d : Nat} {w w0 : List sx_C} {k : Nat} (hk : k ≤ 5) (hI : WI w) (hE : EC w0 w) {j : Nat} (hj : j ≤ 9) (kk : ∀ (w4 : List sx_C), WI w4 → EC w0 w4 → j + 1 ≤ 9 → sx_RP xs (d + 5) 72 2 [(0, .ref 0), (1, .int (nI k)), (2, .int (nI (j + 1)))] [] w4 (fun r w2 => (∃ v : Int64, r = some (.long v)) ∧ WI w2 ∧ EC w0 w2)) (kx42 : ∀ (w4 : List sx_C), WI w4 → EC w0 w4 → sx_RP xs (d + 5) 72 42 [(0, .ref 0), (1, .int (nI k))] [] w4 (fun r w2 => (∃ v : Int64, r = some (.long v)) ∧ WI w2 ∧ EC w0 w2)) : sx_RP xs (d + 5) 72 2 [(0, .ref 0), (1, .int (nI k)), (2, .int (nI j))] [] w (fun r w2 => (∃ v : Int64, r = some (.long v)) ∧ WI w2 ∧ EC w0 w2) := by
  refine sx_RP.step (pc2 := 3) (ls2 := [(0, .ref 0), (1, .int (nI k)), (2, .int (nI j))]) (st2 := [.int (nI j)]) (w3 := w) rfl rfl ?_
  refine sx_RP.step (pc2 := 4) (ls2 := [(0, .ref 0), (1, .int (nI k)), (2, .int (nI j))]) (st2 := [.ref 0, .int (nI j)]) (w3 := w) rfl rfl ?_
  refine sx_RP.gf (v := .ref 1) rfl rfl hI.1.o0 rfl rfl (show _ = 7 from rfl) ?_
  refine sx_RP.gc (k := 5) hI (Or.inl rfl) rfl rfl (by omega) (show _ = 10 from rfl) ?_
  obtain ⟨x1, hx2, ex3⟩ : inR (fi w 1 5) 9 := (hI.c (Or.inl rfl)).2
  rw [ex3]
  refine sx_RP.br (p1 := 42) (l1 := [(0, .ref 0), (1, .int (nI k)), (2, .int (nI j))]) (s1 := []) (v1 := w) (p2 := 13) (l2 := [(0, .ref 0), (1, .int (nI k)), (2, .int (nI j))]) (s2 := []) (v2 := w) rfl rfl (fun q4 => ?_) (fun q4 => ?_)
  · replace q4 := of_decide_eq_true q4
    replace q4 := (nI_leI (a := x1) (b := j) (by omega) (by omega)).mp q4
    exact sx_RP.ls (sx_lr.cons rfl (sx_lr.cons rfl sx_lr.nil)) (kx42 w hI hE)
  · replace q4 := of_decide_eq_false q4
    replace q4 := mt (nI_leI (a := x1) (b := j) (by omega) (by omega)).mpr q4
    refine sx_RP.step (pc2 := 14) (ls2 := [(0, .ref 0), (1, .int (nI k)), (2, .int (nI j))]) (st2 := [.ref 0]) (w3 := w) rfl rfl ?_
    refine sx_RP.gf (v := .ref 102) rfl rfl hI.1.o0 rfl rfl (show _ = 17 from rfl) ?_
    refine sx_RP.step (pc2 := 18) (ls2 := [(0, .ref 0), (1, .int (nI k)), (2, .int (nI j))]) (st2 := [.int (nI j), .ref 102]) (w3 := w) rfl rfl ?_
    refine sx_RP.step (pc2 := 19) (ls2 := [(0, .ref 0), (1, .int (nI k)), (2, .int (nI j))]) (st2 := [.ref 0, .int (nI j), .ref 102]) (w3 := w) rfl rfl ?_
    refine sx_RP.step (pc2 := 20) (ls2 := [(0, .ref 0), (1, .int (nI k)), (2, .int (nI j))]) (st2 := [.ref 0, .ref 0, .int (nI j), .ref 102]) (w3 := w) rfl rfl ?_
    refine sx_RP.gf (v := .ref 1) rfl rfl hI.1.o0 rfl rfl (show _ = 23 from rfl) ?_
    refine sx_RP.step (pc2 := 24) (ls2 := [(0, .ref 0), (1, .int (nI k)), (2, .int (nI j))]) (st2 := [.ref 0, .ref 1, .ref 0, .int (nI j), .ref 102]) (w3 := w) rfl rfl ?_
    refine sx_RP.gf (v := .ref 1) rfl rfl hI.1.o0 rfl rfl (show _ = 27 from rfl) ?_
    refine sx_RP.gref (k := 4) (b := 4) hI (Or.inl rfl) rfl rfl (by omega) (show _ = 30 from rfl) ?_
    refine sx_RP.step (pc2 := 31) (ls2 := [(0, .ref 0), (1, .int (nI k)), (2, .int (nI j))]) (st2 := [.int (nI j), .ref 4, .ref 1, .ref 0, .int (nI j), .ref 102]) (w3 := w) rfl rfl ?_
    refine sx_RP.ild (c := j) rfl (hI.1.aD (Or.inl rfl)).1 (hI.1.aD (Or.inl rfl)).2 (sx_in_nI (show j < 9 by omega) (by decide)) (show (nI j).toNatClampNeg = j from nI_clamp (by omega)) (show _ = 32 from rfl) ?_
    obtain ⟨x5, hx6, ex7⟩ : inR ((ia w 4).getD j 0) 47 := hI.di (Or.inl rfl) (show j < 9 by omega)
    rw [ex7]
    refine sx_RP.callp (as2 := [.ref 0, .ref 1, .int (nI x5)]) (rest2 := [.int (nI j), .ref 102]) rfl rfl (sx_inv_v2 (mi := 72) (k := 231) (st := [.int (nI x5), .ref 1, .ref 0, .int (nI j), .ref 102]) (w := w) rfl rfl hI.1.o0 rfl rfl rfl) rfl rfl rfl (s68 hI (Or.inl rfl) (show x5 < 48 by omega)) (show _ = 35 from rfl) ?_
    rintro r4 w9 ⟨⟨v8, rfl⟩, hI10, hE12⟩
    have hE11 := hE.tr hE12
    show sx_RP _ _ _ _ _ [.int v8, .int (nI j), .ref 102] _ _
    refine sx_RP.stF hI10 hE11 rfl hI10.1.a102 (sx_in_nI (show j < 9 by omega) (by decide)) (by omega) (show _ = 36 from rfl) (fun w13 hI14 hE15 => ?_)
    refine sx_RP.step (pc2 := 39) (ls2 := [(2, .int ((nI j) + 1)), (0, .ref 0), (1, .int (nI k))]) (st2 := []) (w3 := w13) rfl rfl ?_
    rw [nI_1 j]
    refine sx_RP.step (pc2 := 2) (ls2 := [(2, .int (nI (j + 1))), (0, .ref 0), (1, .int (nI k))]) (st2 := []) (w3 := w13) rfl rfl ?_
    exact sx_RP.ls (sx_lr.cons rfl (sx_lr.cons rfl (sx_lr.cons rfl sx_lr.nil))) (kk w13 hI14 hE15 (by omega))
set_option maxRecDepth 20000 in
set_option maxHeartbeats 4000000 in
theorem s72aL {xs : Option (List Int32)} {d : Nat} {w0 : List sx_C} {k : Nat} (hk : k ≤ 5) (kx42 : ∀ (w4 : List sx_C), WI w4 → EC w0 w4 → sx_RP xs (d + 5) 72 42 [(0, .ref 0), (1, .int (nI k))] [] w4 (fun r w2 => (∃ v : Int64, r = some (.long v)) ∧ WI w2 ∧ EC w0 w2)) : ∀ (fz j : Nat) (w : List sx_C) , 9 ≤ j + fz * 1 → j ≤ 9 → WI w → EC w0 w → sx_RP xs (d + 5) 72 2 [(0, .ref 0), (1, .int (nI k)), (2, .int (nI j))] [] w (fun r w2 => (∃ v : Int64, r = some (.long v)) ∧ WI w2 ∧ EC w0 w2)
  | 0, j, w, h, hj, hI, hE => s72aB hk hI hE hj   (fun w4  hI4 hE4 hlt  => absurd hlt (by omega)) kx42
  | fz + 1, j, w, h, hj, hI, hE => s72aB hk hI hE hj   (fun w4  hI4 hE4 hlt  => s72aL hk kx42 fz (j + 1) w4  (by omega) hlt hI4 hE4 ) kx42
set_option maxRecDepth 20000 in
set_option maxHeartbeats 4000000 in
theorem s72 {xs : Option (List Int32)} {d : Nat} {w : List sx_C} (hI : WI w) {k : Nat} (hk : k ≤ 5) : sx_RP xs (d + 5) 72 0 (lv_args 0 [.ref 0, .int (nI k)]) [] w (fun r w2 => (∃ v : Int64, r = some (.long v)) ∧ WI w2 ∧ EC w w2) := by
  have hE : EC w w := EC.rf
  refine sx_RP.step (pc2 := 1) (ls2 := [(0, .ref 0), (1, .int (nI k))]) (st2 := [.int 0]) (w3 := w) rfl rfl ?_
  refine sx_RP.step (pc2 := 2) (ls2 := [(2, .int 0), (0, .ref 0), (1, .int (nI k))]) (st2 := []) (w3 := w) rfl rfl ?_
  refine sx_RP.ls (sx_lr.cons rfl (sx_lr.cons rfl (sx_lr.cons rfl sx_lr.nil))) (s72aL hk (fun w1 hI2 hE3 => ?_) 9 0 w  (by omega) (by omega) hI hE )
  refine sx_RP.step (pc2 := 43) (ls2 := [(0, .ref 0), (1, .int (nI k))]) (st2 := [.long 0]) (w3 := w1) rfl rfl ?_
  refine sx_RP.step (pc2 := 44) (ls2 := [(2, .long 0), (0, .ref 0), (1, .int (nI k))]) (st2 := []) (w3 := w1) rfl rfl ?_
  refine sx_RP.step (pc2 := 45) (ls2 := [(2, .long 0), (0, .ref 0), (1, .int (nI k))]) (st2 := [.int 0]) (w3 := w1) rfl rfl ?_
  refine sx_RP.step (pc2 := 47) (ls2 := [(4, .int 0), (2, .long 0), (0, .ref 0), (1, .int (nI k))]) (st2 := []) (w3 := w1) rfl rfl ?_
  exact sx_RP.ls (sx_lr.cons rfl (sx_lr.cons rfl (sx_lr.cons rfl (sx_lr.cons rfl sx_lr.nil)))) (s72bL hk 48 0 w1 0 (by omega) (by omega) hI2 hE3 )
set_option maxRecDepth 20000 in
set_option maxHeartbeats 4000000 in
theorem s75B {xs : Option (List Int32)} {d : Nat} {w w0 : List sx_C} {k c : Nat} (l : Int64) (p : Int32) (hk : k ≤ 5) (hc : c < 48) (hI : WI w) (hE : EC w0 w) {j : Nat} (hj : j ≤ 48) (n : Int32) (kk : ∀ (w4 : List sx_C) (un : Int32), WI w4 → EC w0 w4 → j + 1 ≤ 48 → sx_RP xs (d + 5) 75 29 [(0, .ref 0), (1, .int (nI k)), (2, .long l), (4, .int (nI c)), (5, .int p), (6, .ref (47 + c)), (7, .int un), (8, .int (nI (j + 1)))] [] w4 (fun r w2 => (∃ v : Int32, r = some (.int v)) ∧ WI w2 ∧ EC w0 w2)) : sx_RP xs (d + 5) 75 29 [(0, .ref 0), (1, .int (nI k)), (2, .long l), (4, .int (nI c)), (5, .int p), (6, .ref (47 + c)), (7, .int n), (8, .int (nI j))] [] w (fun r w2 => (∃ v : Int32, r = some (.int v)) ∧ WI w2 ∧ EC w0 w2) := by
  refine sx_RP.step (pc2 := 31) (ls2 := [(0, .ref 0), (1, .int (nI k)), (2, .long l), (4, .int (nI c)), (5, .int p), (6, .ref (47 + c)), (7, .int n), (8, .int (nI j))]) (st2 := [.int (nI j)]) (w3 := w) rfl rfl ?_
  refine sx_RP.step (pc2 := 33) (ls2 := [(0, .ref 0), (1, .int (nI k)), (2, .long l), (4, .int (nI c)), (5, .int p), (6, .ref (47 + c)), (7, .int n), (8, .int (nI j))]) (st2 := [.int 48, .int (nI j)]) (w3 := w) rfl rfl ?_
  refine sx_RP.br (p1 := 70) (l1 := [(0, .ref 0), (1, .int (nI k)), (2, .long l), (4, .int (nI c)), (5, .int p), (6, .ref (47 + c)), (7, .int n), (8, .int (nI j))]) (s1 := []) (v1 := w) (p2 := 36) (l2 := [(0, .ref 0), (1, .int (nI k)), (2, .long l), (4, .int (nI c)), (5, .int p), (6, .ref (47 + c)), (7, .int n), (8, .int (nI j))]) (s2 := []) (v2 := w) rfl rfl (fun q1 => ?_) (fun q1 => ?_)
  · replace q1 := of_decide_eq_true q1
    replace q1 := (nI_leI (a := 48) (b := j) (by omega) (by omega)).mp q1
    refine sx_RP.step (pc2 := 72) (ls2 := [(0, .ref 0), (1, .int (nI k)), (2, .long l), (4, .int (nI c)), (5, .int p), (6, .ref (47 + c)), (7, .int n), (8, .int (nI j))]) (st2 := [.int n]) (w3 := w) rfl rfl ?_
    refine sx_RP.ret (r := (some (.int n))) rfl rfl ?_
    exact ⟨⟨_, rfl⟩, hI, hE⟩
  · replace q1 := of_decide_eq_false q1
    replace q1 := mt (nI_leI (a := 48) (b := j) (by omega) (by omega)).mpr q1
    refine sx_RP.step (pc2 := 37) (ls2 := [(0, .ref 0), (1, .int (nI k)), (2, .long l), (4, .int (nI c)), (5, .int p), (6, .ref (47 + c)), (7, .int n), (8, .int (nI j))]) (st2 := [.long l]) (w3 := w) rfl rfl ?_
    refine sx_RP.step (pc2 := 39) (ls2 := [(0, .ref 0), (1, .int (nI k)), (2, .long l), (4, .int (nI c)), (5, .int p), (6, .ref (47 + c)), (7, .int n), (8, .int (nI j))]) (st2 := [.int (nI j), .long l]) (w3 := w) rfl rfl ?_
    refine sx_RP.step (pc2 := 40) (ls2 := [(0, .ref 0), (1, .int (nI k)), (2, .long l), (4, .int (nI c)), (5, .int p), (6, .ref (47 + c)), (7, .int n), (8, .int (nI j))]) (st2 := [.long ((l.toUInt64 >>> ((nI j).toInt64.toUInt64 &&& Int64.toUInt64 63)).toInt64)]) (w3 := w) rfl rfl ?_
    refine sx_RP.step (pc2 := 41) (ls2 := [(0, .ref 0), (1, .int (nI k)), (2, .long l), (4, .int (nI c)), (5, .int p), (6, .ref (47 + c)), (7, .int n), (8, .int (nI j))]) (st2 := [.long 1, .long ((l.toUInt64 >>> ((nI j).toInt64.toUInt64 &&& Int64.toUInt64 63)).toInt64)]) (w3 := w) rfl rfl ?_
    refine sx_RP.step (pc2 := 42) (ls2 := [(0, .ref 0), (1, .int (nI k)), (2, .long l), (4, .int (nI c)), (5, .int p), (6, .ref (47 + c)), (7, .int n), (8, .int (nI j))]) (st2 := [.long (((l.toUInt64 >>> ((nI j).toInt64.toUInt64 &&& Int64.toUInt64 63)).toInt64) &&& 1)]) (w3 := w) rfl rfl ?_
    refine sx_RP.step (pc2 := 43) (ls2 := [(0, .ref 0), (1, .int (nI k)), (2, .long l), (4, .int (nI c)), (5, .int p), (6, .ref (47 + c)), (7, .int n), (8, .int (nI j))]) (st2 := [.long 1, .long (((l.toUInt64 >>> ((nI j).toInt64.toUInt64 &&& Int64.toUInt64 63)).toInt64) &&& 1)]) (w3 := w) rfl rfl ?_
    refine sx_RP.step (pc2 := 44) (ls2 := [(0, .ref 0), (1, .int (nI k)), (2, .long l), (4, .int (nI c)), (5, .int p), (6, .ref (47 + c)), (7, .int n), (8, .int (nI j))]) (st2 := [.int (lg_cmp (((l.toUInt64 >>> ((nI j).toInt64.toUInt64 &&& Int64.toUInt64 63)).toInt64) &&& 1) 1)]) (w3 := w) rfl rfl ?_
    refine sx_RP.br (p1 := 64) (l1 := [(0, .ref 0), (1, .int (nI k)), (2, .long l), (4, .int (nI c)), (5, .int p), (6, .ref (47 + c)), (7, .int n), (8, .int (nI j))]) (s1 := []) (v1 := w) (p2 := 47) (l2 := [(0, .ref 0), (1, .int (nI k)), (2, .long l), (4, .int (nI c)), (5, .int p), (6, .ref (47 + c)), (7, .int n), (8, .int (nI j))]) (s2 := []) (v2 := w) rfl rfl (fun q2 => ?_) (fun q2 => ?_)
    · replace q2 := of_decide_eq_true q2
      refine sx_RP.step (pc2 := 67) (ls2 := [(8, .int ((nI j) + 1)), (0, .ref 0), (1, .int (nI k)), (2, .long l), (4, .int (nI c)), (5, .int p), (6, .ref (47 + c)), (7, .int n)]) (st2 := []) (w3 := w) rfl rfl ?_
      rw [nI_1 j]
      refine sx_RP.step (pc2 := 29) (ls2 := [(8, .int (nI (j + 1))), (0, .ref 0), (1, .int (nI k)), (2, .long l), (4, .int (nI c)), (5, .int p), (6, .ref (47 + c)), (7, .int n)]) (st2 := []) (w3 := w) rfl rfl ?_
      exact sx_RP.ls (sx_lr.cons rfl (sx_lr.cons rfl (sx_lr.cons rfl (sx_lr.cons rfl (sx_lr.cons rfl (sx_lr.cons rfl (sx_lr.cons rfl (sx_lr.cons rfl sx_lr.nil)))))))) (kk w n hI hE (by omega))
    · replace q2 := Decidable.not_not.mp (of_decide_eq_false q2)
      refine sx_RP.step (pc2 := 48) (ls2 := [(0, .ref 0), (1, .int (nI k)), (2, .long l), (4, .int (nI c)), (5, .int p), (6, .ref (47 + c)), (7, .int n), (8, .int (nI j))]) (st2 := [.ref 0]) (w3 := w) rfl rfl ?_
      refine sx_RP.step (pc2 := 49) (ls2 := [(0, .ref 0), (1, .int (nI k)), (2, .long l), (4, .int (nI c)), (5, .int p), (6, .ref (47 + c)), (7, .int n), (8, .int (nI j))]) (st2 := [.int (nI k), .ref 0]) (w3 := w) rfl rfl ?_
      refine sx_RP.step (pc2 := 51) (ls2 := [(0, .ref 0), (1, .int (nI k)), (2, .long l), (4, .int (nI c)), (5, .int p), (6, .ref (47 + c)), (7, .int n), (8, .int (nI j))]) (st2 := [.int (nI j), .int (nI k), .ref 0]) (w3 := w) rfl rfl ?_
      refine sx_RP.step (pc2 := 53) (ls2 := [(0, .ref 0), (1, .int (nI k)), (2, .long l), (4, .int (nI c)), (5, .int p), (6, .ref (47 + c)), (7, .int n), (8, .int (nI j))]) (st2 := [.ref (47 + c), .int (nI j), .int (nI k), .ref 0]) (w3 := w) rfl rfl ?_
      obtain ⟨v3, c4⟩ := p69 hI (show k ≤ 5 by omega) (show j < 48 by omega) (show c < 48 by omega)
      refine sx_RP.cu (as := [.ref 0, .int (nI k), .int (nI j), .ref (47 + c)]) (rest2 := []) (st3 := [.int v3]) rfl rfl (sx_inv_v2 (mi := 75) (k := 235) (st := [.ref (47 + c), .int (nI j), .int (nI k), .ref 0]) (w := w) rfl rfl hI.1.o0 rfl rfl rfl) rfl rfl (c4) rfl ?_
      refine sx_RP.step (pc2 := 58) (ls2 := [(0, .ref 0), (1, .int (nI k)), (2, .long l), (4, .int (nI c)), (5, .int p), (6, .ref (47 + c)), (7, .int n), (8, .int (nI j))]) (st2 := [.int p, .int v3]) (w3 := w) rfl rfl ?_
      refine sx_RP.br (p1 := 64) (l1 := [(0, .ref 0), (1, .int (nI k)), (2, .long l), (4, .int (nI c)), (5, .int p), (6, .ref (47 + c)), (7, .int n), (8, .int (nI j))]) (s1 := []) (v1 := w) (p2 := 61) (l2 := [(0, .ref 0), (1, .int (nI k)), (2, .long l), (4, .int (nI c)), (5, .int p), (6, .ref (47 + c)), (7, .int n), (8, .int (nI j))]) (s2 := []) (v2 := w) rfl rfl (fun q5 => ?_) (fun q5 => ?_)
      · replace q5 := of_decide_eq_true q5
        refine sx_RP.step (pc2 := 67) (ls2 := [(8, .int ((nI j) + 1)), (0, .ref 0), (1, .int (nI k)), (2, .long l), (4, .int (nI c)), (5, .int p), (6, .ref (47 + c)), (7, .int n)]) (st2 := []) (w3 := w) rfl rfl ?_
        rw [nI_1 j]
        refine sx_RP.step (pc2 := 29) (ls2 := [(8, .int (nI (j + 1))), (0, .ref 0), (1, .int (nI k)), (2, .long l), (4, .int (nI c)), (5, .int p), (6, .ref (47 + c)), (7, .int n)]) (st2 := []) (w3 := w) rfl rfl ?_
        exact sx_RP.ls (sx_lr.cons rfl (sx_lr.cons rfl (sx_lr.cons rfl (sx_lr.cons rfl (sx_lr.cons rfl (sx_lr.cons rfl (sx_lr.cons rfl (sx_lr.cons rfl sx_lr.nil)))))))) (kk w n hI hE (by omega))
      · replace q5 := Decidable.not_not.mp (of_decide_eq_false q5)
        refine sx_RP.step (pc2 := 64) (ls2 := [(7, .int (n + 1)), (0, .ref 0), (1, .int (nI k)), (2, .long l), (4, .int (nI c)), (5, .int p), (6, .ref (47 + c)), (8, .int (nI j))]) (st2 := []) (w3 := w) rfl rfl ?_
        refine sx_RP.step (pc2 := 67) (ls2 := [(8, .int ((nI j) + 1)), (7, .int (n + 1)), (0, .ref 0), (1, .int (nI k)), (2, .long l), (4, .int (nI c)), (5, .int p), (6, .ref (47 + c))]) (st2 := []) (w3 := w) rfl rfl ?_
        rw [nI_1 j]
        refine sx_RP.step (pc2 := 29) (ls2 := [(8, .int (nI (j + 1))), (7, .int (n + 1)), (0, .ref 0), (1, .int (nI k)), (2, .long l), (4, .int (nI c)), (5, .int p), (6, .ref (47 + c))]) (st2 := []) (w3 := w) rfl rfl ?_
        exact sx_RP.ls (sx_lr.cons rfl (sx_lr.cons rfl (sx_lr.cons rfl (sx_lr.cons rfl (sx_lr.cons rfl (sx_lr.cons rfl (sx_lr.cons rfl (sx_lr.cons rfl sx_lr.nil)))))))) (kk w (n + 1) hI hE (by omega))
set_option maxRecDepth 20000 in
set_option maxHeartbeats 4000000 in
theorem s75L {xs : Option (List Int32)} {d : Nat} {w0 : List sx_C} {k c : Nat} (l : Int64) (p : Int32) (hk : k ≤ 5) (hc : c < 48) : ∀ (fz j : Nat) (w : List sx_C) (n : Int32) , 48 ≤ j + fz * 1 → j ≤ 48 → WI w → EC w0 w → sx_RP xs (d + 5) 75 29 [(0, .ref 0), (1, .int (nI k)), (2, .long l), (4, .int (nI c)), (5, .int p), (6, .ref (47 + c)), (7, .int n), (8, .int (nI j))] [] w (fun r w2 => (∃ v : Int32, r = some (.int v)) ∧ WI w2 ∧ EC w0 w2)
  | 0, j, w, n, h, hj, hI, hE => s75B l p hk hc hI hE hj n  (fun w4 un hI4 hE4 hlt  => absurd hlt (by omega)) 
  | fz + 1, j, w, n, h, hj, hI, hE => s75B l p hk hc hI hE hj n  (fun w4 un hI4 hE4 hlt  => s75L l p hk hc  fz (j + 1) w4 un (by omega) hlt hI4 hE4 ) 
set_option maxRecDepth 20000 in
set_option maxHeartbeats 4000000 in
theorem s75 {xs : Option (List Int32)} {d : Nat} {w : List sx_C} (hI : WI w) {k c : Nat} (l : Int64) (hk : k ≤ 5) (hc : c < 48) : sx_RP xs (d + 5) 75 0 (lv_args 0 [.ref 0, .int (nI k), .long l, .int (nI c)]) [] w (fun r w2 => (∃ v : Int32, r = some (.int v)) ∧ WI w2 ∧ EC w w2) := by
  have hE : EC w w := EC.rf
  refine sx_RP.step (pc2 := 1) (ls2 := [(0, .ref 0), (1, .int (nI k)), (2, .long l), (4, .int (nI c))]) (st2 := [.ref 0]) (w3 := w) rfl rfl ?_
  refine sx_RP.step (pc2 := 2) (ls2 := [(0, .ref 0), (1, .int (nI k)), (2, .long l), (4, .int (nI c))]) (st2 := [.ref 0, .ref 0]) (w3 := w) rfl rfl ?_
  refine sx_RP.gf (v := .ref 1) rfl rfl hI.1.o0 rfl rfl (show _ = 5 from rfl) ?_
  refine sx_RP.step (pc2 := 7) (ls2 := [(0, .ref 0), (1, .int (nI k)), (2, .long l), (4, .int (nI c))]) (st2 := [.int (nI c), .ref 1, .ref 0]) (w3 := w) rfl rfl ?_
  refine sx_RP.callp (as2 := [.ref 0, .ref 1, .int (nI c)]) (rest2 := []) rfl rfl (sx_inv_v2 (mi := 75) (k := 231) (st := [.int (nI c), .ref 1, .ref 0]) (w := w) rfl rfl hI.1.o0 rfl rfl rfl) rfl rfl rfl (s68 hI (Or.inl rfl) (show c < 48 by omega)) (show _ = 10 from rfl) ?_
  rintro r4 w2 ⟨⟨v1, rfl⟩, hI3, hE5⟩
  have hE4 := hE.tr hE5
  show sx_RP _ _ _ _ _ [.int v1] _ _
  refine sx_RP.step (pc2 := 12) (ls2 := [(5, .int v1), (0, .ref 0), (1, .int (nI k)), (2, .long l), (4, .int (nI c))]) (st2 := []) (w3 := w2) rfl rfl ?_
  refine sx_RP.step (pc2 := 13) (ls2 := [(5, .int v1), (0, .ref 0), (1, .int (nI k)), (2, .long l), (4, .int (nI c))]) (st2 := [.ref 0]) (w3 := w2) rfl rfl ?_
  refine sx_RP.gf (v := .ref 44) rfl rfl hI3.1.o0 rfl rfl (show _ = 16 from rfl) ?_
  refine sx_RP.step (pc2 := 18) (ls2 := [(5, .int v1), (0, .ref 0), (1, .int (nI k)), (2, .long l), (4, .int (nI c))]) (st2 := [.int (nI c), .ref 44]) (w3 := w2) rfl rfl ?_
  refine sx_RP.callp (as2 := [.ref 44, .int (nI c)]) (rest2 := []) rfl rfl (sx_inv_v2 (mi := 75) (k := 99) (st := [.int (nI c), .ref 44]) (w := w2) rfl rfl hI3.1.o44 rfl rfl rfl) rfl rfl rfl (s17 hI3 (show c < 48 by omega)) (show _ = 21 from rfl) ?_
  rintro r4 w6 ⟨rfl, hI7, hE9⟩
  have hE8 := hE4.tr hE9
  show sx_RP _ _ _ _ _ [.ref (47 + c)] _ _
  refine sx_RP.step (pc2 := 23) (ls2 := [(6, .ref (47 + c)), (5, .int v1), (0, .ref 0), (1, .int (nI k)), (2, .long l), (4, .int (nI c))]) (st2 := []) (w3 := w6) rfl rfl ?_
  refine sx_RP.step (pc2 := 24) (ls2 := [(6, .ref (47 + c)), (5, .int v1), (0, .ref 0), (1, .int (nI k)), (2, .long l), (4, .int (nI c))]) (st2 := [.int 0]) (w3 := w6) rfl rfl ?_
  refine sx_RP.step (pc2 := 26) (ls2 := [(7, .int 0), (6, .ref (47 + c)), (5, .int v1), (0, .ref 0), (1, .int (nI k)), (2, .long l), (4, .int (nI c))]) (st2 := []) (w3 := w6) rfl rfl ?_
  refine sx_RP.step (pc2 := 27) (ls2 := [(7, .int 0), (6, .ref (47 + c)), (5, .int v1), (0, .ref 0), (1, .int (nI k)), (2, .long l), (4, .int (nI c))]) (st2 := [.int 0]) (w3 := w6) rfl rfl ?_
  refine sx_RP.step (pc2 := 29) (ls2 := [(8, .int 0), (7, .int 0), (6, .ref (47 + c)), (5, .int v1), (0, .ref 0), (1, .int (nI k)), (2, .long l), (4, .int (nI c))]) (st2 := []) (w3 := w6) rfl rfl ?_
  exact sx_RP.ls (sx_lr.cons rfl (sx_lr.cons rfl (sx_lr.cons rfl (sx_lr.cons rfl (sx_lr.cons rfl (sx_lr.cons rfl (sx_lr.cons rfl (sx_lr.cons rfl sx_lr.nil)))))))) (s75L l v1 hk hc 48 0 w6 _ (by omega) (by omega) hI7 hE8)
set_option maxRecDepth 20000 in
set_option maxHeartbeats 4000000 in
theorem p116 {xs : Option (List Int32)} {d : Nat} {w : List sx_C} (hI : WI w) {s : Nat} (hs : s < 4) : ∃ j, j ≤ 1 ∧ sx_RU xs d 116 0 (lv_args 0 [.ref (103 + 2 * s)]) [] w (some (.int (nI j))) w := by
  have h : sx_RP xs d 116 0 (lv_args 0 [.ref (103 + 2 * s)]) [] w (fun r w2 => (∃ j, j ≤ 1 ∧ r = some (.int (nI j))) ∧ w2 = w) := by
    refine sx_RP.step (pc2 := 1) (ls2 := [(0, .ref (103 + 2 * s))]) (st2 := [.ref (103 + 2 * s)]) (w3 := w) rfl rfl ?_
    refine sx_RP.gf (v := .int (fi w (103 + 2 * s) 1)) rfl rfl (hI.1.oS (show s < 4 by omega)) rfl rfl (show _ = 4 from rfl) ?_
    refine sx_RP.br (p1 := 11) (l1 := [(0, .ref (103 + 2 * s))]) (s1 := []) (v1 := w) (p2 := 7) (l2 := [(0, .ref (103 + 2 * s))]) (s2 := []) (v2 := w) rfl rfl (fun q1 => ?_) (fun q1 => ?_)
    · replace q1 := of_decide_eq_true q1
      refine sx_RP.step (pc2 := 12) (ls2 := [(0, .ref (103 + 2 * s))]) (st2 := [.int 0]) (w3 := w) rfl rfl ?_
      refine sx_RP.ret (r := (some (.int 0))) rfl rfl ?_
      exact ⟨⟨0, by decide, rfl⟩, rfl⟩
    · replace q1 := Decidable.not_not.mp (of_decide_eq_false q1)
      refine sx_RP.step (pc2 := 8) (ls2 := [(0, .ref (103 + 2 * s))]) (st2 := [.int 1]) (w3 := w) rfl rfl ?_
      refine sx_RP.step (pc2 := 12) (ls2 := [(0, .ref (103 + 2 * s))]) (st2 := [.int 1]) (w3 := w) rfl rfl ?_
      refine sx_RP.ret (r := (some (.int 1))) rfl rfl ?_
      exact ⟨⟨1, by decide, rfl⟩, rfl⟩
  obtain ⟨r, w2, h1, ⟨j, hj, rfl⟩, rfl⟩ := h
  exact ⟨j, hj, h1⟩
set_option maxRecDepth 20000 in
set_option maxHeartbeats 4000000 in
theorem s117 {xs : Option (List Int32)} {d : Nat} {w : List sx_C} (hI : WI w) {s i : Nat} (hs : s < 4) (hi : i < 40) (v : Int64) : sx_RP xs d 117 0 (lv_args 0 [.ref (103 + 2 * s), .int (nI i), .long v]) [] w (fun r w2 => (r = none) ∧ WI w2 ∧ EC w w2) := by
  have hE : EC w w := EC.rf
  refine sx_RP.step (pc2 := 1) (ls2 := [(0, .ref (103 + 2 * s)), (1, .int (nI i)), (2, .long v)]) (st2 := [.ref (103 + 2 * s)]) (w3 := w) rfl rfl ?_
  refine sx_RP.gf (v := .ref (104 + 2 * s)) rfl rfl (hI.1.oS (show s < 4 by omega)) rfl rfl (show _ = 4 from rfl) ?_
  refine sx_RP.step (pc2 := 5) (ls2 := [(0, .ref (103 + 2 * s)), (1, .int (nI i)), (2, .long v)]) (st2 := [.int (nI i), .ref (104 + 2 * s)]) (w3 := w) rfl rfl ?_
  refine sx_RP.step (pc2 := 6) (ls2 := [(0, .ref (103 + 2 * s)), (1, .int (nI i)), (2, .long v)]) (st2 := [.ref (103 + 2 * s), .int (nI i), .ref (104 + 2 * s)]) (w3 := w) rfl rfl ?_
  refine sx_RP.gf (v := .int (fi w (103 + 2 * s) 1)) rfl rfl (hI.1.oS (show s < 4 by omega)) rfl rfl (show _ = 9 from rfl) ?_
  refine sx_RP.step (pc2 := 11) (ls2 := [(0, .ref (103 + 2 * s)), (1, .int (nI i)), (2, .long v)]) (st2 := [.int 8, .int (fi w (103 + 2 * s) 1), .int (nI i), .ref (104 + 2 * s)]) (w3 := w) rfl rfl ?_
  refine sx_RP.br (p1 := 21) (l1 := [(0, .ref (103 + 2 * s)), (1, .int (nI i)), (2, .long v)]) (s1 := [.int (nI i), .ref (104 + 2 * s)]) (v1 := w) (p2 := 14) (l2 := [(0, .ref (103 + 2 * s)), (1, .int (nI i)), (2, .long v)]) (s2 := [.int (nI i), .ref (104 + 2 * s)]) (v2 := w) rfl rfl (fun q1 => ?_) (fun q1 => ?_)
  · replace q1 := of_decide_eq_true q1
    refine sx_RP.step (pc2 := 22) (ls2 := [(0, .ref (103 + 2 * s)), (1, .int (nI i)), (2, .long v)]) (st2 := [.ref (103 + 2 * s), .int (nI i), .ref (104 + 2 * s)]) (w3 := w) rfl rfl ?_
    refine sx_RP.gf (v := .int (fi w (103 + 2 * s) 1)) rfl rfl (hI.1.oS (show s < 4 by omega)) rfl rfl (show _ = 25 from rfl) ?_
    refine sx_RP.step (pc2 := 27) (ls2 := [(0, .ref (103 + 2 * s)), (1, .int (nI i)), (2, .long v)]) (st2 := [.int 16, .int (fi w (103 + 2 * s) 1), .int (nI i), .ref (104 + 2 * s)]) (w3 := w) rfl rfl ?_
    refine sx_RP.br (p1 := 37) (l1 := [(0, .ref (103 + 2 * s)), (1, .int (nI i)), (2, .long v)]) (s1 := [.int (nI i), .ref (104 + 2 * s)]) (v1 := w) (p2 := 30) (l2 := [(0, .ref (103 + 2 * s)), (1, .int (nI i)), (2, .long v)]) (s2 := [.int (nI i), .ref (104 + 2 * s)]) (v2 := w) rfl rfl (fun q2 => ?_) (fun q2 => ?_)
    · replace q2 := of_decide_eq_true q2
      refine sx_RP.step (pc2 := 38) (ls2 := [(0, .ref (103 + 2 * s)), (1, .int (nI i)), (2, .long v)]) (st2 := [.long v, .int (nI i), .ref (104 + 2 * s)]) (w3 := w) rfl rfl ?_
      refine sx_RP.stN hI hE rfl (hI.1.aN (show s < 4 by omega)) (sx_in_nI (show i < 40 by omega) (by decide)) (by omega) (show _ = 39 from rfl) (fun w3 hI4 hE5 => ?_)
      refine sx_RP.ret (r := none) rfl rfl ?_
      exact ⟨rfl, hI4, hE5⟩
    · replace q2 := Decidable.not_not.mp (of_decide_eq_false q2)
      refine sx_RP.step (pc2 := 31) (ls2 := [(0, .ref (103 + 2 * s)), (1, .int (nI i)), (2, .long v)]) (st2 := [.long v, .int (nI i), .ref (104 + 2 * s)]) (w3 := w) rfl rfl ?_
      refine sx_RP.step (pc2 := 32) (ls2 := [(0, .ref (103 + 2 * s)), (1, .int (nI i)), (2, .long v)]) (st2 := [.int v.toInt32, .int (nI i), .ref (104 + 2 * s)]) (w3 := w) rfl rfl ?_
      refine sx_RP.step (pc2 := 33) (ls2 := [(0, .ref (103 + 2 * s)), (1, .int (nI i)), (2, .long v)]) (st2 := [.int v.toInt32.toInt16.toInt32, .int (nI i), .ref (104 + 2 * s)]) (w3 := w) rfl rfl ?_
      refine sx_RP.step (pc2 := 34) (ls2 := [(0, .ref (103 + 2 * s)), (1, .int (nI i)), (2, .long v)]) (st2 := [.long v.toInt32.toInt16.toInt32.toInt64, .int (nI i), .ref (104 + 2 * s)]) (w3 := w) rfl rfl ?_
      refine sx_RP.step (pc2 := 38) (ls2 := [(0, .ref (103 + 2 * s)), (1, .int (nI i)), (2, .long v)]) (st2 := [.long v.toInt32.toInt16.toInt32.toInt64, .int (nI i), .ref (104 + 2 * s)]) (w3 := w) rfl rfl ?_
      refine sx_RP.stN hI hE rfl (hI.1.aN (show s < 4 by omega)) (sx_in_nI (show i < 40 by omega) (by decide)) (by omega) (show _ = 39 from rfl) (fun w6 hI7 hE8 => ?_)
      refine sx_RP.ret (r := none) rfl rfl ?_
      exact ⟨rfl, hI7, hE8⟩
  · replace q1 := Decidable.not_not.mp (of_decide_eq_false q1)
    refine sx_RP.step (pc2 := 15) (ls2 := [(0, .ref (103 + 2 * s)), (1, .int (nI i)), (2, .long v)]) (st2 := [.long v, .int (nI i), .ref (104 + 2 * s)]) (w3 := w) rfl rfl ?_
    refine sx_RP.step (pc2 := 16) (ls2 := [(0, .ref (103 + 2 * s)), (1, .int (nI i)), (2, .long v)]) (st2 := [.int v.toInt32, .int (nI i), .ref (104 + 2 * s)]) (w3 := w) rfl rfl ?_
    refine sx_RP.step (pc2 := 17) (ls2 := [(0, .ref (103 + 2 * s)), (1, .int (nI i)), (2, .long v)]) (st2 := [.int v.toInt32.toInt8.toInt32, .int (nI i), .ref (104 + 2 * s)]) (w3 := w) rfl rfl ?_
    refine sx_RP.step (pc2 := 18) (ls2 := [(0, .ref (103 + 2 * s)), (1, .int (nI i)), (2, .long v)]) (st2 := [.long v.toInt32.toInt8.toInt32.toInt64, .int (nI i), .ref (104 + 2 * s)]) (w3 := w) rfl rfl ?_
    refine sx_RP.step (pc2 := 38) (ls2 := [(0, .ref (103 + 2 * s)), (1, .int (nI i)), (2, .long v)]) (st2 := [.long v.toInt32.toInt8.toInt32.toInt64, .int (nI i), .ref (104 + 2 * s)]) (w3 := w) rfl rfl ?_
    refine sx_RP.stN hI hE rfl (hI.1.aN (show s < 4 by omega)) (sx_in_nI (show i < 40 by omega) (by decide)) (by omega) (show _ = 39 from rfl) (fun w9 hI10 hE11 => ?_)
    refine sx_RP.ret (r := none) rfl rfl ?_
    exact ⟨rfl, hI10, hE11⟩
set_option maxRecDepth 20000 in
set_option maxHeartbeats 4000000 in
theorem p113 {xs : Option (List Int32)} {d : Nat} {w : List sx_C} (hI : WI w) (x : Int32) : ∃ j, j ≤ 1 ∧ sx_RU xs d 113 0 (lv_args 0 [.int x]) [] w (some (.int (nI j))) w := by
  have h : sx_RP xs d 113 0 (lv_args 0 [.int x]) [] w (fun r w2 => (∃ j, j ≤ 1 ∧ r = some (.int (nI j))) ∧ w2 = w) := by
    refine sx_RP.step (pc2 := 1) (ls2 := [(0, .int x)]) (st2 := [.int x]) (w3 := w) rfl rfl ?_
    refine sx_RP.step (pc2 := 3) (ls2 := [(0, .int x)]) (st2 := [.int 8, .int x]) (w3 := w) rfl rfl ?_
    refine sx_RP.br (p1 := 18) (l1 := [(0, .int x)]) (s1 := []) (v1 := w) (p2 := 6) (l2 := [(0, .int x)]) (s2 := []) (v2 := w) rfl rfl (fun q1 => ?_) (fun q1 => ?_)
    · replace q1 := of_decide_eq_true q1
      refine sx_RP.step (pc2 := 19) (ls2 := [(0, .int x)]) (st2 := [.int 1]) (w3 := w) rfl rfl ?_
      refine sx_RP.step (pc2 := 23) (ls2 := [(0, .int x)]) (st2 := [.int 1]) (w3 := w) rfl rfl ?_
      refine sx_RP.ret (r := (some (.int 1))) rfl rfl ?_
      exact ⟨⟨1, by decide, rfl⟩, rfl⟩
    · replace q1 := of_decide_eq_false q1
      refine sx_RP.step (pc2 := 7) (ls2 := [(0, .int x)]) (st2 := [.int x]) (w3 := w) rfl rfl ?_
      refine sx_RP.step (pc2 := 9) (ls2 := [(0, .int x)]) (st2 := [.int 16, .int x]) (w3 := w) rfl rfl ?_
      refine sx_RP.br (p1 := 18) (l1 := [(0, .int x)]) (s1 := []) (v1 := w) (p2 := 12) (l2 := [(0, .int x)]) (s2 := []) (v2 := w) rfl rfl (fun q2 => ?_) (fun q2 => ?_)
      · replace q2 := of_decide_eq_true q2
        refine sx_RP.step (pc2 := 19) (ls2 := [(0, .int x)]) (st2 := [.int 1]) (w3 := w) rfl rfl ?_
        refine sx_RP.step (pc2 := 23) (ls2 := [(0, .int x)]) (st2 := [.int 1]) (w3 := w) rfl rfl ?_
        refine sx_RP.ret (r := (some (.int 1))) rfl rfl ?_
        exact ⟨⟨1, by decide, rfl⟩, rfl⟩
      · replace q2 := of_decide_eq_false q2
        refine sx_RP.step (pc2 := 13) (ls2 := [(0, .int x)]) (st2 := [.int x]) (w3 := w) rfl rfl ?_
        refine sx_RP.step (pc2 := 15) (ls2 := [(0, .int x)]) (st2 := [.int 64, .int x]) (w3 := w) rfl rfl ?_
        refine sx_RP.br (p1 := 22) (l1 := [(0, .int x)]) (s1 := []) (v1 := w) (p2 := 18) (l2 := [(0, .int x)]) (s2 := []) (v2 := w) rfl rfl (fun q3 => ?_) (fun q3 => ?_)
        · replace q3 := of_decide_eq_true q3
          refine sx_RP.step (pc2 := 23) (ls2 := [(0, .int x)]) (st2 := [.int 0]) (w3 := w) rfl rfl ?_
          refine sx_RP.ret (r := (some (.int 0))) rfl rfl ?_
          exact ⟨⟨0, by decide, rfl⟩, rfl⟩
        · replace q3 := Decidable.not_not.mp (of_decide_eq_false q3)
          refine sx_RP.step (pc2 := 19) (ls2 := [(0, .int x)]) (st2 := [.int 1]) (w3 := w) rfl rfl ?_
          refine sx_RP.step (pc2 := 23) (ls2 := [(0, .int x)]) (st2 := [.int 1]) (w3 := w) rfl rfl ?_
          refine sx_RP.ret (r := (some (.int 1))) rfl rfl ?_
          exact ⟨⟨1, by decide, rfl⟩, rfl⟩
  obtain ⟨r, w2, h1, ⟨j, hj, rfl⟩, rfl⟩ := h
  exact ⟨j, hj, h1⟩
set_option maxRecDepth 20000 in
set_option maxHeartbeats 4000000 in
theorem s123B {xs : Option (List Int32)} {d : Nat} {w w0 : List sx_C} {A : Nat} (hA : isA A) {s n : Nat} (hs : s < 4) (hn : n ≤ 9) (hI : WI w) (hE : EC w0 w) {j : Nat} (hj : j ≤ 9) (kk : ∀ (w4 : List sx_C), WI w4 → EC w0 w4 → j + 1 ≤ 9 → sx_RP xs (d + 5) 123 15 [(0, .ref 0), (1, .ref A), (2, .ref (103 + 2 * s)), (3, .int (nI n)), (4, .int (nI (j + 1)))] [] w4 (fun r w2 => (∃ j, j ≤ 1 ∧ r = some (.int (nI j))) ∧ WI w2 ∧ EC w0 w2)) : sx_RP xs (d + 5) 123 15 [(0, .ref 0), (1, .ref A), (2, .ref (103 + 2 * s)), (3, .int (nI n)), (4, .int (nI j))] [] w (fun r w2 => (∃ j, j ≤ 1 ∧ r = some (.int (nI j))) ∧ WI w2 ∧ EC w0 w2) := by
  refine sx_RP.step (pc2 := 17) (ls2 := [(0, .ref 0), (1, .ref A), (2, .ref (103 + 2 * s)), (3, .int (nI n)), (4, .int (nI j))]) (st2 := [.int (nI j)]) (w3 := w) rfl rfl ?_
  refine sx_RP.step (pc2 := 18) (ls2 := [(0, .ref 0), (1, .ref A), (2, .ref (103 + 2 * s)), (3, .int (nI n)), (4, .int (nI j))]) (st2 := [.int (nI n), .int (nI j)]) (w3 := w) rfl rfl ?_
  refine sx_RP.br (p1 := 53) (l1 := [(0, .ref 0), (1, .ref A), (2, .ref (103 + 2 * s)), (3, .int (nI n)), (4, .int (nI j))]) (s1 := []) (v1 := w) (p2 := 21) (l2 := [(0, .ref 0), (1, .ref A), (2, .ref (103 + 2 * s)), (3, .int (nI n)), (4, .int (nI j))]) (s2 := []) (v2 := w) rfl rfl (fun q1 => ?_) (fun q1 => ?_)
  · replace q1 := of_decide_eq_true q1
    replace q1 := (nI_leI (a := n) (b := j) (by omega) (by omega)).mp q1
    refine sx_RP.step (pc2 := 54) (ls2 := [(0, .ref 0), (1, .ref A), (2, .ref (103 + 2 * s)), (3, .int (nI n)), (4, .int (nI j))]) (st2 := [.int 1]) (w3 := w) rfl rfl ?_
    refine sx_RP.ret (r := (some (.int 1))) rfl rfl ?_
    exact ⟨⟨1, by decide, rfl⟩, hI, hE⟩
  · replace q1 := of_decide_eq_false q1
    replace q1 := mt (nI_leI (a := n) (b := j) (by omega) (by omega)).mpr q1
    refine sx_RP.step (pc2 := 22) (ls2 := [(0, .ref 0), (1, .ref A), (2, .ref (103 + 2 * s)), (3, .int (nI n)), (4, .int (nI j))]) (st2 := [.ref (103 + 2 * s)]) (w3 := w) rfl rfl ?_
    refine sx_RP.gf (v := .ref (104 + 2 * s)) rfl rfl (hI.1.oS (show s < 4 by omega)) rfl rfl (show _ = 25 from rfl) ?_
    refine sx_RP.step (pc2 := 27) (ls2 := [(0, .ref 0), (1, .ref A), (2, .ref (103 + 2 * s)), (3, .int (nI n)), (4, .int (nI j))]) (st2 := [.int (nI j), .ref (104 + 2 * s)]) (w3 := w) rfl rfl ?_
    refine sx_RP.lld (c := j) rfl (hI.1.aN (show s < 4 by omega)).1 (hI.1.aN (show s < 4 by omega)).2 (sx_in_nI (show j < 40 by omega) (by decide)) (show (nI j).toNatClampNeg = j from nI_clamp (by omega)) (show _ = 28 from rfl) ?_
    refine sx_RP.step (pc2 := 29) (ls2 := [(0, .ref 0), (1, .ref A), (2, .ref (103 + 2 * s)), (3, .int (nI n)), (4, .int (nI j))]) (st2 := [.ref 0, .long ((ja w (104 + 2 * s)).getD j 0)]) (w3 := w) rfl rfl ?_
    refine sx_RP.step (pc2 := 30) (ls2 := [(0, .ref 0), (1, .ref A), (2, .ref (103 + 2 * s)), (3, .int (nI n)), (4, .int (nI j))]) (st2 := [.ref A, .ref 0, .long ((ja w (104 + 2 * s)).getD j 0)]) (w3 := w) rfl rfl ?_
    refine sx_RP.step (pc2 := 31) (ls2 := [(0, .ref 0), (1, .ref A), (2, .ref (103 + 2 * s)), (3, .int (nI n)), (4, .int (nI j))]) (st2 := [.ref A, .ref A, .ref 0, .long ((ja w (104 + 2 * s)).getD j 0)]) (w3 := w) rfl rfl ?_
    refine sx_RP.gref (k := 4) (b := A + 3) hI hA rfl rfl (by omega) (show _ = 34 from rfl) ?_
    refine sx_RP.step (pc2 := 36) (ls2 := [(0, .ref 0), (1, .ref A), (2, .ref (103 + 2 * s)), (3, .int (nI n)), (4, .int (nI j))]) (st2 := [.int (nI j), .ref (A + 3), .ref A, .ref 0, .long ((ja w (104 + 2 * s)).getD j 0)]) (w3 := w) rfl rfl ?_
    refine sx_RP.ild (c := j) rfl (hI.1.aD hA).1 (hI.1.aD hA).2 (sx_in_nI (show j < 9 by omega) (by decide)) (show (nI j).toNatClampNeg = j from nI_clamp (by omega)) (show _ = 37 from rfl) ?_
    obtain ⟨x2, hx3, ex4⟩ : inR ((ia w (A + 3)).getD j 0) 47 := hI.di hA (show j < 9 by omega)
    rw [ex4]
    refine sx_RP.callp (as2 := [.ref 0, .ref A, .int (nI x2)]) (rest2 := [.long ((ja w (104 + 2 * s)).getD j 0)]) rfl rfl (sx_inv_v2 (mi := 123) (k := 231) (st := [.int (nI x2), .ref A, .ref 0, .long ((ja w (104 + 2 * s)).getD j 0)]) (w := w) rfl rfl hI.1.o0 rfl rfl rfl) rfl rfl rfl (s68 hI hA (show x2 < 48 by omega)) (show _ = 40 from rfl) ?_
    rintro r4 w6 ⟨⟨v5, rfl⟩, hI7, hE9⟩
    have hE8 := hE.tr hE9
    show sx_RP _ _ _ _ _ [.int v5, .long ((ja w (104 + 2 * s)).getD j 0)] _ _
    refine sx_RP.step (pc2 := 41) (ls2 := [(0, .ref 0), (1, .ref A), (2, .ref (103 + 2 * s)), (3, .int (nI n)), (4, .int (nI j))]) (st2 := [.long v5.toInt64, .long ((ja w (104 + 2 * s)).getD j 0)]) (w3 := w6) rfl rfl ?_
    refine sx_RP.step (pc2 := 42) (ls2 := [(0, .ref 0), (1, .ref A), (2, .ref (103 + 2 * s)), (3, .int (nI n)), (4, .int (nI j))]) (st2 := [.int (lg_cmp ((ja w (104 + 2 * s)).getD j 0) v5.toInt64)]) (w3 := w6) rfl rfl ?_
    refine sx_RP.br (p1 := 47) (l1 := [(0, .ref 0), (1, .ref A), (2, .ref (103 + 2 * s)), (3, .int (nI n)), (4, .int (nI j))]) (s1 := []) (v1 := w6) (p2 := 45) (l2 := [(0, .ref 0), (1, .ref A), (2, .ref (103 + 2 * s)), (3, .int (nI n)), (4, .int (nI j))]) (s2 := []) (v2 := w6) rfl rfl (fun q10 => ?_) (fun q10 => ?_)
    · replace q10 := of_decide_eq_true q10
      refine sx_RP.step (pc2 := 50) (ls2 := [(4, .int ((nI j) + 1)), (0, .ref 0), (1, .ref A), (2, .ref (103 + 2 * s)), (3, .int (nI n))]) (st2 := []) (w3 := w6) rfl rfl ?_
      rw [nI_1 j]
      refine sx_RP.step (pc2 := 15) (ls2 := [(4, .int (nI (j + 1))), (0, .ref 0), (1, .ref A), (2, .ref (103 + 2 * s)), (3, .int (nI n))]) (st2 := []) (w3 := w6) rfl rfl ?_
      exact sx_RP.ls (sx_lr.cons rfl (sx_lr.cons rfl (sx_lr.cons rfl (sx_lr.cons rfl (sx_lr.cons rfl sx_lr.nil))))) (kk w6 hI7 hE8 (by omega))
    · replace q10 := of_decide_eq_false q10
      refine sx_RP.step (pc2 := 46) (ls2 := [(0, .ref 0), (1, .ref A), (2, .ref (103 + 2 * s)), (3, .int (nI n)), (4, .int (nI j))]) (st2 := [.int 0]) (w3 := w6) rfl rfl ?_
      refine sx_RP.ret (r := (some (.int 0))) rfl rfl ?_
      exact ⟨⟨0, by decide, rfl⟩, hI7, hE8⟩
set_option maxRecDepth 20000 in
set_option maxHeartbeats 4000000 in
theorem s123L {xs : Option (List Int32)} {d : Nat} {w0 : List sx_C} {A : Nat} (hA : isA A) {s n : Nat} (hs : s < 4) (hn : n ≤ 9) : ∀ (fz j : Nat) (w : List sx_C) , 9 ≤ j + fz * 1 → j ≤ 9 → WI w → EC w0 w → sx_RP xs (d + 5) 123 15 [(0, .ref 0), (1, .ref A), (2, .ref (103 + 2 * s)), (3, .int (nI n)), (4, .int (nI j))] [] w (fun r w2 => (∃ j, j ≤ 1 ∧ r = some (.int (nI j))) ∧ WI w2 ∧ EC w0 w2)
  | 0, j, w, h, hj, hI, hE => s123B hA hs hn hI hE hj   (fun w4  hI4 hE4 hlt  => absurd hlt (by omega)) 
  | fz + 1, j, w, h, hj, hI, hE => s123B hA hs hn hI hE hj   (fun w4  hI4 hE4 hlt  => s123L hA hs hn  fz (j + 1) w4  (by omega) hlt hI4 hE4 ) 
set_option maxRecDepth 20000 in
set_option maxHeartbeats 4000000 in
theorem s123 {xs : Option (List Int32)} {d : Nat} {w : List sx_C} (hI : WI w) {A : Nat} (hA : isA A) {s : Nat} (hs : s < 4) : sx_RP xs (d + 5) 123 0 (lv_args 0 [.ref 0, .ref A, .ref (103 + 2 * s)]) [] w (fun r w2 => (∃ j, j ≤ 1 ∧ r = some (.int (nI j))) ∧ WI w2 ∧ EC w w2) := by
  have hE : EC w w := EC.rf
  refine sx_RP.step (pc2 := 1) (ls2 := [(0, .ref 0), (1, .ref A), (2, .ref (103 + 2 * s))]) (st2 := [.ref (103 + 2 * s)]) (w3 := w) rfl rfl ?_
  refine sx_RP.gf (v := .int (fi w (103 + 2 * s) 2)) rfl rfl (hI.1.oS (show s < 4 by omega)) rfl rfl (show _ = 4 from rfl) ?_
  obtain ⟨x1, hx2, ex3⟩ : inR (fi w (103 + 2 * s) 2) 40 := hI.sh (show s < 4 by omega)
  rw [ex3]
  refine sx_RP.step (pc2 := 5) (ls2 := [(0, .ref 0), (1, .ref A), (2, .ref (103 + 2 * s))]) (st2 := [.ref A, .int (nI x1)]) (w3 := w) rfl rfl ?_
  refine sx_RP.gc (k := 5) hI hA rfl rfl (by omega) (show _ = 8 from rfl) ?_
  obtain ⟨x4, hx5, ex6⟩ : inR (fi w A 5) 9 := (hI.c hA).2
  rw [ex6]
  obtain ⟨x7, hx8, c9⟩ := p97 (a := x1) (b := x4) hI (by omega) (by omega)
  refine sx_RP.cu (as := [.int (nI x1), .int (nI x4)]) (rest2 := []) (st3 := [.int (nI x7)]) rfl rfl rfl rfl rfl (c9) rfl ?_
  refine sx_RP.step (pc2 := 12) (ls2 := [(3, .int (nI x7)), (0, .ref 0), (1, .ref A), (2, .ref (103 + 2 * s))]) (st2 := []) (w3 := w) rfl rfl ?_
  refine sx_RP.step (pc2 := 13) (ls2 := [(3, .int (nI x7)), (0, .ref 0), (1, .ref A), (2, .ref (103 + 2 * s))]) (st2 := [.int 0]) (w3 := w) rfl rfl ?_
  refine sx_RP.step (pc2 := 15) (ls2 := [(4, .int 0), (3, .int (nI x7)), (0, .ref 0), (1, .ref A), (2, .ref (103 + 2 * s))]) (st2 := []) (w3 := w) rfl rfl ?_
  exact sx_RP.ls (sx_lr.cons rfl (sx_lr.cons rfl (sx_lr.cons rfl (sx_lr.cons rfl (sx_lr.cons rfl sx_lr.nil))))) (s123L hA hs (show x7 ≤ 9 by omega) 9 0 w (by omega) (by omega) hI hE)
