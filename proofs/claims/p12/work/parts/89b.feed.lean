theorem byte_hi : ∀ i : Fin 32, 8 ≤ i.val → (BitVec.ofNat 32 255).getLsbD i.val = false := by decide
theorem byte_eq {x : Int32} : (vp_nar .byte (x.toInt8.toInt32)) &&& 255 = x &&& 255 := by
  show (x.toInt8.toInt32.toInt8.toInt32) &&& 255 = x &&& 255
  apply Int32.toBitVec_inj.mp
  simp only [Int32.toBitVec_and, Int8.toBitVec_toInt32, Int32.toBitVec_toInt8]
  apply BitVec.eq_of_getLsbD_eq
  intro i hi
  rw [BitVec.getLsbD_and, BitVec.getLsbD_and]
  rcases (show i < 8 ∨ 8 ≤ i by omega) with h | h
  · congr 1
    rw [BitVec.getLsbD_signExtend, if_pos h, BitVec.getLsbD_signExtend, if_pos hi, BitVec.getLsbD_signExtend, if_pos h, BitVec.getLsbD_signExtend, if_pos hi]
    simp [h, hi]
  · have e := byte_hi ⟨i, hi⟩ h
    rw [show (Int32.toBitVec 255) = BitVec.ofNat 32 255 from rfl, e, Bool.and_false, Bool.and_false]
theorem tapC_add {w w2 : List sx_C} {n : Nat} {x : Int32} (hI : WI w) (en : fi w 96 1 = nI n) (hn : n < 120) (h1 : fi w2 96 1 = nI (n + 1)) (h2 : ia w2 97 = (ia w 97).set n x) : tapC w2 = tapC w ++ [x &&& 255] := by
  have hl := hI.1.a97.2
  unfold tapC
  rw [h1, en, iN_n (by omega), iN_n (by omega)]
  exact map_add (fun i hi => by rw [h2, gd_ne (by omega)]) (by rw [h2, gd_eq (by omega)])
theorem tapM_add {w w2 : List sx_C} {n : Nat} {x : Int32} (hI : WI w) (en : fi w 111 11 = nI n) (hn : n < 120) (h1 : fi w2 111 11 = nI (n + 1)) (h2 : ia w2 121 = (ia w 121).set n x) : tapM w2 = tapM w ++ [x] := by
  have hl := hI.1.a121.2
  unfold tapM
  rw [h1, en, iN_n (by omega), iN_n (by omega)]
  exact map_add (fun i hi => by rw [h2, gd_ne (by omega)]) (by rw [h2, gd_eq (by omega)])
section SXFE
variable {t : BT} {a1 a2 : Int32}
theorem fee_1 (q : ¬ (1 ≤ a2 ∧ a2 ≤ 4)) : feeA t a2 = -1000000001 ∧ feeU t a1 a2 = t := ⟨(feed_n q).1, if_neg q⟩
theorem fee_2 {n x : Nat} (hl : t.2.2.2.length = n) (h1 : 1 ≤ x) (h4 : x ≤ 4) (h : ¬ n + x ≤ 120) : feeA t (nI x) = -1000000002 ∧ feeU t a1 (nI x) = t := by
  refine ⟨by unfold feeA; rw [hl]; exact (feed_f h1 h4 h).1, ?_⟩
  unfold feeU
  rw [if_pos (feed_in h1 h4), iN_n (by omega), hl, if_neg h]
theorem fee_3 {n x : Nat} (hl : t.2.2.2.length = n) (h1 : 1 ≤ x) (h4 : x ≤ 4) (h : n + x ≤ 120) : feeA t (nI x) = nI (n + x) ∧ feeU t a1 (nI x) = (t.1, t.2.1, t.2.2.1, t.2.2.2 ++ bytesOf a1 x) := by
  refine ⟨by unfold feeA; rw [hl]; exact (feed_y h1 h4 h).1, ?_⟩
  unfold feeU
  rw [if_pos (feed_in h1 h4), iN_n (by omega), hl, if_pos h]
end SXFE
theorem bytesOf_s {a : Int32} {n : Nat} : bytesOf a (n + 1) = byteOf a n :: bytesOf a n := by
  unfold bytesOf
  rw [List.range_succ_eq_map, List.map_cons, List.map_map]
  congr 1
  exact List.map_congr_left (fun j hj => by show byteOf a (n + 1 - 1 - (j + 1)) = byteOf a (n - 1 - j); congr 1; omega)
/-- all but the text and its tape -/
def Off (w w2 : List sx_C) : Prop := ∀ a, a ≠ 96 → a ≠ 97 → w2[a]? = w[a]?
set_option maxRecDepth 20000 in
set_option maxHeartbeats 4000000 in
theorem X89 {xs : Option (List Int32)} {d : Nat} {w : List sx_C} (hI : WI w) {n : Nat} (hn : fi w 96 1 = nI n) (hn1 : n < 120) (b : Int32) : sx_RP xs d 89 0 (lv_args 0 [.ref 96, .int b]) [] w (fun r w2 => (r = none ∧ tapC w2 = tapC w ++ [vp_nar .byte b &&& 255] ∧ fi w2 96 1 = nI (n + 1)) ∧ WI w2 ∧ Off w w2) := by
  refine sx_RP.step (pc2 := 1) (ls2 := [(0, .ref 96), (1, .int b)]) (st2 := [.ref 96]) (w3 := w) rfl rfl ?_
  refine sx_RP.gt (k := 1) hI rfl rfl (by decide) (show _ = 4 from rfl) ?_
  rw [hn]
  refine sx_RP.step (pc2 := 6) (ls2 := [(0, .ref 96), (1, .int b)]) (st2 := [.int 120, .int (nI n)]) (w3 := w) rfl rfl ?_
  refine sx_RP.br (p1 := 29) (l1 := [(0, .ref 96), (1, .int b)]) (s1 := []) (v1 := w) (p2 := 9) (l2 := [(0, .ref 96), (1, .int b)]) (s2 := []) (v2 := w) rfl rfl (fun q1 => ?_) (fun q1 => ?_)
  · replace q1 := of_decide_eq_true q1
    replace q1 := (nI_leI (a := 120) (b := n) (by omega) (by omega)).mp q1
    refine sx_RP.ret (r := none) rfl rfl ?_
    exact absurd hn1 (by omega)
  · replace q1 := of_decide_eq_false q1
    replace q1 := mt (nI_leI (a := 120) (b := n) (by omega) (by omega)).mpr q1
    refine sx_RP.step (pc2 := 10) (ls2 := [(0, .ref 96), (1, .int b)]) (st2 := [.ref 96]) (w3 := w) rfl rfl ?_
    refine sx_RP.gf (v := .ref 97) rfl rfl hI.1.o96 rfl rfl (show _ = 13 from rfl) ?_
    refine sx_RP.step (pc2 := 14) (ls2 := [(0, .ref 96), (1, .int b)]) (st2 := [.ref 96, .ref 97]) (w3 := w) rfl rfl ?_
    refine sx_RP.gt (k := 1) hI rfl rfl (by decide) (show _ = 17 from rfl) ?_
    rw [hn]
    refine sx_RP.step (pc2 := 18) (ls2 := [(0, .ref 96), (1, .int b)]) (st2 := [.int b, .int (nI n), .ref 97]) (w3 := w) rfl rfl ?_
    refine sx_RP.xT (c := n) hI rfl (by omega) (show _ = 19 from rfl) (fun w2 hI3 hs4 hv5 => ?_)
    have ex6 := (fi_same 1 (hs4 96 (by omega))).trans hn
    refine sx_RP.step (pc2 := 20) (ls2 := [(0, .ref 96), (1, .int b)]) (st2 := [.ref 96]) (w3 := w2) rfl rfl ?_
    refine sx_RP.step (pc2 := 21) (ls2 := [(0, .ref 96), (1, .int b)]) (st2 := [.ref 96, .ref 96]) (w3 := w2) rfl rfl ?_
    refine sx_RP.gt (k := 1) hI3 rfl rfl (by decide) (show _ = 24 from rfl) ?_
    rw [ex6]
    refine sx_RP.step (pc2 := 25) (ls2 := [(0, .ref 96), (1, .int b)]) (st2 := [.int 1, .int (nI n), .ref 96]) (w3 := w2) rfl rfl ?_
    refine sx_RP.step (pc2 := 26) (ls2 := [(0, .ref 96), (1, .int b)]) (st2 := [.int ((nI n) + 1), .ref 96]) (w3 := w2) rfl rfl ?_
    rw [show ((nI n) + 1 : Int32) = nI (n + 1) from nI_add n 1]
    refine sx_RP.xN hI3 rfl rfl rfl ⟨(n + 1), by omega, rfl⟩ (show _ = 29 from rfl) (fun w7 hI8 hs9 hv10 => ?_)
    refine sx_RP.ret (r := none) rfl rfl ?_
    exact ⟨⟨rfl, tapC_add hI hn hn1 hv10 ((ia_of (hs9 97 (by decide))).trans hv5), hv10⟩, hI8, fun a h1 h2 => (hs9 a h1).trans (hs4 a h2)⟩
set_option maxRecDepth 20000 in
set_option maxHeartbeats 4000000 in
theorem X87_m1 {xs : Option (List Int32)} {d n m : Nat} {a1 : Int32} {w : List sx_C} (hI : WI w) (h120 : m + 0 ≤ 120) (hm : fi w 96 1 = nI m) : sx_RP xs (d + 7) 87 38 [(0, .ref 0), (1, .int a1), (2, .int (nI n)), (3, .int (-1))] [] w (fun r w2 => (r = some (.int (nI (m + 0))) ∧ tapC w2 = tapC w ++ bytesOf a1 0) ∧ WI w2 ∧ Off w w2) := by
  refine sx_RP.step (pc2 := 39) (ls2 := [(0, .ref 0), (1, .int a1), (2, .int (nI n)), (3, .int (-1))]) (st2 := [.int (-1)]) (w3 := w) rfl rfl ?_
  refine sx_RP.step (pc2 := 62) (ls2 := [(0, .ref 0), (1, .int a1), (2, .int (nI n)), (3, .int (-1))]) (st2 := []) (w3 := w) rfl rfl ?_
  refine sx_RP.step (pc2 := 63) (ls2 := [(0, .ref 0), (1, .int a1), (2, .int (nI n)), (3, .int (-1))]) (st2 := [.ref 0]) (w3 := w) rfl rfl ?_
  refine sx_RP.gf (v := .ref 96) rfl rfl hI.1.o0 rfl rfl (show _ = 66 from rfl) ?_
  refine sx_RP.gt (k := 1) hI rfl rfl (by decide) (show _ = 69 from rfl) ?_
  rw [hm]
  refine sx_RP.ret (r := (some (.int (nI m)))) rfl rfl ?_
  exact ⟨⟨by rw [Nat.add_zero], by rw [show bytesOf a1 0 = [] from rfl, List.append_nil]⟩, hI, fun _ _ _ => rfl⟩
set_option maxRecDepth 20000 in
set_option maxHeartbeats 4000000 in
theorem X87_0 {xs : Option (List Int32)} {d n m : Nat} {a1 : Int32} {w : List sx_C} (hI : WI w) (h120 : m + 1 ≤ 120) (hm : fi w 96 1 = nI m) : sx_RP xs (d + 7) 87 38 [(0, .ref 0), (1, .int a1), (2, .int (nI n)), (3, .int 0)] [] w (fun r w2 => (r = some (.int (nI (m + 1))) ∧ tapC w2 = tapC w ++ bytesOf a1 1) ∧ WI w2 ∧ Off w w2) := by
  refine sx_RP.step (pc2 := 39) (ls2 := [(0, .ref 0), (1, .int a1), (2, .int (nI n)), (3, .int 0)]) (st2 := [.int 0]) (w3 := w) rfl rfl ?_
  refine sx_RP.step (pc2 := 42) (ls2 := [(0, .ref 0), (1, .int a1), (2, .int (nI n)), (3, .int 0)]) (st2 := []) (w3 := w) rfl rfl ?_
  refine sx_RP.step (pc2 := 43) (ls2 := [(0, .ref 0), (1, .int a1), (2, .int (nI n)), (3, .int 0)]) (st2 := [.ref 0]) (w3 := w) rfl rfl ?_
  refine sx_RP.gf (v := .ref 96) rfl rfl hI.1.o0 rfl rfl (show _ = 46 from rfl) ?_
  refine sx_RP.step (pc2 := 47) (ls2 := [(0, .ref 0), (1, .int a1), (2, .int (nI n)), (3, .int 0)]) (st2 := [.int a1, .ref 96]) (w3 := w) rfl rfl ?_
  refine sx_RP.step (pc2 := 49) (ls2 := [(0, .ref 0), (1, .int a1), (2, .int (nI n)), (3, .int 0)]) (st2 := [.int 8, .int a1, .ref 96]) (w3 := w) rfl rfl ?_
  refine sx_RP.step (pc2 := 50) (ls2 := [(0, .ref 0), (1, .int a1), (2, .int (nI n)), (3, .int 0)]) (st2 := [.int 0, .int 8, .int a1, .ref 96]) (w3 := w) rfl rfl ?_
  refine sx_RP.step (pc2 := 51) (ls2 := [(0, .ref 0), (1, .int a1), (2, .int (nI n)), (3, .int 0)]) (st2 := [.int 0, .int a1, .ref 96]) (w3 := w) rfl rfl ?_
  refine sx_RP.step (pc2 := 52) (ls2 := [(0, .ref 0), (1, .int a1), (2, .int (nI n)), (3, .int 0)]) (st2 := [.int (a1 >>> (0 &&& 31)), .ref 96]) (w3 := w) rfl rfl ?_
  refine sx_RP.step (pc2 := 53) (ls2 := [(0, .ref 0), (1, .int a1), (2, .int (nI n)), (3, .int 0)]) (st2 := [.int ((a1 >>> (0 &&& 31)).toInt8.toInt32), .ref 96]) (w3 := w) rfl rfl ?_
  refine sx_RP.callp (as2 := [.ref 96, .int ((a1 >>> (0 &&& 31)).toInt8.toInt32)]) (rest2 := []) rfl rfl (sx_inv_v2 (mi := 87) (k := 282) (st := [.int ((a1 >>> (0 &&& 31)).toInt8.toInt32), .ref 96]) (w := w) rfl rfl hI.1.o96 rfl rfl rfl) rfl rfl rfl (X89 hI hm (by omega) ((a1 >>> (0 &&& 31)).toInt8.toInt32)) (show _ = 56 from rfl) ?_
  rintro r4 w4 ⟨⟨rfl, ht1, hv2⟩, hI5, ho3⟩
  show sx_RP _ _ _ _ _ [] _ _
  refine sx_RP.step (pc2 := 59) (ls2 := [(3, .int (-1)), (0, .ref 0), (1, .int a1), (2, .int (nI n))]) (st2 := []) (w3 := w4) rfl rfl ?_
  refine sx_RP.step (pc2 := 38) (ls2 := [(3, .int (-1)), (0, .ref 0), (1, .int a1), (2, .int (nI n))]) (st2 := []) (w3 := w4) rfl rfl ?_
  refine sx_RP.ls (sx_lr.cons rfl (sx_lr.cons rfl (sx_lr.cons rfl (sx_lr.cons rfl sx_lr.nil)))) ((X87_m1 (m := m + 1) (n := n) (a1 := a1) hI5 (by omega) hv2).mono (fun r w2 q => ⟨⟨q.1.1.trans (by congr 3 <;> omega), ?_⟩, q.2.1, fun a h1 h2 => (q.2.2 a h1 h2).trans (ho3 a h1 h2)⟩))
  rw [q.1.2, ht1, byte_eq, List.append_assoc, bytesOf_s]
  rfl
set_option maxRecDepth 20000 in
set_option maxHeartbeats 4000000 in
theorem X87_1 {xs : Option (List Int32)} {d n m : Nat} {a1 : Int32} {w : List sx_C} (hI : WI w) (h120 : m + 2 ≤ 120) (hm : fi w 96 1 = nI m) : sx_RP xs (d + 7) 87 38 [(0, .ref 0), (1, .int a1), (2, .int (nI n)), (3, .int 1)] [] w (fun r w2 => (r = some (.int (nI (m + 2))) ∧ tapC w2 = tapC w ++ bytesOf a1 2) ∧ WI w2 ∧ Off w w2) := by
  refine sx_RP.step (pc2 := 39) (ls2 := [(0, .ref 0), (1, .int a1), (2, .int (nI n)), (3, .int 1)]) (st2 := [.int 1]) (w3 := w) rfl rfl ?_
  refine sx_RP.step (pc2 := 42) (ls2 := [(0, .ref 0), (1, .int a1), (2, .int (nI n)), (3, .int 1)]) (st2 := []) (w3 := w) rfl rfl ?_
  refine sx_RP.step (pc2 := 43) (ls2 := [(0, .ref 0), (1, .int a1), (2, .int (nI n)), (3, .int 1)]) (st2 := [.ref 0]) (w3 := w) rfl rfl ?_
  refine sx_RP.gf (v := .ref 96) rfl rfl hI.1.o0 rfl rfl (show _ = 46 from rfl) ?_
  refine sx_RP.step (pc2 := 47) (ls2 := [(0, .ref 0), (1, .int a1), (2, .int (nI n)), (3, .int 1)]) (st2 := [.int a1, .ref 96]) (w3 := w) rfl rfl ?_
  refine sx_RP.step (pc2 := 49) (ls2 := [(0, .ref 0), (1, .int a1), (2, .int (nI n)), (3, .int 1)]) (st2 := [.int 8, .int a1, .ref 96]) (w3 := w) rfl rfl ?_
  refine sx_RP.step (pc2 := 50) (ls2 := [(0, .ref 0), (1, .int a1), (2, .int (nI n)), (3, .int 1)]) (st2 := [.int 1, .int 8, .int a1, .ref 96]) (w3 := w) rfl rfl ?_
  refine sx_RP.step (pc2 := 51) (ls2 := [(0, .ref 0), (1, .int a1), (2, .int (nI n)), (3, .int 1)]) (st2 := [.int 8, .int a1, .ref 96]) (w3 := w) rfl rfl ?_
  refine sx_RP.step (pc2 := 52) (ls2 := [(0, .ref 0), (1, .int a1), (2, .int (nI n)), (3, .int 1)]) (st2 := [.int (a1 >>> (8 &&& 31)), .ref 96]) (w3 := w) rfl rfl ?_
  refine sx_RP.step (pc2 := 53) (ls2 := [(0, .ref 0), (1, .int a1), (2, .int (nI n)), (3, .int 1)]) (st2 := [.int ((a1 >>> (8 &&& 31)).toInt8.toInt32), .ref 96]) (w3 := w) rfl rfl ?_
  refine sx_RP.callp (as2 := [.ref 96, .int ((a1 >>> (8 &&& 31)).toInt8.toInt32)]) (rest2 := []) rfl rfl (sx_inv_v2 (mi := 87) (k := 282) (st := [.int ((a1 >>> (8 &&& 31)).toInt8.toInt32), .ref 96]) (w := w) rfl rfl hI.1.o96 rfl rfl rfl) rfl rfl rfl (X89 hI hm (by omega) ((a1 >>> (8 &&& 31)).toInt8.toInt32)) (show _ = 56 from rfl) ?_
  rintro r4 w4 ⟨⟨rfl, ht1, hv2⟩, hI5, ho3⟩
  show sx_RP _ _ _ _ _ [] _ _
  refine sx_RP.step (pc2 := 59) (ls2 := [(3, .int 0), (0, .ref 0), (1, .int a1), (2, .int (nI n))]) (st2 := []) (w3 := w4) rfl rfl ?_
  refine sx_RP.step (pc2 := 38) (ls2 := [(3, .int 0), (0, .ref 0), (1, .int a1), (2, .int (nI n))]) (st2 := []) (w3 := w4) rfl rfl ?_
  refine sx_RP.ls (sx_lr.cons rfl (sx_lr.cons rfl (sx_lr.cons rfl (sx_lr.cons rfl sx_lr.nil)))) ((X87_0 (m := m + 1) (n := n) (a1 := a1) hI5 (by omega) hv2).mono (fun r w2 q => ⟨⟨q.1.1.trans (by congr 3 <;> omega), ?_⟩, q.2.1, fun a h1 h2 => (q.2.2 a h1 h2).trans (ho3 a h1 h2)⟩))
  rw [q.1.2, ht1, byte_eq, List.append_assoc, bytesOf_s]
  rfl
set_option maxRecDepth 20000 in
set_option maxHeartbeats 4000000 in
theorem X87_2 {xs : Option (List Int32)} {d n m : Nat} {a1 : Int32} {w : List sx_C} (hI : WI w) (h120 : m + 3 ≤ 120) (hm : fi w 96 1 = nI m) : sx_RP xs (d + 7) 87 38 [(0, .ref 0), (1, .int a1), (2, .int (nI n)), (3, .int 2)] [] w (fun r w2 => (r = some (.int (nI (m + 3))) ∧ tapC w2 = tapC w ++ bytesOf a1 3) ∧ WI w2 ∧ Off w w2) := by
  refine sx_RP.step (pc2 := 39) (ls2 := [(0, .ref 0), (1, .int a1), (2, .int (nI n)), (3, .int 2)]) (st2 := [.int 2]) (w3 := w) rfl rfl ?_
  refine sx_RP.step (pc2 := 42) (ls2 := [(0, .ref 0), (1, .int a1), (2, .int (nI n)), (3, .int 2)]) (st2 := []) (w3 := w) rfl rfl ?_
  refine sx_RP.step (pc2 := 43) (ls2 := [(0, .ref 0), (1, .int a1), (2, .int (nI n)), (3, .int 2)]) (st2 := [.ref 0]) (w3 := w) rfl rfl ?_
  refine sx_RP.gf (v := .ref 96) rfl rfl hI.1.o0 rfl rfl (show _ = 46 from rfl) ?_
  refine sx_RP.step (pc2 := 47) (ls2 := [(0, .ref 0), (1, .int a1), (2, .int (nI n)), (3, .int 2)]) (st2 := [.int a1, .ref 96]) (w3 := w) rfl rfl ?_
  refine sx_RP.step (pc2 := 49) (ls2 := [(0, .ref 0), (1, .int a1), (2, .int (nI n)), (3, .int 2)]) (st2 := [.int 8, .int a1, .ref 96]) (w3 := w) rfl rfl ?_
  refine sx_RP.step (pc2 := 50) (ls2 := [(0, .ref 0), (1, .int a1), (2, .int (nI n)), (3, .int 2)]) (st2 := [.int 2, .int 8, .int a1, .ref 96]) (w3 := w) rfl rfl ?_
  refine sx_RP.step (pc2 := 51) (ls2 := [(0, .ref 0), (1, .int a1), (2, .int (nI n)), (3, .int 2)]) (st2 := [.int 16, .int a1, .ref 96]) (w3 := w) rfl rfl ?_
  refine sx_RP.step (pc2 := 52) (ls2 := [(0, .ref 0), (1, .int a1), (2, .int (nI n)), (3, .int 2)]) (st2 := [.int (a1 >>> (16 &&& 31)), .ref 96]) (w3 := w) rfl rfl ?_
  refine sx_RP.step (pc2 := 53) (ls2 := [(0, .ref 0), (1, .int a1), (2, .int (nI n)), (3, .int 2)]) (st2 := [.int ((a1 >>> (16 &&& 31)).toInt8.toInt32), .ref 96]) (w3 := w) rfl rfl ?_
  refine sx_RP.callp (as2 := [.ref 96, .int ((a1 >>> (16 &&& 31)).toInt8.toInt32)]) (rest2 := []) rfl rfl (sx_inv_v2 (mi := 87) (k := 282) (st := [.int ((a1 >>> (16 &&& 31)).toInt8.toInt32), .ref 96]) (w := w) rfl rfl hI.1.o96 rfl rfl rfl) rfl rfl rfl (X89 hI hm (by omega) ((a1 >>> (16 &&& 31)).toInt8.toInt32)) (show _ = 56 from rfl) ?_
  rintro r4 w4 ⟨⟨rfl, ht1, hv2⟩, hI5, ho3⟩
  show sx_RP _ _ _ _ _ [] _ _
  refine sx_RP.step (pc2 := 59) (ls2 := [(3, .int 1), (0, .ref 0), (1, .int a1), (2, .int (nI n))]) (st2 := []) (w3 := w4) rfl rfl ?_
  refine sx_RP.step (pc2 := 38) (ls2 := [(3, .int 1), (0, .ref 0), (1, .int a1), (2, .int (nI n))]) (st2 := []) (w3 := w4) rfl rfl ?_
  refine sx_RP.ls (sx_lr.cons rfl (sx_lr.cons rfl (sx_lr.cons rfl (sx_lr.cons rfl sx_lr.nil)))) ((X87_1 (m := m + 1) (n := n) (a1 := a1) hI5 (by omega) hv2).mono (fun r w2 q => ⟨⟨q.1.1.trans (by congr 3 <;> omega), ?_⟩, q.2.1, fun a h1 h2 => (q.2.2 a h1 h2).trans (ho3 a h1 h2)⟩))
  rw [q.1.2, ht1, byte_eq, List.append_assoc, bytesOf_s]
  rfl
set_option maxRecDepth 20000 in
set_option maxHeartbeats 4000000 in
theorem X87_3 {xs : Option (List Int32)} {d n m : Nat} {a1 : Int32} {w : List sx_C} (hI : WI w) (h120 : m + 4 ≤ 120) (hm : fi w 96 1 = nI m) : sx_RP xs (d + 7) 87 38 [(0, .ref 0), (1, .int a1), (2, .int (nI n)), (3, .int 3)] [] w (fun r w2 => (r = some (.int (nI (m + 4))) ∧ tapC w2 = tapC w ++ bytesOf a1 4) ∧ WI w2 ∧ Off w w2) := by
  refine sx_RP.step (pc2 := 39) (ls2 := [(0, .ref 0), (1, .int a1), (2, .int (nI n)), (3, .int 3)]) (st2 := [.int 3]) (w3 := w) rfl rfl ?_
  refine sx_RP.step (pc2 := 42) (ls2 := [(0, .ref 0), (1, .int a1), (2, .int (nI n)), (3, .int 3)]) (st2 := []) (w3 := w) rfl rfl ?_
  refine sx_RP.step (pc2 := 43) (ls2 := [(0, .ref 0), (1, .int a1), (2, .int (nI n)), (3, .int 3)]) (st2 := [.ref 0]) (w3 := w) rfl rfl ?_
  refine sx_RP.gf (v := .ref 96) rfl rfl hI.1.o0 rfl rfl (show _ = 46 from rfl) ?_
  refine sx_RP.step (pc2 := 47) (ls2 := [(0, .ref 0), (1, .int a1), (2, .int (nI n)), (3, .int 3)]) (st2 := [.int a1, .ref 96]) (w3 := w) rfl rfl ?_
  refine sx_RP.step (pc2 := 49) (ls2 := [(0, .ref 0), (1, .int a1), (2, .int (nI n)), (3, .int 3)]) (st2 := [.int 8, .int a1, .ref 96]) (w3 := w) rfl rfl ?_
  refine sx_RP.step (pc2 := 50) (ls2 := [(0, .ref 0), (1, .int a1), (2, .int (nI n)), (3, .int 3)]) (st2 := [.int 3, .int 8, .int a1, .ref 96]) (w3 := w) rfl rfl ?_
  refine sx_RP.step (pc2 := 51) (ls2 := [(0, .ref 0), (1, .int a1), (2, .int (nI n)), (3, .int 3)]) (st2 := [.int 24, .int a1, .ref 96]) (w3 := w) rfl rfl ?_
  refine sx_RP.step (pc2 := 52) (ls2 := [(0, .ref 0), (1, .int a1), (2, .int (nI n)), (3, .int 3)]) (st2 := [.int (a1 >>> (24 &&& 31)), .ref 96]) (w3 := w) rfl rfl ?_
  refine sx_RP.step (pc2 := 53) (ls2 := [(0, .ref 0), (1, .int a1), (2, .int (nI n)), (3, .int 3)]) (st2 := [.int ((a1 >>> (24 &&& 31)).toInt8.toInt32), .ref 96]) (w3 := w) rfl rfl ?_
  refine sx_RP.callp (as2 := [.ref 96, .int ((a1 >>> (24 &&& 31)).toInt8.toInt32)]) (rest2 := []) rfl rfl (sx_inv_v2 (mi := 87) (k := 282) (st := [.int ((a1 >>> (24 &&& 31)).toInt8.toInt32), .ref 96]) (w := w) rfl rfl hI.1.o96 rfl rfl rfl) rfl rfl rfl (X89 hI hm (by omega) ((a1 >>> (24 &&& 31)).toInt8.toInt32)) (show _ = 56 from rfl) ?_
  rintro r4 w4 ⟨⟨rfl, ht1, hv2⟩, hI5, ho3⟩
  show sx_RP _ _ _ _ _ [] _ _
  refine sx_RP.step (pc2 := 59) (ls2 := [(3, .int 2), (0, .ref 0), (1, .int a1), (2, .int (nI n))]) (st2 := []) (w3 := w4) rfl rfl ?_
  refine sx_RP.step (pc2 := 38) (ls2 := [(3, .int 2), (0, .ref 0), (1, .int a1), (2, .int (nI n))]) (st2 := []) (w3 := w4) rfl rfl ?_
  refine sx_RP.ls (sx_lr.cons rfl (sx_lr.cons rfl (sx_lr.cons rfl (sx_lr.cons rfl sx_lr.nil)))) ((X87_2 (m := m + 1) (n := n) (a1 := a1) hI5 (by omega) hv2).mono (fun r w2 q => ⟨⟨q.1.1.trans (by congr 3 <;> omega), ?_⟩, q.2.1, fun a h1 h2 => (q.2.2 a h1 h2).trans (ho3 a h1 h2)⟩))
  rw [q.1.2, ht1, byte_eq, List.append_assoc, bytesOf_s]
  rfl
set_option maxRecDepth 20000 in
set_option maxHeartbeats 4000000 in
theorem B87 {xs : Option (List Int32)} {d : Nat} {w : List sx_C} (hI : WI w) (a1 a2 : Int32) : sx_RP xs (d + 7) 87 0 (lv_args 0 [.ref 0, .int a1, .int a2]) [] w (fun r w2 => (r = some (.int (feeA (FCb w) a2)) ∧ FCb w2 = feeU (FCb w) a1 a2) ∧ WI w2 ∧ ∀ a, 111 ≤ a → w2[a]? = w[a]?) := by
  obtain ⟨n, h120, hn⟩ := hI.t.1
  refine sx_RP.step (pc2 := 1) (ls2 := [(0, .ref 0), (1, .int a1), (2, .int a2)]) (st2 := [.int a2]) (w3 := w) rfl rfl ?_
  refine sx_RP.step (pc2 := 2) (ls2 := [(0, .ref 0), (1, .int a1), (2, .int a2)]) (st2 := [.int 1, .int a2]) (w3 := w) rfl rfl ?_
  refine sx_RP.step (pc2 := 3) (ls2 := [(0, .ref 0), (1, .int a1), (2, .int a2)]) (st2 := [.int 4, .int 1, .int a2]) (w3 := w) rfl rfl ?_
  rcases in_cases a2 1 4 (m := 1) (n := 4) rfl rfl (by decide) (by decide) with q1 | ⟨x2, hx3, hx4, rfl⟩
  · refine sx_RP.cu (as := [.int a2, .int 1, .int 4]) (rest2 := []) (st3 := [.int 0]) rfl rfl rfl rfl rfl (cx_8n q1) rfl ?_
    refine sx_RP.step (pc2 := 9) (ls2 := [(0, .ref 0), (1, .int a1), (2, .int a2)]) (st2 := []) (w3 := w) rfl rfl ?_
    refine sx_RP.step (pc2 := 10) (ls2 := [(0, .ref 0), (1, .int a1), (2, .int a2)]) (st2 := [.ref 0]) (w3 := w) rfl rfl ?_
    refine sx_RP.step (pc2 := 12) (ls2 := [(0, .ref 0), (1, .int a1), (2, .int a2)]) (st2 := [.int (-1000000001), .ref 0]) (w3 := w) rfl rfl ?_
    refine sx_RP.callp (as2 := [.ref 0, .int (-1000000001)]) (rest2 := []) rfl rfl (sx_inv_v2 (mi := 87) (k := 78) (st := [.int (-1000000001), .ref 0]) (w := w) rfl rfl hI.1.o0 rfl rfl rfl) rfl rfl rfl (Q9_0 hI) (show _ = 15 from rfl) ?_
    rintro r4 w7 ⟨rfl, hI8, hE6⟩
    show sx_RP _ _ _ _ _ [.int (-1000000001)] _ _
    refine sx_RP.ret (r := (some (.int (-1000000001)))) rfl rfl ?_
    exact ⟨⟨by rw [(fee_1 (a1 := a1) q1).1], by rw [(fee_1 (a1 := a1) q1).2]; exact FCb_en hI hE6.en⟩, hI8, fun a ha => hE6 a (Or.inr (Or.inr (by omega)))⟩
  · refine sx_RP.cu (as := [.int (nI x2), .int 1, .int 4]) (rest2 := []) (st3 := [.int 1]) rfl rfl rfl rfl rfl (cx_8p ⟨nI_le (a := 1) hx3 (by omega), nI_le (b := 4) hx4 (by decide)⟩) rfl ?_
    refine sx_RP.step (pc2 := 16) (ls2 := [(0, .ref 0), (1, .int a1), (2, .int (nI x2))]) (st2 := []) (w3 := w) rfl rfl ?_
    refine sx_RP.step (pc2 := 17) (ls2 := [(0, .ref 0), (1, .int a1), (2, .int (nI x2))]) (st2 := [.ref 0]) (w3 := w) rfl rfl ?_
    refine sx_RP.gf (v := .ref 96) rfl rfl hI.1.o0 rfl rfl (show _ = 20 from rfl) ?_
    refine sx_RP.step (pc2 := 21) (ls2 := [(0, .ref 0), (1, .int a1), (2, .int (nI x2))]) (st2 := [.int (nI x2), .ref 96]) (w3 := w) rfl rfl ?_
    rcases Decidable.em (n + x2 ≤ 120) with c9 | c9
    · refine sx_RP.cu (as := [.ref 96, .int (nI x2)]) (rest2 := []) (st3 := [.int 1]) rfl rfl (sx_inv_v2 (mi := 87) (k := 279) (st := [.int (nI x2), .ref 96]) (w := w) rfl rfl hI.1.o96 rfl rfl rfl) rfl rfl (p88y hI hn h120 (by omega) c9) rfl ?_
      refine sx_RP.step (pc2 := 34) (ls2 := [(0, .ref 0), (1, .int a1), (2, .int (nI x2))]) (st2 := []) (w3 := w) rfl rfl ?_
      refine sx_RP.step (pc2 := 35) (ls2 := [(0, .ref 0), (1, .int a1), (2, .int (nI x2))]) (st2 := [.int (nI x2)]) (w3 := w) rfl rfl ?_
      refine sx_RP.step (pc2 := 36) (ls2 := [(0, .ref 0), (1, .int a1), (2, .int (nI x2))]) (st2 := [.int 1, .int (nI x2)]) (w3 := w) rfl rfl ?_
      refine sx_RP.step (pc2 := 37) (ls2 := [(0, .ref 0), (1, .int a1), (2, .int (nI x2))]) (st2 := [.int ((nI x2) - 1)]) (w3 := w) rfl rfl ?_
      refine sx_RP.step (pc2 := 38) (ls2 := [(3, .int ((nI x2) - 1)), (0, .ref 0), (1, .int a1), (2, .int (nI x2))]) (st2 := []) (w3 := w) rfl rfl ?_
      rw [(fee_3 (t := FCb w) (a1 := a1) (tapC_len hn h120) (x := x2) (by omega) (by omega) c9).1, (fee_3 (t := FCb w) (a1 := a1) (tapC_len hn h120) (x := x2) (by omega) (by omega) c9).2]
      have key : ∀ k, k = x2 → sx_RP xs (d + 7) 87 38 [(0, .ref 0), (1, .int a1), (2, .int (nI k)), (3, .int (nI k - 1))] [] w (fun r w2 => (r = some (.int (nI (n + k))) ∧ tapC w2 = tapC w ++ bytesOf a1 k) ∧ WI w2 ∧ Off w w2) := by
        intro k hk
        rcases (show k = 1 ∨ k = 2 ∨ k = 3 ∨ k = 4 by omega) with rfl | rfl | rfl | rfl
        · exact X87_0 hI (by omega) hn
        · exact X87_1 hI (by omega) hn
        · exact X87_2 hI (by omega) hn
        · exact X87_3 hI (by omega) hn
      refine sx_RP.ls (sx_lr.cons rfl (sx_lr.cons rfl (sx_lr.cons rfl (sx_lr.cons rfl sx_lr.nil)))) ((key x2 rfl).mono (fun r w2 q => ⟨⟨q.1.1, ?_⟩, q.2.1, fun a ha => q.2.2 a (by omega) (by omega)⟩))
      rw [FCb_tap hI (fun a ha => q.2.2 a (by omega) (by omega)), q.1.2]
      rfl
    · refine sx_RP.cu (as := [.ref 96, .int (nI x2)]) (rest2 := []) (st3 := [.int 0]) rfl rfl (sx_inv_v2 (mi := 87) (k := 279) (st := [.int (nI x2), .ref 96]) (w := w) rfl rfl hI.1.o96 rfl rfl rfl) rfl rfl (p88n hI hn h120 (by omega) c9) rfl ?_
      refine sx_RP.step (pc2 := 27) (ls2 := [(0, .ref 0), (1, .int a1), (2, .int (nI x2))]) (st2 := []) (w3 := w) rfl rfl ?_
      refine sx_RP.step (pc2 := 28) (ls2 := [(0, .ref 0), (1, .int a1), (2, .int (nI x2))]) (st2 := [.ref 0]) (w3 := w) rfl rfl ?_
      refine sx_RP.step (pc2 := 30) (ls2 := [(0, .ref 0), (1, .int a1), (2, .int (nI x2))]) (st2 := [.int (-1000000002), .ref 0]) (w3 := w) rfl rfl ?_
      refine sx_RP.callp (as2 := [.ref 0, .int (-1000000002)]) (rest2 := []) rfl rfl (sx_inv_v2 (mi := 87) (k := 78) (st := [.int (-1000000002), .ref 0]) (w := w) rfl rfl hI.1.o0 rfl rfl rfl) rfl rfl rfl (Q9_1 hI) (show _ = 33 from rfl) ?_
      rintro r4 w11 ⟨rfl, hI12, hE10⟩
      show sx_RP _ _ _ _ _ [.int (-1000000002)] _ _
      refine sx_RP.ret (r := (some (.int (-1000000002)))) rfl rfl ?_
      exact ⟨⟨by rw [(fee_2 (a1 := a1) (tapC_len hn h120) (x := x2) (by omega) (by omega) c9).1], by rw [(fee_2 (a1 := a1) (tapC_len hn h120) (x := x2) (by omega) (by omega) c9).2]; exact FCb_en hI hE10.en⟩, hI12, fun a ha => hE10 a (Or.inr (Or.inr (by omega)))⟩
set_option maxRecDepth 20000 in
set_option maxHeartbeats 4000000 in
theorem X208L {xs : Option (List Int32)} {d : Nat} (x : Int32) : ∀ (kz t : Nat) (w : List sx_C), t + kz ≤ 120 → fi w 111 11 = nI t → WI w → sx_RP xs (d + 7) 208 36 [(0, .ref 111), (1, .int x), (3, .int (nI kz - 1))] [] w (fun r w2 => (r = some (.int (nI (t + kz))) ∧ tapM w2 = tapM w ++ bytesOf x kz ∧ fi w2 111 4 = fi w 111 4) ∧ WI w2 ∧ ∀ a, a ≠ 111 → a ≠ 121 → w2[a]? = w[a]?)
  | 0, t, w, ht, et, hI => by
    rw [show nI 0 - 1 = -1 from rfl]
    refine sx_RP.step (pc2 := 37) (ls2 := [(0, .ref 111), (1, .int x), (3, .int (-1))]) (st2 := [.int (-1)]) (w3 := w) rfl rfl ?_
    refine sx_RP.step (pc2 := 75) (ls2 := [(0, .ref 111), (1, .int x), (3, .int (-1))]) (st2 := []) (w3 := w) rfl rfl ?_
    refine sx_RP.step (pc2 := 76) (ls2 := [(0, .ref 111), (1, .int x), (3, .int (-1))]) (st2 := [.ref 111]) (w3 := w) rfl rfl ?_
    refine sx_RP.gf (v := .int (fi w 111 11)) rfl rfl hI.1.o111 rfl rfl (show _ = 79 from rfl) ?_
    rw [et]
    refine sx_RP.ret (r := (some (.int (nI t)))) rfl rfl ?_
    exact ⟨⟨by rw [Nat.add_zero], by rw [show bytesOf x 0 = [] from rfl, List.append_nil], rfl⟩, hI, fun _ _ _ => rfl⟩
  | kz + 1, t, w, ht, et, hI => by
    rw [show nI (kz + 1) - 1 = nI kz from fd_s1]
    refine sx_RP.step (pc2 := 37) (ls2 := [(0, .ref 111), (1, .int x), (3, .int (nI kz))]) (st2 := [.int (nI kz)]) (w3 := w) rfl rfl ?_
    refine sx_RP.br (p2 := 40) (l2 := [(0, .ref 111), (1, .int x), (3, .int (nI kz))]) (s2 := []) (v2 := w) rfl rfl (fun q => absurd (of_decide_eq_true q) (nI_pos (by omega))) (fun _ => ?_)
    refine sx_RP.step (pc2 := 41) (ls2 := [(0, .ref 111), (1, .int x), (3, .int (nI kz))]) (st2 := [.ref 111]) (w3 := w) rfl rfl ?_
    refine sx_RP.gf (v := .ref 121) rfl rfl hI.1.o111 rfl rfl (show _ = 44 from rfl) ?_
    refine sx_RP.step (pc2 := 45) (ls2 := [(0, .ref 111), (1, .int x), (3, .int (nI kz))]) (st2 := [.ref 111, .ref 121]) (w3 := w) rfl rfl ?_
    refine sx_RP.gf (v := .int (fi w 111 11)) rfl rfl hI.1.o111 rfl rfl (show _ = 48 from rfl) ?_
    rw [et]
    refine sx_RP.step (pc2 := 49) (ls2 := [(0, .ref 111), (1, .int x), (3, .int (nI kz))]) (st2 := [.int x, .int (nI t), .ref 121]) (w3 := w) rfl rfl ?_
    refine sx_RP.step (pc2 := 51) (ls2 := [(0, .ref 111), (1, .int x), (3, .int (nI kz))]) (st2 := [.int 8, .int x, .int (nI t), .ref 121]) (w3 := w) rfl rfl ?_
    refine sx_RP.step (pc2 := 52) (ls2 := [(0, .ref 111), (1, .int x), (3, .int (nI kz))]) (st2 := [.int (nI kz), .int 8, .int x, .int (nI t), .ref 121]) (w3 := w) rfl rfl ?_
    refine sx_RP.step (pc2 := 53) (ls2 := [(0, .ref 111), (1, .int x), (3, .int (nI kz))]) (st2 := [.int (8 * (nI kz)), .int x, .int (nI t), .ref 121]) (w3 := w) rfl rfl ?_
    rw [show (8 * (nI kz) : Int32) = nI (8 * kz) from nI_mul 8 kz]
    refine sx_RP.step (pc2 := 54) (ls2 := [(0, .ref 111), (1, .int x), (3, .int (nI kz))]) (st2 := [.int (x >>> ((nI (8 * kz)) &&& 31)), .int (nI t), .ref 121]) (w3 := w) rfl rfl ?_
    refine sx_RP.step (pc2 := 57) (ls2 := [(0, .ref 111), (1, .int x), (3, .int (nI kz))]) (st2 := [.int 255, .int (x >>> ((nI (8 * kz)) &&& 31)), .int (nI t), .ref 121]) (w3 := w) rfl rfl ?_
    refine sx_RP.step (pc2 := 58) (ls2 := [(0, .ref 111), (1, .int x), (3, .int (nI kz))]) (st2 := [.int ((x >>> ((nI (8 * kz)) &&& 31)) &&& 255), .int (nI t), .ref 121]) (w3 := w) rfl rfl ?_
    refine sx_RP.xF (a := 121) (c := t) (n := 120) hI rfl hI.1.a121 (by omega) (by decide) (by decide) (show _ = 59 from rfl) (fun w1 hI2 hs3 hv4 => ?_)
    have ex5 := (fi_same 11 (hs3 111 (by omega))).trans et
    refine sx_RP.step (pc2 := 60) (ls2 := [(0, .ref 111), (1, .int x), (3, .int (nI kz))]) (st2 := [.ref 111]) (w3 := w1) rfl rfl ?_
    refine sx_RP.step (pc2 := 61) (ls2 := [(0, .ref 111), (1, .int x), (3, .int (nI kz))]) (st2 := [.ref 111, .ref 111]) (w3 := w1) rfl rfl ?_
    refine sx_RP.gf (v := .int (fi w1 111 11)) rfl rfl hI2.1.o111 rfl rfl (show _ = 64 from rfl) ?_
    rw [ex5]
    refine sx_RP.step (pc2 := 65) (ls2 := [(0, .ref 111), (1, .int x), (3, .int (nI kz))]) (st2 := [.int 1, .int (nI t), .ref 111]) (w3 := w1) rfl rfl ?_
    refine sx_RP.step (pc2 := 66) (ls2 := [(0, .ref 111), (1, .int x), (3, .int (nI kz))]) (st2 := [.int ((nI t) + 1), .ref 111]) (w3 := w1) rfl rfl ?_
    rw [show ((nI t) + 1 : Int32) = nI (t + 1) from nI_add t 1]
    refine sx_RP.xJ (k := 11) hI2 rfl rfl (by decide) rfl ⟨(t + 1), by rw [if_neg (by decide)]; omega, rfl⟩ (show _ = 69 from rfl) (fun w6 hI7 hs8 hv9 hr10 => ?_)
    refine sx_RP.step (pc2 := 72) (ls2 := [(3, .int ((nI kz) + (-1))), (0, .ref 111), (1, .int x)]) (st2 := []) (w3 := w6) rfl rfl ?_
    refine sx_RP.step (pc2 := 36) (ls2 := [(3, .int ((nI kz) + (-1))), (0, .ref 111), (1, .int x)]) (st2 := []) (w3 := w6) rfl rfl ?_
    rw [fd_m1]
    refine sx_RP.ls (sx_lr.cons rfl (sx_lr.cons rfl (sx_lr.cons rfl sx_lr.nil))) ((X208L x kz (t + 1) w6 (by omega) hv9 hI7).mono (fun r w2 q => ⟨⟨by rw [q.1.1]; first | rfl | (congr 3; omega), ?_, q.1.2.2.trans ((hr10 4 (by decide)).trans (fi_same 4 (hs3 111 (by decide))))⟩, q.2.1, fun a h1 h3 => (q.2.2 a h1 h3).trans ((hs8 a h1).trans (hs3 a h3))⟩))
    rw [q.1.2.1, tapM_add hI et (by omega) hv9 ((ia_of (hs8 121 (by decide))).trans hv4), List.append_assoc, bytesOf_s]
    rfl
set_option maxRecDepth 20000 in
set_option maxHeartbeats 4000000 in
theorem B208 {xs : Option (List Int32)} {d : Nat} {w : List sx_C} (hI : WI w) (a1 a2 : Int32) : sx_RP xs (d + 7) 208 0 (lv_args 0 [.ref 111, .int a1, .int a2]) [] w (fun r w2 => (r = some (.int (feeA (FMb w) a2)) ∧ FMb w2 = feeU (FMb w) a1 a2) ∧ WI w2 ∧ ∀ a, a < 111 → w2[a]? = w[a]?) := by
  obtain ⟨n, h120, hn⟩ := hI.m.2.1
  refine sx_RP.step (pc2 := 1) (ls2 := [(0, .ref 111), (1, .int a1), (2, .int a2)]) (st2 := [.int a2]) (w3 := w) rfl rfl ?_
  refine sx_RP.step (pc2 := 2) (ls2 := [(0, .ref 111), (1, .int a1), (2, .int a2)]) (st2 := [.int 1, .int a2]) (w3 := w) rfl rfl ?_
  refine sx_RP.step (pc2 := 3) (ls2 := [(0, .ref 111), (1, .int a1), (2, .int a2)]) (st2 := [.int 4, .int 1, .int a2]) (w3 := w) rfl rfl ?_
  rcases in_cases a2 1 4 (m := 1) (n := 4) rfl rfl (by decide) (by decide) with q1 | ⟨x2, hx3, hx4, rfl⟩
  · refine sx_RP.cu (as := [.int a2, .int 1, .int 4]) (rest2 := []) (st3 := [.int 0]) rfl rfl rfl rfl rfl (cx_132o q1) rfl ?_
    refine sx_RP.step (pc2 := 9) (ls2 := [(0, .ref 111), (1, .int a1), (2, .int a2)]) (st2 := []) (w3 := w) rfl rfl ?_
    refine sx_RP.step (pc2 := 10) (ls2 := [(0, .ref 111), (1, .int a1), (2, .int a2)]) (st2 := [.ref 111]) (w3 := w) rfl rfl ?_
    refine sx_RP.step (pc2 := 11) (ls2 := [(0, .ref 111), (1, .int a1), (2, .int a2)]) (st2 := [.int 0, .ref 111]) (w3 := w) rfl rfl ?_
    refine sx_RP.callp (as2 := [.ref 111, .int 0]) (rest2 := []) rfl rfl (sx_inv_v2 (mi := 208) (k := 70) (st := [.int 0, .ref 111]) (w := w) rfl rfl hI.1.o111 rfl rfl rfl) rfl rfl rfl (K133_0 hI) (show _ = 14 from rfl) ?_
    rintro r4 w7 ⟨rfl, hI8, hE6⟩
    show sx_RP _ _ _ _ _ [.int (-1000000001)] _ _
    refine sx_RP.ret (r := (some (.int (-1000000001)))) rfl rfl ?_
    exact ⟨⟨by rw [(fee_1 (a1 := a1) q1).1], by rw [(fee_1 (a1 := a1) q1).2]; exact FMb_el hI hE6.el⟩, hI8, fun a ha => hE6.1 a (Or.inl (by omega))⟩
  · refine sx_RP.cu (as := [.int (nI x2), .int 1, .int 4]) (rest2 := []) (st3 := [.int 1]) rfl rfl rfl rfl rfl (cx_132p ⟨nI_le (a := 1) hx3 (by omega), nI_le (b := 4) hx4 (by decide)⟩) rfl ?_
    refine sx_RP.step (pc2 := 15) (ls2 := [(0, .ref 111), (1, .int a1), (2, .int (nI x2))]) (st2 := []) (w3 := w) rfl rfl ?_
    refine sx_RP.step (pc2 := 16) (ls2 := [(0, .ref 111), (1, .int a1), (2, .int (nI x2))]) (st2 := [.ref 111]) (w3 := w) rfl rfl ?_
    refine sx_RP.gf (v := .int (fi w 111 11)) rfl rfl hI.1.o111 rfl rfl (show _ = 19 from rfl) ?_
    rw [hn]
    refine sx_RP.step (pc2 := 20) (ls2 := [(0, .ref 111), (1, .int a1), (2, .int (nI x2))]) (st2 := [.int (nI x2), .int (nI n)]) (w3 := w) rfl rfl ?_
    refine sx_RP.step (pc2 := 21) (ls2 := [(0, .ref 111), (1, .int a1), (2, .int (nI x2))]) (st2 := [.int ((nI n) + (nI x2))]) (w3 := w) rfl rfl ?_
    rw [show ((nI n) + (nI x2) : Int32) = nI (n + x2) from nI_add n x2]
    refine sx_RP.step (pc2 := 23) (ls2 := [(0, .ref 111), (1, .int a1), (2, .int (nI x2))]) (st2 := [.int 120, .int (nI (n + x2))]) (w3 := w) rfl rfl ?_
    refine sx_RP.br (p1 := 32) (l1 := [(0, .ref 111), (1, .int a1), (2, .int (nI x2))]) (s1 := []) (v1 := w) (p2 := 26) (l2 := [(0, .ref 111), (1, .int a1), (2, .int (nI x2))]) (s2 := []) (v2 := w) rfl rfl (fun q9 => ?_) (fun q9 => ?_)
    · replace q9 := of_decide_eq_true q9
      replace q9 := (nI_leI (a := (n + x2)) (b := 120) (by omega) (by omega)).mp q9
      refine sx_RP.step (pc2 := 33) (ls2 := [(0, .ref 111), (1, .int a1), (2, .int (nI x2))]) (st2 := [.int (nI x2)]) (w3 := w) rfl rfl ?_
      refine sx_RP.step (pc2 := 34) (ls2 := [(0, .ref 111), (1, .int a1), (2, .int (nI x2))]) (st2 := [.int 1, .int (nI x2)]) (w3 := w) rfl rfl ?_
      refine sx_RP.step (pc2 := 35) (ls2 := [(0, .ref 111), (1, .int a1), (2, .int (nI x2))]) (st2 := [.int ((nI x2) - 1)]) (w3 := w) rfl rfl ?_
      refine sx_RP.step (pc2 := 36) (ls2 := [(3, .int ((nI x2) - 1)), (0, .ref 111), (1, .int a1), (2, .int (nI x2))]) (st2 := []) (w3 := w) rfl rfl ?_
      rw [(fee_3 (t := FMb w) (a1 := a1) (tapM_len hn h120) (x := x2) (by omega) (by omega) q9).1, (fee_3 (t := FMb w) (a1 := a1) (tapM_len hn h120) (x := x2) (by omega) (by omega) q9).2]
      refine sx_RP.ls (sx_lr.cons rfl (sx_lr.cons rfl (sx_lr.cons rfl sx_lr.nil))) ((X208L a1 x2 n w q9 hn hI).mono (fun r w2 q => ⟨⟨q.1.1, ?_⟩, q.2.1, fun a ha => q.2.2 a (by omega) (by omega)⟩))
      unfold FMb
      rw [q.1.2.1, q.1.2.2, ia_of (q.2.2 112 (by decide) (by decide)), ia_of (q.2.2 113 (by decide) (by decide))]
    · replace q9 := of_decide_eq_false q9
      replace q9 := mt (nI_leI (a := (n + x2)) (b := 120) (by omega) (by omega)).mpr q9
      refine sx_RP.step (pc2 := 27) (ls2 := [(0, .ref 111), (1, .int a1), (2, .int (nI x2))]) (st2 := [.ref 111]) (w3 := w) rfl rfl ?_
      refine sx_RP.step (pc2 := 28) (ls2 := [(0, .ref 111), (1, .int a1), (2, .int (nI x2))]) (st2 := [.int 1, .ref 111]) (w3 := w) rfl rfl ?_
      refine sx_RP.callp (as2 := [.ref 111, .int 1]) (rest2 := []) rfl rfl (sx_inv_v2 (mi := 208) (k := 70) (st := [.int 1, .ref 111]) (w := w) rfl rfl hI.1.o111 rfl rfl rfl) rfl rfl rfl (K133_1 hI) (show _ = 31 from rfl) ?_
      rintro r4 w11 ⟨rfl, hI12, hE10⟩
      show sx_RP _ _ _ _ _ [.int (-1000000002)] _ _
      refine sx_RP.ret (r := (some (.int (-1000000002)))) rfl rfl ?_
      exact ⟨⟨by rw [(fee_2 (a1 := a1) (tapM_len hn h120) (x := x2) (by omega) (by omega) q9).1], by rw [(fee_2 (a1 := a1) (tapM_len hn h120) (x := x2) (by omega) (by omega) q9).2]; exact FMb_el hI hE10.el⟩, hI12, fun a ha => hE10.1 a (Or.inl (by omega))⟩
